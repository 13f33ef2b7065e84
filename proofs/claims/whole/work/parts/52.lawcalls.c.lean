set_option maxRecDepth 20000 in
theorem ggL_law_X4_type : GoodIn wsL_law wsX4_type := goodIn_r _ [606, 23, 607, 608, 609, 22, 610, 611, 51, 102, 103, 104, 2, 105, 106, 107, 108, 787, 788, 789, 790, 791, 792, 819, 820, 821, 822, 823] (by decide +kernel) (by decide +kernel)
set_option maxRecDepth 20000 in
theorem gL_law_X4_type : GoodIn wsL_law (wsV RL 95 RX4 yX4_type wsX4_type) := goodIn_app (goodIn_of _ (by decide +kernel)) ggL_law_X4_type
set_option maxRecDepth 20000 in
theorem ggL_law_X5_type : GoodIn wsL_law wsX5_type := goodIn_r _ [615, 616, 61, 124, 125, 5, 126, 142, 143, 144, 145, 60, 793, 794, 795, 796, 797, 798, 799, 800, 801, 802, 803, 804, 805, 806, 807, 808, 809, 810, 811, 812, 813] (by decide +kernel) (by decide +kernel)
set_option maxRecDepth 20000 in
theorem gL_law_X5_type : GoodIn wsL_law (wsV RL 98 RX5 yX5_type wsX5_type) := goodIn_app (goodIn_of _ (by decide +kernel)) ggL_law_X5_type
set_option maxRecDepth 20000 in
theorem ggL_law_X4_wipes : GoodIn wsL_law wsX4_wipes := goodIn_r _ [620, 23, 621, 622, 623, 22, 624, 611, 787, 788, 789, 790, 791, 792, 819, 820, 821, 822, 823] (by decide +kernel) (by decide +kernel)
set_option maxRecDepth 20000 in
theorem gL_law_X4_wipes : GoodIn wsL_law (wsV RL 99 RX4 yX4_wipes wsX4_wipes) := goodIn_app (goodIn_of _ (by decide +kernel)) ggL_law_X4_wipes
set_option maxRecDepth 20000 in
theorem ggL_law_X5_wipes : GoodIn wsL_law wsX5_wipes := goodIn_r _ [628, 616, 793, 794, 795, 796, 797, 798, 799, 800, 801, 802, 803, 804, 805, 806, 807, 808, 809, 810, 811, 812, 813] (by decide +kernel) (by decide +kernel)
set_option maxRecDepth 20000 in
theorem gL_law_X5_wipes : GoodIn wsL_law (wsV RL 102 RX5 yX5_wipes wsX5_wipes) := goodIn_app (goodIn_of _ (by decide +kernel)) ggL_law_X5_wipes
set_option maxRecDepth 20000 in
theorem ggL_law_X4_does : GoodIn wsL_law wsX4_does := goodIn_r _ [632, 23, 19, 15, 68, 633, 634, 635, 22, 636, 611, 637, 638, 639, 640, 641, 642, 643, 644, 645, 646, 647, 648, 649, 51, 650, 651, 652, 653, 654, 655, 656, 657, 658, 659, 660, 661, 662, 663, 664, 665, 52, 666, 667, 668, 69, 70, 71, 18, 72, 45, 73, 74, 75, 76, 77, 669, 670, 671, 672, 673, 674, 2, 675, 676, 677, 78, 79, 80, 14, 81, 29, 82, 83, 84, 85, 86, 87, 88, 89, 90, 155, 156, 157, 158, 200, 201, 202, 203, 204, 205, 206, 207, 240, 241, 242, 243, 244, 245, 246, 247, 248, 249, 250, 251, 252, 253, 254, 255, 256, 257, 258, 259, 260, 261, 262, 263, 264, 265, 266, 267, 268, 269, 270, 271, 272, 273, 33, 274, 275, 276, 277, 278, 279, 280, 281, 282, 283, 284, 32, 285, 286, 40, 287, 39, 288, 289, 290, 291, 292, 293, 294, 295, 296, 297, 298, 299, 300, 301, 302, 303, 304, 305, 306, 307, 401, 402, 403, 404, 405, 406, 407, 408, 409, 410, 411, 412, 413, 414, 415, 416, 417, 418, 419, 420, 421, 422, 423, 424, 224, 225, 226, 227, 95, 96, 97, 678, 679, 680, 681, 98, 99, 100, 101, 787, 788, 789, 790, 791, 792, 814, 815, 816, 819, 820, 821, 822, 823, 817, 818, 824, 825, 826, 827] (by decide +kernel) (by decide +kernel)
set_option maxRecDepth 20000 in
theorem gL_law_X4_does : GoodIn wsL_law (wsV RL 103 RX4 yX4_does wsX4_does) := goodIn_app (goodIn_of _ (by decide +kernel)) ggL_law_X4_does
set_option maxRecDepth 20000 in
theorem ggL_law_X5_does : GoodIn wsL_law wsX5_does := goodIn_r _ [685, 686, 687, 57, 58, 688, 689, 690, 5, 691, 692, 616, 693, 694, 695, 696, 697, 698, 699, 700, 61, 124, 125, 126, 701, 702, 703, 704, 62, 705, 706, 707, 708, 709, 710, 711, 712, 713, 714, 715, 63, 113, 114, 115, 116, 716, 717, 718, 719, 117, 118, 119, 120, 121, 122, 123, 127, 128, 129, 130, 131, 132, 133, 134, 135, 136, 137, 163, 164, 165, 166, 212, 213, 214, 215, 192, 193, 194, 195, 216, 217, 218, 219, 312, 313, 314, 315, 316, 317, 318, 319, 320, 321, 322, 323, 324, 325, 326, 327, 328, 329, 330, 331, 332, 333, 334, 335, 336, 337, 338, 339, 340, 341, 342, 343, 344, 345, 346, 347, 348, 349, 350, 351, 352, 353, 354, 355, 356, 357, 358, 359, 360, 361, 362, 363, 364, 365, 366, 367, 368, 369, 370, 371, 372, 373, 374, 375, 376, 377, 378, 379, 380, 381, 382, 383, 384, 385, 386, 429, 430, 431, 432, 433, 434, 435, 436, 437, 438, 439, 440, 441, 442, 443, 444, 232, 233, 234, 235, 146, 147, 148, 149, 150, 59, 793, 794, 795, 796, 797, 798, 799, 800, 801, 802, 803, 804, 805, 806, 807, 808, 809, 810, 811, 812, 813] (by decide +kernel) (by decide +kernel)
set_option maxRecDepth 20000 in
theorem gL_law_X5_does : GoodIn wsL_law (wsV RL 106 RX5 yX5_does wsX5_does) := goodIn_app (goodIn_of _ (by decide +kernel)) ggL_law_X5_does
set_option maxRecDepth 20000 in
theorem ggL_law_X4_back : GoodIn wsL_law wsX4_back := goodIn_r _ [723, 19, 724, 15, 68, 102, 103, 104, 2, 105, 106, 107, 108, 725, 726, 727, 18, 728, 73, 729, 679, 680, 681, 45, 74, 75, 76, 77, 787, 788, 789, 790, 791, 792, 817, 818, 814, 815, 816] (by decide +kernel) (by decide +kernel)
set_option maxRecDepth 20000 in
theorem gL_law_X4_back : GoodIn wsL_law (wsV RL 107 RX4 yX4_back wsX4_back) := goodIn_app (goodIn_of _ (by decide +kernel)) ggL_law_X4_back
set_option maxRecDepth 20000 in
theorem ggL_law_X5_back : GoodIn wsL_law wsX5_back := goodIn_r _ [733, 150, 57, 59, 142, 143, 144, 5, 145, 60, 793, 794, 795, 796, 797, 798, 799, 800, 801, 802, 803, 804, 805, 806, 807, 808, 809, 810, 811, 812, 813] (by decide +kernel) (by decide +kernel)
set_option maxRecDepth 20000 in
theorem gL_law_X5_back : GoodIn wsL_law (wsV RL 110 RX5 yX5_back wsX5_back) := goodIn_app (goodIn_of _ (by decide +kernel)) ggL_law_X5_back
set_option maxRecDepth 20000 in
theorem ggL_law_X4_told : GoodIn wsL_law wsX4_told := goodIn_r _ [737, 102, 103, 104, 2, 105, 106, 107, 108, 738, 739, 740, 741, 23, 742, 19, 724, 787, 788, 789, 790, 791, 792, 819, 820, 821, 822, 823, 817, 818] (by decide +kernel) (by decide +kernel)
set_option maxRecDepth 20000 in
theorem gL_law_X4_told : GoodIn wsL_law (wsV RL 111 RX4 yX4_told wsX4_told) := goodIn_app (goodIn_of _ (by decide +kernel)) ggL_law_X4_told
set_option maxRecDepth 20000 in
theorem ggL_law_X5_told : GoodIn wsL_law wsX5_told := goodIn_r _ [746, 124, 125, 5, 126, 747, 748, 749, 750, 60, 616, 150, 142, 143, 144, 145, 793, 794, 795, 796, 797, 798, 799, 800, 801, 802, 803, 804, 805, 806, 807, 808, 809, 810, 811, 812, 813] (by decide +kernel) (by decide +kernel)
set_option maxRecDepth 20000 in
theorem gL_law_X5_told : GoodIn wsL_law (wsV RL 114 RX5 yX5_told wsX5_told) := goodIn_app (goodIn_of _ (by decide +kernel)) ggL_law_X5_told
set_option maxRecDepth 20000 in
theorem ggL_law_X4_digest : GoodIn wsL_law wsX4_digest := goodIn_r _ [754, 755, 756, 15, 738, 739, 740, 2, 741, 106, 107, 108, 23, 742, 19, 724, 591, 592, 593, 14, 594, 29, 757, 758, 759, 760, 761, 762, 763, 764, 765, 766, 451, 452, 453, 248, 249, 250, 251, 252, 253, 254, 255, 256, 257, 767, 402, 403, 404, 405, 406, 407, 408, 304, 305, 306, 307, 266, 267, 268, 269, 270, 271, 272, 273, 33, 274, 275, 276, 277, 278, 279, 280, 281, 282, 283, 284, 32, 285, 286, 40, 287, 39, 288, 289, 290, 291, 292, 293, 294, 295, 409, 410, 411, 412, 413, 414, 415, 416, 417, 418, 419, 420, 768, 769, 770, 771, 772, 526, 527, 528, 296, 297, 298, 299, 773, 472, 473, 474, 475, 476, 477, 478, 479, 480, 774, 568, 569, 570, 537, 538, 539, 540, 34, 541, 542, 543, 544, 545, 546, 547, 548, 787, 788, 789, 790, 791, 792, 819, 820, 821, 822, 823, 817, 818, 814, 815, 816, 824, 825, 826, 827] (by decide +kernel) (by decide +kernel)
set_option maxRecDepth 20000 in
theorem gL_law_X4_digest : GoodIn wsL_law (wsV RL 115 RX4 yX4_digest wsX4_digest) := goodIn_app (goodIn_of _ (by decide +kernel)) ggL_law_X4_digest
set_option maxRecDepth 20000 in
theorem ggL_law_X5_digest : GoodIn wsL_law wsX5_digest := goodIn_r _ [778, 779, 780, 57, 747, 748, 749, 5, 750, 60, 616, 150, 781, 782, 783, 784, 785, 599, 600, 601, 602, 458, 459, 460, 461, 216, 217, 218, 219, 316, 317, 318, 319, 320, 321, 322, 323, 324, 325, 326, 327, 328, 329, 433, 434, 435, 436, 437, 438, 439, 440, 334, 335, 336, 337, 338, 339, 340, 341, 342, 343, 344, 345, 346, 347, 348, 349, 350, 351, 352, 353, 354, 355, 356, 357, 358, 359, 360, 361, 362, 363, 364, 365, 366, 367, 368, 369, 370, 371, 372, 373, 374, 375, 376, 377, 378, 379, 380, 381, 382, 441, 442, 443, 444, 489, 490, 491, 492, 575, 576, 577, 578, 786, 550, 551, 552, 793, 794, 795, 796, 797, 798, 799, 800, 801, 802, 803, 804, 805, 806, 807, 808, 809, 810, 811, 812, 813] (by decide +kernel) (by decide +kernel)
set_option maxRecDepth 20000 in
theorem gL_law_X5_digest : GoodIn wsL_law (wsV RL 119 RX5 yX5_digest wsX5_digest) := goodIn_app (goodIn_of _ (by decide +kernel)) ggL_law_X5_digest
