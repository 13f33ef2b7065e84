set_option maxRecDepth 20000 in
theorem ggL_law_X4_init : GoodIn wsL_law wsX4_init := goodIn_r _ [8, 9, 10, 11, 12, 13, 14, 15, 16, 17, 18, 19, 20, 21, 22, 23, 24, 25, 26, 27, 28, 29, 30, 31, 32, 33, 34, 35, 36, 37, 38, 39, 40, 41, 42, 43, 44, 45, 46, 47, 48, 49, 50, 51, 52, 814, 815, 816, 787, 788, 789, 790, 791, 792, 817, 818, 819, 820, 821, 822, 823, 824, 825, 826, 827] (by decide +kernel) (by decide +kernel)
set_option maxRecDepth 20000 in
theorem gL_law_X4_init : GoodIn wsL_law (wsX4_init) := ggL_law_X4_init
set_option maxRecDepth 20000 in
theorem ggL_law_X5_init : GoodIn wsL_law wsX5_init := goodIn_r _ [55, 56, 10, 11, 28, 57, 58, 59, 60, 61, 62, 63, 793, 794, 795, 796, 797, 798, 799, 800, 801, 802, 803, 804, 805, 806, 807, 808, 809, 810, 811, 812, 813] (by decide +kernel) (by decide +kernel)
set_option maxRecDepth 20000 in
theorem gL_law_X5_init : GoodIn wsL_law (wsX5_init) := ggL_law_X5_init
set_option maxRecDepth 20000 in
theorem ggL_law_X4_adds : GoodIn wsL_law wsX4_adds := goodIn_r _ [67, 19, 15, 68, 69, 70, 71, 18, 72, 45, 73, 74, 75, 76, 77, 78, 79, 80, 14, 81, 29, 82, 83, 84, 85, 2, 86, 87, 88, 89, 90, 91, 92, 93, 94, 95, 96, 97, 98, 99, 100, 101, 102, 103, 104, 105, 106, 107, 108, 787, 788, 789, 790, 791, 792, 814, 815, 816, 817, 818] (by decide +kernel) (by decide +kernel)
set_option maxRecDepth 20000 in
theorem gL_law_X4_adds : GoodIn wsL_law (wsV RL 13 RX4 yX4_adds wsX4_adds) := goodIn_app (goodIn_of _ (by decide +kernel)) ggL_law_X4_adds
set_option maxRecDepth 20000 in
theorem ggL_law_X5_adds : GoodIn wsL_law wsX5_adds := goodIn_r _ [112, 113, 114, 115, 5, 116, 58, 57, 117, 118, 119, 120, 121, 122, 123, 124, 125, 126, 127, 128, 129, 130, 131, 132, 133, 134, 135, 136, 137, 138, 139, 140, 141, 142, 143, 144, 145, 60, 146, 147, 148, 149, 150, 59, 793, 794, 795, 796, 797, 798, 799, 800, 801, 802, 803, 804, 805, 806, 807, 808, 809, 810, 811, 812, 813] (by decide +kernel) (by decide +kernel)
set_option maxRecDepth 20000 in
theorem gL_law_X5_adds : GoodIn wsL_law (wsV RL 17 RX5 yX5_adds wsX5_adds) := goodIn_app (goodIn_of _ (by decide +kernel)) ggL_law_X5_adds
set_option maxRecDepth 20000 in
theorem ggL_law_X4_own : GoodIn wsL_law wsX4_own := goodIn_r _ [154, 19, 15, 68, 69, 70, 71, 18, 72, 45, 73, 74, 75, 76, 77, 155, 156, 157, 14, 158, 29, 82, 83, 84, 85, 2, 86, 87, 88, 89, 90, 91, 92, 93, 94, 95, 96, 97, 98, 99, 100, 101, 102, 103, 104, 105, 106, 107, 108, 787, 788, 789, 790, 791, 792, 814, 815, 816, 817, 818] (by decide +kernel) (by decide +kernel)
set_option maxRecDepth 20000 in
theorem gL_law_X4_own : GoodIn wsL_law (wsV RL 18 RX4 yX4_own wsX4_own) := goodIn_app (goodIn_of _ (by decide +kernel)) ggL_law_X4_own
set_option maxRecDepth 20000 in
theorem ggL_law_X5_own : GoodIn wsL_law wsX5_own := goodIn_r _ [162, 113, 114, 115, 5, 116, 58, 57, 163, 164, 165, 166, 121, 122, 123, 124, 125, 126, 127, 128, 129, 130, 131, 132, 133, 134, 135, 136, 137, 138, 139, 140, 141, 142, 143, 144, 145, 60, 146, 147, 148, 149, 150, 59, 793, 794, 795, 796, 797, 798, 799, 800, 801, 802, 803, 804, 805, 806, 807, 808, 809, 810, 811, 812, 813] (by decide +kernel) (by decide +kernel)
set_option maxRecDepth 20000 in
theorem gL_law_X5_own : GoodIn wsL_law (wsV RL 21 RX5 yX5_own wsX5_own) := goodIn_app (goodIn_of _ (by decide +kernel)) ggL_law_X5_own
set_option maxRecDepth 20000 in
theorem ggL_law_X4_drops : GoodIn wsL_law wsX4_drops := goodIn_r _ [170, 19, 15, 68, 69, 70, 71, 18, 72, 45, 73, 74, 75, 76, 77, 171, 172, 173, 14, 174, 29, 175, 176, 177, 178, 179, 91, 92, 93, 2, 94, 95, 96, 97, 98, 99, 100, 101, 102, 103, 104, 105, 106, 107, 108, 787, 788, 789, 790, 791, 792, 814, 815, 816, 817, 818] (by decide +kernel) (by decide +kernel)
set_option maxRecDepth 20000 in
theorem gL_law_X4_drops : GoodIn wsL_law (wsV RL 22 RX4 yX4_drops wsX4_drops) := goodIn_app (goodIn_of _ (by decide +kernel)) ggL_law_X4_drops
set_option maxRecDepth 20000 in
theorem ggL_law_X5_drops : GoodIn wsL_law wsX5_drops := goodIn_r _ [183, 113, 114, 115, 5, 116, 58, 57, 184, 185, 186, 187, 188, 189, 190, 191, 192, 193, 194, 195, 124, 125, 126, 138, 139, 140, 141, 142, 143, 144, 145, 60, 146, 147, 148, 149, 150, 59, 793, 794, 795, 796, 797, 798, 799, 800, 801, 802, 803, 804, 805, 806, 807, 808, 809, 810, 811, 812, 813] (by decide +kernel) (by decide +kernel)
set_option maxRecDepth 20000 in
theorem gL_law_X5_drops : GoodIn wsL_law (wsV RL 26 RX5 yX5_drops wsX5_drops) := goodIn_app (goodIn_of _ (by decide +kernel)) ggL_law_X5_drops
set_option maxRecDepth 20000 in
theorem ggL_law_X4_veers : GoodIn wsL_law wsX4_veers := goodIn_r _ [199, 19, 15, 68, 69, 70, 71, 18, 72, 45, 73, 74, 75, 76, 77, 200, 201, 202, 14, 203, 29, 204, 205, 206, 207, 85, 2, 86, 91, 92, 93, 94, 95, 96, 97, 98, 99, 100, 101, 102, 103, 104, 105, 106, 107, 108, 787, 788, 789, 790, 791, 792, 814, 815, 816, 817, 818] (by decide +kernel) (by decide +kernel)
set_option maxRecDepth 20000 in
theorem gL_law_X4_veers : GoodIn wsL_law (wsV RL 27 RX4 yX4_veers wsX4_veers) := goodIn_app (goodIn_of _ (by decide +kernel)) ggL_law_X4_veers
set_option maxRecDepth 20000 in
theorem ggL_law_X5_veers : GoodIn wsL_law wsX5_veers := goodIn_r _ [211, 113, 114, 115, 5, 116, 58, 57, 212, 213, 214, 215, 192, 193, 194, 195, 124, 125, 126, 127, 128, 129, 216, 217, 218, 219, 134, 135, 136, 137, 138, 139, 140, 141, 142, 143, 144, 145, 60, 146, 147, 148, 149, 150, 59, 793, 794, 795, 796, 797, 798, 799, 800, 801, 802, 803, 804, 805, 806, 807, 808, 809, 810, 811, 812, 813] (by decide +kernel) (by decide +kernel)
set_option maxRecDepth 20000 in
theorem gL_law_X5_veers : GoodIn wsL_law (wsV RL 31 RX5 yX5_veers wsX5_veers) := goodIn_app (goodIn_of _ (by decide +kernel)) ggL_law_X5_veers
set_option maxRecDepth 20000 in
theorem ggL_law_X4_sets : GoodIn wsL_law wsX4_sets := goodIn_r _ [223, 19, 15, 68, 69, 70, 71, 18, 72, 45, 73, 74, 75, 76, 77, 224, 225, 226, 14, 227, 29, 91, 92, 93, 2, 94, 95, 96, 97, 98, 99, 100, 101, 102, 103, 104, 105, 106, 107, 108, 787, 788, 789, 790, 791, 792, 814, 815, 816, 817, 818] (by decide +kernel) (by decide +kernel)
set_option maxRecDepth 20000 in
theorem gL_law_X4_sets : GoodIn wsL_law (wsV RL 32 RX4 yX4_sets wsX4_sets) := goodIn_app (goodIn_of _ (by decide +kernel)) ggL_law_X4_sets
set_option maxRecDepth 20000 in
theorem ggL_law_X5_sets : GoodIn wsL_law wsX5_sets := goodIn_r _ [231, 113, 114, 115, 5, 116, 58, 57, 232, 233, 234, 235, 124, 125, 126, 138, 139, 140, 141, 142, 143, 144, 145, 60, 146, 147, 148, 149, 150, 59, 793, 794, 795, 796, 797, 798, 799, 800, 801, 802, 803, 804, 805, 806, 807, 808, 809, 810, 811, 812, 813] (by decide +kernel) (by decide +kernel)
set_option maxRecDepth 20000 in
theorem gL_law_X5_sets : GoodIn wsL_law (wsV RL 36 RX5 yX5_sets wsX5_sets) := goodIn_app (goodIn_of _ (by decide +kernel)) ggL_law_X5_sets
set_option maxRecDepth 20000 in
theorem ggL_law_X4_steps : GoodIn wsL_law wsX4_steps := goodIn_r _ [239, 19, 15, 68, 69, 70, 71, 18, 72, 45, 73, 74, 75, 76, 77, 240, 241, 242, 14, 243, 29, 244, 245, 246, 247, 248, 249, 250, 251, 252, 82, 83, 84, 253, 254, 255, 256, 257, 258, 259, 260, 261, 262, 263, 264, 265, 266, 267, 268, 269, 270, 271, 272, 273, 33, 274, 275, 276, 277, 278, 279, 280, 281, 282, 283, 284, 32, 285, 286, 40, 287, 39, 288, 289, 290, 291, 292, 293, 294, 295, 296, 297, 298, 299, 300, 301, 302, 303, 304, 305, 306, 307, 91, 92, 93, 2, 94, 95, 96, 97, 98, 99, 100, 101, 102, 103, 104, 105, 106, 107, 108, 787, 788, 789, 790, 791, 792, 814, 815, 816, 817, 818, 824, 825, 826, 827] (by decide +kernel) (by decide +kernel)
set_option maxRecDepth 20000 in
theorem gL_law_X4_steps : GoodIn wsL_law (wsV RL 37 RX4 yX4_steps wsX4_steps) := goodIn_app (goodIn_of _ (by decide +kernel)) ggL_law_X4_steps
set_option maxRecDepth 20000 in
theorem ggL_law_X5_steps : GoodIn wsL_law wsX5_steps := goodIn_r _ [311, 113, 114, 115, 5, 116, 58, 57, 312, 313, 314, 315, 124, 125, 126, 216, 217, 218, 219, 316, 317, 318, 319, 320, 321, 322, 323, 324, 325, 326, 327, 328, 329, 121, 122, 123, 134, 135, 136, 137, 330, 331, 332, 333, 334, 335, 336, 337, 338, 339, 340, 341, 342, 343, 344, 345, 346, 347, 348, 349, 350, 351, 352, 353, 354, 355, 356, 357, 358, 359, 360, 361, 362, 363, 364, 365, 366, 367, 368, 369, 370, 371, 372, 373, 374, 375, 376, 377, 378, 379, 380, 381, 382, 383, 384, 385, 386, 138, 139, 140, 141, 142, 143, 144, 145, 60, 146, 147, 148, 149, 150, 59, 793, 794, 795, 796, 797, 798, 799, 800, 801, 802, 803, 804, 805, 806, 807, 808, 809, 810, 811, 812, 813] (by decide +kernel) (by decide +kernel)
set_option maxRecDepth 20000 in
theorem gL_law_X5_steps : GoodIn wsL_law (wsV RL 40 RX5 yX5_steps wsX5_steps) := goodIn_app (goodIn_of _ (by decide +kernel)) ggL_law_X5_steps
set_option maxRecDepth 20000 in
theorem ggL_law_X4_looks : GoodIn wsL_law wsX4_looks := goodIn_r _ [390, 19, 15, 68, 69, 70, 71, 18, 72, 45, 73, 74, 75, 76, 77, 391, 263, 264, 14, 265, 29, 266, 267, 268, 269, 270, 271, 272, 273, 33, 274, 275, 276, 277, 252, 257, 278, 279, 280, 281, 282, 283, 284, 32, 285, 286, 40, 287, 39, 288, 289, 290, 291, 292, 293, 294, 295, 296, 297, 298, 299, 300, 301, 302, 303, 392, 305, 306, 307, 91, 92, 93, 2, 94, 95, 96, 97, 98, 99, 100, 101, 102, 103, 104, 105, 106, 107, 108, 787, 788, 789, 790, 791, 792, 814, 815, 816, 817, 818, 824, 825, 826, 827] (by decide +kernel) (by decide +kernel)
set_option maxRecDepth 20000 in
theorem gL_law_X4_looks : GoodIn wsL_law (wsV RL 41 RX4 yX4_looks wsX4_looks) := goodIn_app (goodIn_of _ (by decide +kernel)) ggL_law_X4_looks
set_option maxRecDepth 20000 in
theorem ggL_law_X5_looks : GoodIn wsL_law wsX5_looks := goodIn_r _ [396, 113, 114, 115, 5, 116, 58, 57, 330, 331, 332, 333, 216, 217, 218, 219, 334, 335, 336, 337, 338, 339, 340, 341, 342, 343, 344, 345, 346, 347, 348, 349, 350, 351, 352, 353, 320, 321, 322, 323, 324, 325, 354, 355, 356, 357, 358, 359, 360, 361, 362, 363, 364, 365, 366, 367, 368, 369, 370, 371, 372, 373, 374, 375, 376, 377, 378, 379, 380, 381, 382, 383, 384, 385, 386, 134, 135, 136, 137, 138, 139, 140, 141, 142, 143, 144, 145, 60, 146, 147, 148, 149, 150, 59, 793, 794, 795, 796, 797, 798, 799, 800, 801, 802, 803, 804, 805, 806, 807, 808, 809, 810, 811, 812, 813] (by decide +kernel) (by decide +kernel)
set_option maxRecDepth 20000 in
theorem gL_law_X5_looks : GoodIn wsL_law (wsV RL 45 RX5 yX5_looks wsX5_looks) := goodIn_app (goodIn_of _ (by decide +kernel)) ggL_law_X5_looks
set_option maxRecDepth 20000 in
theorem ggL_law_X4_obeys : GoodIn wsL_law wsX4_obeys := goodIn_r _ [400, 19, 15, 68, 69, 70, 71, 18, 72, 45, 73, 74, 75, 76, 77, 401, 402, 403, 14, 404, 29, 405, 406, 407, 408, 304, 305, 306, 307, 266, 267, 268, 269, 270, 271, 272, 273, 33, 274, 275, 276, 277, 252, 257, 278, 279, 280, 281, 282, 283, 284, 32, 285, 286, 40, 287, 39, 288, 289, 290, 291, 292, 293, 294, 295, 409, 410, 411, 412, 413, 414, 415, 416, 417, 418, 419, 420, 421, 422, 423, 424, 91, 92, 93, 2, 94, 95, 96, 97, 98, 99, 100, 101, 102, 103, 104, 105, 106, 107, 108, 787, 788, 789, 790, 791, 792, 814, 815, 816, 817, 818, 824, 825, 826, 827] (by decide +kernel) (by decide +kernel)
set_option maxRecDepth 20000 in
theorem gL_law_X4_obeys : GoodIn wsL_law (wsV RL 46 RX4 yX4_obeys wsX4_obeys) := goodIn_app (goodIn_of _ (by decide +kernel)) ggL_law_X4_obeys
set_option maxRecDepth 20000 in
theorem ggL_law_X5_obeys : GoodIn wsL_law wsX5_obeys := goodIn_r _ [428, 113, 114, 115, 5, 116, 58, 57, 429, 430, 431, 432, 433, 434, 435, 436, 216, 217, 218, 219, 437, 438, 439, 440, 334, 335, 336, 337, 338, 339, 340, 341, 342, 343, 344, 345, 346, 347, 348, 349, 350, 351, 352, 353, 320, 321, 322, 323, 324, 325, 354, 355, 356, 357, 358, 359, 360, 361, 362, 363, 364, 365, 366, 367, 368, 369, 370, 371, 372, 373, 374, 375, 376, 377, 378, 379, 380, 381, 382, 441, 442, 443, 444, 134, 135, 136, 137, 138, 139, 140, 141, 142, 143, 144, 145, 60, 146, 147, 148, 149, 150, 59, 793, 794, 795, 796, 797, 798, 799, 800, 801, 802, 803, 804, 805, 806, 807, 808, 809, 810, 811, 812, 813] (by decide +kernel) (by decide +kernel)
set_option maxRecDepth 20000 in
theorem gL_law_X5_obeys : GoodIn wsL_law (wsV RL 49 RX5 yX5_obeys wsX5_obeys) := goodIn_app (goodIn_of _ (by decide +kernel)) ggL_law_X5_obeys
set_option maxRecDepth 20000 in
theorem ggL_law_X4_of : GoodIn wsL_law wsX4_of := goodIn_r _ [448, 15, 449, 205, 206, 14, 207, 29, 102, 103, 104, 2, 105, 106, 107, 108, 450, 451, 452, 453, 248, 249, 250, 251, 252, 253, 254, 255, 256, 257, 787, 788, 789, 790, 791, 792, 814, 815, 816] (by decide +kernel) (by decide +kernel)
set_option maxRecDepth 20000 in
theorem gL_law_X4_of : GoodIn wsL_law (wsV RL 50 RX4 yX4_of wsX4_of) := goodIn_app (goodIn_of _ (by decide +kernel)) ggL_law_X4_of
set_option maxRecDepth 20000 in
theorem ggL_law_X5_of : GoodIn wsL_law wsX5_of := goodIn_r _ [457, 192, 193, 194, 5, 195, 57, 124, 125, 126, 458, 459, 460, 461, 216, 217, 218, 219, 316, 317, 318, 319, 320, 321, 322, 323, 324, 325, 326, 327, 328, 329, 142, 143, 144, 145, 60, 793, 794, 795, 796, 797, 798, 799, 800, 801, 802, 803, 804, 805, 806, 807, 808, 809, 810, 811, 812, 813] (by decide +kernel) (by decide +kernel)
set_option maxRecDepth 20000 in
theorem gL_law_X5_of : GoodIn wsL_law (wsV RL 53 RX5 yX5_of wsX5_of) := goodIn_app (goodIn_of _ (by decide +kernel)) ggL_law_X5_of
