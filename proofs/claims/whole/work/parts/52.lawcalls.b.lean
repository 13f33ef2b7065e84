set_option maxRecDepth 20000 in
theorem ggL_law_X4_closest : GoodIn wsL_law wsX4_closest := goodIn_r _ [465, 15, 466, 467, 468, 14, 469, 204, 205, 206, 207, 29, 102, 103, 104, 2, 105, 106, 107, 108, 470, 297, 298, 299, 33, 274, 275, 276, 277, 252, 257, 278, 279, 280, 281, 471, 472, 473, 32, 474, 287, 39, 286, 40, 475, 476, 477, 478, 479, 480, 787, 788, 789, 790, 791, 792, 814, 815, 816, 824, 825, 826, 827] (by decide +kernel) (by decide +kernel)
set_option maxRecDepth 20000 in
theorem gL_law_X4_closest : GoodIn wsL_law (wsV RL 54 RX4 yX4_closest wsX4_closest) := goodIn_app (goodIn_of _ (by decide +kernel)) ggL_law_X4_closest
set_option maxRecDepth 20000 in
theorem ggL_law_X5_closest : GoodIn wsL_law wsX5_closest := goodIn_r _ [484, 485, 486, 487, 5, 488, 192, 193, 194, 195, 57, 124, 125, 126, 489, 490, 491, 492, 360, 361, 358, 359, 342, 343, 344, 345, 216, 217, 218, 219, 346, 347, 348, 349, 350, 351, 352, 353, 320, 321, 322, 323, 324, 325, 362, 363, 364, 365, 366, 367, 368, 369, 370, 371, 372, 373, 374, 375, 376, 142, 143, 144, 145, 60, 793, 794, 795, 796, 797, 798, 799, 800, 801, 802, 803, 804, 805, 806, 807, 808, 809, 810, 811, 812, 813] (by decide +kernel) (by decide +kernel)
set_option maxRecDepth 20000 in
theorem gL_law_X5_closest : GoodIn wsL_law (wsV RL 58 RX5 yX5_closest wsX5_closest) := goodIn_app (goodIn_of _ (by decide +kernel)) ggL_law_X5_closest
set_option maxRecDepth 20000 in
theorem ggL_law_X4_risk : GoodIn wsL_law wsX4_risk := goodIn_r _ [496, 15, 466, 467, 468, 14, 469, 204, 205, 206, 207, 29, 102, 103, 104, 2, 105, 106, 107, 108, 497, 271, 272, 273, 33, 274, 275, 276, 277, 252, 257, 278, 279, 280, 281, 282, 283, 284, 32, 285, 286, 40, 287, 39, 787, 788, 789, 790, 791, 792, 814, 815, 816, 824, 825, 826, 827] (by decide +kernel) (by decide +kernel)
set_option maxRecDepth 20000 in
theorem gL_law_X4_risk : GoodIn wsL_law (wsV RL 59 RX4 yX4_risk wsX4_risk) := goodIn_app (goodIn_of _ (by decide +kernel)) ggL_law_X4_risk
set_option maxRecDepth 20000 in
theorem ggL_law_X5_risk : GoodIn wsL_law wsX5_risk := goodIn_r _ [501, 485, 486, 487, 5, 488, 192, 193, 194, 195, 57, 124, 125, 126, 338, 339, 340, 341, 342, 343, 344, 345, 216, 217, 218, 219, 346, 347, 348, 349, 350, 351, 352, 353, 320, 321, 322, 323, 324, 325, 354, 355, 356, 357, 358, 359, 360, 361, 362, 363, 364, 365, 366, 367, 368, 369, 370, 371, 372, 373, 374, 375, 376, 142, 143, 144, 145, 60, 793, 794, 795, 796, 797, 798, 799, 800, 801, 802, 803, 804, 805, 806, 807, 808, 809, 810, 811, 812, 813] (by decide +kernel) (by decide +kernel)
set_option maxRecDepth 20000 in
theorem gL_law_X5_risk : GoodIn wsL_law (wsV RL 62 RX5 yX5_risk wsX5_risk) := goodIn_app (goodIn_of _ (by decide +kernel)) ggL_law_X5_risk
set_option maxRecDepth 20000 in
theorem ggL_law_X4_sector : GoodIn wsL_law wsX4_sector := goodIn_r _ [505, 15, 466, 467, 468, 14, 469, 204, 205, 206, 207, 29, 102, 103, 104, 2, 105, 106, 107, 108, 506, 289, 290, 291, 252, 257, 292, 293, 294, 295, 787, 788, 789, 790, 791, 792, 814, 815, 816] (by decide +kernel) (by decide +kernel)
set_option maxRecDepth 20000 in
theorem gL_law_X4_sector : GoodIn wsL_law (wsV RL 63 RX4 yX4_sector wsX4_sector) := goodIn_app (goodIn_of _ (by decide +kernel)) ggL_law_X4_sector
set_option maxRecDepth 20000 in
theorem ggL_law_X5_sector : GoodIn wsL_law wsX5_sector := goodIn_r _ [510, 485, 486, 487, 5, 488, 192, 193, 194, 195, 57, 124, 125, 126, 377, 378, 379, 380, 350, 351, 381, 382, 342, 343, 344, 345, 216, 217, 218, 219, 346, 347, 348, 349, 352, 353, 320, 321, 322, 323, 324, 325, 370, 371, 372, 373, 142, 143, 144, 145, 60, 793, 794, 795, 796, 797, 798, 799, 800, 801, 802, 803, 804, 805, 806, 807, 808, 809, 810, 811, 812, 813] (by decide +kernel) (by decide +kernel)
set_option maxRecDepth 20000 in
theorem gL_law_X5_sector : GoodIn wsL_law (wsV RL 66 RX5 yX5_sector wsX5_sector) := goodIn_app (goodIn_of _ (by decide +kernel)) ggL_law_X5_sector
set_option maxRecDepth 20000 in
theorem ggL_law_X4_table : GoodIn wsL_law wsX4_table := goodIn_r _ [514, 15, 466, 467, 468, 14, 469, 204, 205, 206, 207, 29, 102, 103, 104, 2, 105, 106, 107, 108, 515, 267, 268, 269, 270, 271, 272, 273, 33, 274, 275, 276, 277, 252, 257, 278, 279, 280, 281, 282, 283, 284, 32, 285, 286, 40, 287, 39, 288, 289, 290, 291, 292, 293, 294, 295, 787, 788, 789, 790, 791, 792, 814, 815, 816, 824, 825, 826, 827] (by decide +kernel) (by decide +kernel)
set_option maxRecDepth 20000 in
theorem gL_law_X4_table : GoodIn wsL_law (wsV RL 67 RX4 yX4_table wsX4_table) := goodIn_app (goodIn_of _ (by decide +kernel)) ggL_law_X4_table
set_option maxRecDepth 20000 in
theorem ggL_law_X5_table : GoodIn wsL_law wsX5_table := goodIn_r _ [519, 485, 486, 487, 5, 488, 192, 193, 194, 195, 57, 124, 125, 126, 334, 335, 336, 337, 338, 339, 340, 341, 342, 343, 344, 345, 216, 217, 218, 219, 346, 347, 348, 349, 350, 351, 352, 353, 320, 321, 322, 323, 324, 325, 354, 355, 356, 357, 358, 359, 360, 361, 362, 363, 364, 365, 366, 367, 368, 369, 370, 371, 372, 373, 374, 375, 376, 377, 378, 379, 380, 381, 382, 142, 143, 144, 145, 60, 793, 794, 795, 796, 797, 798, 799, 800, 801, 802, 803, 804, 805, 806, 807, 808, 809, 810, 811, 812, 813] (by decide +kernel) (by decide +kernel)
set_option maxRecDepth 20000 in
theorem gL_law_X5_table : GoodIn wsL_law (wsV RL 70 RX5 yX5_table wsX5_table) := goodIn_app (goodIn_of _ (by decide +kernel)) ggL_law_X5_table
set_option maxRecDepth 20000 in
theorem ggL_law_X4_duty : GoodIn wsL_law wsX4_duty := goodIn_r _ [523, 15, 524, 177, 178, 14, 179, 29, 102, 103, 104, 2, 105, 106, 107, 108, 525, 526, 527, 528, 787, 788, 789, 790, 791, 792, 814, 815, 816] (by decide +kernel) (by decide +kernel)
set_option maxRecDepth 20000 in
theorem gL_law_X4_duty : GoodIn wsL_law (wsV RL 71 RX4 yX4_duty wsX4_duty) := goodIn_app (goodIn_of _ (by decide +kernel)) ggL_law_X4_duty
set_option maxRecDepth 20000 in
theorem ggL_law_X5_duty : GoodIn wsL_law wsX5_duty := goodIn_r _ [532, 188, 189, 190, 5, 191, 192, 193, 194, 195, 57, 124, 125, 126, 216, 217, 218, 219, 142, 143, 144, 145, 60, 793, 794, 795, 796, 797, 798, 799, 800, 801, 802, 803, 804, 805, 806, 807, 808, 809, 810, 811, 812, 813] (by decide +kernel) (by decide +kernel)
set_option maxRecDepth 20000 in
theorem gL_law_X5_duty : GoodIn wsL_law (wsV RL 74 RX5 yX5_duty wsX5_duty) := goodIn_app (goodIn_of _ (by decide +kernel)) ggL_law_X5_duty
set_option maxRecDepth 20000 in
theorem ggL_law_X4_worst : GoodIn wsL_law wsX4_worst := goodIn_r _ [536, 15, 537, 538, 539, 14, 540, 29, 33, 34, 270, 271, 272, 273, 274, 275, 276, 277, 252, 257, 278, 279, 280, 281, 282, 283, 284, 32, 285, 286, 40, 287, 39, 541, 542, 543, 544, 545, 546, 547, 548, 787, 788, 789, 790, 791, 792, 814, 815, 816, 824, 825, 826, 827] (by decide +kernel) (by decide +kernel)
set_option maxRecDepth 20000 in
theorem gL_law_X4_worst : GoodIn wsL_law (wsV RL 75 RX4 yX4_worst wsX4_worst) := goodIn_app (goodIn_of _ (by decide +kernel)) ggL_law_X4_worst
set_option maxRecDepth 20000 in
theorem ggL_law_X5_worst : GoodIn wsL_law wsX5_worst := goodIn_r _ [552, 57, 360, 361, 358, 359, 338, 339, 340, 5, 341, 342, 343, 344, 345, 216, 217, 218, 219, 346, 347, 348, 349, 350, 351, 352, 353, 320, 321, 322, 323, 324, 325, 354, 355, 356, 357, 362, 363, 364, 365, 366, 367, 368, 369, 370, 371, 372, 373, 374, 375, 376, 793, 794, 795, 796, 797, 798, 799, 800, 801, 802, 803, 804, 805, 806, 807, 808, 809, 810, 811, 812, 813] (by decide +kernel) (by decide +kernel)
set_option maxRecDepth 20000 in
theorem gL_law_X5_worst : GoodIn wsL_law (wsV RL 78 RX5 yX5_worst wsX5_worst) := goodIn_app (goodIn_of _ (by decide +kernel)) ggL_law_X5_worst
set_option maxRecDepth 20000 in
theorem ggL_law_X4_clear : GoodIn wsL_law wsX4_clear := goodIn_r _ [556, 15, 449, 205, 206, 14, 207, 29, 557, 85, 2, 86, 102, 103, 104, 105, 106, 107, 108, 558, 414, 415, 416, 417, 418, 419, 420, 33, 274, 275, 276, 277, 252, 257, 278, 279, 280, 281, 282, 283, 284, 32, 285, 286, 40, 287, 39, 787, 788, 789, 790, 791, 792, 814, 815, 816, 824, 825, 826, 827] (by decide +kernel) (by decide +kernel)
set_option maxRecDepth 20000 in
theorem gL_law_X4_clear : GoodIn wsL_law (wsV RL 79 RX4 yX4_clear wsX4_clear) := goodIn_app (goodIn_of _ (by decide +kernel)) ggL_law_X4_clear
set_option maxRecDepth 20000 in
theorem ggL_law_X5_clear : GoodIn wsL_law wsX5_clear := goodIn_r _ [562, 192, 193, 194, 5, 195, 57, 124, 125, 126, 127, 128, 129, 441, 442, 443, 444, 346, 347, 348, 349, 350, 351, 352, 353, 216, 217, 218, 219, 320, 321, 322, 323, 324, 325, 354, 355, 356, 357, 358, 359, 360, 361, 362, 363, 364, 365, 366, 367, 368, 369, 370, 371, 372, 373, 374, 375, 376, 142, 143, 144, 145, 60, 793, 794, 795, 796, 797, 798, 799, 800, 801, 802, 803, 804, 805, 806, 807, 808, 809, 810, 811, 812, 813] (by decide +kernel) (by decide +kernel)
set_option maxRecDepth 20000 in
theorem gL_law_X5_clear : GoodIn wsL_law (wsV RL 82 RX5 yX5_clear wsX5_clear) := goodIn_app (goodIn_of _ (by decide +kernel)) ggL_law_X5_clear
set_option maxRecDepth 20000 in
theorem ggL_law_X4_blocked : GoodIn wsL_law wsX4_blocked := goodIn_r _ [566, 15, 524, 177, 178, 14, 179, 29, 102, 103, 104, 2, 105, 106, 107, 108, 567, 568, 569, 570, 417, 418, 419, 420, 33, 274, 275, 276, 277, 252, 257, 278, 279, 280, 281, 282, 283, 284, 32, 285, 286, 40, 287, 39, 787, 788, 789, 790, 791, 792, 814, 815, 816, 824, 825, 826, 827] (by decide +kernel) (by decide +kernel)
set_option maxRecDepth 20000 in
theorem gL_law_X4_blocked : GoodIn wsL_law (wsV RL 83 RX4 yX4_blocked wsX4_blocked) := goodIn_app (goodIn_of _ (by decide +kernel)) ggL_law_X4_blocked
set_option maxRecDepth 20000 in
theorem ggL_law_X5_blocked : GoodIn wsL_law wsX5_blocked := goodIn_r _ [574, 188, 189, 190, 5, 191, 192, 193, 194, 195, 57, 124, 125, 126, 575, 576, 577, 578, 216, 217, 218, 219, 346, 347, 348, 349, 350, 351, 352, 353, 320, 321, 322, 323, 324, 325, 354, 355, 356, 357, 358, 359, 360, 361, 362, 363, 364, 365, 366, 367, 368, 369, 370, 371, 372, 373, 374, 375, 376, 142, 143, 144, 145, 60, 793, 794, 795, 796, 797, 798, 799, 800, 801, 802, 803, 804, 805, 806, 807, 808, 809, 810, 811, 812, 813] (by decide +kernel) (by decide +kernel)
set_option maxRecDepth 20000 in
theorem gL_law_X5_blocked : GoodIn wsL_law (wsV RL 86 RX5 yX5_blocked wsX5_blocked) := goodIn_app (goodIn_of _ (by decide +kernel)) ggL_law_X5_blocked
set_option maxRecDepth 20000 in
theorem ggL_law_X4_advice : GoodIn wsL_law wsX4_advice := goodIn_r _ [582, 15, 449, 205, 206, 14, 207, 29, 102, 103, 104, 2, 105, 106, 107, 108, 401, 402, 403, 404, 405, 406, 407, 408, 304, 305, 306, 307, 266, 267, 268, 269, 270, 271, 272, 273, 33, 274, 275, 276, 277, 252, 257, 278, 279, 280, 281, 282, 283, 284, 32, 285, 286, 40, 287, 39, 288, 289, 290, 291, 292, 293, 294, 295, 409, 410, 411, 412, 413, 414, 415, 416, 417, 418, 419, 420, 787, 788, 789, 790, 791, 792, 814, 815, 816, 824, 825, 826, 827] (by decide +kernel) (by decide +kernel)
set_option maxRecDepth 20000 in
theorem gL_law_X4_advice : GoodIn wsL_law (wsV RL 87 RX4 yX4_advice wsX4_advice) := goodIn_app (goodIn_of _ (by decide +kernel)) ggL_law_X4_advice
set_option maxRecDepth 20000 in
theorem ggL_law_X5_advice : GoodIn wsL_law wsX5_advice := goodIn_r _ [586, 192, 193, 194, 5, 195, 57, 124, 125, 126, 433, 434, 435, 436, 216, 217, 218, 219, 437, 438, 439, 440, 334, 335, 336, 337, 338, 339, 340, 341, 342, 343, 344, 345, 346, 347, 348, 349, 350, 351, 352, 353, 320, 321, 322, 323, 324, 325, 354, 355, 356, 357, 358, 359, 360, 361, 362, 363, 364, 365, 366, 367, 368, 369, 370, 371, 372, 373, 374, 375, 376, 377, 378, 379, 380, 381, 382, 441, 442, 443, 444, 142, 143, 144, 145, 60, 793, 794, 795, 796, 797, 798, 799, 800, 801, 802, 803, 804, 805, 806, 807, 808, 809, 810, 811, 812, 813] (by decide +kernel) (by decide +kernel)
set_option maxRecDepth 20000 in
theorem gL_law_X5_advice : GoodIn wsL_law (wsV RL 90 RX5 yX5_advice wsX5_advice) := goodIn_app (goodIn_of _ (by decide +kernel)) ggL_law_X5_advice
set_option maxRecDepth 20000 in
theorem ggL_law_X4_count : GoodIn wsL_law wsX4_count := goodIn_r _ [590, 15, 102, 103, 104, 2, 105, 106, 107, 108, 591, 592, 593, 14, 594, 29, 787, 788, 789, 790, 791, 792, 814, 815, 816] (by decide +kernel) (by decide +kernel)
set_option maxRecDepth 20000 in
theorem gL_law_X4_count : GoodIn wsL_law (wsV RL 91 RX4 yX4_count wsX4_count) := goodIn_app (goodIn_of _ (by decide +kernel)) ggL_law_X4_count
set_option maxRecDepth 20000 in
theorem ggL_law_X5_count : GoodIn wsL_law wsX5_count := goodIn_r _ [598, 124, 125, 5, 126, 599, 600, 601, 602, 57, 142, 143, 144, 145, 60, 793, 794, 795, 796, 797, 798, 799, 800, 801, 802, 803, 804, 805, 806, 807, 808, 809, 810, 811, 812, 813] (by decide +kernel) (by decide +kernel)
set_option maxRecDepth 20000 in
theorem gL_law_X5_count : GoodIn wsL_law (wsV RL 94 RX5 yX5_count wsX5_count) := goodIn_app (goodIn_of _ (by decide +kernel)) ggL_law_X5_count
