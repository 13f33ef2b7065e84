set_option maxRecDepth 20000
theorem in_wsL_law_r31 : ∀ w ∈ wsL_law_r31, w ∈ lw_tbl := fun w h => (goodIn_r wsL_law_r31 [520, 521, 522, 523, 128, 524, 525, 526, 527, 528, 631, 632, 633, 634, 529, 530, 531, 532, 533, 535, 15, 536, 142, 922] (by decide +kernel) (by decide +kernel) w h).1
theorem in_wsL_law_r32 : ∀ w ∈ wsL_law_r32, w ∈ lw_tbl := fun w h => (goodIn_r wsL_law_r32 [923, 924, 925, 926, 928, 60, 929, 537, 538, 539, 540, 541, 542, 543, 544, 545, 546, 547, 548, 549, 550, 551, 552, 553] (by decide +kernel) (by decide +kernel) w h).1
theorem in_wsL_law_r33 : ∀ w ∈ wsL_law_r33, w ∈ lw_tbl := fun w h => (goodIn_r wsL_law_r33 [554, 555, 556, 557, 558, 559, 560, 930, 931, 932, 933, 934, 587, 935, 937, 61, 938, 939, 940] (by decide +kernel) (by decide +kernel) w h).1
