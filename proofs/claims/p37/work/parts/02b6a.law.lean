set_option maxRecDepth 20000 in
theorem wsL_law0_r1_g : GoodIn lw_tbl wsL_law0_r1 := goodIn_r _ [30, 31, 10, 857, 32, 33, 34, 35, 36, 37, 38, 39, 11, 211, 55, 56, 13, 212, 111, 112, 14, 213, 125, 126] (by decide +kernel) (by decide +kernel)
set_option maxRecDepth 20000 in
theorem wsL_law0_r2_g : GoodIn lw_tbl wsL_law0_r2 := goodIn_r _ [15, 214, 166, 167, 16, 215, 40, 41, 42, 43, 44, 45, 12, 46, 54, 47, 57, 58, 59, 60, 61, 75, 78, 81] (by decide +kernel) (by decide +kernel)
set_option maxRecDepth 20000 in
theorem wsL_law0_r3_g : GoodIn lw_tbl wsL_law0_r3 := goodIn_r _ [85, 88, 89, 62, 63, 64, 65, 66, 67, 68, 69, 70, 48, 71, 72, 73, 74, 114, 115, 116, 117, 119, 118, 128] (by decide +kernel) (by decide +kernel)
set_option maxRecDepth 20000 in
theorem wsL_law0_r4_g : GoodIn lw_tbl wsL_law0_r4 := goodIn_r _ [129, 130, 131, 133, 135, 137, 139, 141, 143, 132, 168, 169, 170, 171, 172, 203, 174, 17, 176, 177, 178, 179, 181, 182] (by decide +kernel) (by decide +kernel)
set_option maxRecDepth 20000 in
theorem wsL_law0_r5_g : GoodIn lw_tbl wsL_law0_r5 := goodIn_r _ [180, 651, 652, 9, 653, 561, 654, 655, 656, 657, 634, 21, 659, 660, 661, 662, 204, 364, 366, 1, 367, 663, 664, 665] (by decide +kernel) (by decide +kernel)
set_option maxRecDepth 20000 in
theorem wsL_law0_r6_g : GoodIn lw_tbl wsL_law0_r6 := goodIn_r _ [666, 183, 184, 185, 186, 187, 372, 373, 374, 375, 376, 247, 248, 249, 667, 668, 669, 670, 378, 379, 380, 381, 382, 384] (by decide +kernel) (by decide +kernel)
