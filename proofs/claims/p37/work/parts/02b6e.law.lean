set_option maxRecDepth 20000 in
theorem wsL_law0_r25_g : GoodIn lw_tbl wsL_law0_r25 := goodIn_r _ [492, 745, 747, 748, 749, 750, 751, 752, 754, 7, 755, 836, 837, 838, 839, 840, 841, 842, 843, 844, 845, 847, 848, 849] (by decide +kernel) (by decide +kernel)
set_option maxRecDepth 20000 in
theorem wsL_law0_r26_g : GoodIn lw_tbl wsL_law0_r26 := goodIn_r _ [850, 851, 852, 853, 855, 856, 482, 483, 484, 485, 486, 487, 488, 489, 490, 491, 500, 504, 512, 516, 520, 524, 528, 532] (by decide +kernel) (by decide +kernel)
set_option maxRecDepth 20000 in
theorem wsL_law0_r27_g : GoodIn lw_tbl wsL_law0_r27 := goodIn_r _ [538, 539, 540, 541, 542, 543] (by decide +kernel) (by decide +kernel)
