set_option maxRecDepth 20000 in
theorem wsL_law0_r19_g : GoodIn lw_tbl wsL_law0_r19 := goodIn_r _ [527, 805, 517, 518, 519, 806, 807, 808, 809, 560, 810, 811, 812, 813, 567, 29, 496, 816, 818, 8, 819, 820, 821, 822] (by decide +kernel) (by decide +kernel)
set_option maxRecDepth 20000 in
theorem wsL_law0_r20_g : GoodIn lw_tbl wsL_law0_r20 := goodIn_r _ [823, 824, 825, 826, 827, 828, 829, 830, 831, 832, 533, 534, 535, 536, 537, 833, 505, 506, 507, 834, 501, 502, 503, 835] (by decide +kernel) (by decide +kernel)
set_option maxRecDepth 20000 in
theorem wsL_law0_r21_g : GoodIn lw_tbl wsL_law0_r21 := goodIn_r _ [529, 530, 531, 552, 553, 554, 555, 556, 671, 672, 673, 352, 353, 354, 355, 356, 357, 358, 359, 360, 362, 0, 363, 368] (by decide +kernel) (by decide +kernel)
set_option maxRecDepth 20000 in
theorem wsL_law0_r22_g : GoodIn lw_tbl wsL_law0_r22 := goodIn_r _ [369, 370, 371, 377, 674, 675, 676, 678, 679, 680, 681, 703, 704, 705, 706, 707, 227, 228, 229, 230, 235, 557, 558, 559] (by decide +kernel) (by decide +kernel)
set_option maxRecDepth 20000 in
theorem wsL_law0_r23_g : GoodIn lw_tbl wsL_law0_r23 := goodIn_r _ [562, 563, 564, 565, 566, 650, 708, 709, 710, 711, 712, 713, 714, 715, 716, 717, 718, 719, 720, 722, 508, 724, 725, 726] (by decide +kernel) (by decide +kernel)
set_option maxRecDepth 20000 in
theorem wsL_law0_r24_g : GoodIn lw_tbl wsL_law0_r24 := goodIn_r _ [727, 728, 729, 730, 544, 545, 546, 547, 548, 549, 550, 551, 732, 733, 734, 735, 736, 737, 738, 739, 740, 741, 742, 743] (by decide +kernel) (by decide +kernel)
