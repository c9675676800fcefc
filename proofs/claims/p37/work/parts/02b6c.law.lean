set_option maxRecDepth 20000 in
theorem wsL_law0_r13_g : GoodIn lw_tbl wsL_law0_r13 := goodIn_r _ [294, 295, 289, 290, 291, 296, 297, 298, 299, 300, 301, 302, 303, 304, 305, 306, 307, 308, 309, 310, 314, 315, 316, 319] (by decide +kernel) (by decide +kernel)
set_option maxRecDepth 20000 in
theorem wsL_law0_r14_g : GoodIn lw_tbl wsL_law0_r14 := goodIn_r _ [320, 321, 322, 323, 324, 334, 335, 336, 337, 338, 27, 339, 340, 341, 342, 343, 344, 345, 346, 347, 348, 231, 453, 454] (by decide +kernel) (by decide +kernel)
set_option maxRecDepth 20000 in
theorem wsL_law0_r15_g : GoodIn lw_tbl wsL_law0_r15 := goodIn_r _ [455, 456, 457, 458, 459, 460, 461, 462, 463, 464, 465, 466, 467, 468, 469, 470, 471, 472, 473, 474, 475, 476, 477, 478] (by decide +kernel) (by decide +kernel)
set_option maxRecDepth 20000 in
theorem wsL_law0_r16_g : GoodIn lw_tbl wsL_law0_r16 := goodIn_r _ [480, 5, 481, 756, 757, 758, 759, 497, 498, 499, 760, 513, 514, 515, 761, 762, 493, 494, 495, 763, 509, 510, 511, 764] rfl (by decide +kernel)
set_option maxRecDepth 20000 in
theorem wsL_law0_r17_g : GoodIn lw_tbl wsL_law0_r17 := goodIn_r _ [765, 766, 677, 767, 768, 769, 770, 686, 28, 682, 683, 684, 685, 772, 773, 774, 775, 776, 777, 778, 780, 781, 782, 783] (by decide +kernel) (by decide +kernel)
set_option maxRecDepth 20000 in
theorem wsL_law0_r18_g : GoodIn lw_tbl wsL_law0_r18 := goodIn_r _ [784, 785, 786, 787, 788, 789, 790, 791, 792, 793, 795, 796, 797, 798, 799, 800, 801, 803, 521, 522, 523, 804, 525, 526] (by decide +kernel) (by decide +kernel)
