set_option maxRecDepth 20000 in
theorem wsL_law0_r1_g : GoodIn lw_tbl wsL_law0_r1 := goodIn_r _ [49, 50, 28, 862, 863, 36, 1155, 51, 52, 53, 54, 55, 56, 57, 58, 29, 230, 74, 75, 31, 231, 130, 131, 32] (by decide +kernel) (by decide +kernel)
set_option maxRecDepth 20000 in
theorem wsL_law0_r2_g : GoodIn lw_tbl wsL_law0_r2 := goodIn_r _ [232, 144, 145, 33, 233, 185, 186, 34, 234, 59, 60, 61, 62, 63, 64, 30, 65, 73, 66, 76, 77, 78, 79, 80] (by decide +kernel) (by decide +kernel)
set_option maxRecDepth 20000 in
theorem wsL_law0_r3_g : GoodIn lw_tbl wsL_law0_r3 := goodIn_r _ [94, 97, 100, 104, 107, 108, 81, 82, 83, 84, 85, 86, 87, 88, 89, 67, 90, 91, 92, 93, 133, 134, 135, 136] (by decide +kernel) (by decide +kernel)
set_option maxRecDepth 20000 in
theorem wsL_law0_r4_g : GoodIn lw_tbl wsL_law0_r4 := goodIn_r _ [138, 137, 147, 148, 149, 150, 152, 154, 156, 158, 160, 162, 151, 187, 188, 189, 190, 191, 222, 193, 35, 195, 196, 197] (by decide +kernel) (by decide +kernel)
set_option maxRecDepth 20000 in
theorem wsL_law0_r5_g : GoodIn lw_tbl wsL_law0_r5 := goodIn_r _ [198, 200, 201, 199, 864, 865, 866, 867, 868, 869, 871, 874, 876, 877, 878, 883, 884, 584, 585, 27, 586, 587, 588, 589] (by decide +kernel) (by decide +kernel)
set_option maxRecDepth 20000 in
theorem wsL_law0_r6_g : GoodIn lw_tbl wsL_law0_r6 := goodIn_r _ [590, 591, 592, 594, 46, 661, 47, 593, 277, 37, 278, 272, 273, 274, 279, 280, 281, 283, 284, 285, 38, 286, 287, 288] (by decide +kernel) (by decide +kernel)
set_option maxRecDepth 20000 in
theorem wsL_law0_r7_g : GoodIn lw_tbl wsL_law0_r7 := goodIn_r _ [289, 290, 1158, 291, 292, 293, 294, 295, 1157, 297, 298, 299, 300, 301, 302, 303, 304, 305, 306, 39, 307, 311, 312, 313] (by decide +kernel) (by decide +kernel)
set_option maxRecDepth 20000 in
theorem wsL_law0_r8_g : GoodIn lw_tbl wsL_law0_r8 := goodIn_r _ [314, 308, 309, 310, 315, 316, 317, 318, 319, 40, 320, 321, 322, 323, 324, 325, 326, 327, 328, 329, 330, 331, 332, 333] (by decide +kernel) (by decide +kernel)
set_option maxRecDepth 20000 in
theorem wsL_law0_r9_g : GoodIn lw_tbl wsL_law0_r9 := goodIn_r _ [334, 335, 336, 338, 339, 41, 340, 341, 342, 343, 344, 345, 346, 347, 349, 351, 353, 354, 355, 356, 357, 42, 358, 359] (by decide +kernel) (by decide +kernel)
set_option maxRecDepth 20000 in
theorem wsL_law0_r10_g : GoodIn lw_tbl wsL_law0_r10 := goodIn_r _ [360, 361, 362, 363, 364, 365, 366, 250, 251, 252, 253, 677, 924, 925, 926, 927, 872, 928, 929, 930, 931, 932, 933, 934] (by decide +kernel) (by decide +kernel)
set_option maxRecDepth 20000 in
theorem wsL_law0_r11_g : GoodIn lw_tbl wsL_law0_r11 := goodIn_r _ [935, 936, 937, 938, 939, 940, 941, 942, 943, 945, 9, 946, 873, 920, 921, 922, 923, 246, 247, 248, 249, 254, 947, 948] (by decide +kernel) (by decide +kernel)
set_option maxRecDepth 20000 in
theorem wsL_law0_r12_g : GoodIn lw_tbl wsL_law0_r12 := goodIn_r _ [949, 950, 255, 256, 257, 258, 259, 260, 261, 262, 113, 263, 264, 265, 266, 267, 268, 269, 270, 271, 275, 276, 367, 368] (by decide +kernel) (by decide +kernel)
set_option maxRecDepth 20000 in
theorem wsL_law0_r13_g : GoodIn lw_tbl wsL_law0_r13 := goodIn_r _ [369, 951, 952, 953, 954, 955, 957, 10, 958, 959, 960, 961, 678, 679, 680, 681, 682, 683, 684, 559, 372, 373, 374, 686] (by decide +kernel) (by decide +kernel)
set_option maxRecDepth 20000 in
theorem wsL_law0_r14_g : GoodIn lw_tbl wsL_law0_r14 := goodIn_r _ [396, 397, 398, 399, 223, 400, 402, 0, 403, 404, 406, 1, 407, 408, 409, 410, 411, 202, 203, 204, 205, 206, 412, 413] (by decide +kernel) (by decide +kernel)
set_option maxRecDepth 20000 in
theorem wsL_law0_r15_g : GoodIn lw_tbl wsL_law0_r15 := goodIn_r _ [414, 415, 391, 416, 560, 376, 377, 378, 688, 689, 690, 691, 692, 693, 695, 7, 696, 417, 418, 419, 420, 421, 423, 2] (by decide +kernel) (by decide +kernel)
set_option maxRecDepth 20000 in
theorem wsL_law0_r16_g : GoodIn lw_tbl wsL_law0_r16 := goodIn_r _ [424, 164, 166, 425, 426, 427, 428, 429, 430, 431, 433, 3, 434, 435, 436, 437, 438, 439, 440, 441, 442, 443, 444, 445] (by decide +kernel) (by decide +kernel)
set_option maxRecDepth 20000 in
theorem wsL_law0_r17_g : GoodIn lw_tbl wsL_law0_r17 := goodIn_r _ [446, 447, 448, 449, 450, 451, 452, 453, 454, 455, 456, 457, 458, 459, 460, 461, 462, 463, 464, 465, 466, 467, 468, 469] (by decide +kernel) (by decide +kernel)
set_option maxRecDepth 20000 in
theorem wsL_law0_r18_g : GoodIn lw_tbl wsL_law0_r18 := goodIn_r _ [470, 471, 472, 473, 474, 475, 476, 477, 478, 479, 480, 481, 482, 483, 484, 485, 486, 487, 489, 4, 490, 491, 962, 963] (by decide +kernel) (by decide +kernel)
set_option maxRecDepth 20000 in
theorem wsL_law0_r19_g : GoodIn lw_tbl wsL_law0_r19 := goodIn_r _ [964, 965, 966, 968, 11, 969, 870, 970, 972, 12, 973, 697, 698, 699, 700, 701, 702, 703, 704, 709, 48, 705, 706, 707] (by decide +kernel) (by decide +kernel)
set_option maxRecDepth 20000 in
theorem wsL_law0_r20_g : GoodIn lw_tbl wsL_law0_r20 := goodIn_r _ [708, 530, 726, 727, 728, 729, 730, 974, 975, 976, 977, 371, 978, 979, 980, 981, 375, 982, 983, 984, 985, 731, 732, 733] (by decide +kernel) (by decide +kernel)
set_option maxRecDepth 20000 in
theorem wsL_law0_r21_g : GoodIn lw_tbl wsL_law0_r21 := goodIn_r _ [734, 735, 736, 737, 986, 987, 988, 989, 739, 740, 741, 742, 743, 744, 745, 990, 991, 992, 993, 379, 380, 381, 382, 994] (by decide +kernel) (by decide +kernel)
set_option maxRecDepth 20000 in
theorem wsL_law0_r22_g : GoodIn lw_tbl wsL_law0_r22 := goodIn_r _ [995, 996, 997, 383, 384, 385, 386, 387, 388, 389, 390, 998, 999, 1000, 1001, 1002, 1004, 13, 1005, 392, 393, 394, 395, 1006] (by decide +kernel) (by decide +kernel)
set_option maxRecDepth 20000 in
theorem wsL_law0_r23_g : GoodIn lw_tbl wsL_law0_r23 := goodIn_r _ [1007, 1008, 1009, 747, 748, 749, 750, 751, 752, 753, 754, 755, 756, 757, 758, 759, 761, 563, 493, 494, 495, 1010, 1011, 1012] (by decide +kernel) (by decide +kernel)
set_option maxRecDepth 20000 in
theorem wsL_law0_r24_g : GoodIn lw_tbl wsL_law0_r24 := goodIn_r _ [1013, 1014, 1016, 14, 1017, 1018, 1020, 15, 1021, 763, 764, 765, 766, 767, 768, 769, 576, 577, 578, 579, 580, 581, 582, 583] (by decide +kernel) (by decide +kernel)
set_option maxRecDepth 20000 in
theorem wsL_law0_r25_g : GoodIn lw_tbl wsL_law0_r25 := goodIn_r _ [771, 772, 773, 774, 775, 1022, 1023, 1024, 1025, 1026, 1028, 16, 1029, 492, 1030, 1031, 1032, 1033, 776, 777, 778, 779, 780, 781] (by decide +kernel) (by decide +kernel)
set_option maxRecDepth 20000 in
theorem wsL_law0_r26_g : GoodIn lw_tbl wsL_law0_r26 := goodIn_r _ [782, 785, 786, 1034, 1035, 1036, 1037, 787, 788, 789, 790, 791, 792, 793, 1038, 1039, 1040, 1041, 1042, 1044, 17, 1045, 875, 879] (by decide +kernel) (by decide +kernel)
set_option maxRecDepth 20000 in
theorem wsL_law0_r27_g : GoodIn lw_tbl wsL_law0_r27 := goodIn_r _ [880, 881, 882, 1046, 1048, 18, 1049, 1050, 1052, 19, 1053, 1054, 1056, 20, 1057, 1058, 1059, 1060, 1061, 1063, 21, 1064, 1065, 1067] (by decide +kernel) (by decide +kernel)
set_option maxRecDepth 20000 in
theorem wsL_law0_r28_g : GoodIn lw_tbl wsL_law0_r28 := goodIn_r _ [22, 1068, 496, 497, 498, 499, 1069, 1070, 1071, 1072, 794, 795, 796, 797, 798, 799, 800, 1073, 1074, 1075, 1076, 500, 501, 502] (by decide +kernel) (by decide +kernel)
set_option maxRecDepth 20000 in
theorem wsL_law0_r29_g : GoodIn lw_tbl wsL_law0_r29 := goodIn_r _ [503, 1077, 1078, 1079, 1080, 802, 803, 804, 805, 806, 807, 808, 1081, 1082, 1083, 1084, 810, 811, 812, 813, 814, 815, 816, 1085] (by decide +kernel) (by decide +kernel)
set_option maxRecDepth 20000 in
theorem wsL_law0_r30_g : GoodIn lw_tbl wsL_law0_r30 := goodIn_r _ [1086, 1087, 1088, 504, 505, 506, 507, 1089, 1090, 1091, 1092, 1093, 1095, 23, 1096, 508, 509, 510, 511, 1097, 1098, 1099, 1100, 512] (by decide +kernel) (by decide +kernel)
set_option maxRecDepth 20000 in
theorem wsL_law0_r31_g : GoodIn lw_tbl wsL_law0_r31 := goodIn_r _ [513, 514, 515, 1101, 1102, 1103, 1104, 516, 517, 518, 519, 1105, 1106, 1107, 1108, 520, 521, 522, 523, 1109, 1110, 1111, 1112, 524] (by decide +kernel) (by decide +kernel)
set_option maxRecDepth 20000 in
theorem wsL_law0_r32_g : GoodIn lw_tbl wsL_law0_r32 := goodIn_r _ [525, 526, 527, 528, 529, 1113, 1114, 1115, 1116, 1117, 1119, 24, 1120, 531, 532, 533, 534, 535, 536, 1121, 1122, 1123, 1124, 817] (by decide +kernel) (by decide +kernel)
set_option maxRecDepth 20000 in
theorem wsL_law0_r33_g : GoodIn lw_tbl wsL_law0_r33 := goodIn_r _ [818, 819, 820, 821, 822, 823, 826, 828, 8, 829, 830, 831, 832, 833, 834, 835, 836, 837, 838, 839, 840, 841, 545, 547] (by decide +kernel) (by decide +kernel)
set_option maxRecDepth 20000 in
theorem wsL_law0_r34_g : GoodIn lw_tbl wsL_law0_r34 := goodIn_r _ [5, 548, 1125, 1126, 1127, 1128, 1129, 1131, 25, 1132, 537, 538, 539, 540, 541, 542, 543, 544, 1133, 1134, 1135, 1136, 1137, 1139] (by decide +kernel) (by decide +kernel)
set_option maxRecDepth 20000 in
theorem wsL_law0_r35_g : GoodIn lw_tbl wsL_law0_r35 := goodIn_r _ [26, 1140, 842, 843, 844, 845, 846, 847, 848, 850, 851, 852, 853, 854, 855, 856, 857, 858, 859, 860, 861, 1141, 1142, 1143] (by decide +kernel) (by decide +kernel)
set_option maxRecDepth 20000 in
theorem wsL_law0_r36_g : GoodIn lw_tbl wsL_law0_r36 := goodIn_r _ [1144, 549, 550, 551, 552, 1145, 1146, 1147, 1148, 553, 554, 555, 556, 557, 558, 561, 562, 564, 565, 566, 567, 568, 569, 570] (by decide +kernel) (by decide +kernel)
set_option maxRecDepth 20000 in
theorem wsL_law0_r37_g : GoodIn lw_tbl wsL_law0_r37 := goodIn_r _ [571, 572, 573, 574, 575, 1149, 1150, 1151, 1152, 1153, 1154] (by decide +kernel) (by decide +kernel)
set_option maxRecDepth 20000 in
theorem wsX00_g : GoodIn lw_tbl wsX00 := goodIn_r _ [] (by decide +kernel) (by decide +kernel)
set_option maxRecDepth 20000 in
theorem wsX10_g : GoodIn lw_tbl wsX10 := goodIn_r _ [141] (by decide +kernel) (by decide +kernel)
set_option maxRecDepth 20000 in
theorem wsX20_g : GoodIn lw_tbl wsX20 := goodIn_r _ [225, 227] (by decide +kernel) (by decide +kernel)
set_option maxRecDepth 20000 in
theorem wsX30_g : GoodIn lw_tbl wsX30 := goodIn_r _ [115, 117, 119, 121, 123, 125, 127] (by decide +kernel) (by decide +kernel)
set_option maxRecDepth 20000 in
theorem wsX40_g : GoodIn lw_tbl wsX40 := goodIn_r _ [168, 170, 172, 174, 176, 178, 180, 182] (by decide +kernel) (by decide +kernel)
set_option maxRecDepth 20000 in
theorem wsX50_g : GoodIn lw_tbl wsX50 := goodIn_r _ [68, 70] (by decide +kernel) (by decide +kernel)
set_option maxRecDepth 20000 in
theorem wsX60_g : GoodIn lw_tbl wsX60 := goodIn_r _ [207, 209, 211, 213, 215, 217, 219] (by decide +kernel) (by decide +kernel)
set_option maxRecDepth 20000 in
theorem wsX70_g : GoodIn lw_tbl wsX70 := goodIn_r _ [235, 237, 239, 241, 243] (by decide +kernel) (by decide +kernel)
set_option maxRecDepth 20000 in
theorem wsX80_g : GoodIn lw_tbl wsX80 := goodIn_r _ [885, 887, 889, 891, 893, 895, 897, 899, 901, 903, 905, 907, 909, 911, 913, 915, 917] (by decide +kernel) (by decide +kernel)
theorem wsL_law0_g : GoodIn lw_tbl wsL_law0 := (goodIn_app (goodIn_app (goodIn_app (goodIn_app (goodIn_app (goodIn_app (goodIn_app (goodIn_app (goodIn_app (goodIn_app wsL_law0_r1_g (goodIn_app wsL_law0_r2_g (goodIn_app wsL_law0_r3_g (goodIn_app wsL_law0_r4_g (goodIn_app wsL_law0_r5_g (goodIn_app wsL_law0_r6_g (goodIn_app wsL_law0_r7_g (goodIn_app wsL_law0_r8_g (goodIn_app wsL_law0_r9_g (goodIn_app wsL_law0_r10_g (goodIn_app wsL_law0_r11_g (goodIn_app wsL_law0_r12_g (goodIn_app wsL_law0_r13_g (goodIn_app wsL_law0_r14_g (goodIn_app wsL_law0_r15_g (goodIn_app wsL_law0_r16_g (goodIn_app wsL_law0_r17_g (goodIn_app wsL_law0_r18_g (goodIn_app wsL_law0_r19_g (goodIn_app wsL_law0_r20_g (goodIn_app wsL_law0_r21_g (goodIn_app wsL_law0_r22_g (goodIn_app wsL_law0_r23_g (goodIn_app wsL_law0_r24_g (goodIn_app wsL_law0_r25_g (goodIn_app wsL_law0_r26_g (goodIn_app wsL_law0_r27_g (goodIn_app wsL_law0_r28_g (goodIn_app wsL_law0_r29_g (goodIn_app wsL_law0_r30_g (goodIn_app wsL_law0_r31_g (goodIn_app wsL_law0_r32_g (goodIn_app wsL_law0_r33_g (goodIn_app wsL_law0_r34_g (goodIn_app wsL_law0_r35_g (goodIn_app wsL_law0_r36_g wsL_law0_r37_g)))))))))))))))))))))))))))))))))))) wsX70_g) wsX80_g) wsX50_g) wsX30_g) wsX10_g) wsX40_g) wsX20_g) wsX60_g) (fun _ h => nomatch h))
theorem wsL_law_in0 : ∀ w ∈ wsL_law0, w ∈ lw_tbl := fun w h => (wsL_law0_g w h).1
theorem wsL_law_x0 : ∀ w ∈ (vx_atS RX7 56 "java/lang/IllegalArgumentException" ["java/lang/RuntimeException", "java/lang/Exception"]).filter goodWord, w ∈ lw_tbl := by decide +kernel
theorem wsL_law_x1 : ∀ w ∈ (vx_atS RX7 67 "java/lang/IllegalStateException" ["java/lang/RuntimeException", "java/lang/Exception"]).filter goodWord, w ∈ lw_tbl := by decide +kernel
theorem wsL_law_x2 : ∀ w ∈ (vx_atS RX7 113 "java/lang/IndexOutOfBoundsException" ["java/lang/RuntimeException", "java/lang/Exception"]).filter goodWord, w ∈ lw_tbl := by decide +kernel
theorem wsL_law_in : ∀ w ∈ wsL_law, w ∈ lw_tbl := fun w h => (List.mem_append.mp h).elim (fun h => (List.mem_append.mp h).elim (fun h => (List.mem_append.mp h).elim (fun h => wsL_law_in0 w h) (fun h => wsL_law_x0 w h)) (fun h => wsL_law_x1 w h)) (fun h => wsL_law_x2 w h)
theorem inX0 : ∀ w ∈ wsX00, w ∈ lw_tbl := by decide +kernel
theorem inlX1 : ∀ w ∈ wsX10, w ∈ wsL_law := fun _ h => List.mem_append_left _ (List.mem_append_left _ (List.mem_append_left _ (List.mem_append_left _ (List.mem_append_left _ (List.mem_append_left _ (List.mem_append_left _ (List.mem_append_right _ h)))))))
theorem inX1 : ∀ w ∈ wsX10, w ∈ lw_tbl := fun w h => wsL_law_in w (inlX1 w h)
theorem inlX2 : ∀ w ∈ wsX20, w ∈ wsL_law := fun _ h => List.mem_append_left _ (List.mem_append_left _ (List.mem_append_left _ (List.mem_append_left _ (List.mem_append_left _ (List.mem_append_right _ h)))))
theorem inX2 : ∀ w ∈ wsX20, w ∈ lw_tbl := fun w h => wsL_law_in w (inlX2 w h)
theorem inlX3 : ∀ w ∈ wsX30, w ∈ wsL_law := fun _ h => List.mem_append_left _ (List.mem_append_left _ (List.mem_append_left _ (List.mem_append_left _ (List.mem_append_left _ (List.mem_append_left _ (List.mem_append_left _ (List.mem_append_left _ (List.mem_append_right _ h))))))))
theorem inX3 : ∀ w ∈ wsX30, w ∈ lw_tbl := fun w h => wsL_law_in w (inlX3 w h)
theorem inlX4 : ∀ w ∈ wsX40, w ∈ wsL_law := fun _ h => List.mem_append_left _ (List.mem_append_left _ (List.mem_append_left _ (List.mem_append_left _ (List.mem_append_left _ (List.mem_append_left _ (List.mem_append_right _ h))))))
theorem inX4 : ∀ w ∈ wsX40, w ∈ lw_tbl := fun w h => wsL_law_in w (inlX4 w h)
theorem inlX5 : ∀ w ∈ wsX50, w ∈ wsL_law := fun _ h => List.mem_append_left _ (List.mem_append_left _ (List.mem_append_left _ (List.mem_append_left _ (List.mem_append_left _ (List.mem_append_left _ (List.mem_append_left _ (List.mem_append_left _ (List.mem_append_left _ (List.mem_append_right _ h)))))))))
theorem inX5 : ∀ w ∈ wsX50, w ∈ lw_tbl := fun w h => wsL_law_in w (inlX5 w h)
theorem inlX6 : ∀ w ∈ wsX60, w ∈ wsL_law := fun _ h => List.mem_append_left _ (List.mem_append_left _ (List.mem_append_left _ (List.mem_append_left _ (List.mem_append_right _ h))))
theorem inX6 : ∀ w ∈ wsX60, w ∈ lw_tbl := fun w h => wsL_law_in w (inlX6 w h)
theorem inlX7 : ∀ w ∈ wsX70, w ∈ wsL_law := fun _ h => List.mem_append_left _ (List.mem_append_left _ (List.mem_append_left _ (List.mem_append_left _ (List.mem_append_left _ (List.mem_append_left _ (List.mem_append_left _ (List.mem_append_left _ (List.mem_append_left _ (List.mem_append_left _ (List.mem_append_left _ (List.mem_append_right _ h)))))))))))
theorem inX7 : ∀ w ∈ wsX70, w ∈ lw_tbl := fun w h => wsL_law_in w (inlX7 w h)
theorem inlX8 : ∀ w ∈ wsX80, w ∈ wsL_law := fun _ h => List.mem_append_left _ (List.mem_append_left _ (List.mem_append_left _ (List.mem_append_left _ (List.mem_append_left _ (List.mem_append_left _ (List.mem_append_left _ (List.mem_append_left _ (List.mem_append_left _ (List.mem_append_left _ (List.mem_append_right _ h))))))))))
theorem inX8 : ∀ w ∈ wsX80, w ∈ lw_tbl := fun w h => wsL_law_in w (inlX8 w h)
theorem inJ11 : ∀ w ∈ wsJ110, w ∈ lw_tbl := by decide +kernel
theorem inJ9 : ∀ w ∈ wsJ90, w ∈ lw_tbl := by decide +kernel
theorem inJ0 : ∀ w ∈ wsJ00, w ∈ lw_tbl := by decide +kernel
theorem inJ1 : ∀ w ∈ wsJ10, w ∈ lw_tbl := by decide +kernel
theorem inJ2 : ∀ w ∈ wsJ20, w ∈ lw_tbl := by decide +kernel
theorem inJ3 : ∀ w ∈ wsJ30, w ∈ lw_tbl := by decide +kernel
