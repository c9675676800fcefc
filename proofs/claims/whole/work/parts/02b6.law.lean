set_option maxRecDepth 20000 in
theorem wsL_law0_r1_g : GoodIn lw_tbl wsL_law0_r1 := goodIn_r _ [50, 51, 29, 864, 865, 37, 1157, 52, 53, 54, 55, 56, 57, 58, 59, 30, 227, 75, 76, 32, 228, 131, 132, 33] (by decide +kernel) (by decide +kernel)
set_option maxRecDepth 20000 in
theorem wsL_law0_r2_g : GoodIn lw_tbl wsL_law0_r2 := goodIn_r _ [229, 145, 146, 34, 230, 182, 183, 35, 231, 60, 61, 62, 63, 64, 65, 31, 66, 74, 67, 77, 78, 79, 80, 81] (by decide +kernel) (by decide +kernel)
set_option maxRecDepth 20000 in
theorem wsL_law0_r3_g : GoodIn lw_tbl wsL_law0_r3 := goodIn_r _ [95, 98, 101, 105, 108, 109, 82, 83, 84, 85, 86, 87, 88, 89, 90, 68, 91, 92, 93, 94, 134, 135, 136, 137] (by decide +kernel) (by decide +kernel)
set_option maxRecDepth 20000 in
theorem wsL_law0_r4_g : GoodIn lw_tbl wsL_law0_r4 := goodIn_r _ [139, 138, 148, 149, 150, 151, 153, 155, 157, 159, 161, 152, 184, 185, 186, 187, 188, 219, 190, 36, 192, 193, 194, 195] (by decide +kernel) (by decide +kernel)
set_option maxRecDepth 20000 in
theorem wsL_law0_r5_g : GoodIn lw_tbl wsL_law0_r5 := goodIn_r _ [197, 198, 196, 866, 867, 868, 869, 870, 871, 873, 876, 878, 879, 880, 885, 886, 606, 607, 28, 608, 609, 610, 611, 612] (by decide +kernel) (by decide +kernel)
set_option maxRecDepth 20000 in
theorem wsL_law0_r6_g : GoodIn lw_tbl wsL_law0_r6 := goodIn_r _ [613, 614, 616, 47, 683, 48, 615, 278, 38, 279, 273, 274, 275, 280, 281, 282, 284, 285, 286, 39, 287, 288, 289, 290] (by decide +kernel) (by decide +kernel)
set_option maxRecDepth 20000 in
theorem wsL_law0_r7_g : GoodIn lw_tbl wsL_law0_r7 := goodIn_r _ [291, 1160, 292, 293, 294, 295, 296, 1159, 298, 299, 300, 301, 302, 303, 304, 305, 306, 307, 40, 308, 312, 313, 314, 315] (by decide +kernel) (by decide +kernel)
set_option maxRecDepth 20000 in
theorem wsL_law0_r8_g : GoodIn lw_tbl wsL_law0_r8 := goodIn_r _ [309, 310, 311, 316, 317, 318, 319, 320, 41, 321, 322, 323, 324, 325, 326, 327, 328, 329, 330, 331, 332, 333, 334, 335] (by decide +kernel) (by decide +kernel)
set_option maxRecDepth 20000 in
theorem wsL_law0_r9_g : GoodIn lw_tbl wsL_law0_r9 := goodIn_r _ [336, 337, 339, 340, 42, 341, 342, 343, 344, 345, 346, 347, 348, 350, 352, 354, 355, 356, 357, 358, 43, 359, 360, 361] (by decide +kernel) (by decide +kernel)
set_option maxRecDepth 20000 in
theorem wsL_law0_r10_g : GoodIn lw_tbl wsL_law0_r10 := goodIn_r _ [362, 363, 364, 365, 366, 367, 247, 248, 249, 250, 699, 926, 927, 928, 929, 874, 930, 931, 932, 933, 934, 935, 936, 937] (by decide +kernel) (by decide +kernel)
set_option maxRecDepth 20000 in
theorem wsL_law0_r11_g : GoodIn lw_tbl wsL_law0_r11 := goodIn_r _ [938, 939, 940, 941, 942, 943, 944, 945, 947, 10, 948, 875, 922, 923, 924, 925, 243, 244, 245, 246, 251, 949, 950, 951] (by decide +kernel) (by decide +kernel)
set_option maxRecDepth 20000 in
theorem wsL_law0_r12_g : GoodIn lw_tbl wsL_law0_r12 := goodIn_r _ [952, 252, 253, 254, 255, 256, 257, 258, 259, 114, 260, 261, 262, 263, 264, 265, 266, 267, 268, 269, 270, 271, 272, 276] (by decide +kernel) (by decide +kernel)
set_option maxRecDepth 20000 in
theorem wsL_law0_r13_g : GoodIn lw_tbl wsL_law0_r13 := goodIn_r _ [277, 368, 369, 370, 953, 954, 955, 956, 957, 959, 11, 960, 961, 962, 963, 700, 701, 702, 703, 704, 705, 706, 582, 373] (by decide +kernel) (by decide +kernel)
set_option maxRecDepth 20000 in
theorem wsL_law0_r14_g : GoodIn lw_tbl wsL_law0_r14 := goodIn_r _ [374, 375, 708, 397, 398, 399, 400, 220, 401, 403, 0, 404, 405, 407, 1, 408, 409, 410, 411, 412, 199, 200, 201, 202] (by decide +kernel) (by decide +kernel)
set_option maxRecDepth 20000 in
theorem wsL_law0_r15_g : GoodIn lw_tbl wsL_law0_r15 := goodIn_r _ [203, 413, 414, 415, 416, 392, 417, 554, 377, 378, 379, 710, 711, 712, 713, 714, 715, 717, 9, 718, 418, 420, 2, 421] (by decide +kernel) (by decide +kernel)
set_option maxRecDepth 20000 in
theorem wsL_law0_r16_g : GoodIn lw_tbl wsL_law0_r16 := goodIn_r _ [422, 423, 424, 425, 426, 428, 3, 429, 163, 165, 430, 431, 432, 433, 434, 435, 436, 438, 4, 439, 440, 441, 442, 443] (by decide +kernel) (by decide +kernel)
set_option maxRecDepth 20000 in
theorem wsL_law0_r17_g : GoodIn lw_tbl wsL_law0_r17 := goodIn_r _ [444, 446, 5, 447, 448, 449, 450, 451, 452, 453, 454, 455, 456, 457, 458, 459, 460, 461, 462, 463, 464, 465, 466, 467] (by decide +kernel) (by decide +kernel)
set_option maxRecDepth 20000 in
theorem wsL_law0_r18_g : GoodIn lw_tbl wsL_law0_r18 := goodIn_r _ [468, 469, 470, 471, 472, 473, 474, 475, 476, 477, 478, 479, 480, 481, 482, 483, 484, 485, 486, 487, 488, 489, 490, 491] (by decide +kernel) (by decide +kernel)
set_option maxRecDepth 20000 in
theorem wsL_law0_r19_g : GoodIn lw_tbl wsL_law0_r19 := goodIn_r _ [492, 493, 494, 495, 496, 497, 498, 499, 500, 502, 6, 503, 504, 964, 965, 966, 967, 968, 970, 12, 971, 872, 972, 974] (by decide +kernel) (by decide +kernel)
set_option maxRecDepth 20000 in
theorem wsL_law0_r20_g : GoodIn lw_tbl wsL_law0_r20 := goodIn_r _ [13, 975, 719, 720, 721, 722, 723, 724, 725, 726, 728, 49, 727, 543, 745, 746, 747, 748, 976, 977, 978, 979, 372, 980] (by decide +kernel) (by decide +kernel)
set_option maxRecDepth 20000 in
theorem wsL_law0_r21_g : GoodIn lw_tbl wsL_law0_r21 := goodIn_r _ [981, 982, 983, 376, 984, 985, 986, 987, 749, 750, 751, 752, 753, 754, 755, 988, 989, 990, 991, 757, 758, 759, 760, 761] (by decide +kernel) (by decide +kernel)
set_option maxRecDepth 20000 in
theorem wsL_law0_r22_g : GoodIn lw_tbl wsL_law0_r22 := goodIn_r _ [762, 763, 992, 993, 994, 995, 380, 381, 382, 383, 996, 997, 998, 999, 384, 385, 386, 387, 388, 389, 390, 391, 1000, 1001] (by decide +kernel) (by decide +kernel)
set_option maxRecDepth 20000 in
theorem wsL_law0_r23_g : GoodIn lw_tbl wsL_law0_r23 := goodIn_r _ [1002, 1003, 1004, 1006, 14, 1007, 393, 394, 395, 396, 1008, 1009, 1010, 1011, 765, 766, 767, 768, 769, 770, 771, 772, 773, 774] (by decide +kernel) (by decide +kernel)
set_option maxRecDepth 20000 in
theorem wsL_law0_r24_g : GoodIn lw_tbl wsL_law0_r24 := goodIn_r _ [775, 776, 777, 779, 585, 506, 507, 508, 1012, 1013, 1014, 1015, 1016, 1018, 15, 1019, 1020, 1022, 16, 1023, 781, 782, 783, 784] (by decide +kernel) (by decide +kernel)
set_option maxRecDepth 20000 in
theorem wsL_law0_r25_g : GoodIn lw_tbl wsL_law0_r25 := goodIn_r _ [785, 786, 787, 598, 599, 600, 601, 602, 603, 604, 605, 789, 790, 791, 792, 793, 1024, 1025, 1026, 1027, 1028, 1030, 17, 1031] (by decide +kernel) (by decide +kernel)
set_option maxRecDepth 20000 in
theorem wsL_law0_r26_g : GoodIn lw_tbl wsL_law0_r26 := goodIn_r _ [505, 1032, 1033, 1034, 1035, 794, 795, 796, 797, 798, 799, 800, 803, 804, 1036, 1037, 1038, 1039, 805, 806, 807, 808, 809, 810] (by decide +kernel) (by decide +kernel)
set_option maxRecDepth 20000 in
theorem wsL_law0_r27_g : GoodIn lw_tbl wsL_law0_r27 := goodIn_r _ [811, 1040, 1041, 1042, 1043, 1044, 1046, 18, 1047, 877, 881, 882, 883, 884, 1048, 1050, 19, 1051, 1052, 1054, 20, 1055, 1056, 1058] (by decide +kernel) (by decide +kernel)
set_option maxRecDepth 20000 in
theorem wsL_law0_r28_g : GoodIn lw_tbl wsL_law0_r28 := goodIn_r _ [21, 1059, 1060, 1061, 1062, 1063, 1065, 22, 1066, 1067, 1069, 23, 1070, 509, 510, 511, 512, 1071, 1072, 1073, 1074, 812, 813, 814] (by decide +kernel) (by decide +kernel)
set_option maxRecDepth 20000 in
theorem wsL_law0_r29_g : GoodIn lw_tbl wsL_law0_r29 := goodIn_r _ [815, 816, 817, 818, 1075, 1076, 1077, 1078, 513, 514, 515, 516, 1079, 1080, 1081, 1082, 820, 821, 822, 823, 824, 825, 826, 1083] (by decide +kernel) (by decide +kernel)
set_option maxRecDepth 20000 in
theorem wsL_law0_r30_g : GoodIn lw_tbl wsL_law0_r30 := goodIn_r _ [1084, 1085, 1086, 828, 829, 830, 831, 832, 833, 834, 1087, 1088, 1089, 1090, 517, 518, 519, 520, 1091, 1092, 1093, 1094, 1095, 1097] (by decide +kernel) (by decide +kernel)
set_option maxRecDepth 20000 in
theorem wsL_law0_r31_g : GoodIn lw_tbl wsL_law0_r31 := goodIn_r _ [24, 1098, 521, 522, 523, 524, 1099, 1100, 1101, 1102, 525, 526, 527, 528, 1103, 1104, 1105, 1106, 529, 530, 531, 532, 1107, 1108] (by decide +kernel) (by decide +kernel)
set_option maxRecDepth 20000 in
theorem wsL_law0_r32_g : GoodIn lw_tbl wsL_law0_r32 := goodIn_r _ [1109, 1110, 533, 534, 535, 536, 1111, 1112, 1113, 1114, 537, 538, 539, 540, 541, 542, 1115, 1116, 1117, 1118, 1119, 1121, 25, 1122] (by decide +kernel) (by decide +kernel)
set_option maxRecDepth 20000 in
theorem wsL_law0_r33_g : GoodIn lw_tbl wsL_law0_r33 := goodIn_r _ [544, 545, 546, 547, 548, 549, 1123, 1124, 1125, 1126, 835, 836, 837, 838, 839, 840, 841, 555, 557, 7, 558, 559, 560, 561] (by decide +kernel) (by decide +kernel)
set_option maxRecDepth 20000 in
theorem wsL_law0_r34_g : GoodIn lw_tbl wsL_law0_r34 := goodIn_r _ [562, 563, 564, 565, 566, 567, 568, 569, 570, 571, 1127, 1128, 1129, 1130, 1131, 1133, 26, 1134, 550, 551, 552, 553, 1135, 1136] (by decide +kernel) (by decide +kernel)
set_option maxRecDepth 20000 in
theorem wsL_law0_r35_g : GoodIn lw_tbl wsL_law0_r35 := goodIn_r _ [1137, 1138, 1139, 1141, 27, 1142, 844, 845, 846, 847, 848, 849, 850, 852, 853, 854, 855, 856, 857, 858, 859, 860, 861, 862] (by decide +kernel) (by decide +kernel)
set_option maxRecDepth 20000 in
theorem wsL_law0_r36_g : GoodIn lw_tbl wsL_law0_r36 := goodIn_r _ [863, 1143, 1144, 1145, 1146, 572, 573, 574, 575, 1147, 1148, 1149, 1150, 576, 577, 578, 579, 580, 581, 583, 584, 586, 587, 588] (by decide +kernel) (by decide +kernel)
set_option maxRecDepth 20000 in
theorem wsL_law0_r37_g : GoodIn lw_tbl wsL_law0_r37 := goodIn_r _ [589, 590, 591, 592, 593, 594, 595, 596, 597, 1151, 1152, 1153, 1154, 1155, 1156] (by decide +kernel) (by decide +kernel)
set_option maxRecDepth 20000 in
theorem wsX00_g : GoodIn lw_tbl wsX00 := goodIn_r _ [] (by decide +kernel) (by decide +kernel)
set_option maxRecDepth 20000 in
theorem wsX10_g : GoodIn lw_tbl wsX10 := goodIn_r _ [142] (by decide +kernel) (by decide +kernel)
set_option maxRecDepth 20000 in
theorem wsX20_g : GoodIn lw_tbl wsX20 := goodIn_r _ [222, 224] (by decide +kernel) (by decide +kernel)
set_option maxRecDepth 20000 in
theorem wsX30_g : GoodIn lw_tbl wsX30 := goodIn_r _ [116, 118, 120, 122, 124, 126, 128] (by decide +kernel) (by decide +kernel)
set_option maxRecDepth 20000 in
theorem wsX40_g : GoodIn lw_tbl wsX40 := goodIn_r _ [167, 169, 171, 173, 175, 177, 179] (by decide +kernel) (by decide +kernel)
set_option maxRecDepth 20000 in
theorem wsX50_g : GoodIn lw_tbl wsX50 := goodIn_r _ [69, 71] (by decide +kernel) (by decide +kernel)
set_option maxRecDepth 20000 in
theorem wsX60_g : GoodIn lw_tbl wsX60 := goodIn_r _ [204, 206, 208, 210, 212, 214, 216] (by decide +kernel) (by decide +kernel)
set_option maxRecDepth 20000 in
theorem wsX70_g : GoodIn lw_tbl wsX70 := goodIn_r _ [232, 234, 236, 238, 240] (by decide +kernel) (by decide +kernel)
set_option maxRecDepth 20000 in
theorem wsX80_g : GoodIn lw_tbl wsX80 := goodIn_r _ [887, 889, 891, 893, 895, 897, 899, 901, 903, 905, 907, 909, 911, 913, 915, 917, 919] (by decide +kernel) (by decide +kernel)
theorem wsL_law0_g : GoodIn lw_tbl wsL_law0 := (goodIn_app (goodIn_app (goodIn_app (goodIn_app (goodIn_app (goodIn_app (goodIn_app (goodIn_app (goodIn_app (goodIn_app wsL_law0_r1_g (goodIn_app wsL_law0_r2_g (goodIn_app wsL_law0_r3_g (goodIn_app wsL_law0_r4_g (goodIn_app wsL_law0_r5_g (goodIn_app wsL_law0_r6_g (goodIn_app wsL_law0_r7_g (goodIn_app wsL_law0_r8_g (goodIn_app wsL_law0_r9_g (goodIn_app wsL_law0_r10_g (goodIn_app wsL_law0_r11_g (goodIn_app wsL_law0_r12_g (goodIn_app wsL_law0_r13_g (goodIn_app wsL_law0_r14_g (goodIn_app wsL_law0_r15_g (goodIn_app wsL_law0_r16_g (goodIn_app wsL_law0_r17_g (goodIn_app wsL_law0_r18_g (goodIn_app wsL_law0_r19_g (goodIn_app wsL_law0_r20_g (goodIn_app wsL_law0_r21_g (goodIn_app wsL_law0_r22_g (goodIn_app wsL_law0_r23_g (goodIn_app wsL_law0_r24_g (goodIn_app wsL_law0_r25_g (goodIn_app wsL_law0_r26_g (goodIn_app wsL_law0_r27_g (goodIn_app wsL_law0_r28_g (goodIn_app wsL_law0_r29_g (goodIn_app wsL_law0_r30_g (goodIn_app wsL_law0_r31_g (goodIn_app wsL_law0_r32_g (goodIn_app wsL_law0_r33_g (goodIn_app wsL_law0_r34_g (goodIn_app wsL_law0_r35_g (goodIn_app wsL_law0_r36_g wsL_law0_r37_g)))))))))))))))))))))))))))))))))))) wsX70_g) wsX80_g) wsX50_g) wsX30_g) wsX10_g) wsX40_g) wsX20_g) wsX60_g) (fun _ h => nomatch h))
theorem wsL_law_in0 : ∀ w ∈ wsL_law0, w ∈ lw_tbl := fun w h => (wsL_law0_g w h).1
theorem wsL_law_x0 : ∀ w ∈ (vx_atS RX7 56 "java/lang/IllegalArgumentException" ["java/lang/RuntimeException", "java/lang/Exception"]).filter goodWord, w ∈ lw_tbl := by decide +kernel
theorem wsL_law_x1 : ∀ w ∈ (vx_atS RX7 67 "java/lang/IllegalStateException" ["java/lang/RuntimeException", "java/lang/Exception"]).filter goodWord, w ∈ lw_tbl := by decide +kernel
theorem wsL_law_x2 : ∀ w ∈ (vx_atS RX7 113 "java/lang/IndexOutOfBoundsException" ["java/lang/RuntimeException", "java/lang/Exception"]).filter goodWord, w ∈ lw_tbl := by decide +kernel
theorem wsL_law_in : ∀ w ∈ wsL_law, w ∈ lw_tbl := fun w h => (List.mem_append.mp h).elim (fun h => (List.mem_append.mp h).elim (fun h => (List.mem_append.mp h).elim (fun h => wsL_law_in0 w h) (fun h => wsL_law_x0 w h)) (fun h => wsL_law_x1 w h)) (fun h => wsL_law_x2 w h)
theorem inX0 : ∀ w ∈ wsX00, w ∈ lw_tbl := by decide +kernel
theorem inlX1 : ∀ w ∈ wsX10, w ∈ wsL_law := fun _ h => List.mem_append_left _ (List.mem_append_left _ (List.mem_append_left _ (List.mem_append_left _ (List.mem_append_left _ (List.mem_append_left _ (List.mem_append_left _ (List.mem_append_right _ h)))))))
theorem inX1 : ∀ w ∈ wsX10, w ∈ lw_tbl := fun w h => wsL_law_in w (inlX1 w h)
theorem inlX2 : ∀ w ∈ wsX20, w ∈ wsL_law := fun _ h => List.mem_append_left _ (List.mem_append_left _ (List.mem_append_left _ (List.mem_append_left _ (List.mem_append_left _ (List.mem_append_right _ h)))))
theorem inX2 : ∀ w ∈ wsX20, w ∈ lw_tbl := fun w h => wsL_law_in w (inlX2 w h)
theorem inlX3 : ∀ w ∈ wsX30, w ∈ wsL_law := fun _ h => List.mem_append_left _ (List.mem_append_left _ (List.mem_append_left _ (List.mem_append_left _ (List.mem_append_left _ (List.mem_append_left _ (List.mem_append_left _ (List.mem_append_left _ (List.mem_append_right _ h))))))))
theorem inX3 : ∀ w ∈ wsX30, w ∈ lw_tbl := fun w h => wsL_law_in w (inlX3 w h)
theorem inlX4 : ∀ w ∈ wsX40, w ∈ wsL_law := fun _ h => List.mem_append_left _ (List.mem_append_left _ (List.mem_append_left _ (List.mem_append_left _ (List.mem_append_left _ (List.mem_append_left _ (List.mem_append_right _ h))))))
theorem inX4 : ∀ w ∈ wsX40, w ∈ lw_tbl := fun w h => wsL_law_in w (inlX4 w h)
theorem inlX5 : ∀ w ∈ wsX50, w ∈ wsL_law := fun _ h => List.mem_append_left _ (List.mem_append_left _ (List.mem_append_left _ (List.mem_append_left _ (List.mem_append_left _ (List.mem_append_left _ (List.mem_append_left _ (List.mem_append_left _ (List.mem_append_left _ (List.mem_append_right _ h)))))))))
theorem inX5 : ∀ w ∈ wsX50, w ∈ lw_tbl := fun w h => wsL_law_in w (inlX5 w h)
theorem inlX6 : ∀ w ∈ wsX60, w ∈ wsL_law := fun _ h => List.mem_append_left _ (List.mem_append_left _ (List.mem_append_left _ (List.mem_append_left _ (List.mem_append_right _ h))))
theorem inX6 : ∀ w ∈ wsX60, w ∈ lw_tbl := fun w h => wsL_law_in w (inlX6 w h)
theorem inlX7 : ∀ w ∈ wsX70, w ∈ wsL_law := fun _ h => List.mem_append_left _ (List.mem_append_left _ (List.mem_append_left _ (List.mem_append_left _ (List.mem_append_left _ (List.mem_append_left _ (List.mem_append_left _ (List.mem_append_left _ (List.mem_append_left _ (List.mem_append_left _ (List.mem_append_left _ (List.mem_append_right _ h)))))))))))
theorem inX7 : ∀ w ∈ wsX70, w ∈ lw_tbl := fun w h => wsL_law_in w (inlX7 w h)
theorem inlX8 : ∀ w ∈ wsX80, w ∈ wsL_law := fun _ h => List.mem_append_left _ (List.mem_append_left _ (List.mem_append_left _ (List.mem_append_left _ (List.mem_append_left _ (List.mem_append_left _ (List.mem_append_left _ (List.mem_append_left _ (List.mem_append_left _ (List.mem_append_left _ (List.mem_append_right _ h))))))))))
theorem inX8 : ∀ w ∈ wsX80, w ∈ lw_tbl := fun w h => wsL_law_in w (inlX8 w h)
theorem inJ11 : ∀ w ∈ wsJ110, w ∈ lw_tbl := by decide +kernel
theorem inJ9 : ∀ w ∈ wsJ90, w ∈ lw_tbl := by decide +kernel
theorem inJ0 : ∀ w ∈ wsJ00, w ∈ lw_tbl := by decide +kernel
theorem inJ1 : ∀ w ∈ wsJ10, w ∈ lw_tbl := by decide +kernel
theorem inJ2 : ∀ w ∈ wsJ20, w ∈ lw_tbl := by decide +kernel
theorem inJ3 : ∀ w ∈ wsJ30, w ∈ lw_tbl := by decide +kernel

