theorem dX7_plausibility_1 : decode cX7_plausibility 1 = .ok (.invokevirtual 212, 3) := by decide +kernel
theorem dX7_plausibility_4 : decode cX7_plausibility 4 = .ok (.istore_n 1, 1) := by decide +kernel
theorem dX7_plausibility_5 : decode cX7_plausibility 5 = .ok (.iload_n 1, 1) := by decide +kernel
theorem dX7_plausibility_6 : decode cX7_plausibility 6 = .ok (.ifCond .ne 5, 3) := by decide +kernel
theorem dX7_plausibility_9 : decode cX7_plausibility 9 = .ok (.dconst 1, 1) := by decide +kernel
theorem dX7_plausibility_10 : decode cX7_plausibility 10 = .ok (.dreturn, 1) := by decide +kernel
theorem dX7_plausibility_11 : decode cX7_plausibility 11 = .ok (.iload_n 1, 1) := by decide +kernel
theorem dX7_plausibility_12 : decode cX7_plausibility 12 = .ok (.aload_n 0, 1) := by decide +kernel
theorem dX7_plausibility_13 : decode cX7_plausibility 13 = .ok (.invokevirtual 215, 3) := by decide +kernel
theorem dX7_plausibility_16 : decode cX7_plausibility 16 = .ok (.isub, 1) := by decide +kernel
theorem dX7_plausibility_17 : decode cX7_plausibility 17 = .ok (.i2d, 1) := by decide +kernel
theorem dX7_plausibility_18 : decode cX7_plausibility 18 = .ok (.iload_n 1, 1) := by decide +kernel
theorem dX7_plausibility_19 : decode cX7_plausibility 19 = .ok (.i2d, 1) := by decide +kernel
theorem dX7_plausibility_20 : decode cX7_plausibility 20 = .ok (.ddiv, 1) := by decide +kernel
theorem dX7_plausibility_21 : decode cX7_plausibility 21 = .ok (.dreturn, 1) := by decide +kernel
set_option maxRecDepth 20000 in
theorem ggX7_doubtfulWith_X7_received : GoodIn wsX7_doubtfulWith wsX7_received := goodIn_r _ [9, 10, 11, 12, 13, 14, 15, 16, 88, 89, 90, 91, 92, 93, 94, 95, 96, 97, 98, 99, 100, 101] (by decide +kernel) (by decide +kernel)
set_option maxRecDepth 20000 in
theorem gX7_doubtfulWith_X7_received : GoodIn wsX7_doubtfulWith (wsV RX7 92 RX7 yX7_received wsX7_received) := goodIn_app (goodIn_of _ (by decide +kernel)) ggX7_doubtfulWith_X7_received
set_option maxRecDepth 20000 in
theorem ggX7_doubtfulWith_X7_doubtful : GoodIn wsX7_doubtfulWith wsX7_doubtful := goodIn_r _ [20, 21, 22, 23, 24, 14, 25, 16, 26, 27, 28, 29, 30, 31, 32, 33, 34, 88, 89, 90, 91, 92, 102, 103, 104, 105, 106, 107, 108, 100, 101] (by decide +kernel) (by decide +kernel)
set_option maxRecDepth 20000 in
theorem gX7_doubtfulWith_X7_doubtful : GoodIn wsX7_doubtfulWith (wsV RX7 215 RX7 yX7_doubtful wsX7_doubtful) := goodIn_app (goodIn_of _ (by decide +kernel)) ggX7_doubtfulWith_X7_doubtful
set_option maxRecDepth 20000 in
theorem ggX7_doubtfulWith_X7_changeByCut : GoodIn wsX7_doubtfulWith wsX7_changeByCut := goodIn_r _ [38, 10, 39, 40, 41, 42, 43, 44, 27, 28, 14, 29, 30, 31, 32, 33, 34, 16, 45, 46, 47, 48, 49, 50, 51, 12, 13, 15, 52, 53, 54, 55, 56, 57, 58, 59, 60, 61, 62, 63, 64, 65, 66, 67, 68, 69, 70, 71, 72, 73, 74, 75, 76, 77, 78, 79, 80, 81, 26, 82, 83, 84, 85, 86, 87, 88, 89, 90, 91, 92, 93, 94, 95, 96, 97, 98, 99, 100, 101, 109] (by decide +kernel) (by decide +kernel)
set_option maxRecDepth 20000 in
theorem gX7_doubtfulWith_X7_changeByCut : GoodIn wsX7_doubtfulWith (wsV RX7 222 RX7 yX7_changeByCut wsX7_changeByCut) := goodIn_app (goodIn_of _ (by decide +kernel)) ggX7_doubtfulWith_X7_changeByCut
theorem dX7_doubtfulWith_0 : decode cX7_doubtfulWith 0 = .ok (.iload_n 1, 1) := by decide +kernel
theorem dX7_doubtfulWith_1 : decode cX7_doubtfulWith 1 = .ok (.ifCond .lt 11, 3) := by decide +kernel
theorem dX7_doubtfulWith_4 : decode cX7_doubtfulWith 4 = .ok (.iload_n 1, 1) := by decide +kernel
theorem dX7_doubtfulWith_5 : decode cX7_doubtfulWith 5 = .ok (.aload_n 0, 1) := by decide +kernel
theorem dX7_doubtfulWith_6 : decode cX7_doubtfulWith 6 = .ok (.invokevirtual 92, 3) := by decide +kernel
theorem dX7_doubtfulWith_9 : decode cX7_doubtfulWith 9 = .ok (.if_icmp .le 13, 3) := by decide +kernel
theorem dX7_doubtfulWith_12 : decode cX7_doubtfulWith 12 = .ok (.new 109, 3) := by decide +kernel
theorem dX7_doubtfulWith_15 : decode cX7_doubtfulWith 15 = .ok (.dup, 1) := by decide +kernel
theorem dX7_doubtfulWith_16 : decode cX7_doubtfulWith 16 = .ok (.ldc 218, 2) := by decide +kernel
theorem dX7_doubtfulWith_18 : decode cX7_doubtfulWith 18 = .ok (.invokespecial 113, 3) := by decide +kernel
theorem dX7_doubtfulWith_21 : decode cX7_doubtfulWith 21 = .ok (.athrow, 1) := by decide +kernel
theorem dX7_doubtfulWith_22 : decode cX7_doubtfulWith 22 = .ok (.iload_n 2, 1) := by decide +kernel
theorem dX7_doubtfulWith_23 : decode cX7_doubtfulWith 23 = .ok (.bipush 30, 2) := by decide +kernel
theorem dX7_doubtfulWith_25 : decode cX7_doubtfulWith 25 = .ok (.if_icmp .eq 19, 3) := by decide +kernel
theorem dX7_doubtfulWith_28 : decode cX7_doubtfulWith 28 = .ok (.iload_n 2, 1) := by decide +kernel
theorem dX7_doubtfulWith_29 : decode cX7_doubtfulWith 29 = .ok (.bipush 31, 2) := by decide +kernel
theorem dX7_doubtfulWith_31 : decode cX7_doubtfulWith 31 = .ok (.if_icmp .eq 13, 3) := by decide +kernel
theorem dX7_doubtfulWith_34 : decode cX7_doubtfulWith 34 = .ok (.new 52, 3) := by decide +kernel
theorem dX7_doubtfulWith_37 : decode cX7_doubtfulWith 37 = .ok (.dup, 1) := by decide +kernel
theorem dX7_doubtfulWith_38 : decode cX7_doubtfulWith 38 = .ok (.ldc 220, 2) := by decide +kernel
theorem dX7_doubtfulWith_40 : decode cX7_doubtfulWith 40 = .ok (.invokespecial 56, 3) := by decide +kernel
theorem dX7_doubtfulWith_43 : decode cX7_doubtfulWith 43 = .ok (.athrow, 1) := by decide +kernel
theorem dX7_doubtfulWith_44 : decode cX7_doubtfulWith 44 = .ok (.aload_n 0, 1) := by decide +kernel
theorem dX7_doubtfulWith_45 : decode cX7_doubtfulWith 45 = .ok (.invokevirtual 215, 3) := by decide +kernel
theorem dX7_doubtfulWith_48 : decode cX7_doubtfulWith 48 = .ok (.aload_n 0, 1) := by decide +kernel
theorem dX7_doubtfulWith_49 : decode cX7_doubtfulWith 49 = .ok (.iload_n 1, 1) := by decide +kernel
theorem dX7_doubtfulWith_50 : decode cX7_doubtfulWith 50 = .ok (.invokevirtual 222, 3) := by decide +kernel
theorem dX7_doubtfulWith_53 : decode cX7_doubtfulWith 53 = .ok (.iadd, 1) := by decide +kernel
theorem dX7_doubtfulWith_54 : decode cX7_doubtfulWith 54 = .ok (.ireturn, 1) := by decide +kernel
set_option maxRecDepth 20000 in
theorem ggX7_bestRepair_X7_received : GoodIn wsX7_bestRepair wsX7_received := goodIn_r _ [5, 6, 7, 8, 9, 10, 11, 12, 75, 76, 77, 78, 79, 80, 81, 82, 83, 84, 85, 86, 87, 88] (by decide +kernel) (by decide +kernel)
set_option maxRecDepth 20000 in
theorem gX7_bestRepair_X7_received : GoodIn wsX7_bestRepair (wsV RX7 92 RX7 yX7_received wsX7_received) := goodIn_app (goodIn_of _ (by decide +kernel)) ggX7_bestRepair_X7_received
set_option maxRecDepth 20000 in
theorem ggX7_bestRepair_X7_changeByCut : GoodIn wsX7_bestRepair wsX7_changeByCut := goodIn_r _ [16, 6, 17, 18, 19, 20, 21, 22, 23, 24, 10, 25, 26, 27, 28, 29, 30, 12, 31, 32, 33, 34, 35, 36, 37, 8, 9, 11, 38, 39, 40, 41, 42, 43, 44, 45, 46, 47, 48, 49, 50, 51, 52, 53, 54, 55, 56, 57, 58, 59, 60, 61, 62, 63, 64, 65, 66, 67, 68, 69, 70, 71, 72, 73, 74, 75, 76, 77, 78, 79, 80, 81, 82, 83, 84, 85, 86, 87, 88, 89] (by decide +kernel) (by decide +kernel)
set_option maxRecDepth 20000 in
theorem gX7_bestRepair_X7_changeByCut : GoodIn wsX7_bestRepair (wsV RX7 222 RX7 yX7_changeByCut wsX7_changeByCut) := goodIn_app (goodIn_of _ (by decide +kernel)) ggX7_bestRepair_X7_changeByCut
theorem dX7_bestRepair_0 : decode cX7_bestRepair 0 = .ok (.iconst (-1), 1) := by decide +kernel
theorem dX7_bestRepair_1 : decode cX7_bestRepair 1 = .ok (.istore_n 1, 1) := by decide +kernel
theorem dX7_bestRepair_2 : decode cX7_bestRepair 2 = .ok (.iconst 0, 1) := by decide +kernel
theorem dX7_bestRepair_3 : decode cX7_bestRepair 3 = .ok (.istore_n 2, 1) := by decide +kernel
theorem dX7_bestRepair_4 : decode cX7_bestRepair 4 = .ok (.iconst 0, 1) := by decide +kernel
theorem dX7_bestRepair_5 : decode cX7_bestRepair 5 = .ok (.istore_n 3, 1) := by decide +kernel
theorem dX7_bestRepair_6 : decode cX7_bestRepair 6 = .ok (.iload_n 3, 1) := by decide +kernel
theorem dX7_bestRepair_7 : decode cX7_bestRepair 7 = .ok (.aload_n 0, 1) := by decide +kernel
theorem dX7_bestRepair_8 : decode cX7_bestRepair 8 = .ok (.invokevirtual 92, 3) := by decide +kernel
theorem dX7_bestRepair_11 : decode cX7_bestRepair 11 = .ok (.if_icmp .gt 29, 3) := by decide +kernel
theorem dX7_bestRepair_14 : decode cX7_bestRepair 14 = .ok (.aload_n 0, 1) := by decide +kernel
theorem dX7_bestRepair_15 : decode cX7_bestRepair 15 = .ok (.iload_n 3, 1) := by decide +kernel
theorem dX7_bestRepair_16 : decode cX7_bestRepair 16 = .ok (.invokevirtual 222, 3) := by decide +kernel
theorem dX7_bestRepair_19 : decode cX7_bestRepair 19 = .ok (.istore 4, 2) := by decide +kernel
theorem dX7_bestRepair_21 : decode cX7_bestRepair 21 = .ok (.iload 4, 2) := by decide +kernel
theorem dX7_bestRepair_23 : decode cX7_bestRepair 23 = .ok (.iload_n 2, 1) := by decide +kernel
theorem dX7_bestRepair_24 : decode cX7_bestRepair 24 = .ok (.if_icmp .ge 10, 3) := by decide +kernel
theorem dX7_bestRepair_27 : decode cX7_bestRepair 27 = .ok (.iload 4, 2) := by decide +kernel
theorem dX7_bestRepair_29 : decode cX7_bestRepair 29 = .ok (.istore_n 2, 1) := by decide +kernel
theorem dX7_bestRepair_30 : decode cX7_bestRepair 30 = .ok (.iconst 2, 1) := by decide +kernel
theorem dX7_bestRepair_31 : decode cX7_bestRepair 31 = .ok (.iload_n 3, 1) := by decide +kernel
theorem dX7_bestRepair_32 : decode cX7_bestRepair 32 = .ok (.imul, 1) := by decide +kernel
theorem dX7_bestRepair_33 : decode cX7_bestRepair 33 = .ok (.istore_n 1, 1) := by decide +kernel
theorem dX7_bestRepair_34 : decode cX7_bestRepair 34 = .ok (.iinc 3 1, 3) := by decide +kernel
theorem dX7_bestRepair_37 : decode cX7_bestRepair 37 = .ok (.goto (-31), 3) := by decide +kernel
theorem dX7_bestRepair_40 : decode cX7_bestRepair 40 = .ok (.iload_n 1, 1) := by decide +kernel
theorem dX7_bestRepair_41 : decode cX7_bestRepair 41 = .ok (.ireturn, 1) := by decide +kernel
set_option maxRecDepth 20000 in
theorem ggX7_changeByCut_X0_startOfSigns : GoodIn wsX7_changeByCut wsX0_startOfSigns := goodIn_r _ [6, 7, 8, 9, 10, 11, 12, 13, 14, 15, 16, 17, 18, 19, 5, 20, 77, 78] (by decide +kernel) (by decide +kernel)
set_option maxRecDepth 20000 in
theorem gX7_changeByCut_X0_startOfSigns : GoodIn wsX7_changeByCut (va_wsS RX7 225 yX0_startOfSigns wsX0_startOfSigns) := goodIn_app (goodIn_of _ (by decide +kernel)) ggX7_changeByCut_X0_startOfSigns
set_option maxRecDepth 20000 in
theorem ggX7_changeByCut_X0_endOfSigns : GoodIn wsX7_changeByCut wsX0_endOfSigns := goodIn_r _ [23, 24, 25, 26, 10, 27, 17, 7, 8, 9, 11, 12, 13, 14, 15, 16, 18, 19, 5, 20, 77, 78] (by decide +kernel) (by decide +kernel)
set_option maxRecDepth 20000 in
theorem gX7_changeByCut_X0_endOfSigns : GoodIn wsX7_changeByCut (va_wsS RX7 229 yX0_endOfSigns wsX0_endOfSigns) := goodIn_app (goodIn_of _ (by decide +kernel)) ggX7_changeByCut_X0_endOfSigns
set_option maxRecDepth 20000 in
theorem ggX7_changeByCut_X1_doubtOf : GoodIn wsX7_changeByCut wsX1_doubtOf := goodIn_r _ [32, 33, 34, 35, 31, 36, 37, 38, 39, 40, 41, 42, 43, 44, 45, 46, 47, 48, 8, 9, 10, 11, 12, 13, 14, 15, 16, 17, 49, 50, 51, 52, 53, 54, 55, 56, 57, 58, 59, 60, 61, 62, 63, 5, 64, 77, 78, 79] (by decide +kernel) (by decide +kernel)
set_option maxRecDepth 20000 in
theorem gX7_changeByCut_X1_doubtOf : GoodIn wsX7_changeByCut (wsV RX7 232 RX1 yX1_doubtOf wsX1_doubtOf) := goodIn_app (goodIn_of _ (by decide +kernel)) ggX7_changeByCut_X1_doubtOf
theorem dX7_changeByCut_0 : decode cX7_changeByCut 0 = .ok (.aload_n 0, 1) := by decide +kernel
theorem dX7_changeByCut_1 : decode cX7_changeByCut 1 = .ok (.getfield 21, 3) := by decide +kernel
theorem dX7_changeByCut_4 : decode cX7_changeByCut 4 = .ok (.getfield 126, 3) := by decide +kernel
theorem dX7_changeByCut_7 : decode cX7_changeByCut 7 = .ok (.astore_n 2, 1) := by decide +kernel
theorem dX7_changeByCut_8 : decode cX7_changeByCut 8 = .ok (.aload_n 2, 1) := by decide +kernel
theorem dX7_changeByCut_9 : decode cX7_changeByCut 9 = .ok (.iload_n 1, 1) := by decide +kernel
theorem dX7_changeByCut_10 : decode cX7_changeByCut 10 = .ok (.invokestatic 225, 3) := by decide +kernel
theorem dX7_changeByCut_13 : decode cX7_changeByCut 13 = .ok (.istore_n 3, 1) := by decide +kernel
theorem dX7_changeByCut_14 : decode cX7_changeByCut 14 = .ok (.aload_n 2, 1) := by decide +kernel
theorem dX7_changeByCut_15 : decode cX7_changeByCut 15 = .ok (.iload_n 1, 1) := by decide +kernel
theorem dX7_changeByCut_16 : decode cX7_changeByCut 16 = .ok (.invokestatic 229, 3) := by decide +kernel
theorem dX7_changeByCut_19 : decode cX7_changeByCut 19 = .ok (.istore 4, 2) := by decide +kernel
theorem dX7_changeByCut_21 : decode cX7_changeByCut 21 = .ok (.iload_n 3, 1) := by decide +kernel
theorem dX7_changeByCut_22 : decode cX7_changeByCut 22 = .ok (.iload_n 1, 1) := by decide +kernel
theorem dX7_changeByCut_23 : decode cX7_changeByCut 23 = .ok (.if_icmp .eq 9, 3) := by decide +kernel
theorem dX7_changeByCut_26 : decode cX7_changeByCut 26 = .ok (.iload 4, 2) := by decide +kernel
theorem dX7_changeByCut_28 : decode cX7_changeByCut 28 = .ok (.iload_n 1, 1) := by decide +kernel
theorem dX7_changeByCut_29 : decode cX7_changeByCut 29 = .ok (.if_icmp .ne 5, 3) := by decide +kernel
theorem dX7_changeByCut_32 : decode cX7_changeByCut 32 = .ok (.iconst 0, 1) := by decide +kernel
theorem dX7_changeByCut_33 : decode cX7_changeByCut 33 = .ok (.ireturn, 1) := by decide +kernel
theorem dX7_changeByCut_34 : decode cX7_changeByCut 34 = .ok (.aload_n 0, 1) := by decide +kernel
theorem dX7_changeByCut_35 : decode cX7_changeByCut 35 = .ok (.getfield 28, 3) := by decide +kernel
theorem dX7_changeByCut_38 : decode cX7_changeByCut 38 = .ok (.aload_n 2, 1) := by decide +kernel
theorem dX7_changeByCut_39 : decode cX7_changeByCut 39 = .ok (.iload_n 3, 1) := by decide +kernel
theorem dX7_changeByCut_40 : decode cX7_changeByCut 40 = .ok (.iload_n 1, 1) := by decide +kernel
theorem dX7_changeByCut_41 : decode cX7_changeByCut 41 = .ok (.invokevirtual 232, 3) := by decide +kernel
theorem dX7_changeByCut_44 : decode cX7_changeByCut 44 = .ok (.aload_n 0, 1) := by decide +kernel
theorem dX7_changeByCut_45 : decode cX7_changeByCut 45 = .ok (.getfield 28, 3) := by decide +kernel
theorem dX7_changeByCut_48 : decode cX7_changeByCut 48 = .ok (.aload_n 2, 1) := by decide +kernel
theorem dX7_changeByCut_49 : decode cX7_changeByCut 49 = .ok (.iload_n 1, 1) := by decide +kernel
theorem dX7_changeByCut_50 : decode cX7_changeByCut 50 = .ok (.iload 4, 2) := by decide +kernel
theorem dX7_changeByCut_52 : decode cX7_changeByCut 52 = .ok (.invokevirtual 232, 3) := by decide +kernel
theorem dX7_changeByCut_55 : decode cX7_changeByCut 55 = .ok (.iadd, 1) := by decide +kernel
theorem dX7_changeByCut_56 : decode cX7_changeByCut 56 = .ok (.aload_n 0, 1) := by decide +kernel
theorem dX7_changeByCut_57 : decode cX7_changeByCut 57 = .ok (.getfield 28, 3) := by decide +kernel
theorem dX7_changeByCut_60 : decode cX7_changeByCut 60 = .ok (.aload_n 2, 1) := by decide +kernel
theorem dX7_changeByCut_61 : decode cX7_changeByCut 61 = .ok (.iload_n 3, 1) := by decide +kernel
theorem dX7_changeByCut_62 : decode cX7_changeByCut 62 = .ok (.iload 4, 2) := by decide +kernel
theorem dX7_changeByCut_64 : decode cX7_changeByCut 64 = .ok (.invokevirtual 232, 3) := by decide +kernel
theorem dX7_changeByCut_67 : decode cX7_changeByCut 67 = .ok (.isub, 1) := by decide +kernel
theorem dX7_changeByCut_68 : decode cX7_changeByCut 68 = .ok (.ireturn, 1) := by decide +kernel
set_option maxRecDepth 20000 in
theorem ggX7_undo_X2_restore : GoodIn wsX7_undo wsX2_restore := goodIn_r _ [10, 11, 12, 13, 14, 9, 15, 16, 17, 18, 19, 20, 21, 22, 23, 24, 25, 26, 27, 28, 29, 30, 31, 32, 33, 34, 35, 36, 37, 38, 39, 40, 41, 42, 43, 44, 45, 46, 47, 48, 49, 50, 51, 52, 53, 54, 55, 194, 195, 196, 197, 198, 199, 200, 201, 202, 203, 204, 205, 206, 207, 208, 209, 210, 211, 212] (by decide +kernel) (by decide +kernel)
set_option maxRecDepth 20000 in
theorem gX7_undo_X2_restore : GoodIn wsX7_undo (wsV RX7 240 RX2 yX2_restore wsX2_restore) := goodIn_app (goodIn_of _ (by decide +kernel)) ggX7_undo_X2_restore
set_option maxRecDepth 20000 in
theorem ggX7_undo_X7_decodeAnew : GoodIn wsX7_undo wsX7_decodeAnew := goodIn_r _ [60, 61, 4, 5, 62, 63, 64, 65, 66, 67, 68, 69, 70, 71, 72, 73, 74, 75, 76, 77, 78, 36, 37, 32, 38, 34, 79, 80, 81, 82, 83, 40, 41, 42, 43, 44, 45, 46, 47, 84, 85, 86, 87, 88, 89, 90, 91, 92, 93, 94, 95, 96, 97, 98, 99, 100, 101, 102, 103, 104, 105, 106, 107, 108, 109, 110, 111, 112, 113, 114, 115, 116, 117, 39, 118, 119, 120, 121, 122, 123, 124, 125, 126, 127, 49, 50, 51, 128, 129, 130, 131, 132, 133, 134, 135, 136, 137, 138, 139, 140, 141, 142, 143, 144, 145, 146, 147, 148, 149, 150, 151, 152, 153, 154, 155, 156, 157, 158, 159, 160, 161, 162, 163, 164, 165, 166, 167, 168, 169, 170, 171, 172, 173, 174, 175, 176, 177, 178, 179, 180, 181, 182, 183, 184, 185, 186, 187, 188, 189, 190, 191, 192, 193, 196, 197, 198, 199, 200, 201, 202, 213, 214, 215, 216, 217, 218, 219, 211, 212, 210] (by decide +kernel) (by decide +kernel)
set_option maxRecDepth 20000 in
theorem gX7_undo_X7_decodeAnew : GoodIn wsX7_undo (wsV RX7 99 RX7 yX7_decodeAnew wsX7_decodeAnew) := goodIn_app (goodIn_of _ (by decide +kernel)) ggX7_undo_X7_decodeAnew
theorem dX7_undo_0 : decode cX7_undo 0 = .ok (.aload_n 0, 1) := by decide +kernel
theorem dX7_undo_1 : decode cX7_undo 1 = .ok (.getfield 42, 3) := by decide +kernel
theorem dX7_undo_4 : decode cX7_undo 4 = .ok (.getfield 236, 3) := by decide +kernel
theorem dX7_undo_7 : decode cX7_undo 7 = .ok (.ifCond .ne 13, 3) := by decide +kernel
theorem dX7_undo_10 : decode cX7_undo 10 = .ok (.new 63, 3) := by decide +kernel
theorem dX7_undo_13 : decode cX7_undo 13 = .ok (.dup, 1) := by decide +kernel
theorem dX7_undo_14 : decode cX7_undo 14 = .ok (.ldc 238, 2) := by decide +kernel
theorem dX7_undo_16 : decode cX7_undo 16 = .ok (.invokespecial 67, 3) := by decide +kernel
theorem dX7_undo_19 : decode cX7_undo 19 = .ok (.athrow, 1) := by decide +kernel
theorem dX7_undo_20 : decode cX7_undo 20 = .ok (.aload_n 0, 1) := by decide +kernel
theorem dX7_undo_21 : decode cX7_undo 21 = .ok (.getfield 42, 3) := by decide +kernel
theorem dX7_undo_24 : decode cX7_undo 24 = .ok (.aload_n 0, 1) := by decide +kernel
theorem dX7_undo_25 : decode cX7_undo 25 = .ok (.getfield 21, 3) := by decide +kernel
theorem dX7_undo_28 : decode cX7_undo 28 = .ok (.aload_n 0, 1) := by decide +kernel
theorem dX7_undo_29 : decode cX7_undo 29 = .ok (.getfield 28, 3) := by decide +kernel
theorem dX7_undo_32 : decode cX7_undo 32 = .ok (.invokevirtual 240, 3) := by decide +kernel
theorem dX7_undo_35 : decode cX7_undo 35 = .ok (.aload_n 0, 1) := by decide +kernel
theorem dX7_undo_36 : decode cX7_undo 36 = .ok (.invokevirtual 99, 3) := by decide +kernel
theorem dX7_undo_39 : decode cX7_undo 39 = .ok (.aload_n 0, 1) := by decide +kernel
theorem dX7_undo_40 : decode cX7_undo 40 = .ok (.getfield 42, 3) := by decide +kernel
theorem dX7_undo_43 : decode cX7_undo 43 = .ok (.getfield 236, 3) := by decide +kernel
theorem dX7_undo_46 : decode cX7_undo 46 = .ok (.ireturn, 1) := by decide +kernel
theorem dX7_savedStates_0 : decode cX7_savedStates 0 = .ok (.aload_n 0, 1) := by decide +kernel
theorem dX7_savedStates_1 : decode cX7_savedStates 1 = .ok (.getfield 42, 3) := by decide +kernel
theorem dX7_savedStates_4 : decode cX7_savedStates 4 = .ok (.getfield 236, 3) := by decide +kernel
theorem dX7_savedStates_7 : decode cX7_savedStates 7 = .ok (.ireturn, 1) := by decide +kernel
set_option maxRecDepth 20000 in
theorem ggX7_digest_X7_sent : GoodIn wsX7_digest wsX7_sent := goodIn_r _ [10, 3, 11, 12, 13, 14, 15, 16, 155, 156, 157, 158, 159, 160, 161, 162, 163, 164, 165, 166, 174, 175] (by decide +kernel) (by decide +kernel)
set_option maxRecDepth 20000 in
theorem gX7_digest_X7_sent : GoodIn wsX7_digest (wsV RX7 80 RX7 yX7_sent wsX7_sent) := goodIn_app (goodIn_of _ (by decide +kernel)) ggX7_digest_X7_sent
set_option maxRecDepth 20000 in
theorem ggX7_digest_X7_received : GoodIn wsX7_digest wsX7_received := goodIn_r _ [20, 3, 11, 12, 13, 14, 15, 16, 155, 156, 157, 158, 159, 160, 161, 162, 163, 164, 165, 166, 174, 175] (by decide +kernel) (by decide +kernel)
set_option maxRecDepth 20000 in
theorem gX7_digest_X7_received : GoodIn wsX7_digest (wsV RX7 92 RX7 yX7_received wsX7_received) := goodIn_app (goodIn_of _ (by decide +kernel)) ggX7_digest_X7_received
set_option maxRecDepth 20000 in
theorem ggX7_digest_X7_senderShift : GoodIn wsX7_digest wsX7_senderShift := goodIn_r _ [24, 3, 155, 156, 157, 158, 159, 160, 161, 162, 163, 164, 165, 166] (by decide +kernel) (by decide +kernel)
set_option maxRecDepth 20000 in
theorem gX7_digest_X7_senderShift : GoodIn wsX7_digest (wsV RX7 247 RX7 yX7_senderShift wsX7_senderShift) := goodIn_app (goodIn_of _ (by decide +kernel)) ggX7_digest_X7_senderShift
set_option maxRecDepth 20000 in
theorem ggX7_digest_X7_faults : GoodIn wsX7_digest wsX7_faults := goodIn_r _ [28, 3, 29, 30, 31, 14, 32, 16, 33, 34, 35, 36, 37, 38, 39, 40, 41, 155, 156, 157, 158, 159, 160, 161, 162, 163, 164, 165, 166, 174, 175] (by decide +kernel) (by decide +kernel)
set_option maxRecDepth 20000 in
theorem gX7_digest_X7_faults : GoodIn wsX7_digest (wsV RX7 250 RX7 yX7_faults wsX7_faults) := goodIn_app (goodIn_of _ (by decide +kernel)) ggX7_digest_X7_faults
set_option maxRecDepth 20000 in
theorem ggX7_digest_X7_words : GoodIn wsX7_digest wsX7_words := goodIn_r _ [45, 5, 11, 12, 13, 14, 15, 16, 155, 156, 157, 158, 159, 176, 174, 175] (by decide +kernel) (by decide +kernel)
set_option maxRecDepth 20000 in
theorem gX7_digest_X7_words : GoodIn wsX7_digest (wsV RX7 153 RX7 yX7_words wsX7_words) := goodIn_app (goodIn_of _ (by decide +kernel)) ggX7_digest_X7_words
set_option maxRecDepth 20000 in
theorem ggX7_digest_X7_printedLength : GoodIn wsX7_digest wsX7_printedLength := goodIn_r _ [49, 4, 11, 12, 13, 14, 15, 16, 155, 156, 157, 158, 159, 167, 168, 169, 170, 171, 172, 173, 174, 175] (by decide +kernel) (by decide +kernel)
set_option maxRecDepth 20000 in
theorem gX7_digest_X7_printedLength : GoodIn wsX7_digest (wsV RX7 253 RX7 yX7_printedLength wsX7_printedLength) := goodIn_app (goodIn_of _ (by decide +kernel)) ggX7_digest_X7_printedLength
set_option maxRecDepth 20000 in
theorem ggX7_digest_X7_segments : GoodIn wsX7_digest wsX7_segments := goodIn_r _ [53, 4, 11, 12, 13, 14, 15, 16, 155, 156, 157, 158, 159, 167, 168, 169, 170, 171, 172, 173, 174, 175] (by decide +kernel) (by decide +kernel)
set_option maxRecDepth 20000 in
theorem gX7_digest_X7_segments : GoodIn wsX7_digest (wsV RX7 212 RX7 yX7_segments wsX7_segments) := goodIn_app (goodIn_of _ (by decide +kernel)) ggX7_digest_X7_segments
set_option maxRecDepth 20000 in
theorem ggX7_digest_X7_guesses : GoodIn wsX7_digest wsX7_guesses := goodIn_r _ [57, 4, 29, 30, 31, 14, 32, 16, 33, 34, 35, 36, 37, 38, 39, 40, 41, 155, 156, 157, 158, 159, 167, 168, 169, 170, 171, 172, 173, 174, 175] (by decide +kernel) (by decide +kernel)
set_option maxRecDepth 20000 in
theorem gX7_digest_X7_guesses : GoodIn wsX7_digest (wsV RX7 256 RX7 yX7_guesses wsX7_guesses) := goodIn_app (goodIn_of _ (by decide +kernel)) ggX7_digest_X7_guesses
set_option maxRecDepth 20000 in
theorem ggX7_digest_X7_doubtful : GoodIn wsX7_digest wsX7_doubtful := goodIn_r _ [61, 4, 29, 30, 31, 14, 32, 16, 33, 34, 35, 36, 37, 38, 39, 40, 41, 155, 156, 157, 158, 159, 167, 168, 169, 170, 171, 172, 173, 174, 175] (by decide +kernel) (by decide +kernel)
set_option maxRecDepth 20000 in
theorem gX7_digest_X7_doubtful : GoodIn wsX7_digest (wsV RX7 215 RX7 yX7_doubtful wsX7_doubtful) := goodIn_app (goodIn_of _ (by decide +kernel)) ggX7_digest_X7_doubtful
set_option maxRecDepth 20000 in
theorem ggX7_digest_X7_bells : GoodIn wsX7_digest wsX7_bells := goodIn_r _ [65, 4, 155, 156, 157, 158, 159, 167, 168, 169, 170, 171, 172, 173] (by decide +kernel) (by decide +kernel)
set_option maxRecDepth 20000 in
theorem gX7_digest_X7_bells : GoodIn wsX7_digest (wsV RX7 259 RX7 yX7_bells wsX7_bells) := goodIn_app (goodIn_of _ (by decide +kernel)) ggX7_digest_X7_bells
set_option maxRecDepth 20000 in
theorem ggX7_digest_X7_questions : GoodIn wsX7_digest wsX7_questions := goodIn_r _ [69, 4, 155, 156, 157, 158, 159, 167, 168, 169, 170, 171, 172, 173] (by decide +kernel) (by decide +kernel)
set_option maxRecDepth 20000 in
theorem gX7_digest_X7_questions : GoodIn wsX7_digest (wsV RX7 262 RX7 yX7_questions wsX7_questions) := goodIn_app (goodIn_of _ (by decide +kernel)) ggX7_digest_X7_questions
set_option maxRecDepth 20000 in
theorem ggX7_digest_X7_receiverShift : GoodIn wsX7_digest wsX7_receiverShift := goodIn_r _ [73, 4, 155, 156, 157, 158, 159, 167, 168, 169, 170, 171, 172, 173] (by decide +kernel) (by decide +kernel)
set_option maxRecDepth 20000 in
theorem gX7_digest_X7_receiverShift : GoodIn wsX7_digest (wsV RX7 265 RX7 yX7_receiverShift wsX7_receiverShift) := goodIn_app (goodIn_of _ (by decide +kernel)) ggX7_digest_X7_receiverShift
set_option maxRecDepth 20000 in
theorem ggX7_digest_X7_wrongCharacters : GoodIn wsX7_digest wsX7_wrongCharacters := goodIn_r _ [77, 4, 3, 78, 79, 80, 81, 82, 83, 84, 11, 12, 13, 14, 15, 16, 85, 34, 35, 36, 37, 38, 39, 40, 41, 155, 156, 157, 158, 159, 167, 168, 169, 170, 171, 172, 173, 160, 161, 162, 163, 164, 165, 166, 174, 175] (by decide +kernel) (by decide +kernel)
set_option maxRecDepth 20000 in
theorem gX7_digest_X7_wrongCharacters : GoodIn wsX7_digest (wsV RX7 268 RX7 yX7_wrongCharacters wsX7_wrongCharacters) := goodIn_app (goodIn_of _ (by decide +kernel)) ggX7_digest_X7_wrongCharacters
set_option maxRecDepth 20000 in
theorem ggX7_digest_X7_bestRepair : GoodIn wsX7_digest wsX7_bestRepair := goodIn_r _ [89, 17, 18, 19, 9, 20, 3, 11, 12, 13, 14, 15, 16, 90, 91, 92, 93, 5, 94, 95, 96, 97, 98, 34, 35, 36, 37, 38, 39, 40, 41, 99, 100, 101, 102, 103, 104, 105, 106, 107, 108, 109, 110, 111, 112, 113, 114, 115, 116, 117, 118, 119, 120, 121, 122, 123, 124, 125, 126, 127, 128, 129, 130, 131, 132, 133, 134, 135, 33, 136, 137, 138, 139, 140, 141, 155, 156, 157, 158, 159, 160, 161, 162, 163, 164, 165, 166, 174, 175, 176] (by decide +kernel) (by decide +kernel)
set_option maxRecDepth 20000 in
theorem gX7_digest_X7_bestRepair : GoodIn wsX7_digest (wsV RX7 271 RX7 yX7_bestRepair wsX7_bestRepair) := goodIn_app (goodIn_of _ (by decide +kernel)) ggX7_digest_X7_bestRepair
set_option maxRecDepth 20000 in
theorem ggX7_digest_X5_hashOnto : GoodIn wsX7_digest wsX5_hashOnto := goodIn_r _ [145, 16, 146, 33, 34, 35, 14, 36, 37, 38, 39, 40, 41, 174, 175] (by decide +kernel) (by decide +kernel)
set_option maxRecDepth 20000 in
theorem gX7_digest_X5_hashOnto : GoodIn wsX7_digest (wsV RX7 274 RX5 yX5_hashOnto wsX5_hashOnto) := goodIn_app (goodIn_of _ (by decide +kernel)) ggX7_digest_X5_hashOnto
set_option maxRecDepth 20000 in
theorem ggX7_digest_X5_at : GoodIn wsX7_digest wsX5_at := goodIn_r _ [36, 37, 38, 39, 40, 14, 41, 16, 174, 175] (by decide +kernel) (by decide +kernel)
set_option maxRecDepth 20000 in
theorem gX7_digest_X5_at : GoodIn wsX7_digest (wsV RX7 116 RX5 yX5_at wsX5_at) := goodIn_app (goodIn_of _ (by decide +kernel)) ggX7_digest_X5_at
set_option maxRecDepth 20000 in
theorem ggX7_digest_X1_lengthOf : GoodIn wsX7_digest wsX1_lengthOf := goodIn_r _ [150, 151, 152, 153, 109, 154, 131, 126, 34, 35, 14, 36, 37, 38, 39, 40, 41, 16, 176, 174, 175] (by decide +kernel) (by decide +kernel)
set_option maxRecDepth 20000 in
theorem gX7_digest_X1_lengthOf : GoodIn wsX7_digest (wsV RX7 163 RX1 yX1_lengthOf wsX1_lengthOf) := goodIn_app (goodIn_of _ (by decide +kernel)) ggX7_digest_X1_lengthOf
set_option maxRecDepth 20000 in
theorem ggX7_digest_X5_count : GoodIn wsX7_digest wsX5_count := goodIn_r _ [32, 16, 33, 34, 35, 14, 36, 37, 38, 39, 40, 41, 174, 175] (by decide +kernel) (by decide +kernel)
set_option maxRecDepth 20000 in
theorem gX7_digest_X5_count : GoodIn wsX7_digest (wsV RX7 137 RX5 yX5_count wsX5_count) := goodIn_app (goodIn_of _ (by decide +kernel)) ggX7_digest_X5_count
theorem dX7_digest_0 : decode cX7_digest 0 = .ok (.ldc2_w 243, 3) := by decide +kernel
theorem dX7_digest_3 : decode cX7_digest 3 = .ok (.lstore_n 1, 1) := by decide +kernel
theorem dX7_digest_4 : decode cX7_digest 4 = .ok (.ldc2_w 245, 3) := by decide +kernel
theorem dX7_digest_7 : decode cX7_digest 7 = .ok (.lload_n 1, 1) := by decide +kernel
theorem dX7_digest_8 : decode cX7_digest 8 = .ok (.lmul, 1) := by decide +kernel
theorem dX7_digest_9 : decode cX7_digest 9 = .ok (.aload_n 0, 1) := by decide +kernel
theorem dX7_digest_10 : decode cX7_digest 10 = .ok (.invokevirtual 80, 3) := by decide +kernel
theorem dX7_digest_13 : decode cX7_digest 13 = .ok (.i2l, 1) := by decide +kernel
theorem dX7_digest_14 : decode cX7_digest 14 = .ok (.ladd, 1) := by decide +kernel
theorem dX7_digest_15 : decode cX7_digest 15 = .ok (.lstore_n 1, 1) := by decide +kernel
theorem dX7_digest_16 : decode cX7_digest 16 = .ok (.ldc2_w 245, 3) := by decide +kernel
theorem dX7_digest_19 : decode cX7_digest 19 = .ok (.lload_n 1, 1) := by decide +kernel
theorem dX7_digest_20 : decode cX7_digest 20 = .ok (.lmul, 1) := by decide +kernel
theorem dX7_digest_21 : decode cX7_digest 21 = .ok (.aload_n 0, 1) := by decide +kernel
theorem dX7_digest_22 : decode cX7_digest 22 = .ok (.invokevirtual 92, 3) := by decide +kernel
theorem dX7_digest_25 : decode cX7_digest 25 = .ok (.i2l, 1) := by decide +kernel
theorem dX7_digest_26 : decode cX7_digest 26 = .ok (.ladd, 1) := by decide +kernel
theorem dX7_digest_27 : decode cX7_digest 27 = .ok (.lstore_n 1, 1) := by decide +kernel
theorem dX7_digest_28 : decode cX7_digest 28 = .ok (.ldc2_w 245, 3) := by decide +kernel
theorem dX7_digest_31 : decode cX7_digest 31 = .ok (.lload_n 1, 1) := by decide +kernel
theorem dX7_digest_32 : decode cX7_digest 32 = .ok (.lmul, 1) := by decide +kernel
theorem dX7_digest_33 : decode cX7_digest 33 = .ok (.aload_n 0, 1) := by decide +kernel
theorem dX7_digest_34 : decode cX7_digest 34 = .ok (.invokevirtual 247, 3) := by decide +kernel
theorem dX7_digest_37 : decode cX7_digest 37 = .ok (.i2l, 1) := by decide +kernel
theorem dX7_digest_38 : decode cX7_digest 38 = .ok (.ladd, 1) := by decide +kernel
theorem dX7_digest_39 : decode cX7_digest 39 = .ok (.lstore_n 1, 1) := by decide +kernel
theorem dX7_digest_40 : decode cX7_digest 40 = .ok (.ldc2_w 245, 3) := by decide +kernel
theorem dX7_digest_43 : decode cX7_digest 43 = .ok (.lload_n 1, 1) := by decide +kernel
theorem dX7_digest_44 : decode cX7_digest 44 = .ok (.lmul, 1) := by decide +kernel
theorem dX7_digest_45 : decode cX7_digest 45 = .ok (.aload_n 0, 1) := by decide +kernel
theorem dX7_digest_46 : decode cX7_digest 46 = .ok (.invokevirtual 250, 3) := by decide +kernel
theorem dX7_digest_49 : decode cX7_digest 49 = .ok (.i2l, 1) := by decide +kernel
theorem dX7_digest_50 : decode cX7_digest 50 = .ok (.ladd, 1) := by decide +kernel
theorem dX7_digest_51 : decode cX7_digest 51 = .ok (.lstore_n 1, 1) := by decide +kernel
theorem dX7_digest_52 : decode cX7_digest 52 = .ok (.ldc2_w 245, 3) := by decide +kernel
theorem dX7_digest_55 : decode cX7_digest 55 = .ok (.lload_n 1, 1) := by decide +kernel
theorem dX7_digest_56 : decode cX7_digest 56 = .ok (.lmul, 1) := by decide +kernel
theorem dX7_digest_57 : decode cX7_digest 57 = .ok (.aload_n 0, 1) := by decide +kernel
theorem dX7_digest_58 : decode cX7_digest 58 = .ok (.invokevirtual 153, 3) := by decide +kernel
theorem dX7_digest_61 : decode cX7_digest 61 = .ok (.i2l, 1) := by decide +kernel
theorem dX7_digest_62 : decode cX7_digest 62 = .ok (.ladd, 1) := by decide +kernel
theorem dX7_digest_63 : decode cX7_digest 63 = .ok (.lstore_n 1, 1) := by decide +kernel
theorem dX7_digest_64 : decode cX7_digest 64 = .ok (.ldc2_w 245, 3) := by decide +kernel
theorem dX7_digest_67 : decode cX7_digest 67 = .ok (.lload_n 1, 1) := by decide +kernel
theorem dX7_digest_68 : decode cX7_digest 68 = .ok (.lmul, 1) := by decide +kernel
theorem dX7_digest_69 : decode cX7_digest 69 = .ok (.aload_n 0, 1) := by decide +kernel
theorem dX7_digest_70 : decode cX7_digest 70 = .ok (.invokevirtual 253, 3) := by decide +kernel
theorem dX7_digest_73 : decode cX7_digest 73 = .ok (.i2l, 1) := by decide +kernel
theorem dX7_digest_74 : decode cX7_digest 74 = .ok (.ladd, 1) := by decide +kernel
theorem dX7_digest_75 : decode cX7_digest 75 = .ok (.lstore_n 1, 1) := by decide +kernel
theorem dX7_digest_76 : decode cX7_digest 76 = .ok (.ldc2_w 245, 3) := by decide +kernel
theorem dX7_digest_79 : decode cX7_digest 79 = .ok (.lload_n 1, 1) := by decide +kernel
theorem dX7_digest_80 : decode cX7_digest 80 = .ok (.lmul, 1) := by decide +kernel
theorem dX7_digest_81 : decode cX7_digest 81 = .ok (.aload_n 0, 1) := by decide +kernel
theorem dX7_digest_82 : decode cX7_digest 82 = .ok (.invokevirtual 212, 3) := by decide +kernel
theorem dX7_digest_85 : decode cX7_digest 85 = .ok (.i2l, 1) := by decide +kernel
theorem dX7_digest_86 : decode cX7_digest 86 = .ok (.ladd, 1) := by decide +kernel
theorem dX7_digest_87 : decode cX7_digest 87 = .ok (.lstore_n 1, 1) := by decide +kernel
theorem dX7_digest_88 : decode cX7_digest 88 = .ok (.ldc2_w 245, 3) := by decide +kernel
theorem dX7_digest_91 : decode cX7_digest 91 = .ok (.lload_n 1, 1) := by decide +kernel
theorem dX7_digest_92 : decode cX7_digest 92 = .ok (.lmul, 1) := by decide +kernel
theorem dX7_digest_93 : decode cX7_digest 93 = .ok (.aload_n 0, 1) := by decide +kernel
theorem dX7_digest_94 : decode cX7_digest 94 = .ok (.invokevirtual 256, 3) := by decide +kernel
theorem dX7_digest_97 : decode cX7_digest 97 = .ok (.i2l, 1) := by decide +kernel
theorem dX7_digest_98 : decode cX7_digest 98 = .ok (.ladd, 1) := by decide +kernel
theorem dX7_digest_99 : decode cX7_digest 99 = .ok (.lstore_n 1, 1) := by decide +kernel
theorem dX7_digest_100 : decode cX7_digest 100 = .ok (.ldc2_w 245, 3) := by decide +kernel
theorem dX7_digest_103 : decode cX7_digest 103 = .ok (.lload_n 1, 1) := by decide +kernel
theorem dX7_digest_104 : decode cX7_digest 104 = .ok (.lmul, 1) := by decide +kernel
theorem dX7_digest_105 : decode cX7_digest 105 = .ok (.aload_n 0, 1) := by decide +kernel
theorem dX7_digest_106 : decode cX7_digest 106 = .ok (.invokevirtual 215, 3) := by decide +kernel
theorem dX7_digest_109 : decode cX7_digest 109 = .ok (.i2l, 1) := by decide +kernel
theorem dX7_digest_110 : decode cX7_digest 110 = .ok (.ladd, 1) := by decide +kernel
theorem dX7_digest_111 : decode cX7_digest 111 = .ok (.lstore_n 1, 1) := by decide +kernel
theorem dX7_digest_112 : decode cX7_digest 112 = .ok (.ldc2_w 245, 3) := by decide +kernel
theorem dX7_digest_115 : decode cX7_digest 115 = .ok (.lload_n 1, 1) := by decide +kernel
theorem dX7_digest_116 : decode cX7_digest 116 = .ok (.lmul, 1) := by decide +kernel
theorem dX7_digest_117 : decode cX7_digest 117 = .ok (.aload_n 0, 1) := by decide +kernel
theorem dX7_digest_118 : decode cX7_digest 118 = .ok (.invokevirtual 259, 3) := by decide +kernel
theorem dX7_digest_121 : decode cX7_digest 121 = .ok (.i2l, 1) := by decide +kernel
theorem dX7_digest_122 : decode cX7_digest 122 = .ok (.ladd, 1) := by decide +kernel
theorem dX7_digest_123 : decode cX7_digest 123 = .ok (.lstore_n 1, 1) := by decide +kernel
theorem dX7_digest_124 : decode cX7_digest 124 = .ok (.ldc2_w 245, 3) := by decide +kernel
theorem dX7_digest_127 : decode cX7_digest 127 = .ok (.lload_n 1, 1) := by decide +kernel
theorem dX7_digest_128 : decode cX7_digest 128 = .ok (.lmul, 1) := by decide +kernel
theorem dX7_digest_129 : decode cX7_digest 129 = .ok (.aload_n 0, 1) := by decide +kernel
theorem dX7_digest_130 : decode cX7_digest 130 = .ok (.invokevirtual 262, 3) := by decide +kernel
theorem dX7_digest_133 : decode cX7_digest 133 = .ok (.i2l, 1) := by decide +kernel
theorem dX7_digest_134 : decode cX7_digest 134 = .ok (.ladd, 1) := by decide +kernel
theorem dX7_digest_135 : decode cX7_digest 135 = .ok (.lstore_n 1, 1) := by decide +kernel
theorem dX7_digest_136 : decode cX7_digest 136 = .ok (.ldc2_w 245, 3) := by decide +kernel
theorem dX7_digest_139 : decode cX7_digest 139 = .ok (.lload_n 1, 1) := by decide +kernel
theorem dX7_digest_140 : decode cX7_digest 140 = .ok (.lmul, 1) := by decide +kernel
theorem dX7_digest_141 : decode cX7_digest 141 = .ok (.aload_n 0, 1) := by decide +kernel
theorem dX7_digest_142 : decode cX7_digest 142 = .ok (.invokevirtual 265, 3) := by decide +kernel
theorem dX7_digest_145 : decode cX7_digest 145 = .ok (.i2l, 1) := by decide +kernel
theorem dX7_digest_146 : decode cX7_digest 146 = .ok (.ladd, 1) := by decide +kernel
theorem dX7_digest_147 : decode cX7_digest 147 = .ok (.lstore_n 1, 1) := by decide +kernel
theorem dX7_digest_148 : decode cX7_digest 148 = .ok (.ldc2_w 245, 3) := by decide +kernel
theorem dX7_digest_151 : decode cX7_digest 151 = .ok (.lload_n 1, 1) := by decide +kernel
theorem dX7_digest_152 : decode cX7_digest 152 = .ok (.lmul, 1) := by decide +kernel
theorem dX7_digest_153 : decode cX7_digest 153 = .ok (.aload_n 0, 1) := by decide +kernel
theorem dX7_digest_154 : decode cX7_digest 154 = .ok (.invokevirtual 268, 3) := by decide +kernel
theorem dX7_digest_157 : decode cX7_digest 157 = .ok (.i2l, 1) := by decide +kernel
theorem dX7_digest_158 : decode cX7_digest 158 = .ok (.ladd, 1) := by decide +kernel
theorem dX7_digest_159 : decode cX7_digest 159 = .ok (.lstore_n 1, 1) := by decide +kernel
theorem dX7_digest_160 : decode cX7_digest 160 = .ok (.ldc2_w 245, 3) := by decide +kernel
theorem dX7_digest_163 : decode cX7_digest 163 = .ok (.lload_n 1, 1) := by decide +kernel
theorem dX7_digest_164 : decode cX7_digest 164 = .ok (.lmul, 1) := by decide +kernel
theorem dX7_digest_165 : decode cX7_digest 165 = .ok (.aload_n 0, 1) := by decide +kernel
theorem dX7_digest_166 : decode cX7_digest 166 = .ok (.invokevirtual 271, 3) := by decide +kernel
theorem dX7_digest_169 : decode cX7_digest 169 = .ok (.i2l, 1) := by decide +kernel
theorem dX7_digest_170 : decode cX7_digest 170 = .ok (.ladd, 1) := by decide +kernel
theorem dX7_digest_171 : decode cX7_digest 171 = .ok (.lstore_n 1, 1) := by decide +kernel
theorem dX7_digest_172 : decode cX7_digest 172 = .ok (.aload_n 0, 1) := by decide +kernel
theorem dX7_digest_173 : decode cX7_digest 173 = .ok (.getfield 21, 3) := by decide +kernel
theorem dX7_digest_176 : decode cX7_digest 176 = .ok (.getfield 126, 3) := by decide +kernel
theorem dX7_digest_179 : decode cX7_digest 179 = .ok (.lload_n 1, 1) := by decide +kernel
theorem dX7_digest_180 : decode cX7_digest 180 = .ok (.invokevirtual 274, 3) := by decide +kernel
theorem dX7_digest_183 : decode cX7_digest 183 = .ok (.lstore_n 1, 1) := by decide +kernel
theorem dX7_digest_184 : decode cX7_digest 184 = .ok (.aload_n 0, 1) := by decide +kernel
theorem dX7_digest_185 : decode cX7_digest 185 = .ok (.getfield 35, 3) := by decide +kernel
theorem dX7_digest_188 : decode cX7_digest 188 = .ok (.getfield 181, 3) := by decide +kernel
theorem dX7_digest_191 : decode cX7_digest 191 = .ok (.lload_n 1, 1) := by decide +kernel
theorem dX7_digest_192 : decode cX7_digest 192 = .ok (.invokevirtual 274, 3) := by decide +kernel
theorem dX7_digest_195 : decode cX7_digest 195 = .ok (.lstore_n 1, 1) := by decide +kernel
theorem dX7_digest_196 : decode cX7_digest 196 = .ok (.iconst 0, 1) := by decide +kernel
theorem dX7_digest_197 : decode cX7_digest 197 = .ok (.istore_n 3, 1) := by decide +kernel
theorem dX7_digest_198 : decode cX7_digest 198 = .ok (.iload_n 3, 1) := by decide +kernel
theorem dX7_digest_199 : decode cX7_digest 199 = .ok (.aload_n 0, 1) := by decide +kernel
theorem dX7_digest_200 : decode cX7_digest 200 = .ok (.invokevirtual 212, 3) := by decide +kernel
theorem dX7_digest_203 : decode cX7_digest 203 = .ok (.if_icmp .ge 47, 3) := by decide +kernel
theorem dX7_digest_206 : decode cX7_digest 206 = .ok (.ldc2_w 245, 3) := by decide +kernel
theorem dX7_digest_209 : decode cX7_digest 209 = .ok (.lload_n 1, 1) := by decide +kernel
theorem dX7_digest_210 : decode cX7_digest 210 = .ok (.lmul, 1) := by decide +kernel
theorem dX7_digest_211 : decode cX7_digest 211 = .ok (.aload_n 0, 1) := by decide +kernel
theorem dX7_digest_212 : decode cX7_digest 212 = .ok (.getfield 35, 3) := by decide +kernel
theorem dX7_digest_215 : decode cX7_digest 215 = .ok (.getfield 189, 3) := by decide +kernel
theorem dX7_digest_218 : decode cX7_digest 218 = .ok (.iload_n 3, 1) := by decide +kernel
theorem dX7_digest_219 : decode cX7_digest 219 = .ok (.invokevirtual 116, 3) := by decide +kernel
theorem dX7_digest_222 : decode cX7_digest 222 = .ok (.i2l, 1) := by decide +kernel
theorem dX7_digest_223 : decode cX7_digest 223 = .ok (.ladd, 1) := by decide +kernel
theorem dX7_digest_224 : decode cX7_digest 224 = .ok (.lstore_n 1, 1) := by decide +kernel
theorem dX7_digest_225 : decode cX7_digest 225 = .ok (.ldc2_w 245, 3) := by decide +kernel
theorem dX7_digest_228 : decode cX7_digest 228 = .ok (.lload_n 1, 1) := by decide +kernel
theorem dX7_digest_229 : decode cX7_digest 229 = .ok (.lmul, 1) := by decide +kernel
theorem dX7_digest_230 : decode cX7_digest 230 = .ok (.aload_n 0, 1) := by decide +kernel
theorem dX7_digest_231 : decode cX7_digest 231 = .ok (.getfield 35, 3) := by decide +kernel
theorem dX7_digest_234 : decode cX7_digest 234 = .ok (.getfield 186, 3) := by decide +kernel
theorem dX7_digest_237 : decode cX7_digest 237 = .ok (.iload_n 3, 1) := by decide +kernel
theorem dX7_digest_238 : decode cX7_digest 238 = .ok (.invokevirtual 116, 3) := by decide +kernel
theorem dX7_digest_241 : decode cX7_digest 241 = .ok (.i2l, 1) := by decide +kernel
theorem dX7_digest_242 : decode cX7_digest 242 = .ok (.ladd, 1) := by decide +kernel
theorem dX7_digest_243 : decode cX7_digest 243 = .ok (.lstore_n 1, 1) := by decide +kernel
theorem dX7_digest_244 : decode cX7_digest 244 = .ok (.iinc 3 1, 3) := by decide +kernel
theorem dX7_digest_247 : decode cX7_digest 247 = .ok (.goto (-49), 3) := by decide +kernel
theorem dX7_digest_250 : decode cX7_digest 250 = .ok (.iconst 0, 1) := by decide +kernel
theorem dX7_digest_251 : decode cX7_digest 251 = .ok (.istore_n 3, 1) := by decide +kernel
theorem dX7_digest_252 : decode cX7_digest 252 = .ok (.iload_n 3, 1) := by decide +kernel
theorem dX7_digest_253 : decode cX7_digest 253 = .ok (.aload_n 0, 1) := by decide +kernel
theorem dX7_digest_254 : decode cX7_digest 254 = .ok (.invokevirtual 153, 3) := by decide +kernel
theorem dX7_digest_257 : decode cX7_digest 257 = .ok (.if_icmp .ge 44, 3) := by decide +kernel
theorem dX7_digest_260 : decode cX7_digest 260 = .ok (.ldc2_w 245, 3) := by decide +kernel
theorem dX7_digest_263 : decode cX7_digest 263 = .ok (.lload_n 1, 1) := by decide +kernel
theorem dX7_digest_264 : decode cX7_digest 264 = .ok (.lmul, 1) := by decide +kernel
theorem dX7_digest_265 : decode cX7_digest 265 = .ok (.aload_n 0, 1) := by decide +kernel
theorem dX7_digest_266 : decode cX7_digest 266 = .ok (.getfield 28, 3) := by decide +kernel
theorem dX7_digest_269 : decode cX7_digest 269 = .ok (.iload_n 3, 1) := by decide +kernel
theorem dX7_digest_270 : decode cX7_digest 270 = .ok (.invokevirtual 163, 3) := by decide +kernel
theorem dX7_digest_273 : decode cX7_digest 273 = .ok (.i2l, 1) := by decide +kernel
theorem dX7_digest_274 : decode cX7_digest 274 = .ok (.ladd, 1) := by decide +kernel
theorem dX7_digest_275 : decode cX7_digest 275 = .ok (.lstore_n 1, 1) := by decide +kernel
theorem dX7_digest_276 : decode cX7_digest 276 = .ok (.ldc2_w 245, 3) := by decide +kernel
theorem dX7_digest_279 : decode cX7_digest 279 = .ok (.lload_n 1, 1) := by decide +kernel
theorem dX7_digest_280 : decode cX7_digest 280 = .ok (.lmul, 1) := by decide +kernel
theorem dX7_digest_281 : decode cX7_digest 281 = .ok (.aload_n 0, 1) := by decide +kernel
theorem dX7_digest_282 : decode cX7_digest 282 = .ok (.getfield 35, 3) := by decide +kernel
theorem dX7_digest_285 : decode cX7_digest 285 = .ok (.getfield 180, 3) := by decide +kernel
theorem dX7_digest_288 : decode cX7_digest 288 = .ok (.iload_n 3, 1) := by decide +kernel
theorem dX7_digest_289 : decode cX7_digest 289 = .ok (.invokevirtual 137, 3) := by decide +kernel
theorem dX7_digest_292 : decode cX7_digest 292 = .ok (.i2l, 1) := by decide +kernel
theorem dX7_digest_293 : decode cX7_digest 293 = .ok (.ladd, 1) := by decide +kernel
theorem dX7_digest_294 : decode cX7_digest 294 = .ok (.lstore_n 1, 1) := by decide +kernel
theorem dX7_digest_295 : decode cX7_digest 295 = .ok (.iinc 3 1, 3) := by decide +kernel
theorem dX7_digest_298 : decode cX7_digest 298 = .ok (.goto (-46), 3) := by decide +kernel
theorem dX7_digest_301 : decode cX7_digest 301 = .ok (.lload_n 1, 1) := by decide +kernel
theorem dX7_digest_302 : decode cX7_digest 302 = .ok (.lreturn, 1) := by decide +kernel
set_option maxRecDepth 20000 in
theorem ggX7_decodeAnew_X4_decode : GoodIn wsX7_decodeAnew wsX4_decode := goodIn_r _ [8, 9, 10, 11, 7, 12, 13, 14, 15, 16, 17, 18, 19, 20, 21, 22, 23, 24, 25, 26, 27, 28, 29, 30, 31, 32, 33, 34, 35, 36, 37, 38, 39, 40, 41, 42, 43, 44, 45, 46, 47, 48, 49, 50, 51, 52, 53, 54, 55, 56, 57, 58, 59, 60, 61, 62, 63, 64, 65, 66, 67, 68, 69, 70, 71, 72, 73, 74, 75, 76, 77, 78, 79, 80, 81, 82, 83, 84, 85, 86, 87, 88, 89, 90, 91, 92, 93, 94, 95, 96, 97, 98, 99, 100, 101, 102, 103, 104, 105, 106, 107, 108, 109, 110, 111, 112, 113, 114, 115, 116, 117, 118, 119, 120, 121, 122, 123, 124, 125, 126, 127, 128, 129, 130, 131, 132, 133, 134, 135, 136, 137, 138, 139, 140, 141, 142, 143, 144, 145, 146, 147, 153, 154, 155, 156, 157, 158, 159, 160, 161, 162, 163, 164, 165, 166, 167, 168, 169] (by decide +kernel) (by decide +kernel)
set_option maxRecDepth 20000 in
theorem gX7_decodeAnew_X4_decode : GoodIn wsX7_decodeAnew (wsV RX7 278 RX4 yX4_decode wsX4_decode) := goodIn_app (goodIn_of _ (by decide +kernel)) ggX7_decodeAnew_X4_decode
theorem dX7_decodeAnew_0 : decode cX7_decodeAnew 0 = .ok (.aload_n 0, 1) := by decide +kernel
theorem dX7_decodeAnew_1 : decode cX7_decodeAnew 1 = .ok (.getfield 35, 3) := by decide +kernel
theorem dX7_decodeAnew_4 : decode cX7_decodeAnew 4 = .ok (.aload_n 0, 1) := by decide +kernel
theorem dX7_decodeAnew_5 : decode cX7_decodeAnew 5 = .ok (.getfield 21, 3) := by decide +kernel
theorem dX7_decodeAnew_8 : decode cX7_decodeAnew 8 = .ok (.aload_n 0, 1) := by decide +kernel
theorem dX7_decodeAnew_9 : decode cX7_decodeAnew 9 = .ok (.getfield 28, 3) := by decide +kernel
theorem dX7_decodeAnew_12 : decode cX7_decodeAnew 12 = .ok (.invokevirtual 278, 3) := by decide +kernel
theorem dX7_decodeAnew_15 : decode cX7_decodeAnew 15 = .ok (.return_, 1) := by decide +kernel
theorem dX8_init_0 : decode cX8_init 0 = .ok (.aload_n 0, 1) := by decide +kernel
theorem dX8_init_1 : decode cX8_init 1 = .ok (.invokespecial 1, 3) := by decide +kernel
theorem dX8_init_4 : decode cX8_init 4 = .ok (.aload_n 0, 1) := by decide +kernel
theorem dX8_init_5 : decode cX8_init 5 = .ok (.sipush 946, 3) := by decide +kernel
theorem dX8_init_8 : decode cX8_init 8 = .ok (.newarray .int, 2) := by decide +kernel
theorem dX8_init_10 : decode cX8_init 10 = .ok (.putfield 7, 3) := by decide +kernel
theorem dX8_init_13 : decode cX8_init 13 = .ok (.aload_n 0, 1) := by decide +kernel
theorem dX8_init_14 : decode cX8_init 14 = .ok (.sipush 5676, 3) := by decide +kernel
theorem dX8_init_17 : decode cX8_init 17 = .ok (.newarray .int, 2) := by decide +kernel
theorem dX8_init_19 : decode cX8_init 19 = .ok (.putfield 13, 3) := by decide +kernel
theorem dX8_init_22 : decode cX8_init 22 = .ok (.aload_n 0, 1) := by decide +kernel
theorem dX8_init_23 : decode cX8_init 23 = .ok (.bipush 60, 2) := by decide +kernel
theorem dX8_init_25 : decode cX8_init 25 = .ok (.newarray .int, 2) := by decide +kernel
theorem dX8_init_27 : decode cX8_init 27 = .ok (.putfield 16, 3) := by decide +kernel
theorem dX8_init_30 : decode cX8_init 30 = .ok (.aload_n 0, 1) := by decide +kernel
theorem dX8_init_31 : decode cX8_init 31 = .ok (.sipush 201, 3) := by decide +kernel
theorem dX8_init_34 : decode cX8_init 34 = .ok (.newarray .int, 2) := by decide +kernel
theorem dX8_init_36 : decode cX8_init 36 = .ok (.putfield 19, 3) := by decide +kernel
theorem dX8_init_39 : decode cX8_init 39 = .ok (.aload_n 0, 1) := by decide +kernel
theorem dX8_init_40 : decode cX8_init 40 = .ok (.sipush 201, 3) := by decide +kernel
theorem dX8_init_43 : decode cX8_init 43 = .ok (.newarray .int, 2) := by decide +kernel
theorem dX8_init_45 : decode cX8_init 45 = .ok (.putfield 22, 3) := by decide +kernel
theorem dX8_init_48 : decode cX8_init 48 = .ok (.aload_n 0, 1) := by decide +kernel
theorem dX8_init_49 : decode cX8_init 49 = .ok (.sipush 201, 3) := by decide +kernel
theorem dX8_init_52 : decode cX8_init 52 = .ok (.newarray .int, 2) := by decide +kernel
theorem dX8_init_54 : decode cX8_init 54 = .ok (.putfield 25, 3) := by decide +kernel
theorem dX8_init_57 : decode cX8_init 57 = .ok (.aload_n 0, 1) := by decide +kernel
theorem dX8_init_58 : decode cX8_init 58 = .ok (.sipush 201, 3) := by decide +kernel
theorem dX8_init_61 : decode cX8_init 61 = .ok (.newarray .int, 2) := by decide +kernel
theorem dX8_init_63 : decode cX8_init 63 = .ok (.putfield 28, 3) := by decide +kernel
theorem dX8_init_66 : decode cX8_init 66 = .ok (.aload_n 0, 1) := by decide +kernel
theorem dX8_init_67 : decode cX8_init 67 = .ok (.sipush 201, 3) := by decide +kernel
theorem dX8_init_70 : decode cX8_init 70 = .ok (.newarray .int, 2) := by decide +kernel
theorem dX8_init_72 : decode cX8_init 72 = .ok (.putfield 31, 3) := by decide +kernel
theorem dX8_init_75 : decode cX8_init 75 = .ok (.aload_n 0, 1) := by decide +kernel
theorem dX8_init_76 : decode cX8_init 76 = .ok (.iconst 0, 1) := by decide +kernel
theorem dX8_init_77 : decode cX8_init 77 = .ok (.putfield 34, 3) := by decide +kernel
theorem dX8_init_80 : decode cX8_init 80 = .ok (.return_, 1) := by decide +kernel
theorem dX8_thrown_0 : decode cX8_thrown 0 = .ok (.aload_n 0, 1) := by decide +kernel
theorem dX8_thrown_1 : decode cX8_thrown 1 = .ok (.getfield 38, 3) := by decide +kernel
theorem dX8_thrown_4 : decode cX8_thrown 4 = .ok (.ireturn, 1) := by decide +kernel
theorem dX8_refused_0 : decode cX8_refused 0 = .ok (.aload_n 0, 1) := by decide +kernel
theorem dX8_refused_1 : decode cX8_refused 1 = .ok (.iload_n 1, 1) := by decide +kernel
theorem dX8_refused_2 : decode cX8_refused 2 = .ok (.putfield 38, 3) := by decide +kernel
theorem dX8_refused_5 : decode cX8_refused 5 = .ok (.iload_n 1, 1) := by decide +kernel
theorem dX8_refused_6 : decode cX8_refused 6 = .ok (.ifCond .le 7, 3) := by decide +kernel
theorem dX8_refused_9 : decode cX8_refused 9 = .ok (.iconst 1, 1) := by decide +kernel
theorem dX8_refused_10 : decode cX8_refused 10 = .ok (.goto 4, 3) := by decide +kernel
theorem dX8_refused_13 : decode cX8_refused 13 = .ok (.iconst 0, 1) := by decide +kernel
theorem dX8_refused_14 : decode cX8_refused 14 = .ok (.ireturn, 1) := by decide +kernel
theorem dX8_in_0 : decode cX8_in 0 = .ok (.iload_n 0, 1) := by decide +kernel
theorem dX8_in_1 : decode cX8_in 1 = .ok (.iload_n 1, 1) := by decide +kernel
theorem dX8_in_2 : decode cX8_in 2 = .ok (.if_icmp .lt 12, 3) := by decide +kernel
theorem dX8_in_5 : decode cX8_in 5 = .ok (.iload_n 0, 1) := by decide +kernel
theorem dX8_in_6 : decode cX8_in 6 = .ok (.iload_n 2, 1) := by decide +kernel
theorem dX8_in_7 : decode cX8_in 7 = .ok (.if_icmp .gt 7, 3) := by decide +kernel
theorem dX8_in_10 : decode cX8_in 10 = .ok (.iconst 1, 1) := by decide +kernel
theorem dX8_in_11 : decode cX8_in 11 = .ok (.goto 4, 3) := by decide +kernel
theorem dX8_in_14 : decode cX8_in 14 = .ok (.iconst 0, 1) := by decide +kernel
theorem dX8_in_15 : decode cX8_in 15 = .ok (.ireturn, 1) := by decide +kernel
theorem dX8_saves_0 : decode cX8_saves 0 = .ok (.aload_n 0, 1) := by decide +kernel
theorem dX8_saves_1 : decode cX8_saves 1 = .ok (.getfield 41, 3) := by decide +kernel
theorem dX8_saves_4 : decode cX8_saves 4 = .ok (.bipush 6, 2) := by decide +kernel
theorem dX8_saves_6 : decode cX8_saves 6 = .ok (.if_icmp .ne 44, 3) := by decide +kernel
theorem dX8_saves_9 : decode cX8_saves 9 = .ok (.iconst 0, 1) := by decide +kernel
theorem dX8_saves_10 : decode cX8_saves 10 = .ok (.istore_n 1, 1) := by decide +kernel
theorem dX8_saves_11 : decode cX8_saves 11 = .ok (.iload_n 1, 1) := by decide +kernel
theorem dX8_saves_12 : decode cX8_saves 12 = .ok (.sipush 4730, 3) := by decide +kernel
theorem dX8_saves_15 : decode cX8_saves 15 = .ok (.if_icmp .ge 25, 3) := by decide +kernel
theorem dX8_saves_18 : decode cX8_saves 18 = .ok (.aload_n 0, 1) := by decide +kernel
theorem dX8_saves_19 : decode cX8_saves 19 = .ok (.getfield 13, 3) := by decide +kernel
theorem dX8_saves_22 : decode cX8_saves 22 = .ok (.iload_n 1, 1) := by decide +kernel
theorem dX8_saves_23 : decode cX8_saves 23 = .ok (.aload_n 0, 1) := by decide +kernel
theorem dX8_saves_24 : decode cX8_saves 24 = .ok (.getfield 13, 3) := by decide +kernel
theorem dX8_saves_27 : decode cX8_saves 27 = .ok (.sipush 946, 3) := by decide +kernel
theorem dX8_saves_30 : decode cX8_saves 30 = .ok (.iload_n 1, 1) := by decide +kernel
theorem dX8_saves_31 : decode cX8_saves 31 = .ok (.iadd, 1) := by decide +kernel
theorem dX8_saves_32 : decode cX8_saves 32 = .ok (.iaload, 1) := by decide +kernel
theorem dX8_saves_33 : decode cX8_saves 33 = .ok (.iastore, 1) := by decide +kernel
theorem dX8_saves_34 : decode cX8_saves 34 = .ok (.iinc 1 1, 3) := by decide +kernel
theorem dX8_saves_37 : decode cX8_saves 37 = .ok (.goto (-26), 3) := by decide +kernel
theorem dX8_saves_40 : decode cX8_saves 40 = .ok (.aload_n 0, 1) := by decide +kernel
theorem dX8_saves_41 : decode cX8_saves 41 = .ok (.dup, 1) := by decide +kernel
theorem dX8_saves_42 : decode cX8_saves 42 = .ok (.getfield 41, 3) := by decide +kernel
theorem dX8_saves_45 : decode cX8_saves 45 = .ok (.iconst 1, 1) := by decide +kernel
theorem dX8_saves_46 : decode cX8_saves 46 = .ok (.isub, 1) := by decide +kernel
theorem dX8_saves_47 : decode cX8_saves 47 = .ok (.putfield 41, 3) := by decide +kernel
theorem dX8_saves_50 : decode cX8_saves 50 = .ok (.iconst 0, 1) := by decide +kernel
theorem dX8_saves_51 : decode cX8_saves 51 = .ok (.istore_n 1, 1) := by decide +kernel
theorem dX8_saves_52 : decode cX8_saves 52 = .ok (.iload_n 1, 1) := by decide +kernel
theorem dX8_saves_53 : decode cX8_saves 53 = .ok (.sipush 946, 3) := by decide +kernel
theorem dX8_saves_56 : decode cX8_saves 56 = .ok (.if_icmp .ge 30, 3) := by decide +kernel
theorem dX8_saves_59 : decode cX8_saves 59 = .ok (.aload_n 0, 1) := by decide +kernel
theorem dX8_saves_60 : decode cX8_saves 60 = .ok (.getfield 13, 3) := by decide +kernel
theorem dX8_saves_63 : decode cX8_saves 63 = .ok (.sipush 946, 3) := by decide +kernel
theorem dX8_saves_66 : decode cX8_saves 66 = .ok (.aload_n 0, 1) := by decide +kernel
theorem dX8_saves_67 : decode cX8_saves 67 = .ok (.getfield 41, 3) := by decide +kernel
theorem dX8_saves_70 : decode cX8_saves 70 = .ok (.imul, 1) := by decide +kernel
theorem dX8_saves_71 : decode cX8_saves 71 = .ok (.iload_n 1, 1) := by decide +kernel
theorem dX8_saves_72 : decode cX8_saves 72 = .ok (.iadd, 1) := by decide +kernel
theorem dX8_saves_73 : decode cX8_saves 73 = .ok (.aload_n 0, 1) := by decide +kernel
theorem dX8_saves_74 : decode cX8_saves 74 = .ok (.getfield 7, 3) := by decide +kernel
theorem dX8_saves_77 : decode cX8_saves 77 = .ok (.iload_n 1, 1) := by decide +kernel
theorem dX8_saves_78 : decode cX8_saves 78 = .ok (.iaload, 1) := by decide +kernel
theorem dX8_saves_79 : decode cX8_saves 79 = .ok (.iastore, 1) := by decide +kernel
theorem dX8_saves_80 : decode cX8_saves 80 = .ok (.iinc 1 1, 3) := by decide +kernel
theorem dX8_saves_83 : decode cX8_saves 83 = .ok (.goto (-31), 3) := by decide +kernel
theorem dX8_saves_86 : decode cX8_saves 86 = .ok (.aload_n 0, 1) := by decide +kernel
theorem dX8_saves_87 : decode cX8_saves 87 = .ok (.dup, 1) := by decide +kernel
theorem dX8_saves_88 : decode cX8_saves 88 = .ok (.getfield 41, 3) := by decide +kernel
theorem dX8_saves_91 : decode cX8_saves 91 = .ok (.iconst 1, 1) := by decide +kernel
theorem dX8_saves_92 : decode cX8_saves 92 = .ok (.iadd, 1) := by decide +kernel
theorem dX8_saves_93 : decode cX8_saves 93 = .ok (.putfield 41, 3) := by decide +kernel
theorem dX8_saves_96 : decode cX8_saves 96 = .ok (.return_, 1) := by decide +kernel
set_option maxRecDepth 20000 in
theorem ggX8_isLetter_X8_in : GoodIn wsX8_isLetter wsX8_in := goodIn_r _ [4] (by decide +kernel) (by decide +kernel)
set_option maxRecDepth 20000 in
theorem gX8_isLetter_X8_in : GoodIn wsX8_isLetter (va_wsS RX8 44 yX8_in wsX8_in) := goodIn_app (goodIn_of _ (by decide +kernel)) ggX8_isLetter_X8_in
theorem dX8_isLetter_0 : decode cX8_isLetter 0 = .ok (.iload_n 0, 1) := by decide +kernel
theorem dX8_isLetter_1 : decode cX8_isLetter 1 = .ok (.bipush 97, 2) := by decide +kernel
theorem dX8_isLetter_3 : decode cX8_isLetter 3 = .ok (.bipush 122, 2) := by decide +kernel
theorem dX8_isLetter_5 : decode cX8_isLetter 5 = .ok (.invokestatic 44, 3) := by decide +kernel
theorem dX8_isLetter_8 : decode cX8_isLetter 8 = .ok (.ireturn, 1) := by decide +kernel
theorem dX8_signOf_0 : decode cX8_signOf 0 = .ok (.iload_n 0, 1) := by decide +kernel
theorem dX8_signOf_1 : decode cX8_signOf 1 = .ok (.tableswitch 120 11 25 #[75, 78, 81, 84, 87, 90, 93, 96, 99, 102, 105, 108, 111, 114, 117], 75) := by decide +kernel
theorem dX8_signOf_76 : decode cX8_signOf 76 = .ok (.bipush 46, 2) := by decide +kernel
theorem dX8_signOf_78 : decode cX8_signOf 78 = .ok (.ireturn, 1) := by decide +kernel
theorem dX8_signOf_79 : decode cX8_signOf 79 = .ok (.bipush 44, 2) := by decide +kernel
theorem dX8_signOf_81 : decode cX8_signOf 81 = .ok (.ireturn, 1) := by decide +kernel
theorem dX8_signOf_82 : decode cX8_signOf 82 = .ok (.bipush 58, 2) := by decide +kernel
theorem dX8_signOf_84 : decode cX8_signOf 84 = .ok (.ireturn, 1) := by decide +kernel
theorem dX8_signOf_85 : decode cX8_signOf 85 = .ok (.bipush 59, 2) := by decide +kernel
theorem dX8_signOf_87 : decode cX8_signOf 87 = .ok (.ireturn, 1) := by decide +kernel
theorem dX8_signOf_88 : decode cX8_signOf 88 = .ok (.bipush 63, 2) := by decide +kernel
theorem dX8_signOf_90 : decode cX8_signOf 90 = .ok (.ireturn, 1) := by decide +kernel
theorem dX8_signOf_91 : decode cX8_signOf 91 = .ok (.bipush 33, 2) := by decide +kernel
theorem dX8_signOf_93 : decode cX8_signOf 93 = .ok (.ireturn, 1) := by decide +kernel
theorem dX8_signOf_94 : decode cX8_signOf 94 = .ok (.bipush 39, 2) := by decide +kernel
theorem dX8_signOf_96 : decode cX8_signOf 96 = .ok (.ireturn, 1) := by decide +kernel
theorem dX8_signOf_97 : decode cX8_signOf 97 = .ok (.bipush 40, 2) := by decide +kernel
theorem dX8_signOf_99 : decode cX8_signOf 99 = .ok (.ireturn, 1) := by decide +kernel
theorem dX8_signOf_100 : decode cX8_signOf 100 = .ok (.bipush 41, 2) := by decide +kernel
theorem dX8_signOf_102 : decode cX8_signOf 102 = .ok (.ireturn, 1) := by decide +kernel
theorem dX8_signOf_103 : decode cX8_signOf 103 = .ok (.bipush 47, 2) := by decide +kernel
theorem dX8_signOf_105 : decode cX8_signOf 105 = .ok (.ireturn, 1) := by decide +kernel
theorem dX8_signOf_106 : decode cX8_signOf 106 = .ok (.bipush 45, 2) := by decide +kernel
theorem dX8_signOf_108 : decode cX8_signOf 108 = .ok (.ireturn, 1) := by decide +kernel
theorem dX8_signOf_109 : decode cX8_signOf 109 = .ok (.bipush 43, 2) := by decide +kernel
theorem dX8_signOf_111 : decode cX8_signOf 111 = .ok (.ireturn, 1) := by decide +kernel
theorem dX8_signOf_112 : decode cX8_signOf 112 = .ok (.bipush 61, 2) := by decide +kernel
theorem dX8_signOf_114 : decode cX8_signOf 114 = .ok (.ireturn, 1) := by decide +kernel
theorem dX8_signOf_115 : decode cX8_signOf 115 = .ok (.bipush 38, 2) := by decide +kernel
theorem dX8_signOf_117 : decode cX8_signOf 117 = .ok (.ireturn, 1) := by decide +kernel
theorem dX8_signOf_118 : decode cX8_signOf 118 = .ok (.bipush 37, 2) := by decide +kernel
theorem dX8_signOf_120 : decode cX8_signOf 120 = .ok (.ireturn, 1) := by decide +kernel
theorem dX8_signOf_121 : decode cX8_signOf 121 = .ok (.bipush 34, 2) := by decide +kernel
theorem dX8_signOf_123 : decode cX8_signOf 123 = .ok (.ireturn, 1) := by decide +kernel
set_option maxRecDepth 20000 in
theorem ggX8_characterOf_X8_signOf : GoodIn wsX8_characterOf wsX8_signOf := goodIn_r _ [4] (by decide +kernel) (by decide +kernel)
set_option maxRecDepth 20000 in
theorem gX8_characterOf_X8_signOf : GoodIn wsX8_characterOf (va_wsS RX8 48 yX8_signOf wsX8_signOf) := goodIn_app (goodIn_of _ (by decide +kernel)) ggX8_characterOf_X8_signOf
theorem dX8_characterOf_0 : decode cX8_characterOf 0 = .ok (.iload_n 1, 1) := by decide +kernel
theorem dX8_characterOf_1 : decode cX8_characterOf 1 = .ok (.ifCond .ne 10, 3) := by decide +kernel
theorem dX8_characterOf_4 : decode cX8_characterOf 4 = .ok (.bipush 97, 2) := by decide +kernel
theorem dX8_characterOf_6 : decode cX8_characterOf 6 = .ok (.iload_n 0, 1) := by decide +kernel
theorem dX8_characterOf_7 : decode cX8_characterOf 7 = .ok (.iadd, 1) := by decide +kernel
theorem dX8_characterOf_8 : decode cX8_characterOf 8 = .ok (.iconst 1, 1) := by decide +kernel
theorem dX8_characterOf_9 : decode cX8_characterOf 9 = .ok (.isub, 1) := by decide +kernel
theorem dX8_characterOf_10 : decode cX8_characterOf 10 = .ok (.ireturn, 1) := by decide +kernel
theorem dX8_characterOf_11 : decode cX8_characterOf 11 = .ok (.iload_n 0, 1) := by decide +kernel
theorem dX8_characterOf_12 : decode cX8_characterOf 12 = .ok (.bipush 10, 2) := by decide +kernel
theorem dX8_characterOf_14 : decode cX8_characterOf 14 = .ok (.if_icmp .ne 8, 3) := by decide +kernel
theorem dX8_characterOf_17 : decode cX8_characterOf 17 = .ok (.bipush 48, 2) := by decide +kernel
theorem dX8_characterOf_19 : decode cX8_characterOf 19 = .ok (.goto 20, 3) := by decide +kernel
theorem dX8_characterOf_22 : decode cX8_characterOf 22 = .ok (.iload_n 0, 1) := by decide +kernel
theorem dX8_characterOf_23 : decode cX8_characterOf 23 = .ok (.bipush 10, 2) := by decide +kernel
theorem dX8_characterOf_25 : decode cX8_characterOf 25 = .ok (.if_icmp .ge 10, 3) := by decide +kernel
theorem dX8_characterOf_28 : decode cX8_characterOf 28 = .ok (.bipush 48, 2) := by decide +kernel
theorem dX8_characterOf_30 : decode cX8_characterOf 30 = .ok (.iload_n 0, 1) := by decide +kernel
theorem dX8_characterOf_31 : decode cX8_characterOf 31 = .ok (.iadd, 1) := by decide +kernel
theorem dX8_characterOf_32 : decode cX8_characterOf 32 = .ok (.goto 7, 3) := by decide +kernel
theorem dX8_characterOf_35 : decode cX8_characterOf 35 = .ok (.iload_n 0, 1) := by decide +kernel
theorem dX8_characterOf_36 : decode cX8_characterOf 36 = .ok (.invokestatic 48, 3) := by decide +kernel
theorem dX8_characterOf_39 : decode cX8_characterOf 39 = .ok (.ireturn, 1) := by decide +kernel
set_option maxRecDepth 20000 in
theorem ggX8_codeOfSign_X8_signOf : GoodIn wsX8_codeOfSign wsX8_signOf := goodIn_r _ [4] (by decide +kernel) (by decide +kernel)
set_option maxRecDepth 20000 in
theorem gX8_codeOfSign_X8_signOf : GoodIn wsX8_codeOfSign (va_wsS RX8 48 yX8_signOf wsX8_signOf) := goodIn_app (goodIn_of _ (by decide +kernel)) ggX8_codeOfSign_X8_signOf
theorem dX8_codeOfSign_0 : decode cX8_codeOfSign 0 = .ok (.iconst 0, 1) := by decide +kernel
theorem dX8_codeOfSign_1 : decode cX8_codeOfSign 1 = .ok (.istore_n 1, 1) := by decide +kernel
theorem dX8_codeOfSign_2 : decode cX8_codeOfSign 2 = .ok (.bipush 11, 2) := by decide +kernel
theorem dX8_codeOfSign_4 : decode cX8_codeOfSign 4 = .ok (.istore_n 2, 1) := by decide +kernel
theorem dX8_codeOfSign_5 : decode cX8_codeOfSign 5 = .ok (.iload_n 2, 1) := by decide +kernel
theorem dX8_codeOfSign_6 : decode cX8_codeOfSign 6 = .ok (.bipush 27, 2) := by decide +kernel
theorem dX8_codeOfSign_8 : decode cX8_codeOfSign 8 = .ok (.if_icmp .ge 23, 3) := by decide +kernel
theorem dX8_codeOfSign_11 : decode cX8_codeOfSign 11 = .ok (.iload_n 2, 1) := by decide +kernel
theorem dX8_codeOfSign_12 : decode cX8_codeOfSign 12 = .ok (.invokestatic 48, 3) := by decide +kernel
theorem dX8_codeOfSign_15 : decode cX8_codeOfSign 15 = .ok (.iload_n 0, 1) := by decide +kernel
theorem dX8_codeOfSign_16 : decode cX8_codeOfSign 16 = .ok (.if_icmp .ne 7, 3) := by decide +kernel
theorem dX8_codeOfSign_19 : decode cX8_codeOfSign 19 = .ok (.iload_n 2, 1) := by decide +kernel
theorem dX8_codeOfSign_20 : decode cX8_codeOfSign 20 = .ok (.goto 4, 3) := by decide +kernel
theorem dX8_codeOfSign_23 : decode cX8_codeOfSign 23 = .ok (.iload_n 1, 1) := by decide +kernel
theorem dX8_codeOfSign_24 : decode cX8_codeOfSign 24 = .ok (.istore_n 1, 1) := by decide +kernel
theorem dX8_codeOfSign_25 : decode cX8_codeOfSign 25 = .ok (.iinc 2 1, 3) := by decide +kernel
theorem dX8_codeOfSign_28 : decode cX8_codeOfSign 28 = .ok (.goto (-23), 3) := by decide +kernel
theorem dX8_codeOfSign_31 : decode cX8_codeOfSign 31 = .ok (.iload_n 1, 1) := by decide +kernel
theorem dX8_codeOfSign_32 : decode cX8_codeOfSign 32 = .ok (.ireturn, 1) := by decide +kernel
set_option maxRecDepth 20000 in
theorem ggX8_codeOf_X8_isLetter : GoodIn wsX8_codeOf wsX8_isLetter := goodIn_r _ [4, 5, 6, 3, 7] (by decide +kernel) (by decide +kernel)
set_option maxRecDepth 20000 in
theorem gX8_codeOf_X8_isLetter : GoodIn wsX8_codeOf (va_wsS RX8 52 yX8_isLetter wsX8_isLetter) := goodIn_app (goodIn_of _ (by decide +kernel)) ggX8_codeOf_X8_isLetter
set_option maxRecDepth 20000 in
theorem ggX8_codeOf_X8_in : GoodIn wsX8_codeOf wsX8_in := goodIn_r _ [7] (by decide +kernel) (by decide +kernel)
set_option maxRecDepth 20000 in
theorem gX8_codeOf_X8_in : GoodIn wsX8_codeOf (va_wsS RX8 44 yX8_in wsX8_in) := goodIn_app (goodIn_of _ (by decide +kernel)) ggX8_codeOf_X8_in
set_option maxRecDepth 20000 in
theorem ggX8_codeOf_X8_codeOfSign : GoodIn wsX8_codeOf wsX8_codeOfSign := goodIn_r _ [10, 11, 12, 3, 13] (by decide +kernel) (by decide +kernel)
set_option maxRecDepth 20000 in
theorem gX8_codeOf_X8_codeOfSign : GoodIn wsX8_codeOf (va_wsS RX8 56 yX8_codeOfSign wsX8_codeOfSign) := goodIn_app (goodIn_of _ (by decide +kernel)) ggX8_codeOf_X8_codeOfSign
theorem dX8_codeOf_0 : decode cX8_codeOf 0 = .ok (.iload_n 0, 1) := by decide +kernel
theorem dX8_codeOf_1 : decode cX8_codeOf 1 = .ok (.invokestatic 52, 3) := by decide +kernel
theorem dX8_codeOf_4 : decode cX8_codeOf 4 = .ok (.ifCond .eq 10, 3) := by decide +kernel
theorem dX8_codeOf_7 : decode cX8_codeOf 7 = .ok (.iload_n 0, 1) := by decide +kernel
theorem dX8_codeOf_8 : decode cX8_codeOf 8 = .ok (.bipush 97, 2) := by decide +kernel
theorem dX8_codeOf_10 : decode cX8_codeOf 10 = .ok (.isub, 1) := by decide +kernel
theorem dX8_codeOf_11 : decode cX8_codeOf 11 = .ok (.iconst 1, 1) := by decide +kernel
theorem dX8_codeOf_12 : decode cX8_codeOf 12 = .ok (.iadd, 1) := by decide +kernel
theorem dX8_codeOf_13 : decode cX8_codeOf 13 = .ok (.ireturn, 1) := by decide +kernel
theorem dX8_codeOf_14 : decode cX8_codeOf 14 = .ok (.iload_n 0, 1) := by decide +kernel
theorem dX8_codeOf_15 : decode cX8_codeOf 15 = .ok (.bipush 48, 2) := by decide +kernel
theorem dX8_codeOf_17 : decode cX8_codeOf 17 = .ok (.bipush 57, 2) := by decide +kernel
theorem dX8_codeOf_19 : decode cX8_codeOf 19 = .ok (.invokestatic 44, 3) := by decide +kernel
theorem dX8_codeOf_22 : decode cX8_codeOf 22 = .ok (.ifCond .eq 19, 3) := by decide +kernel
theorem dX8_codeOf_25 : decode cX8_codeOf 25 = .ok (.iload_n 0, 1) := by decide +kernel
theorem dX8_codeOf_26 : decode cX8_codeOf 26 = .ok (.bipush 48, 2) := by decide +kernel
theorem dX8_codeOf_28 : decode cX8_codeOf 28 = .ok (.if_icmp .ne 8, 3) := by decide +kernel
theorem dX8_codeOf_31 : decode cX8_codeOf 31 = .ok (.bipush 10, 2) := by decide +kernel
theorem dX8_codeOf_33 : decode cX8_codeOf 33 = .ok (.goto 7, 3) := by decide +kernel
theorem dX8_codeOf_36 : decode cX8_codeOf 36 = .ok (.iload_n 0, 1) := by decide +kernel
theorem dX8_codeOf_37 : decode cX8_codeOf 37 = .ok (.bipush 48, 2) := by decide +kernel
theorem dX8_codeOf_39 : decode cX8_codeOf 39 = .ok (.isub, 1) := by decide +kernel
theorem dX8_codeOf_40 : decode cX8_codeOf 40 = .ok (.ireturn, 1) := by decide +kernel
theorem dX8_codeOf_41 : decode cX8_codeOf 41 = .ok (.iload_n 0, 1) := by decide +kernel
theorem dX8_codeOf_42 : decode cX8_codeOf 42 = .ok (.bipush 32, 2) := by decide +kernel
theorem dX8_codeOf_44 : decode cX8_codeOf 44 = .ok (.if_icmp .ne 8, 3) := by decide +kernel
theorem dX8_codeOf_47 : decode cX8_codeOf 47 = .ok (.bipush 27, 2) := by decide +kernel
theorem dX8_codeOf_49 : decode cX8_codeOf 49 = .ok (.goto 35, 3) := by decide +kernel
theorem dX8_codeOf_52 : decode cX8_codeOf 52 = .ok (.iload_n 0, 1) := by decide +kernel
theorem dX8_codeOf_53 : decode cX8_codeOf 53 = .ok (.bipush 10, 2) := by decide +kernel
theorem dX8_codeOf_55 : decode cX8_codeOf 55 = .ok (.if_icmp .ne 8, 3) := by decide +kernel
theorem dX8_codeOf_58 : decode cX8_codeOf 58 = .ok (.bipush 28, 2) := by decide +kernel
theorem dX8_codeOf_60 : decode cX8_codeOf 60 = .ok (.goto 24, 3) := by decide +kernel
theorem dX8_codeOf_63 : decode cX8_codeOf 63 = .ok (.iload_n 0, 1) := by decide +kernel
theorem dX8_codeOf_64 : decode cX8_codeOf 64 = .ok (.bipush 64, 2) := by decide +kernel
theorem dX8_codeOf_66 : decode cX8_codeOf 66 = .ok (.if_icmp .eq 9, 3) := by decide +kernel
theorem dX8_codeOf_69 : decode cX8_codeOf 69 = .ok (.iload_n 0, 1) := by decide +kernel
theorem dX8_codeOf_70 : decode cX8_codeOf 70 = .ok (.bipush 35, 2) := by decide +kernel
theorem dX8_codeOf_72 : decode cX8_codeOf 72 = .ok (.if_icmp .ne 8, 3) := by decide +kernel
theorem dX8_codeOf_75 : decode cX8_codeOf 75 = .ok (.bipush 29, 2) := by decide +kernel
theorem dX8_codeOf_77 : decode cX8_codeOf 77 = .ok (.goto 7, 3) := by decide +kernel
theorem dX8_codeOf_80 : decode cX8_codeOf 80 = .ok (.iload_n 0, 1) := by decide +kernel
theorem dX8_codeOf_81 : decode cX8_codeOf 81 = .ok (.invokestatic 56, 3) := by decide +kernel
theorem dX8_codeOf_84 : decode cX8_codeOf 84 = .ok (.ireturn, 1) := by decide +kernel
set_option maxRecDepth 20000 in
theorem ggX8_shiftOf_X8_isLetter : GoodIn wsX8_shiftOf wsX8_isLetter := goodIn_r _ [4, 5, 6, 3, 7] (by decide +kernel) (by decide +kernel)
set_option maxRecDepth 20000 in
theorem gX8_shiftOf_X8_isLetter : GoodIn wsX8_shiftOf (va_wsS RX8 52 yX8_isLetter wsX8_isLetter) := goodIn_app (goodIn_of _ (by decide +kernel)) ggX8_shiftOf_X8_isLetter
theorem dX8_shiftOf_0 : decode cX8_shiftOf 0 = .ok (.iload_n 0, 1) := by decide +kernel
theorem dX8_shiftOf_1 : decode cX8_shiftOf 1 = .ok (.invokestatic 52, 3) := by decide +kernel
theorem dX8_shiftOf_4 : decode cX8_shiftOf 4 = .ok (.ifCond .ne 9, 3) := by decide +kernel
theorem dX8_shiftOf_7 : decode cX8_shiftOf 7 = .ok (.iload_n 0, 1) := by decide +kernel
theorem dX8_shiftOf_8 : decode cX8_shiftOf 8 = .ok (.bipush 64, 2) := by decide +kernel
theorem dX8_shiftOf_10 : decode cX8_shiftOf 10 = .ok (.if_icmp .ne 7, 3) := by decide +kernel
theorem dX8_shiftOf_13 : decode cX8_shiftOf 13 = .ok (.iconst 0, 1) := by decide +kernel
theorem dX8_shiftOf_14 : decode cX8_shiftOf 14 = .ok (.goto 20, 3) := by decide +kernel
