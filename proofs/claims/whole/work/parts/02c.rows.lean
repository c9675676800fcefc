set_option maxRecDepth 20000 in
theorem ggX0_codeOf_X0_isLetter : GoodIn wsX0_codeOf wsX0_isLetter := goodIn_r _ [4] (by decide +kernel) (by decide +kernel)
set_option maxRecDepth 20000 in
theorem gX0_codeOf_X0_isLetter : GoodIn wsX0_codeOf (va_wsS RX0 9 yX0_isLetter wsX0_isLetter) := goodIn_app (goodIn_of _ (by decide +kernel)) ggX0_codeOf_X0_isLetter
set_option maxRecDepth 20000 in
theorem ggX0_codeOf_X0_codeOfFigure : GoodIn wsX0_codeOf wsX0_codeOfFigure := goodIn_r _ [7, 8, 9, 10, 11, 12, 13, 14, 15, 16, 17, 18, 19, 20, 21, 22, 23, 24, 25, 26, 27, 28, 29, 30, 31, 32, 33, 34, 35, 36, 37, 38, 39, 40, 41, 42, 43, 44, 45, 46, 47, 48, 49, 50, 51, 52, 53, 54, 55, 56, 57, 58, 59, 60, 61, 62, 63, 64, 65, 66, 67, 68, 69, 70, 71, 72, 73, 74, 75, 76, 77, 78, 79, 80, 81, 82, 83, 84, 85, 86, 87, 88, 89, 90, 91, 92, 93, 94, 95, 96] (by decide +kernel) (by decide +kernel)
set_option maxRecDepth 20000 in
theorem gX0_codeOf_X0_codeOfFigure : GoodIn wsX0_codeOf (va_wsS RX0 15 yX0_codeOfFigure wsX0_codeOfFigure) := goodIn_app (goodIn_of _ (by decide +kernel)) ggX0_codeOf_X0_codeOfFigure
theorem dX0_codeOf_0 : decode cX0_codeOf 0 = .ok (.iload_n 0, 1) := by decide +kernel
theorem dX0_codeOf_1 : decode cX0_codeOf 1 = .ok (.invokestatic 9, 3) := by decide +kernel
theorem dX0_codeOf_4 : decode cX0_codeOf 4 = .ok (.ifCond .eq 10, 3) := by decide +kernel
theorem dX0_codeOf_7 : decode cX0_codeOf 7 = .ok (.iload_n 0, 1) := by decide +kernel
theorem dX0_codeOf_8 : decode cX0_codeOf 8 = .ok (.bipush 97, 2) := by decide +kernel
theorem dX0_codeOf_10 : decode cX0_codeOf 10 = .ok (.isub, 1) := by decide +kernel
theorem dX0_codeOf_11 : decode cX0_codeOf 11 = .ok (.iconst 1, 1) := by decide +kernel
theorem dX0_codeOf_12 : decode cX0_codeOf 12 = .ok (.iadd, 1) := by decide +kernel
theorem dX0_codeOf_13 : decode cX0_codeOf 13 = .ok (.ireturn, 1) := by decide +kernel
theorem dX0_codeOf_14 : decode cX0_codeOf 14 = .ok (.iload_n 0, 1) := by decide +kernel
theorem dX0_codeOf_15 : decode cX0_codeOf 15 = .ok (.bipush 32, 2) := by decide +kernel
theorem dX0_codeOf_17 : decode cX0_codeOf 17 = .ok (.if_icmp .ne 6, 3) := by decide +kernel
theorem dX0_codeOf_20 : decode cX0_codeOf 20 = .ok (.bipush 27, 2) := by decide +kernel
theorem dX0_codeOf_22 : decode cX0_codeOf 22 = .ok (.ireturn, 1) := by decide +kernel
theorem dX0_codeOf_23 : decode cX0_codeOf 23 = .ok (.iload_n 0, 1) := by decide +kernel
theorem dX0_codeOf_24 : decode cX0_codeOf 24 = .ok (.bipush 10, 2) := by decide +kernel
theorem dX0_codeOf_26 : decode cX0_codeOf 26 = .ok (.if_icmp .ne 6, 3) := by decide +kernel
theorem dX0_codeOf_29 : decode cX0_codeOf 29 = .ok (.bipush 28, 2) := by decide +kernel
theorem dX0_codeOf_31 : decode cX0_codeOf 31 = .ok (.ireturn, 1) := by decide +kernel
theorem dX0_codeOf_32 : decode cX0_codeOf 32 = .ok (.iload_n 0, 1) := by decide +kernel
theorem dX0_codeOf_33 : decode cX0_codeOf 33 = .ok (.bipush 64, 2) := by decide +kernel
theorem dX0_codeOf_35 : decode cX0_codeOf 35 = .ok (.if_icmp .eq 9, 3) := by decide +kernel
theorem dX0_codeOf_38 : decode cX0_codeOf 38 = .ok (.iload_n 0, 1) := by decide +kernel
theorem dX0_codeOf_39 : decode cX0_codeOf 39 = .ok (.bipush 35, 2) := by decide +kernel
theorem dX0_codeOf_41 : decode cX0_codeOf 41 = .ok (.if_icmp .ne 6, 3) := by decide +kernel
theorem dX0_codeOf_44 : decode cX0_codeOf 44 = .ok (.bipush 29, 2) := by decide +kernel
theorem dX0_codeOf_46 : decode cX0_codeOf 46 = .ok (.ireturn, 1) := by decide +kernel
theorem dX0_codeOf_47 : decode cX0_codeOf 47 = .ok (.iload_n 0, 1) := by decide +kernel
theorem dX0_codeOf_48 : decode cX0_codeOf 48 = .ok (.invokestatic 15, 3) := by decide +kernel
theorem dX0_codeOf_51 : decode cX0_codeOf 51 = .ok (.ireturn, 1) := by decide +kernel
set_option maxRecDepth 20000 in
theorem ggX0_codeOfFigure_J0_indexOf_0f7a4 : GoodIn wsX0_codeOfFigure wsJ0_indexOf_0f7a4 := goodIn_r _ [5, 6, 7, 8, 4, 9, 10, 11, 12, 13, 14, 15, 16, 17, 18, 19, 20, 21, 22, 23, 24, 25, 26, 27, 28, 29, 30, 31, 32, 33, 34, 35, 36, 37, 38, 39, 40, 41, 42, 43, 44, 45, 46, 47, 48, 49, 50, 51, 52, 53, 54, 55, 56, 57, 58, 59, 60, 61, 62, 63, 64, 65, 66, 67, 68, 69, 70, 71, 72, 73, 74, 75, 76, 77, 78, 79, 80, 81, 82, 83, 84, 85, 86, 87, 88, 89] (by decide +kernel) (by decide +kernel)
set_option maxRecDepth 20000 in
theorem gX0_codeOfFigure_J0_indexOf_0f7a4 : GoodIn wsX0_codeOfFigure (wsV RX0 21 RJ0 yJ0_indexOf_0f7a4 wsJ0_indexOf_0f7a4) := goodIn_app (goodIn_of _ (by decide +kernel)) ggX0_codeOfFigure_J0_indexOf_0f7a4
theorem dX0_codeOfFigure_0 : decode cX0_codeOfFigure 0 = .ok (.iload_n 0, 1) := by decide +kernel
theorem dX0_codeOfFigure_1 : decode cX0_codeOfFigure 1 = .ok (.ifCond .lt 9, 3) := by decide +kernel
theorem dX0_codeOfFigure_4 : decode cX0_codeOfFigure 4 = .ok (.iload_n 0, 1) := by decide +kernel
theorem dX0_codeOfFigure_5 : decode cX0_codeOfFigure 5 = .ok (.bipush 127, 2) := by decide +kernel
theorem dX0_codeOfFigure_7 : decode cX0_codeOfFigure 7 = .ok (.if_icmp .le 5, 3) := by decide +kernel
theorem dX0_codeOfFigure_10 : decode cX0_codeOfFigure 10 = .ok (.iconst (-1), 1) := by decide +kernel
theorem dX0_codeOfFigure_11 : decode cX0_codeOfFigure 11 = .ok (.ireturn, 1) := by decide +kernel
theorem dX0_codeOfFigure_12 : decode cX0_codeOfFigure 12 = .ok (.ldc 19, 2) := by decide +kernel
theorem dX0_codeOfFigure_14 : decode cX0_codeOfFigure 14 = .ok (.iload_n 0, 1) := by decide +kernel
theorem dX0_codeOfFigure_15 : decode cX0_codeOfFigure 15 = .ok (.i2c, 1) := by decide +kernel
theorem dX0_codeOfFigure_16 : decode cX0_codeOfFigure 16 = .ok (.invokevirtual 21, 3) := by decide +kernel
theorem dX0_codeOfFigure_19 : decode cX0_codeOfFigure 19 = .ok (.istore_n 1, 1) := by decide +kernel
theorem dX0_codeOfFigure_20 : decode cX0_codeOfFigure 20 = .ok (.iload_n 1, 1) := by decide +kernel
theorem dX0_codeOfFigure_21 : decode cX0_codeOfFigure 21 = .ok (.ifCond .ge 7, 3) := by decide +kernel
theorem dX0_codeOfFigure_24 : decode cX0_codeOfFigure 24 = .ok (.iconst (-1), 1) := by decide +kernel
theorem dX0_codeOfFigure_25 : decode cX0_codeOfFigure 25 = .ok (.goto 6, 3) := by decide +kernel
theorem dX0_codeOfFigure_28 : decode cX0_codeOfFigure 28 = .ok (.iload_n 1, 1) := by decide +kernel
theorem dX0_codeOfFigure_29 : decode cX0_codeOfFigure 29 = .ok (.iconst 1, 1) := by decide +kernel
theorem dX0_codeOfFigure_30 : decode cX0_codeOfFigure 30 = .ok (.iadd, 1) := by decide +kernel
theorem dX0_codeOfFigure_31 : decode cX0_codeOfFigure 31 = .ok (.ireturn, 1) := by decide +kernel
set_option maxRecDepth 20000 in
theorem ggX0_shiftFor_X0_isLetter : GoodIn wsX0_shiftFor wsX0_isLetter := goodIn_r _ [4] (by decide +kernel) (by decide +kernel)
set_option maxRecDepth 20000 in
theorem gX0_shiftFor_X0_isLetter : GoodIn wsX0_shiftFor (va_wsS RX0 9 yX0_isLetter wsX0_isLetter) := goodIn_app (goodIn_of _ (by decide +kernel)) ggX0_shiftFor_X0_isLetter
theorem dX0_shiftFor_0 : decode cX0_shiftFor 0 = .ok (.iload_n 0, 1) := by decide +kernel
theorem dX0_shiftFor_1 : decode cX0_shiftFor 1 = .ok (.bipush 32, 2) := by decide +kernel
theorem dX0_shiftFor_3 : decode cX0_shiftFor 3 = .ok (.if_icmp .eq 9, 3) := by decide +kernel
theorem dX0_shiftFor_6 : decode cX0_shiftFor 6 = .ok (.iload_n 0, 1) := by decide +kernel
theorem dX0_shiftFor_7 : decode cX0_shiftFor 7 = .ok (.bipush 10, 2) := by decide +kernel
theorem dX0_shiftFor_9 : decode cX0_shiftFor 9 = .ok (.if_icmp .ne 5, 3) := by decide +kernel
theorem dX0_shiftFor_12 : decode cX0_shiftFor 12 = .ok (.iconst (-1), 1) := by decide +kernel
theorem dX0_shiftFor_13 : decode cX0_shiftFor 13 = .ok (.ireturn, 1) := by decide +kernel
theorem dX0_shiftFor_14 : decode cX0_shiftFor 14 = .ok (.iload_n 0, 1) := by decide +kernel
theorem dX0_shiftFor_15 : decode cX0_shiftFor 15 = .ok (.invokestatic 9, 3) := by decide +kernel
theorem dX0_shiftFor_18 : decode cX0_shiftFor 18 = .ok (.ifCond .ne 9, 3) := by decide +kernel
theorem dX0_shiftFor_21 : decode cX0_shiftFor 21 = .ok (.iload_n 0, 1) := by decide +kernel
theorem dX0_shiftFor_22 : decode cX0_shiftFor 22 = .ok (.bipush 64, 2) := by decide +kernel
theorem dX0_shiftFor_24 : decode cX0_shiftFor 24 = .ok (.if_icmp .ne 7, 3) := by decide +kernel
theorem dX0_shiftFor_27 : decode cX0_shiftFor 27 = .ok (.iconst 0, 1) := by decide +kernel
theorem dX0_shiftFor_28 : decode cX0_shiftFor 28 = .ok (.goto 4, 3) := by decide +kernel
theorem dX0_shiftFor_31 : decode cX0_shiftFor 31 = .ok (.iconst 1, 1) := by decide +kernel
theorem dX0_shiftFor_32 : decode cX0_shiftFor 32 = .ok (.ireturn, 1) := by decide +kernel
set_option maxRecDepth 20000 in
theorem ggX0_characterOf_X0_isSign : GoodIn wsX0_characterOf wsX0_isSign := goodIn_r _ [4] (by decide +kernel) (by decide +kernel)
set_option maxRecDepth 20000 in
theorem gX0_characterOf_X0_isSign : GoodIn wsX0_characterOf (va_wsS RX0 26 yX0_isSign wsX0_isSign) := goodIn_app (goodIn_of _ (by decide +kernel)) ggX0_characterOf_X0_isSign
set_option maxRecDepth 20000 in
theorem ggX0_characterOf_J0_length_8abf5 : GoodIn wsX0_characterOf wsJ0_length_8abf5 := goodIn_r _ [9, 10, 11, 12, 13, 8, 14, 15, 16] (by decide +kernel) (by decide +kernel)
set_option maxRecDepth 20000 in
theorem gX0_characterOf_J0_length_8abf5 : GoodIn wsX0_characterOf (wsV RX0 29 RJ0 yJ0_length_8abf5 wsJ0_length_8abf5) := goodIn_app (goodIn_of _ (by decide +kernel)) ggX0_characterOf_J0_length_8abf5
set_option maxRecDepth 20000 in
theorem ggX0_characterOf_J0_charAt_5068e : GoodIn wsX0_characterOf wsJ0_charAt_5068e := goodIn_r _ [20, 10, 21, 22, 23, 8, 24, 15, 16, 25, 26, 27, 28, 29, 30, 31, 32, 33, 34, 35, 36, 37, 38, 39, 40, 41, 42, 43, 44, 45, 46, 47, 48, 49, 50, 51, 52, 53] (by decide +kernel) (by decide +kernel)
set_option maxRecDepth 20000 in
theorem gX0_characterOf_J0_charAt_5068e : GoodIn wsX0_characterOf (wsV RX0 33 RJ0 yJ0_charAt_5068e wsJ0_charAt_5068e) := goodIn_app (goodIn_of _ (by decide +kernel)) ggX0_characterOf_J0_charAt_5068e
theorem dX0_characterOf_0 : decode cX0_characterOf 0 = .ok (.iload_n 0, 1) := by decide +kernel
theorem dX0_characterOf_1 : decode cX0_characterOf 1 = .ok (.bipush 27, 2) := by decide +kernel
theorem dX0_characterOf_3 : decode cX0_characterOf 3 = .ok (.if_icmp .ne 6, 3) := by decide +kernel
theorem dX0_characterOf_6 : decode cX0_characterOf 6 = .ok (.bipush 32, 2) := by decide +kernel
theorem dX0_characterOf_8 : decode cX0_characterOf 8 = .ok (.ireturn, 1) := by decide +kernel
theorem dX0_characterOf_9 : decode cX0_characterOf 9 = .ok (.iload_n 0, 1) := by decide +kernel
theorem dX0_characterOf_10 : decode cX0_characterOf 10 = .ok (.bipush 28, 2) := by decide +kernel
theorem dX0_characterOf_12 : decode cX0_characterOf 12 = .ok (.if_icmp .ne 6, 3) := by decide +kernel
theorem dX0_characterOf_15 : decode cX0_characterOf 15 = .ok (.bipush 10, 2) := by decide +kernel
theorem dX0_characterOf_17 : decode cX0_characterOf 17 = .ok (.ireturn, 1) := by decide +kernel
theorem dX0_characterOf_18 : decode cX0_characterOf 18 = .ok (.iload_n 0, 1) := by decide +kernel
theorem dX0_characterOf_19 : decode cX0_characterOf 19 = .ok (.iconst 1, 1) := by decide +kernel
theorem dX0_characterOf_20 : decode cX0_characterOf 20 = .ok (.isub, 1) := by decide +kernel
theorem dX0_characterOf_21 : decode cX0_characterOf 21 = .ok (.istore_n 2, 1) := by decide +kernel
theorem dX0_characterOf_22 : decode cX0_characterOf 22 = .ok (.iload_n 0, 1) := by decide +kernel
theorem dX0_characterOf_23 : decode cX0_characterOf 23 = .ok (.invokestatic 26, 3) := by decide +kernel
theorem dX0_characterOf_26 : decode cX0_characterOf 26 = .ok (.ifCond .eq 16, 3) := by decide +kernel
theorem dX0_characterOf_29 : decode cX0_characterOf 29 = .ok (.iload_n 2, 1) := by decide +kernel
theorem dX0_characterOf_30 : decode cX0_characterOf 30 = .ok (.ifCond .lt 12, 3) := by decide +kernel
theorem dX0_characterOf_33 : decode cX0_characterOf 33 = .ok (.iload_n 2, 1) := by decide +kernel
theorem dX0_characterOf_34 : decode cX0_characterOf 34 = .ok (.ldc 19, 2) := by decide +kernel
theorem dX0_characterOf_36 : decode cX0_characterOf 36 = .ok (.invokevirtual 29, 3) := by decide +kernel
theorem dX0_characterOf_39 : decode cX0_characterOf 39 = .ok (.if_icmp .lt 5, 3) := by decide +kernel
theorem dX0_characterOf_42 : decode cX0_characterOf 42 = .ok (.iconst (-1), 1) := by decide +kernel
theorem dX0_characterOf_43 : decode cX0_characterOf 43 = .ok (.ireturn, 1) := by decide +kernel
theorem dX0_characterOf_44 : decode cX0_characterOf 44 = .ok (.iload_n 1, 1) := by decide +kernel
theorem dX0_characterOf_45 : decode cX0_characterOf 45 = .ok (.ifCond .ne 10, 3) := by decide +kernel
theorem dX0_characterOf_48 : decode cX0_characterOf 48 = .ok (.bipush 97, 2) := by decide +kernel
theorem dX0_characterOf_50 : decode cX0_characterOf 50 = .ok (.iload_n 2, 1) := by decide +kernel
theorem dX0_characterOf_51 : decode cX0_characterOf 51 = .ok (.iadd, 1) := by decide +kernel
theorem dX0_characterOf_52 : decode cX0_characterOf 52 = .ok (.goto 9, 3) := by decide +kernel
theorem dX0_characterOf_55 : decode cX0_characterOf 55 = .ok (.ldc 19, 2) := by decide +kernel
theorem dX0_characterOf_57 : decode cX0_characterOf 57 = .ok (.iload_n 2, 1) := by decide +kernel
theorem dX0_characterOf_58 : decode cX0_characterOf 58 = .ok (.invokevirtual 33, 3) := by decide +kernel
theorem dX0_characterOf_61 : decode cX0_characterOf 61 = .ok (.ireturn, 1) := by decide +kernel
set_option maxRecDepth 20000 in
theorem ggX0_startOfSigns_X5_at : GoodIn wsX0_startOfSigns wsX5_at := goodIn_r _ [5, 6, 7, 8, 9, 4, 10, 11, 16, 17] (by decide +kernel) (by decide +kernel)
set_option maxRecDepth 20000 in
theorem gX0_startOfSigns_X5_at : GoodIn wsX0_startOfSigns (wsV RX0 37 RX5 yX5_at wsX5_at) := goodIn_app (goodIn_of _ (by decide +kernel)) ggX0_startOfSigns_X5_at
set_option maxRecDepth 20000 in
theorem ggX0_startOfSigns_X0_isSign : GoodIn wsX0_startOfSigns wsX0_isSign := goodIn_r _ [15] (by decide +kernel) (by decide +kernel)
set_option maxRecDepth 20000 in
theorem gX0_startOfSigns_X0_isSign : GoodIn wsX0_startOfSigns (va_wsS RX0 26 yX0_isSign wsX0_isSign) := goodIn_app (goodIn_of _ (by decide +kernel)) ggX0_startOfSigns_X0_isSign
theorem dX0_startOfSigns_0 : decode cX0_startOfSigns 0 = .ok (.iload_n 1, 1) := by decide +kernel
theorem dX0_startOfSigns_1 : decode cX0_startOfSigns 1 = .ok (.istore_n 2, 1) := by decide +kernel
theorem dX0_startOfSigns_2 : decode cX0_startOfSigns 2 = .ok (.iload_n 2, 1) := by decide +kernel
theorem dX0_startOfSigns_3 : decode cX0_startOfSigns 3 = .ok (.ifCond .le 24, 3) := by decide +kernel
theorem dX0_startOfSigns_6 : decode cX0_startOfSigns 6 = .ok (.aload_n 0, 1) := by decide +kernel
theorem dX0_startOfSigns_7 : decode cX0_startOfSigns 7 = .ok (.iload_n 2, 1) := by decide +kernel
theorem dX0_startOfSigns_8 : decode cX0_startOfSigns 8 = .ok (.iconst 1, 1) := by decide +kernel
theorem dX0_startOfSigns_9 : decode cX0_startOfSigns 9 = .ok (.isub, 1) := by decide +kernel
theorem dX0_startOfSigns_10 : decode cX0_startOfSigns 10 = .ok (.invokevirtual 37, 3) := by decide +kernel
theorem dX0_startOfSigns_13 : decode cX0_startOfSigns 13 = .ok (.invokestatic 26, 3) := by decide +kernel
theorem dX0_startOfSigns_16 : decode cX0_startOfSigns 16 = .ok (.ifCond .ne 5, 3) := by decide +kernel
theorem dX0_startOfSigns_19 : decode cX0_startOfSigns 19 = .ok (.iload_n 2, 1) := by decide +kernel
theorem dX0_startOfSigns_20 : decode cX0_startOfSigns 20 = .ok (.ireturn, 1) := by decide +kernel
theorem dX0_startOfSigns_21 : decode cX0_startOfSigns 21 = .ok (.iinc 2 (-1), 3) := by decide +kernel
theorem dX0_startOfSigns_24 : decode cX0_startOfSigns 24 = .ok (.goto (-22), 3) := by decide +kernel
theorem dX0_startOfSigns_27 : decode cX0_startOfSigns 27 = .ok (.iconst 0, 1) := by decide +kernel
theorem dX0_startOfSigns_28 : decode cX0_startOfSigns 28 = .ok (.ireturn, 1) := by decide +kernel
set_option maxRecDepth 20000 in
theorem ggX0_endOfSigns_X5_size : GoodIn wsX0_endOfSigns wsX5_size := goodIn_r _ [5, 6, 20, 21] (by decide +kernel) (by decide +kernel)
set_option maxRecDepth 20000 in
theorem gX0_endOfSigns_X5_size : GoodIn wsX0_endOfSigns (wsV RX0 42 RX5 yX5_size wsX5_size) := goodIn_app (goodIn_of _ (by decide +kernel)) ggX0_endOfSigns_X5_size
set_option maxRecDepth 20000 in
theorem ggX0_endOfSigns_X5_at : GoodIn wsX0_endOfSigns wsX5_at := goodIn_r _ [10, 11, 12, 13, 14, 4, 15, 6, 20, 21] (by decide +kernel) (by decide +kernel)
set_option maxRecDepth 20000 in
theorem gX0_endOfSigns_X5_at : GoodIn wsX0_endOfSigns (wsV RX0 37 RX5 yX5_at wsX5_at) := goodIn_app (goodIn_of _ (by decide +kernel)) ggX0_endOfSigns_X5_at
set_option maxRecDepth 20000 in
theorem ggX0_endOfSigns_X0_isSign : GoodIn wsX0_endOfSigns wsX0_isSign := goodIn_r _ [19] (by decide +kernel) (by decide +kernel)
set_option maxRecDepth 20000 in
theorem gX0_endOfSigns_X0_isSign : GoodIn wsX0_endOfSigns (va_wsS RX0 26 yX0_isSign wsX0_isSign) := goodIn_app (goodIn_of _ (by decide +kernel)) ggX0_endOfSigns_X0_isSign
theorem dX0_endOfSigns_0 : decode cX0_endOfSigns 0 = .ok (.iload_n 1, 1) := by decide +kernel
theorem dX0_endOfSigns_1 : decode cX0_endOfSigns 1 = .ok (.istore_n 2, 1) := by decide +kernel
theorem dX0_endOfSigns_2 : decode cX0_endOfSigns 2 = .ok (.iload_n 2, 1) := by decide +kernel
theorem dX0_endOfSigns_3 : decode cX0_endOfSigns 3 = .ok (.aload_n 0, 1) := by decide +kernel
theorem dX0_endOfSigns_4 : decode cX0_endOfSigns 4 = .ok (.invokevirtual 42, 3) := by decide +kernel
theorem dX0_endOfSigns_7 : decode cX0_endOfSigns 7 = .ok (.if_icmp .ge 22, 3) := by decide +kernel
theorem dX0_endOfSigns_10 : decode cX0_endOfSigns 10 = .ok (.aload_n 0, 1) := by decide +kernel
theorem dX0_endOfSigns_11 : decode cX0_endOfSigns 11 = .ok (.iload_n 2, 1) := by decide +kernel
theorem dX0_endOfSigns_12 : decode cX0_endOfSigns 12 = .ok (.invokevirtual 37, 3) := by decide +kernel
theorem dX0_endOfSigns_15 : decode cX0_endOfSigns 15 = .ok (.invokestatic 26, 3) := by decide +kernel
theorem dX0_endOfSigns_18 : decode cX0_endOfSigns 18 = .ok (.ifCond .ne 5, 3) := by decide +kernel
theorem dX0_endOfSigns_21 : decode cX0_endOfSigns 21 = .ok (.iload_n 2, 1) := by decide +kernel
theorem dX0_endOfSigns_22 : decode cX0_endOfSigns 22 = .ok (.ireturn, 1) := by decide +kernel
theorem dX0_endOfSigns_23 : decode cX0_endOfSigns 23 = .ok (.iinc 2 1, 3) := by decide +kernel
theorem dX0_endOfSigns_26 : decode cX0_endOfSigns 26 = .ok (.goto (-24), 3) := by decide +kernel
theorem dX0_endOfSigns_29 : decode cX0_endOfSigns 29 = .ok (.aload_n 0, 1) := by decide +kernel
theorem dX0_endOfSigns_30 : decode cX0_endOfSigns 30 = .ok (.invokevirtual 42, 3) := by decide +kernel
theorem dX0_endOfSigns_33 : decode cX0_endOfSigns 33 = .ok (.ireturn, 1) := by decide +kernel
theorem dX0_shiftBehind_0 : decode cX0_shiftBehind 0 = .ok (.iload_n 0, 1) := by decide +kernel
theorem dX0_shiftBehind_1 : decode cX0_shiftBehind 1 = .ok (.bipush 30, 2) := by decide +kernel
theorem dX0_shiftBehind_3 : decode cX0_shiftBehind 3 = .ok (.if_icmp .ne 5, 3) := by decide +kernel
theorem dX0_shiftBehind_6 : decode cX0_shiftBehind 6 = .ok (.iconst 1, 1) := by decide +kernel
theorem dX0_shiftBehind_7 : decode cX0_shiftBehind 7 = .ok (.ireturn, 1) := by decide +kernel
theorem dX0_shiftBehind_8 : decode cX0_shiftBehind 8 = .ok (.iload_n 0, 1) := by decide +kernel
theorem dX0_shiftBehind_9 : decode cX0_shiftBehind 9 = .ok (.bipush 31, 2) := by decide +kernel
theorem dX0_shiftBehind_11 : decode cX0_shiftBehind 11 = .ok (.if_icmp .eq 13, 3) := by decide +kernel
theorem dX0_shiftBehind_14 : decode cX0_shiftBehind 14 = .ok (.iload_n 2, 1) := by decide +kernel
theorem dX0_shiftBehind_15 : decode cX0_shiftBehind 15 = .ok (.ifCond .eq 11, 3) := by decide +kernel
theorem dX0_shiftBehind_18 : decode cX0_shiftBehind 18 = .ok (.iload_n 0, 1) := by decide +kernel
theorem dX0_shiftBehind_19 : decode cX0_shiftBehind 19 = .ok (.bipush 27, 2) := by decide +kernel
theorem dX0_shiftBehind_21 : decode cX0_shiftBehind 21 = .ok (.if_icmp .ne 5, 3) := by decide +kernel
theorem dX0_shiftBehind_24 : decode cX0_shiftBehind 24 = .ok (.iconst 0, 1) := by decide +kernel
theorem dX0_shiftBehind_25 : decode cX0_shiftBehind 25 = .ok (.ireturn, 1) := by decide +kernel
theorem dX0_shiftBehind_26 : decode cX0_shiftBehind 26 = .ok (.iload_n 1, 1) := by decide +kernel
theorem dX0_shiftBehind_27 : decode cX0_shiftBehind 27 = .ok (.ireturn, 1) := by decide +kernel
set_option maxRecDepth 20000 in
theorem ggX1_init_X5_init : GoodIn wsX1_init wsX5_init := goodIn_r _ [10, 11, 2, 3, 12, 13, 14, 15, 16, 17, 18, 19] (by decide +kernel) (by decide +kernel)
set_option maxRecDepth 20000 in
theorem gX1_init_X5_init : GoodIn wsX1_init (wsX5_init) := ggX1_init_X5_init
theorem dX1_init_0 : decode cX1_init 0 = .ok (.aload_n 0, 1) := by decide +kernel
theorem dX1_init_1 : decode cX1_init 1 = .ok (.invokespecial 3, 3) := by decide +kernel
theorem dX1_init_4 : decode cX1_init 4 = .ok (.aload_n 0, 1) := by decide +kernel
theorem dX1_init_5 : decode cX1_init 5 = .ok (.new 9, 3) := by decide +kernel
theorem dX1_init_8 : decode cX1_init 8 = .ok (.dup, 1) := by decide +kernel
theorem dX1_init_9 : decode cX1_init 9 = .ok (.bipush 20, 2) := by decide +kernel
theorem dX1_init_11 : decode cX1_init 11 = .ok (.invokespecial 11, 3) := by decide +kernel
theorem dX1_init_14 : decode cX1_init 14 = .ok (.putfield 14, 3) := by decide +kernel
theorem dX1_init_17 : decode cX1_init 17 = .ok (.return_, 1) := by decide +kernel
set_option maxRecDepth 20000 in
theorem ggX1_wordOfCharacters_X5_size : GoodIn wsX1_wordOfCharacters wsX5_size := goodIn_r _ [5, 6, 116, 117] (by decide +kernel) (by decide +kernel)
set_option maxRecDepth 20000 in
theorem gX1_wordOfCharacters_X5_size : GoodIn wsX1_wordOfCharacters (wsV RX1 20 RX5 yX5_size wsX5_size) := goodIn_app (goodIn_of _ (by decide +kernel)) ggX1_wordOfCharacters_X5_size
set_option maxRecDepth 20000 in
theorem ggX1_wordOfCharacters_X5_at : GoodIn wsX1_wordOfCharacters wsX5_at := goodIn_r _ [10, 11, 12, 13, 14, 4, 15, 6, 116, 117] (by decide +kernel) (by decide +kernel)
set_option maxRecDepth 20000 in
theorem gX1_wordOfCharacters_X5_at : GoodIn wsX1_wordOfCharacters (wsV RX1 24 RX5 yX5_at wsX5_at) := goodIn_app (goodIn_of _ (by decide +kernel)) ggX1_wordOfCharacters_X5_at
set_option maxRecDepth 20000 in
theorem ggX1_wordOfCharacters_X0_isLetter : GoodIn wsX1_wordOfCharacters wsX0_isLetter := goodIn_r _ [19] (by decide +kernel) (by decide +kernel)
set_option maxRecDepth 20000 in
theorem gX1_wordOfCharacters_X0_isLetter : GoodIn wsX1_wordOfCharacters (va_wsS RX1 28 yX0_isLetter wsX0_isLetter) := goodIn_app (goodIn_of _ (by decide +kernel)) ggX1_wordOfCharacters_X0_isLetter
set_option maxRecDepth 20000 in
theorem ggX1_wordOfCharacters_X0_codeOf : GoodIn wsX1_wordOfCharacters wsX0_codeOf := goodIn_r _ [22, 23, 17, 18, 19, 24, 25, 26, 27, 28, 29, 30, 31, 32, 33, 34, 35, 36, 37, 38, 39, 40, 41, 42, 43, 44, 45, 46, 47, 48, 49, 50, 51, 52, 53, 54, 55, 56, 57, 58, 59, 60, 61, 62, 63, 64, 65, 66, 67, 68, 69, 70, 71, 72, 73, 74, 75, 76, 77, 78, 79, 80, 81, 82, 83, 84, 85, 86, 87, 88, 89, 90, 91, 92, 93, 94, 95, 96, 97, 98, 99, 100, 101, 102, 103, 104, 105, 106, 107, 108, 109, 110, 111, 112, 113, 114, 115] (by decide +kernel) (by decide +kernel)
set_option maxRecDepth 20000 in
theorem gX1_wordOfCharacters_X0_codeOf : GoodIn wsX1_wordOfCharacters (va_wsS RX1 34 yX0_codeOf wsX0_codeOf) := goodIn_app (goodIn_of _ (by decide +kernel)) ggX1_wordOfCharacters_X0_codeOf
theorem dX1_wordOfCharacters_0 : decode cX1_wordOfCharacters 0 = .ok (.aload_n 0, 1) := by decide +kernel
theorem dX1_wordOfCharacters_1 : decode cX1_wordOfCharacters 1 = .ok (.invokevirtual 20, 3) := by decide +kernel
theorem dX1_wordOfCharacters_4 : decode cX1_wordOfCharacters 4 = .ok (.bipush 6, 2) := by decide +kernel
theorem dX1_wordOfCharacters_6 : decode cX1_wordOfCharacters 6 = .ok (.if_icmp .le 5, 3) := by decide +kernel
theorem dX1_wordOfCharacters_9 : decode cX1_wordOfCharacters 9 = .ok (.iconst 0, 1) := by decide +kernel
theorem dX1_wordOfCharacters_10 : decode cX1_wordOfCharacters 10 = .ok (.ireturn, 1) := by decide +kernel
theorem dX1_wordOfCharacters_11 : decode cX1_wordOfCharacters 11 = .ok (.iconst 0, 1) := by decide +kernel
theorem dX1_wordOfCharacters_12 : decode cX1_wordOfCharacters 12 = .ok (.istore_n 1, 1) := by decide +kernel
theorem dX1_wordOfCharacters_13 : decode cX1_wordOfCharacters 13 = .ok (.iconst 0, 1) := by decide +kernel
theorem dX1_wordOfCharacters_14 : decode cX1_wordOfCharacters 14 = .ok (.istore_n 2, 1) := by decide +kernel
theorem dX1_wordOfCharacters_15 : decode cX1_wordOfCharacters 15 = .ok (.iload_n 2, 1) := by decide +kernel
theorem dX1_wordOfCharacters_16 : decode cX1_wordOfCharacters 16 = .ok (.aload_n 0, 1) := by decide +kernel
theorem dX1_wordOfCharacters_17 : decode cX1_wordOfCharacters 17 = .ok (.invokevirtual 20, 3) := by decide +kernel
theorem dX1_wordOfCharacters_20 : decode cX1_wordOfCharacters 20 = .ok (.if_icmp .ge 37, 3) := by decide +kernel
theorem dX1_wordOfCharacters_23 : decode cX1_wordOfCharacters 23 = .ok (.aload_n 0, 1) := by decide +kernel
theorem dX1_wordOfCharacters_24 : decode cX1_wordOfCharacters 24 = .ok (.iload_n 2, 1) := by decide +kernel
theorem dX1_wordOfCharacters_25 : decode cX1_wordOfCharacters 25 = .ok (.invokevirtual 24, 3) := by decide +kernel
theorem dX1_wordOfCharacters_28 : decode cX1_wordOfCharacters 28 = .ok (.invokestatic 28, 3) := by decide +kernel
theorem dX1_wordOfCharacters_31 : decode cX1_wordOfCharacters 31 = .ok (.ifCond .ne 5, 3) := by decide +kernel
theorem dX1_wordOfCharacters_34 : decode cX1_wordOfCharacters 34 = .ok (.iconst 0, 1) := by decide +kernel
theorem dX1_wordOfCharacters_35 : decode cX1_wordOfCharacters 35 = .ok (.ireturn, 1) := by decide +kernel
theorem dX1_wordOfCharacters_36 : decode cX1_wordOfCharacters 36 = .ok (.iload_n 1, 1) := by decide +kernel
theorem dX1_wordOfCharacters_37 : decode cX1_wordOfCharacters 37 = .ok (.aload_n 0, 1) := by decide +kernel
theorem dX1_wordOfCharacters_38 : decode cX1_wordOfCharacters 38 = .ok (.iload_n 2, 1) := by decide +kernel
theorem dX1_wordOfCharacters_39 : decode cX1_wordOfCharacters 39 = .ok (.invokevirtual 24, 3) := by decide +kernel
theorem dX1_wordOfCharacters_42 : decode cX1_wordOfCharacters 42 = .ok (.invokestatic 34, 3) := by decide +kernel
theorem dX1_wordOfCharacters_45 : decode cX1_wordOfCharacters 45 = .ok (.iconst 5, 1) := by decide +kernel
theorem dX1_wordOfCharacters_46 : decode cX1_wordOfCharacters 46 = .ok (.iload_n 2, 1) := by decide +kernel
theorem dX1_wordOfCharacters_47 : decode cX1_wordOfCharacters 47 = .ok (.imul, 1) := by decide +kernel
theorem dX1_wordOfCharacters_48 : decode cX1_wordOfCharacters 48 = .ok (.ishl, 1) := by decide +kernel
theorem dX1_wordOfCharacters_49 : decode cX1_wordOfCharacters 49 = .ok (.ior, 1) := by decide +kernel
theorem dX1_wordOfCharacters_50 : decode cX1_wordOfCharacters 50 = .ok (.istore_n 1, 1) := by decide +kernel
theorem dX1_wordOfCharacters_51 : decode cX1_wordOfCharacters 51 = .ok (.iinc 2 1, 3) := by decide +kernel
theorem dX1_wordOfCharacters_54 : decode cX1_wordOfCharacters 54 = .ok (.goto (-39), 3) := by decide +kernel
theorem dX1_wordOfCharacters_57 : decode cX1_wordOfCharacters 57 = .ok (.iload_n 1, 1) := by decide +kernel
theorem dX1_wordOfCharacters_58 : decode cX1_wordOfCharacters 58 = .ok (.ireturn, 1) := by decide +kernel
set_option maxRecDepth 20000 in
theorem ggX1_wordOfCodes_X5_at : GoodIn wsX1_wordOfCodes wsX5_at := goodIn_r _ [5, 6, 7, 8, 9, 4, 10, 11, 12, 13] (by decide +kernel) (by decide +kernel)
set_option maxRecDepth 20000 in
theorem gX1_wordOfCodes_X5_at : GoodIn wsX1_wordOfCodes (wsV RX1 24 RX5 yX5_at wsX5_at) := goodIn_app (goodIn_of _ (by decide +kernel)) ggX1_wordOfCodes_X5_at
theorem dX1_wordOfCodes_0 : decode cX1_wordOfCodes 0 = .ok (.iload_n 2, 1) := by decide +kernel
theorem dX1_wordOfCodes_1 : decode cX1_wordOfCodes 1 = .ok (.iload_n 1, 1) := by decide +kernel
theorem dX1_wordOfCodes_2 : decode cX1_wordOfCodes 2 = .ok (.isub, 1) := by decide +kernel
theorem dX1_wordOfCodes_3 : decode cX1_wordOfCodes 3 = .ok (.bipush 6, 2) := by decide +kernel
theorem dX1_wordOfCodes_5 : decode cX1_wordOfCodes 5 = .ok (.if_icmp .le 5, 3) := by decide +kernel
theorem dX1_wordOfCodes_8 : decode cX1_wordOfCodes 8 = .ok (.iconst 0, 1) := by decide +kernel
theorem dX1_wordOfCodes_9 : decode cX1_wordOfCodes 9 = .ok (.ireturn, 1) := by decide +kernel
theorem dX1_wordOfCodes_10 : decode cX1_wordOfCodes 10 = .ok (.iconst 0, 1) := by decide +kernel
theorem dX1_wordOfCodes_11 : decode cX1_wordOfCodes 11 = .ok (.istore_n 3, 1) := by decide +kernel
theorem dX1_wordOfCodes_12 : decode cX1_wordOfCodes 12 = .ok (.iload_n 1, 1) := by decide +kernel
theorem dX1_wordOfCodes_13 : decode cX1_wordOfCodes 13 = .ok (.istore 4, 2) := by decide +kernel
theorem dX1_wordOfCodes_15 : decode cX1_wordOfCodes 15 = .ok (.iload 4, 2) := by decide +kernel
theorem dX1_wordOfCodes_17 : decode cX1_wordOfCodes 17 = .ok (.iload_n 2, 1) := by decide +kernel
theorem dX1_wordOfCodes_18 : decode cX1_wordOfCodes 18 = .ok (.if_icmp .ge 25, 3) := by decide +kernel
theorem dX1_wordOfCodes_21 : decode cX1_wordOfCodes 21 = .ok (.iload_n 3, 1) := by decide +kernel
theorem dX1_wordOfCodes_22 : decode cX1_wordOfCodes 22 = .ok (.aload_n 0, 1) := by decide +kernel
theorem dX1_wordOfCodes_23 : decode cX1_wordOfCodes 23 = .ok (.iload 4, 2) := by decide +kernel
theorem dX1_wordOfCodes_25 : decode cX1_wordOfCodes 25 = .ok (.invokevirtual 24, 3) := by decide +kernel
theorem dX1_wordOfCodes_28 : decode cX1_wordOfCodes 28 = .ok (.iconst 5, 1) := by decide +kernel
theorem dX1_wordOfCodes_29 : decode cX1_wordOfCodes 29 = .ok (.iload 4, 2) := by decide +kernel
theorem dX1_wordOfCodes_31 : decode cX1_wordOfCodes 31 = .ok (.iload_n 1, 1) := by decide +kernel
theorem dX1_wordOfCodes_32 : decode cX1_wordOfCodes 32 = .ok (.isub, 1) := by decide +kernel
theorem dX1_wordOfCodes_33 : decode cX1_wordOfCodes 33 = .ok (.imul, 1) := by decide +kernel
theorem dX1_wordOfCodes_34 : decode cX1_wordOfCodes 34 = .ok (.ishl, 1) := by decide +kernel
theorem dX1_wordOfCodes_35 : decode cX1_wordOfCodes 35 = .ok (.ior, 1) := by decide +kernel
theorem dX1_wordOfCodes_36 : decode cX1_wordOfCodes 36 = .ok (.istore_n 3, 1) := by decide +kernel
theorem dX1_wordOfCodes_37 : decode cX1_wordOfCodes 37 = .ok (.iinc 4 1, 3) := by decide +kernel
theorem dX1_wordOfCodes_40 : decode cX1_wordOfCodes 40 = .ok (.goto (-25), 3) := by decide +kernel
theorem dX1_wordOfCodes_43 : decode cX1_wordOfCodes 43 = .ok (.iload_n 3, 1) := by decide +kernel
theorem dX1_wordOfCodes_44 : decode cX1_wordOfCodes 44 = .ok (.ireturn, 1) := by decide +kernel
set_option maxRecDepth 20000 in
theorem ggX1_areDigits_X5_at : GoodIn wsX1_areDigits wsX5_at := goodIn_r _ [5, 6, 7, 8, 9, 4, 10, 11, 16, 17] (by decide +kernel) (by decide +kernel)
set_option maxRecDepth 20000 in
theorem gX1_areDigits_X5_at : GoodIn wsX1_areDigits (wsV RX1 24 RX5 yX5_at wsX5_at) := goodIn_app (goodIn_of _ (by decide +kernel)) ggX1_areDigits_X5_at
set_option maxRecDepth 20000 in
theorem ggX1_areDigits_X0_isDigit : GoodIn wsX1_areDigits wsX0_isDigit := goodIn_r _ [15] (by decide +kernel) (by decide +kernel)
set_option maxRecDepth 20000 in
theorem gX1_areDigits_X0_isDigit : GoodIn wsX1_areDigits (va_wsS RX1 37 yX0_isDigit wsX0_isDigit) := goodIn_app (goodIn_of _ (by decide +kernel)) ggX1_areDigits_X0_isDigit
theorem dX1_areDigits_0 : decode cX1_areDigits 0 = .ok (.iload_n 1, 1) := by decide +kernel
theorem dX1_areDigits_1 : decode cX1_areDigits 1 = .ok (.istore_n 3, 1) := by decide +kernel
theorem dX1_areDigits_2 : decode cX1_areDigits 2 = .ok (.iload_n 3, 1) := by decide +kernel
theorem dX1_areDigits_3 : decode cX1_areDigits 3 = .ok (.iload_n 2, 1) := by decide +kernel
theorem dX1_areDigits_4 : decode cX1_areDigits 4 = .ok (.if_icmp .ge 22, 3) := by decide +kernel
theorem dX1_areDigits_7 : decode cX1_areDigits 7 = .ok (.aload_n 0, 1) := by decide +kernel
theorem dX1_areDigits_8 : decode cX1_areDigits 8 = .ok (.iload_n 3, 1) := by decide +kernel
theorem dX1_areDigits_9 : decode cX1_areDigits 9 = .ok (.invokevirtual 24, 3) := by decide +kernel
theorem dX1_areDigits_12 : decode cX1_areDigits 12 = .ok (.invokestatic 37, 3) := by decide +kernel
theorem dX1_areDigits_15 : decode cX1_areDigits 15 = .ok (.ifCond .ne 5, 3) := by decide +kernel
theorem dX1_areDigits_18 : decode cX1_areDigits 18 = .ok (.iconst 0, 1) := by decide +kernel
theorem dX1_areDigits_19 : decode cX1_areDigits 19 = .ok (.ireturn, 1) := by decide +kernel
theorem dX1_areDigits_20 : decode cX1_areDigits 20 = .ok (.iinc 3 1, 3) := by decide +kernel
theorem dX1_areDigits_23 : decode cX1_areDigits 23 = .ok (.goto (-21), 3) := by decide +kernel
theorem dX1_areDigits_26 : decode cX1_areDigits 26 = .ok (.iconst 1, 1) := by decide +kernel
theorem dX1_areDigits_27 : decode cX1_areDigits 27 = .ok (.ireturn, 1) := by decide +kernel
set_option maxRecDepth 20000 in
theorem ggX1_find_X5_find : GoodIn wsX1_find wsX5_find := goodIn_r _ [6, 7, 8, 9, 10, 5, 11, 12, 13, 14, 15, 16, 18, 19] (by decide +kernel) (by decide +kernel)
set_option maxRecDepth 20000 in
theorem gX1_find_X5_find : GoodIn wsX1_find (wsV RX1 40 RX5 yX5_find wsX5_find) := goodIn_app (goodIn_of _ (by decide +kernel)) ggX1_find_X5_find
theorem dX1_find_0 : decode cX1_find 0 = .ok (.aload_n 0, 1) := by decide +kernel
theorem dX1_find_1 : decode cX1_find 1 = .ok (.getfield 14, 3) := by decide +kernel
theorem dX1_find_4 : decode cX1_find 4 = .ok (.iload_n 1, 1) := by decide +kernel
theorem dX1_find_5 : decode cX1_find 5 = .ok (.invokevirtual 40, 3) := by decide +kernel
theorem dX1_find_8 : decode cX1_find 8 = .ok (.ireturn, 1) := by decide +kernel
set_option maxRecDepth 20000 in
theorem ggX1_findSegment_X1_wordOfCodes : GoodIn wsX1_findSegment wsX1_wordOfCodes := goodIn_r _ [4, 5, 6, 7, 8, 9, 10, 11, 12, 13, 14, 15, 26, 27] (by decide +kernel) (by decide +kernel)
set_option maxRecDepth 20000 in
theorem gX1_findSegment_X1_wordOfCodes : GoodIn wsX1_findSegment (va_wsS RX1 43 yX1_wordOfCodes wsX1_wordOfCodes) := goodIn_app (goodIn_of _ (by decide +kernel)) ggX1_findSegment_X1_wordOfCodes
set_option maxRecDepth 20000 in
theorem ggX1_findSegment_X1_find : GoodIn wsX1_findSegment wsX1_find := goodIn_r _ [19, 20, 21, 22, 23, 8, 24, 15, 25, 6, 7, 9, 10, 11, 12, 13, 14, 28, 26, 27] (by decide +kernel) (by decide +kernel)
set_option maxRecDepth 20000 in
theorem gX1_findSegment_X1_find : GoodIn wsX1_findSegment (wsV RX1 47 RX1 yX1_find wsX1_find) := goodIn_app (goodIn_of _ (by decide +kernel)) ggX1_findSegment_X1_find
theorem dX1_findSegment_0 : decode cX1_findSegment 0 = .ok (.aload_n 0, 1) := by decide +kernel
theorem dX1_findSegment_1 : decode cX1_findSegment 1 = .ok (.aload_n 1, 1) := by decide +kernel
theorem dX1_findSegment_2 : decode cX1_findSegment 2 = .ok (.iload_n 2, 1) := by decide +kernel
theorem dX1_findSegment_3 : decode cX1_findSegment 3 = .ok (.iload_n 3, 1) := by decide +kernel
theorem dX1_findSegment_4 : decode cX1_findSegment 4 = .ok (.invokestatic 43, 3) := by decide +kernel
theorem dX1_findSegment_7 : decode cX1_findSegment 7 = .ok (.invokevirtual 47, 3) := by decide +kernel
theorem dX1_findSegment_10 : decode cX1_findSegment 10 = .ok (.ireturn, 1) := by decide +kernel
set_option maxRecDepth 20000 in
theorem ggX1_codeOfLetter_X5_at : GoodIn wsX1_codeOfLetter wsX5_at := goodIn_r _ [6, 7, 8, 9, 10, 5, 11, 12, 14, 15] (by decide +kernel) (by decide +kernel)
set_option maxRecDepth 20000 in
theorem gX1_codeOfLetter_X5_at : GoodIn wsX1_codeOfLetter (wsV RX1 24 RX5 yX5_at wsX5_at) := goodIn_app (goodIn_of _ (by decide +kernel)) ggX1_codeOfLetter_X5_at
theorem dX1_codeOfLetter_0 : decode cX1_codeOfLetter 0 = .ok (.aload_n 0, 1) := by decide +kernel
theorem dX1_codeOfLetter_1 : decode cX1_codeOfLetter 1 = .ok (.getfield 14, 3) := by decide +kernel
theorem dX1_codeOfLetter_4 : decode cX1_codeOfLetter 4 = .ok (.iload_n 1, 1) := by decide +kernel
theorem dX1_codeOfLetter_5 : decode cX1_codeOfLetter 5 = .ok (.invokevirtual 24, 3) := by decide +kernel
theorem dX1_codeOfLetter_8 : decode cX1_codeOfLetter 8 = .ok (.iconst 5, 1) := by decide +kernel
theorem dX1_codeOfLetter_9 : decode cX1_codeOfLetter 9 = .ok (.iload_n 2, 1) := by decide +kernel
theorem dX1_codeOfLetter_10 : decode cX1_codeOfLetter 10 = .ok (.imul, 1) := by decide +kernel
theorem dX1_codeOfLetter_11 : decode cX1_codeOfLetter 11 = .ok (.ishr, 1) := by decide +kernel
theorem dX1_codeOfLetter_12 : decode cX1_codeOfLetter 12 = .ok (.bipush 31, 2) := by decide +kernel
theorem dX1_codeOfLetter_14 : decode cX1_codeOfLetter 14 = .ok (.iand, 1) := by decide +kernel
theorem dX1_codeOfLetter_15 : decode cX1_codeOfLetter 15 = .ok (.ireturn, 1) := by decide +kernel
set_option maxRecDepth 20000 in
theorem ggX1_lengthOf_X1_codeOfLetter : GoodIn wsX1_lengthOf wsX1_codeOfLetter := goodIn_r _ [5, 6, 7, 8, 9, 10, 11, 12, 13, 14, 15, 16, 17, 18, 19, 20] (by decide +kernel) (by decide +kernel)
set_option maxRecDepth 20000 in
theorem gX1_lengthOf_X1_codeOfLetter : GoodIn wsX1_lengthOf (wsV RX1 48 RX1 yX1_codeOfLetter wsX1_codeOfLetter) := goodIn_app (goodIn_of _ (by decide +kernel)) ggX1_lengthOf_X1_codeOfLetter
theorem dX1_lengthOf_0 : decode cX1_lengthOf 0 = .ok (.iconst 0, 1) := by decide +kernel
theorem dX1_lengthOf_1 : decode cX1_lengthOf 1 = .ok (.istore_n 2, 1) := by decide +kernel
theorem dX1_lengthOf_2 : decode cX1_lengthOf 2 = .ok (.iconst 0, 1) := by decide +kernel
theorem dX1_lengthOf_3 : decode cX1_lengthOf 3 = .ok (.istore_n 3, 1) := by decide +kernel
theorem dX1_lengthOf_4 : decode cX1_lengthOf 4 = .ok (.iload_n 3, 1) := by decide +kernel
theorem dX1_lengthOf_5 : decode cX1_lengthOf 5 = .ok (.bipush 6, 2) := by decide +kernel
theorem dX1_lengthOf_7 : decode cX1_lengthOf 7 = .ok (.if_icmp .ge 21, 3) := by decide +kernel
theorem dX1_lengthOf_10 : decode cX1_lengthOf 10 = .ok (.aload_n 0, 1) := by decide +kernel
theorem dX1_lengthOf_11 : decode cX1_lengthOf 11 = .ok (.iload_n 1, 1) := by decide +kernel
theorem dX1_lengthOf_12 : decode cX1_lengthOf 12 = .ok (.iload_n 3, 1) := by decide +kernel
theorem dX1_lengthOf_13 : decode cX1_lengthOf 13 = .ok (.invokevirtual 48, 3) := by decide +kernel
theorem dX1_lengthOf_16 : decode cX1_lengthOf 16 = .ok (.ifCond .eq 6, 3) := by decide +kernel
theorem dX1_lengthOf_19 : decode cX1_lengthOf 19 = .ok (.iinc 2 1, 3) := by decide +kernel
theorem dX1_lengthOf_22 : decode cX1_lengthOf 22 = .ok (.iinc 3 1, 3) := by decide +kernel
theorem dX1_lengthOf_25 : decode cX1_lengthOf 25 = .ok (.goto (-21), 3) := by decide +kernel
theorem dX1_lengthOf_28 : decode cX1_lengthOf 28 = .ok (.iload_n 2, 1) := by decide +kernel
theorem dX1_lengthOf_29 : decode cX1_lengthOf 29 = .ok (.ireturn, 1) := by decide +kernel
set_option maxRecDepth 20000 in
theorem ggX1_isPlausible_X1_findSegment : GoodIn wsX1_isPlausible wsX1_findSegment := goodIn_r _ [5, 6, 7, 4, 8, 9, 10, 11, 12, 13, 14, 15, 16, 17, 18, 19, 20, 21, 22, 23, 24, 25, 26, 27, 28, 29, 37, 38, 39] (by decide +kernel) (by decide +kernel)
set_option maxRecDepth 20000 in
theorem gX1_isPlausible_X1_findSegment : GoodIn wsX1_isPlausible (wsV RX1 52 RX1 yX1_findSegment wsX1_findSegment) := goodIn_app (goodIn_of _ (by decide +kernel)) ggX1_isPlausible_X1_findSegment
set_option maxRecDepth 20000 in
theorem ggX1_isPlausible_X1_areDigits : GoodIn wsX1_isPlausible wsX1_areDigits := goodIn_r _ [32, 9, 10, 11, 12, 13, 14, 15, 16, 17, 18, 19, 33, 34, 35, 36, 37, 38] (by decide +kernel) (by decide +kernel)
set_option maxRecDepth 20000 in
theorem gX1_isPlausible_X1_areDigits : GoodIn wsX1_isPlausible (va_wsS RX1 55 yX1_areDigits wsX1_areDigits) := goodIn_app (goodIn_of _ (by decide +kernel)) ggX1_isPlausible_X1_areDigits
theorem dX1_isPlausible_0 : decode cX1_isPlausible 0 = .ok (.iload 4, 2) := by decide +kernel
theorem dX1_isPlausible_2 : decode cX1_isPlausible 2 = .ok (.ifCond .ne 22, 3) := by decide +kernel
theorem dX1_isPlausible_5 : decode cX1_isPlausible 5 = .ok (.aload_n 0, 1) := by decide +kernel
theorem dX1_isPlausible_6 : decode cX1_isPlausible 6 = .ok (.aload_n 1, 1) := by decide +kernel
theorem dX1_isPlausible_7 : decode cX1_isPlausible 7 = .ok (.iload_n 2, 1) := by decide +kernel
theorem dX1_isPlausible_8 : decode cX1_isPlausible 8 = .ok (.iload_n 3, 1) := by decide +kernel
theorem dX1_isPlausible_9 : decode cX1_isPlausible 9 = .ok (.invokevirtual 52, 3) := by decide +kernel
theorem dX1_isPlausible_12 : decode cX1_isPlausible 12 = .ok (.iconst (-1), 1) := by decide +kernel
theorem dX1_isPlausible_13 : decode cX1_isPlausible 13 = .ok (.if_icmp .eq 7, 3) := by decide +kernel
theorem dX1_isPlausible_16 : decode cX1_isPlausible 16 = .ok (.iconst 1, 1) := by decide +kernel
theorem dX1_isPlausible_17 : decode cX1_isPlausible 17 = .ok (.goto 13, 3) := by decide +kernel
theorem dX1_isPlausible_20 : decode cX1_isPlausible 20 = .ok (.iconst 0, 1) := by decide +kernel
theorem dX1_isPlausible_21 : decode cX1_isPlausible 21 = .ok (.goto 9, 3) := by decide +kernel
theorem dX1_isPlausible_24 : decode cX1_isPlausible 24 = .ok (.aload_n 1, 1) := by decide +kernel
theorem dX1_isPlausible_25 : decode cX1_isPlausible 25 = .ok (.iload_n 2, 1) := by decide +kernel
theorem dX1_isPlausible_26 : decode cX1_isPlausible 26 = .ok (.iload_n 3, 1) := by decide +kernel
theorem dX1_isPlausible_27 : decode cX1_isPlausible 27 = .ok (.invokestatic 55, 3) := by decide +kernel
theorem dX1_isPlausible_30 : decode cX1_isPlausible 30 = .ok (.ireturn, 1) := by decide +kernel
set_option maxRecDepth 20000 in
theorem ggX1_kindOf_X1_isPlausible : GoodIn wsX1_kindOf wsX1_isPlausible := goodIn_r _ [5, 6, 7, 8, 4, 9, 10, 11, 12, 13, 14, 15, 16, 17, 18, 19, 20, 21, 22, 23, 24, 25, 26, 27, 28, 29, 30, 31, 32, 33, 34, 35, 36, 37, 38, 39, 40, 41, 42, 43] (by decide +kernel) (by decide +kernel)
set_option maxRecDepth 20000 in
theorem gX1_kindOf_X1_isPlausible : GoodIn wsX1_kindOf (wsV RX1 59 RX1 yX1_isPlausible wsX1_isPlausible) := goodIn_app (goodIn_of _ (by decide +kernel)) ggX1_kindOf_X1_isPlausible
theorem dX1_kindOf_0 : decode cX1_kindOf 0 = .ok (.aload_n 0, 1) := by decide +kernel
theorem dX1_kindOf_1 : decode cX1_kindOf 1 = .ok (.aload_n 1, 1) := by decide +kernel
theorem dX1_kindOf_2 : decode cX1_kindOf 2 = .ok (.iload_n 2, 1) := by decide +kernel
theorem dX1_kindOf_3 : decode cX1_kindOf 3 = .ok (.iload_n 3, 1) := by decide +kernel
theorem dX1_kindOf_4 : decode cX1_kindOf 4 = .ok (.iload 4, 2) := by decide +kernel
theorem dX1_kindOf_6 : decode cX1_kindOf 6 = .ok (.invokevirtual 59, 3) := by decide +kernel
theorem dX1_kindOf_9 : decode cX1_kindOf 9 = .ok (.ifCond .eq 6, 3) := by decide +kernel
theorem dX1_kindOf_12 : decode cX1_kindOf 12 = .ok (.iload 4, 2) := by decide +kernel
theorem dX1_kindOf_14 : decode cX1_kindOf 14 = .ok (.ireturn, 1) := by decide +kernel
theorem dX1_kindOf_15 : decode cX1_kindOf 15 = .ok (.iload 4, 2) := by decide +kernel
theorem dX1_kindOf_17 : decode cX1_kindOf 17 = .ok (.ifCond .ne 7, 3) := by decide +kernel
theorem dX1_kindOf_20 : decode cX1_kindOf 20 = .ok (.iconst 1, 1) := by decide +kernel
theorem dX1_kindOf_21 : decode cX1_kindOf 21 = .ok (.goto 4, 3) := by decide +kernel
theorem dX1_kindOf_24 : decode cX1_kindOf 24 = .ok (.iconst 0, 1) := by decide +kernel
theorem dX1_kindOf_25 : decode cX1_kindOf 25 = .ok (.istore 5, 2) := by decide +kernel
theorem dX1_kindOf_27 : decode cX1_kindOf 27 = .ok (.aload_n 0, 1) := by decide +kernel
theorem dX1_kindOf_28 : decode cX1_kindOf 28 = .ok (.aload_n 1, 1) := by decide +kernel
theorem dX1_kindOf_29 : decode cX1_kindOf 29 = .ok (.iload_n 2, 1) := by decide +kernel
theorem dX1_kindOf_30 : decode cX1_kindOf 30 = .ok (.iload_n 3, 1) := by decide +kernel
theorem dX1_kindOf_31 : decode cX1_kindOf 31 = .ok (.iload 5, 2) := by decide +kernel
theorem dX1_kindOf_33 : decode cX1_kindOf 33 = .ok (.invokevirtual 59, 3) := by decide +kernel
theorem dX1_kindOf_36 : decode cX1_kindOf 36 = .ok (.ifCond .eq 8, 3) := by decide +kernel
theorem dX1_kindOf_39 : decode cX1_kindOf 39 = .ok (.iload 5, 2) := by decide +kernel
theorem dX1_kindOf_41 : decode cX1_kindOf 41 = .ok (.iconst 2, 1) := by decide +kernel
theorem dX1_kindOf_42 : decode cX1_kindOf 42 = .ok (.iadd, 1) := by decide +kernel
theorem dX1_kindOf_43 : decode cX1_kindOf 43 = .ok (.ireturn, 1) := by decide +kernel
theorem dX1_kindOf_44 : decode cX1_kindOf 44 = .ok (.iload 4, 2) := by decide +kernel
theorem dX1_kindOf_46 : decode cX1_kindOf 46 = .ok (.iconst 4, 1) := by decide +kernel
theorem dX1_kindOf_47 : decode cX1_kindOf 47 = .ok (.iadd, 1) := by decide +kernel
theorem dX1_kindOf_48 : decode cX1_kindOf 48 = .ok (.ireturn, 1) := by decide +kernel
theorem dX1_shiftOfKind_0 : decode cX1_shiftOfKind 0 = .ok (.iload_n 0, 1) := by decide +kernel
theorem dX1_shiftOfKind_1 : decode cX1_shiftOfKind 1 = .ok (.iconst 1, 1) := by decide +kernel
theorem dX1_shiftOfKind_2 : decode cX1_shiftOfKind 2 = .ok (.iand, 1) := by decide +kernel
theorem dX1_shiftOfKind_3 : decode cX1_shiftOfKind 3 = .ok (.ireturn, 1) := by decide +kernel
set_option maxRecDepth 20000 in
theorem ggX1_doubtOf_X1_kindOf : GoodIn wsX1_doubtOf wsX1_kindOf := goodIn_r _ [5, 6, 7, 8, 4, 9, 10, 11, 12, 13, 14, 15, 16, 17, 18, 19, 20, 21, 22, 23, 24, 25, 26, 27, 28, 29, 30, 31, 32, 33, 34, 35, 36, 37, 38, 39, 40, 41, 42, 43, 44, 45, 46, 47] (by decide +kernel) (by decide +kernel)
set_option maxRecDepth 20000 in
theorem gX1_doubtOf_X1_kindOf : GoodIn wsX1_doubtOf (wsV RX1 63 RX1 yX1_kindOf wsX1_kindOf) := goodIn_app (goodIn_of _ (by decide +kernel)) ggX1_doubtOf_X1_kindOf
theorem dX1_doubtOf_0 : decode cX1_doubtOf 0 = .ok (.aload_n 0, 1) := by decide +kernel
theorem dX1_doubtOf_1 : decode cX1_doubtOf 1 = .ok (.aload_n 1, 1) := by decide +kernel
theorem dX1_doubtOf_2 : decode cX1_doubtOf 2 = .ok (.iload_n 2, 1) := by decide +kernel
theorem dX1_doubtOf_3 : decode cX1_doubtOf 3 = .ok (.iload_n 3, 1) := by decide +kernel
theorem dX1_doubtOf_4 : decode cX1_doubtOf 4 = .ok (.iconst 0, 1) := by decide +kernel
theorem dX1_doubtOf_5 : decode cX1_doubtOf 5 = .ok (.invokevirtual 63, 3) := by decide +kernel
theorem dX1_doubtOf_8 : decode cX1_doubtOf 8 = .ok (.iconst 4, 1) := by decide +kernel
theorem dX1_doubtOf_9 : decode cX1_doubtOf 9 = .ok (.if_icmp .lt 7, 3) := by decide +kernel
theorem dX1_doubtOf_12 : decode cX1_doubtOf 12 = .ok (.iconst 1, 1) := by decide +kernel
theorem dX1_doubtOf_13 : decode cX1_doubtOf 13 = .ok (.goto 4, 3) := by decide +kernel
theorem dX1_doubtOf_16 : decode cX1_doubtOf 16 = .ok (.iconst 0, 1) := by decide +kernel
theorem dX1_doubtOf_17 : decode cX1_doubtOf 17 = .ok (.ireturn, 1) := by decide +kernel
set_option maxRecDepth 20000 in
theorem ggX2_init_X6_init : GoodIn wsX2_init wsX6_init := goodIn_r _ [9, 10, 2, 3, 11, 12, 13, 14, 15, 16, 17, 18, 19, 20, 21, 22, 23, 24, 25, 35, 36, 28, 29, 30, 31, 32, 33, 34] (by decide +kernel) (by decide +kernel)
set_option maxRecDepth 20000 in
theorem gX2_init_X6_init_n17 : GoodIn wsX2_init (wsX6_init) := ggX2_init_X6_init
theorem dX2_init_0 : decode cX2_init 0 = .ok (.aload_n 0, 1) := by decide +kernel
theorem dX2_init_1 : decode cX2_init 1 = .ok (.invokespecial 3, 3) := by decide +kernel
theorem dX2_init_4 : decode cX2_init 4 = .ok (.aload_n 0, 1) := by decide +kernel
theorem dX2_init_5 : decode cX2_init 5 = .ok (.bipush 6, 2) := by decide +kernel
theorem dX2_init_7 : decode cX2_init 7 = .ok (.anewarray 9, 3) := by decide +kernel
theorem dX2_init_10 : decode cX2_init 10 = .ok (.putfield 11, 3) := by decide +kernel
theorem dX2_init_13 : decode cX2_init 13 = .ok (.iconst 0, 1) := by decide +kernel
theorem dX2_init_14 : decode cX2_init 14 = .ok (.istore_n 1, 1) := by decide +kernel
theorem dX2_init_15 : decode cX2_init 15 = .ok (.iload_n 1, 1) := by decide +kernel
theorem dX2_init_16 : decode cX2_init 16 = .ok (.aload_n 0, 1) := by decide +kernel
theorem dX2_init_17 : decode cX2_init 17 = .ok (.getfield 11, 3) := by decide +kernel
theorem dX2_init_20 : decode cX2_init 20 = .ok (.arraylength, 1) := by decide +kernel
theorem dX2_init_21 : decode cX2_init 21 = .ok (.if_icmp .ge 22, 3) := by decide +kernel
theorem dX2_init_24 : decode cX2_init 24 = .ok (.aload_n 0, 1) := by decide +kernel
theorem dX2_init_25 : decode cX2_init 25 = .ok (.getfield 11, 3) := by decide +kernel
theorem dX2_init_28 : decode cX2_init 28 = .ok (.iload_n 1, 1) := by decide +kernel
theorem dX2_init_29 : decode cX2_init 29 = .ok (.new 9, 3) := by decide +kernel
theorem dX2_init_32 : decode cX2_init 32 = .ok (.dup, 1) := by decide +kernel
theorem dX2_init_33 : decode cX2_init 33 = .ok (.invokespecial 17, 3) := by decide +kernel
theorem dX2_init_36 : decode cX2_init 36 = .ok (.aastore, 1) := by decide +kernel
theorem dX2_init_37 : decode cX2_init 37 = .ok (.iinc 1 1, 3) := by decide +kernel
theorem dX2_init_40 : decode cX2_init 40 = .ok (.goto (-25), 3) := by decide +kernel
theorem dX2_init_43 : decode cX2_init 43 = .ok (.return_, 1) := by decide +kernel
set_option maxRecDepth 20000 in
theorem ggX2_save_X2_discardOldest : GoodIn wsX2_save wsX2_discardOldest := goodIn_r _ [7, 2, 1, 8, 9, 10, 6, 11, 51, 52] (by decide +kernel) (by decide +kernel)
set_option maxRecDepth 20000 in
theorem gX2_save_X2_discardOldest : GoodIn wsX2_save (wsV RX2 22 RX2 yX2_discardOldest wsX2_discardOldest) := goodIn_app (goodIn_of _ (by decide +kernel)) ggX2_save_X2_discardOldest
set_option maxRecDepth 20000 in
theorem ggX2_save_X2_stateAt : GoodIn wsX2_save wsX2_stateAt := goodIn_r _ [11, 2, 51, 52] (by decide +kernel) (by decide +kernel)
set_option maxRecDepth 20000 in
theorem gX2_save_X2_stateAt : GoodIn wsX2_save (wsV RX2 25 RX2 yX2_stateAt wsX2_stateAt) := goodIn_app (goodIn_of _ (by decide +kernel)) ggX2_save_X2_stateAt
set_option maxRecDepth 20000 in
theorem ggX2_save_X6_take : GoodIn wsX2_save wsX6_take := goodIn_r _ [16, 17, 18, 19, 20, 21, 22, 23, 24, 25, 26, 27, 28, 29, 30, 31, 32, 33, 34, 35, 36, 37, 38, 39, 40, 41, 42, 43, 44, 45, 46, 47, 48, 49, 50, 53, 54, 55, 56, 57, 58, 59, 60, 61, 62, 63, 64, 65, 66, 67, 68, 69] (by decide +kernel) (by decide +kernel)
set_option maxRecDepth 20000 in
theorem gX2_save_X6_take : GoodIn wsX2_save (wsV RX2 29 RX6 yX6_take wsX6_take) := goodIn_app (goodIn_of _ (by decide +kernel)) ggX2_save_X6_take
theorem dX2_save_0 : decode cX2_save 0 = .ok (.aload_n 0, 1) := by decide +kernel
theorem dX2_save_1 : decode cX2_save 1 = .ok (.getfield 18, 3) := by decide +kernel
theorem dX2_save_4 : decode cX2_save 4 = .ok (.aload_n 0, 1) := by decide +kernel
theorem dX2_save_5 : decode cX2_save 5 = .ok (.getfield 11, 3) := by decide +kernel
theorem dX2_save_8 : decode cX2_save 8 = .ok (.arraylength, 1) := by decide +kernel
theorem dX2_save_9 : decode cX2_save 9 = .ok (.if_icmp .lt 7, 3) := by decide +kernel
theorem dX2_save_12 : decode cX2_save 12 = .ok (.aload_n 0, 1) := by decide +kernel
theorem dX2_save_13 : decode cX2_save 13 = .ok (.invokevirtual 22, 3) := by decide +kernel
theorem dX2_save_16 : decode cX2_save 16 = .ok (.aload_n 0, 1) := by decide +kernel
theorem dX2_save_17 : decode cX2_save 17 = .ok (.aload_n 0, 1) := by decide +kernel
theorem dX2_save_18 : decode cX2_save 18 = .ok (.getfield 18, 3) := by decide +kernel
theorem dX2_save_21 : decode cX2_save 21 = .ok (.invokevirtual 25, 3) := by decide +kernel
theorem dX2_save_24 : decode cX2_save 24 = .ok (.astore_n 3, 1) := by decide +kernel
theorem dX2_save_25 : decode cX2_save 25 = .ok (.aload_n 3, 1) := by decide +kernel
theorem dX2_save_26 : decode cX2_save 26 = .ok (.ifnull 19, 3) := by decide +kernel
theorem dX2_save_29 : decode cX2_save 29 = .ok (.aload_n 3, 1) := by decide +kernel
theorem dX2_save_30 : decode cX2_save 30 = .ok (.aload_n 1, 1) := by decide +kernel
theorem dX2_save_31 : decode cX2_save 31 = .ok (.aload_n 2, 1) := by decide +kernel
theorem dX2_save_32 : decode cX2_save 32 = .ok (.invokevirtual 29, 3) := by decide +kernel
theorem dX2_save_35 : decode cX2_save 35 = .ok (.aload_n 0, 1) := by decide +kernel
theorem dX2_save_36 : decode cX2_save 36 = .ok (.dup, 1) := by decide +kernel
theorem dX2_save_37 : decode cX2_save 37 = .ok (.getfield 18, 3) := by decide +kernel
theorem dX2_save_40 : decode cX2_save 40 = .ok (.iconst 1, 1) := by decide +kernel
theorem dX2_save_41 : decode cX2_save 41 = .ok (.iadd, 1) := by decide +kernel
theorem dX2_save_42 : decode cX2_save 42 = .ok (.putfield 18, 3) := by decide +kernel
theorem dX2_save_45 : decode cX2_save 45 = .ok (.return_, 1) := by decide +kernel
set_option maxRecDepth 20000 in
theorem ggX2_restore_X2_stateAt : GoodIn wsX2_restore wsX2_stateAt := goodIn_r _ [6, 7, 47, 48] (by decide +kernel) (by decide +kernel)
set_option maxRecDepth 20000 in
theorem gX2_restore_X2_stateAt : GoodIn wsX2_restore (wsV RX2 25 RX2 yX2_stateAt wsX2_stateAt) := goodIn_app (goodIn_of _ (by decide +kernel)) ggX2_restore_X2_stateAt
set_option maxRecDepth 20000 in
theorem ggX2_restore_X6_give : GoodIn wsX2_restore wsX6_give := goodIn_r _ [12, 13, 14, 15, 16, 17, 18, 19, 20, 21, 22, 23, 24, 25, 26, 27, 28, 29, 30, 31, 32, 33, 34, 35, 36, 37, 38, 39, 40, 41, 42, 43, 44, 45, 46, 49, 50, 51, 52, 53, 54, 55, 56, 57, 58, 59, 60, 61, 62, 63, 64, 65] (by decide +kernel) (by decide +kernel)
set_option maxRecDepth 20000 in
theorem gX2_restore_X6_give : GoodIn wsX2_restore (wsV RX2 33 RX6 yX6_give wsX6_give) := goodIn_app (goodIn_of _ (by decide +kernel)) ggX2_restore_X6_give
theorem dX2_restore_0 : decode cX2_restore 0 = .ok (.aload_n 0, 1) := by decide +kernel
theorem dX2_restore_1 : decode cX2_restore 1 = .ok (.aload_n 0, 1) := by decide +kernel
theorem dX2_restore_2 : decode cX2_restore 2 = .ok (.getfield 18, 3) := by decide +kernel
theorem dX2_restore_5 : decode cX2_restore 5 = .ok (.iconst 1, 1) := by decide +kernel
theorem dX2_restore_6 : decode cX2_restore 6 = .ok (.isub, 1) := by decide +kernel
theorem dX2_restore_7 : decode cX2_restore 7 = .ok (.invokevirtual 25, 3) := by decide +kernel
theorem dX2_restore_10 : decode cX2_restore 10 = .ok (.astore_n 3, 1) := by decide +kernel
theorem dX2_restore_11 : decode cX2_restore 11 = .ok (.aload_n 3, 1) := by decide +kernel
theorem dX2_restore_12 : decode cX2_restore 12 = .ok (.ifnull 19, 3) := by decide +kernel
theorem dX2_restore_15 : decode cX2_restore 15 = .ok (.aload_n 3, 1) := by decide +kernel
theorem dX2_restore_16 : decode cX2_restore 16 = .ok (.aload_n 1, 1) := by decide +kernel
theorem dX2_restore_17 : decode cX2_restore 17 = .ok (.aload_n 2, 1) := by decide +kernel
theorem dX2_restore_18 : decode cX2_restore 18 = .ok (.invokevirtual 33, 3) := by decide +kernel
theorem dX2_restore_21 : decode cX2_restore 21 = .ok (.aload_n 0, 1) := by decide +kernel
theorem dX2_restore_22 : decode cX2_restore 22 = .ok (.dup, 1) := by decide +kernel
theorem dX2_restore_23 : decode cX2_restore 23 = .ok (.getfield 18, 3) := by decide +kernel
theorem dX2_restore_26 : decode cX2_restore 26 = .ok (.iconst 1, 1) := by decide +kernel
theorem dX2_restore_27 : decode cX2_restore 27 = .ok (.isub, 1) := by decide +kernel
theorem dX2_restore_28 : decode cX2_restore 28 = .ok (.putfield 18, 3) := by decide +kernel
theorem dX2_restore_31 : decode cX2_restore 31 = .ok (.return_, 1) := by decide +kernel
theorem dX2_stateAt_0 : decode cX2_stateAt 0 = .ok (.iload_n 1, 1) := by decide +kernel
theorem dX2_stateAt_1 : decode cX2_stateAt 1 = .ok (.ifCond .lt 21, 3) := by decide +kernel
theorem dX2_stateAt_4 : decode cX2_stateAt 4 = .ok (.iload_n 1, 1) := by decide +kernel
theorem dX2_stateAt_5 : decode cX2_stateAt 5 = .ok (.aload_n 0, 1) := by decide +kernel
theorem dX2_stateAt_6 : decode cX2_stateAt 6 = .ok (.getfield 11, 3) := by decide +kernel
theorem dX2_stateAt_9 : decode cX2_stateAt 9 = .ok (.arraylength, 1) := by decide +kernel
theorem dX2_stateAt_10 : decode cX2_stateAt 10 = .ok (.if_icmp .ge 12, 3) := by decide +kernel
theorem dX2_stateAt_13 : decode cX2_stateAt 13 = .ok (.aload_n 0, 1) := by decide +kernel
theorem dX2_stateAt_14 : decode cX2_stateAt 14 = .ok (.getfield 11, 3) := by decide +kernel
theorem dX2_stateAt_17 : decode cX2_stateAt 17 = .ok (.iload_n 1, 1) := by decide +kernel
theorem dX2_stateAt_18 : decode cX2_stateAt 18 = .ok (.aaload, 1) := by decide +kernel
theorem dX2_stateAt_19 : decode cX2_stateAt 19 = .ok (.goto 4, 3) := by decide +kernel
theorem dX2_stateAt_22 : decode cX2_stateAt 22 = .ok (.aconst_null, 1) := by decide +kernel
theorem dX2_stateAt_23 : decode cX2_stateAt 23 = .ok (.areturn, 1) := by decide +kernel
set_option maxRecDepth 20000 in
theorem ggX2_discardOldest_X2_stateAt : GoodIn wsX2_discardOldest wsX2_stateAt := goodIn_r _ [7, 1, 8, 9] (by decide +kernel) (by decide +kernel)
set_option maxRecDepth 20000 in
theorem gX2_discardOldest_X2_stateAt : GoodIn wsX2_discardOldest (wsV RX2 25 RX2 yX2_stateAt wsX2_stateAt) := goodIn_app (goodIn_of _ (by decide +kernel)) ggX2_discardOldest_X2_stateAt
theorem dX2_discardOldest_0 : decode cX2_discardOldest 0 = .ok (.aload_n 0, 1) := by decide +kernel
theorem dX2_discardOldest_1 : decode cX2_discardOldest 1 = .ok (.iconst 0, 1) := by decide +kernel
theorem dX2_discardOldest_2 : decode cX2_discardOldest 2 = .ok (.invokevirtual 25, 3) := by decide +kernel
theorem dX2_discardOldest_5 : decode cX2_discardOldest 5 = .ok (.astore_n 1, 1) := by decide +kernel
theorem dX2_discardOldest_6 : decode cX2_discardOldest 6 = .ok (.iconst 1, 1) := by decide +kernel
theorem dX2_discardOldest_7 : decode cX2_discardOldest 7 = .ok (.istore_n 2, 1) := by decide +kernel
theorem dX2_discardOldest_8 : decode cX2_discardOldest 8 = .ok (.iload_n 2, 1) := by decide +kernel
theorem dX2_discardOldest_9 : decode cX2_discardOldest 9 = .ok (.aload_n 0, 1) := by decide +kernel
theorem dX2_discardOldest_10 : decode cX2_discardOldest 10 = .ok (.getfield 11, 3) := by decide +kernel
theorem dX2_discardOldest_13 : decode cX2_discardOldest 13 = .ok (.arraylength, 1) := by decide +kernel
theorem dX2_discardOldest_14 : decode cX2_discardOldest 14 = .ok (.if_icmp .ge 23, 3) := by decide +kernel
theorem dX2_discardOldest_17 : decode cX2_discardOldest 17 = .ok (.aload_n 0, 1) := by decide +kernel
theorem dX2_discardOldest_18 : decode cX2_discardOldest 18 = .ok (.getfield 11, 3) := by decide +kernel
theorem dX2_discardOldest_21 : decode cX2_discardOldest 21 = .ok (.iload_n 2, 1) := by decide +kernel
theorem dX2_discardOldest_22 : decode cX2_discardOldest 22 = .ok (.iconst 1, 1) := by decide +kernel
theorem dX2_discardOldest_23 : decode cX2_discardOldest 23 = .ok (.isub, 1) := by decide +kernel
theorem dX2_discardOldest_24 : decode cX2_discardOldest 24 = .ok (.aload_n 0, 1) := by decide +kernel
theorem dX2_discardOldest_25 : decode cX2_discardOldest 25 = .ok (.getfield 11, 3) := by decide +kernel
theorem dX2_discardOldest_28 : decode cX2_discardOldest 28 = .ok (.iload_n 2, 1) := by decide +kernel
theorem dX2_discardOldest_29 : decode cX2_discardOldest 29 = .ok (.aaload, 1) := by decide +kernel
theorem dX2_discardOldest_30 : decode cX2_discardOldest 30 = .ok (.aastore, 1) := by decide +kernel
theorem dX2_discardOldest_31 : decode cX2_discardOldest 31 = .ok (.iinc 2 1, 3) := by decide +kernel
theorem dX2_discardOldest_34 : decode cX2_discardOldest 34 = .ok (.goto (-26), 3) := by decide +kernel
theorem dX2_discardOldest_37 : decode cX2_discardOldest 37 = .ok (.aload_n 0, 1) := by decide +kernel
theorem dX2_discardOldest_38 : decode cX2_discardOldest 38 = .ok (.aload_n 0, 1) := by decide +kernel
theorem dX2_discardOldest_39 : decode cX2_discardOldest 39 = .ok (.getfield 11, 3) := by decide +kernel
theorem dX2_discardOldest_42 : decode cX2_discardOldest 42 = .ok (.arraylength, 1) := by decide +kernel
theorem dX2_discardOldest_43 : decode cX2_discardOldest 43 = .ok (.iconst 1, 1) := by decide +kernel
theorem dX2_discardOldest_44 : decode cX2_discardOldest 44 = .ok (.isub, 1) := by decide +kernel
theorem dX2_discardOldest_45 : decode cX2_discardOldest 45 = .ok (.putfield 18, 3) := by decide +kernel
theorem dX2_discardOldest_48 : decode cX2_discardOldest 48 = .ok (.aload_n 0, 1) := by decide +kernel
theorem dX2_discardOldest_49 : decode cX2_discardOldest 49 = .ok (.getfield 18, 3) := by decide +kernel
theorem dX2_discardOldest_52 : decode cX2_discardOldest 52 = .ok (.ifCond .lt 25, 3) := by decide +kernel
theorem dX2_discardOldest_55 : decode cX2_discardOldest 55 = .ok (.aload_n 0, 1) := by decide +kernel
theorem dX2_discardOldest_56 : decode cX2_discardOldest 56 = .ok (.getfield 18, 3) := by decide +kernel
theorem dX2_discardOldest_59 : decode cX2_discardOldest 59 = .ok (.aload_n 0, 1) := by decide +kernel
theorem dX2_discardOldest_60 : decode cX2_discardOldest 60 = .ok (.getfield 11, 3) := by decide +kernel
theorem dX2_discardOldest_63 : decode cX2_discardOldest 63 = .ok (.arraylength, 1) := by decide +kernel
theorem dX2_discardOldest_64 : decode cX2_discardOldest 64 = .ok (.if_icmp .ge 13, 3) := by decide +kernel
theorem dX2_discardOldest_67 : decode cX2_discardOldest 67 = .ok (.aload_n 0, 1) := by decide +kernel
theorem dX2_discardOldest_68 : decode cX2_discardOldest 68 = .ok (.getfield 11, 3) := by decide +kernel
theorem dX2_discardOldest_71 : decode cX2_discardOldest 71 = .ok (.aload_n 0, 1) := by decide +kernel
theorem dX2_discardOldest_72 : decode cX2_discardOldest 72 = .ok (.getfield 18, 3) := by decide +kernel
theorem dX2_discardOldest_75 : decode cX2_discardOldest 75 = .ok (.aload_n 1, 1) := by decide +kernel
theorem dX2_discardOldest_76 : decode cX2_discardOldest 76 = .ok (.aastore, 1) := by decide +kernel
theorem dX2_discardOldest_77 : decode cX2_discardOldest 77 = .ok (.return_, 1) := by decide +kernel
set_option maxRecDepth 20000 in
theorem ggX3_init_X5_init : GoodIn wsX3_init wsX5_init := goodIn_r _ [15, 16, 2, 3, 17, 18, 19, 20, 21, 22, 36, 37] (by decide +kernel) (by decide +kernel)
set_option maxRecDepth 20000 in
theorem gX3_init_X5_init : GoodIn wsX3_init (wsX5_init) := ggX3_init_X5_init
set_option maxRecDepth 20000 in
theorem ggX3_init_X5_fill : GoodIn wsX3_init wsX5_fill := goodIn_r _ [26, 27, 28, 29, 6, 30, 31, 32, 33, 34, 35, 22, 36, 37] (by decide +kernel) (by decide +kernel)
set_option maxRecDepth 20000 in
theorem gX3_init_X5_fill : GoodIn wsX3_init (wsV RX3 36 RX5 yX5_fill wsX5_fill) := goodIn_app (goodIn_of _ (by decide +kernel)) ggX3_init_X5_fill
theorem dX3_init_0 : decode cX3_init 0 = .ok (.aload_n 0, 1) := by decide +kernel
theorem dX3_init_1 : decode cX3_init 1 = .ok (.invokespecial 3, 3) := by decide +kernel
theorem dX3_init_4 : decode cX3_init 4 = .ok (.aload_n 0, 1) := by decide +kernel
theorem dX3_init_5 : decode cX3_init 5 = .ok (.new 9, 3) := by decide +kernel
theorem dX3_init_8 : decode cX3_init 8 = .ok (.dup, 1) := by decide +kernel
theorem dX3_init_9 : decode cX3_init 9 = .ok (.sipush 200, 3) := by decide +kernel
theorem dX3_init_12 : decode cX3_init 12 = .ok (.invokespecial 11, 3) := by decide +kernel
theorem dX3_init_15 : decode cX3_init 15 = .ok (.putfield 14, 3) := by decide +kernel
theorem dX3_init_18 : decode cX3_init 18 = .ok (.aload_n 0, 1) := by decide +kernel
theorem dX3_init_19 : decode cX3_init 19 = .ok (.new 9, 3) := by decide +kernel
theorem dX3_init_22 : decode cX3_init 22 = .ok (.dup, 1) := by decide +kernel
theorem dX3_init_23 : decode cX3_init 23 = .ok (.sipush 200, 3) := by decide +kernel
theorem dX3_init_26 : decode cX3_init 26 = .ok (.invokespecial 11, 3) := by decide +kernel
theorem dX3_init_29 : decode cX3_init 29 = .ok (.putfield 20, 3) := by decide +kernel
theorem dX3_init_32 : decode cX3_init 32 = .ok (.aload_n 0, 1) := by decide +kernel
theorem dX3_init_33 : decode cX3_init 33 = .ok (.new 9, 3) := by decide +kernel
theorem dX3_init_36 : decode cX3_init 36 = .ok (.dup, 1) := by decide +kernel
theorem dX3_init_37 : decode cX3_init 37 = .ok (.sipush 200, 3) := by decide +kernel
theorem dX3_init_40 : decode cX3_init 40 = .ok (.invokespecial 11, 3) := by decide +kernel
theorem dX3_init_43 : decode cX3_init 43 = .ok (.putfield 23, 3) := by decide +kernel
theorem dX3_init_46 : decode cX3_init 46 = .ok (.aload_n 0, 1) := by decide +kernel
theorem dX3_init_47 : decode cX3_init 47 = .ok (.new 9, 3) := by decide +kernel
theorem dX3_init_50 : decode cX3_init 50 = .ok (.dup, 1) := by decide +kernel
theorem dX3_init_51 : decode cX3_init 51 = .ok (.sipush 200, 3) := by decide +kernel
theorem dX3_init_54 : decode cX3_init 54 = .ok (.invokespecial 11, 3) := by decide +kernel
theorem dX3_init_57 : decode cX3_init 57 = .ok (.putfield 26, 3) := by decide +kernel
theorem dX3_init_60 : decode cX3_init 60 = .ok (.aload_n 0, 1) := by decide +kernel
theorem dX3_init_61 : decode cX3_init 61 = .ok (.new 9, 3) := by decide +kernel
theorem dX3_init_64 : decode cX3_init 64 = .ok (.dup, 1) := by decide +kernel
theorem dX3_init_65 : decode cX3_init 65 = .ok (.bipush 120, 2) := by decide +kernel
theorem dX3_init_67 : decode cX3_init 67 = .ok (.invokespecial 11, 3) := by decide +kernel
theorem dX3_init_70 : decode cX3_init 70 = .ok (.putfield 29, 3) := by decide +kernel
theorem dX3_init_73 : decode cX3_init 73 = .ok (.aload_n 0, 1) := by decide +kernel
theorem dX3_init_74 : decode cX3_init 74 = .ok (.iconst 0, 1) := by decide +kernel
theorem dX3_init_75 : decode cX3_init 75 = .ok (.putfield 32, 3) := by decide +kernel
theorem dX3_init_78 : decode cX3_init 78 = .ok (.aload_n 0, 1) := by decide +kernel
theorem dX3_init_79 : decode cX3_init 79 = .ok (.getfield 26, 3) := by decide +kernel
theorem dX3_init_82 : decode cX3_init 82 = .ok (.sipush 200, 3) := by decide +kernel
theorem dX3_init_85 : decode cX3_init 85 = .ok (.iconst (-1), 1) := by decide +kernel
theorem dX3_init_86 : decode cX3_init 86 = .ok (.invokevirtual 36, 3) := by decide +kernel
theorem dX3_init_89 : decode cX3_init 89 = .ok (.return_, 1) := by decide +kernel
set_option maxRecDepth 20000 in
theorem ggX3_encode_X5_clear : GoodIn wsX3_encode wsX5_clear := goodIn_r _ [8, 9, 139, 140] (by decide +kernel) (by decide +kernel)
set_option maxRecDepth 20000 in
theorem gX3_encode_X5_clear : GoodIn wsX3_encode (wsV RX3 40 RX5 yX5_clear wsX5_clear) := goodIn_app (goodIn_of _ (by decide +kernel)) ggX3_encode_X5_clear
set_option maxRecDepth 20000 in
theorem ggX3_encode_X5_size : GoodIn wsX3_encode wsX5_size := goodIn_r _ [13, 9, 139, 140] (by decide +kernel) (by decide +kernel)
set_option maxRecDepth 20000 in
theorem gX3_encode_X5_size : GoodIn wsX3_encode (wsV RX3 43 RX5 yX5_size wsX5_size) := goodIn_app (goodIn_of _ (by decide +kernel)) ggX3_encode_X5_size
set_option maxRecDepth 20000 in
theorem ggX3_encode_X5_at : GoodIn wsX3_encode wsX5_at := goodIn_r _ [17, 18, 19, 20, 21, 7, 22, 9, 139, 140] (by decide +kernel) (by decide +kernel)
set_option maxRecDepth 20000 in
theorem gX3_encode_X5_at : GoodIn wsX3_encode (wsV RX3 47 RX5 yX5_at wsX5_at) := goodIn_app (goodIn_of _ (by decide +kernel)) ggX3_encode_X5_at
set_option maxRecDepth 20000 in
theorem ggX3_encode_X0_shiftFor : GoodIn wsX3_encode wsX0_shiftFor := goodIn_r _ [26, 27, 28, 25, 29] (by decide +kernel) (by decide +kernel)
set_option maxRecDepth 20000 in
theorem gX3_encode_X0_shiftFor : GoodIn wsX3_encode (va_wsS RX3 51 yX0_shiftFor wsX0_shiftFor) := goodIn_app (goodIn_of _ (by decide +kernel)) ggX3_encode_X0_shiftFor
set_option maxRecDepth 20000 in
theorem ggX3_encode_X5_add : GoodIn wsX3_encode wsX5_add := goodIn_r _ [33, 9, 18, 139, 140] (by decide +kernel) (by decide +kernel)
set_option maxRecDepth 20000 in
theorem gX3_encode_X5_add : GoodIn wsX3_encode (wsV RX3 56 RX5 yX5_add wsX5_add) := goodIn_app (goodIn_of _ (by decide +kernel)) ggX3_encode_X5_add
set_option maxRecDepth 20000 in
theorem ggX3_encode_X0_codeOf : GoodIn wsX3_encode wsX0_codeOf := goodIn_r _ [36, 27, 28, 25, 29, 37, 38, 39, 40, 41, 42, 43, 44, 45, 46, 47, 48, 49, 50, 51, 52, 53, 54, 55, 56, 57, 58, 59, 60, 61, 62, 63, 64, 65, 66, 67, 68, 69, 70, 71, 72, 73, 74, 75, 76, 77, 78, 79, 80, 81, 82, 83, 84, 85, 86, 87, 88, 89, 90, 91, 92, 93, 94, 95, 96, 97, 98, 99, 100, 101, 102, 103, 104, 105, 106, 107, 108, 109, 110, 111, 112, 113, 114, 115, 116, 117, 118, 119, 120, 121, 122, 123, 124, 125, 126, 127, 128] (by decide +kernel) (by decide +kernel)
set_option maxRecDepth 20000 in
theorem gX3_encode_X0_codeOf : GoodIn wsX3_encode (va_wsS RX3 59 yX0_codeOf wsX0_codeOf) := goodIn_app (goodIn_of _ (by decide +kernel)) ggX3_encode_X0_codeOf
set_option maxRecDepth 20000 in
theorem ggX3_encode_X0_shiftBehind : GoodIn wsX3_encode wsX0_shiftBehind := goodIn_r _ [131] (by decide +kernel) (by decide +kernel)
set_option maxRecDepth 20000 in
theorem gX3_encode_X0_shiftBehind : GoodIn wsX3_encode (va_wsS RX3 66 yX0_shiftBehind wsX0_shiftBehind) := goodIn_app (goodIn_of _ (by decide +kernel)) ggX3_encode_X0_shiftBehind
theorem dX3_encode_0 : decode cX3_encode 0 = .ok (.aload_n 0, 1) := by decide +kernel
theorem dX3_encode_1 : decode cX3_encode 1 = .ok (.getfield 29, 3) := by decide +kernel
theorem dX3_encode_4 : decode cX3_encode 4 = .ok (.invokevirtual 40, 3) := by decide +kernel
theorem dX3_encode_7 : decode cX3_encode 7 = .ok (.aload_n 0, 1) := by decide +kernel
theorem dX3_encode_8 : decode cX3_encode 8 = .ok (.getfield 32, 3) := by decide +kernel
theorem dX3_encode_11 : decode cX3_encode 11 = .ok (.istore_n 2, 1) := by decide +kernel
theorem dX3_encode_12 : decode cX3_encode 12 = .ok (.iconst 0, 1) := by decide +kernel
theorem dX3_encode_13 : decode cX3_encode 13 = .ok (.istore_n 3, 1) := by decide +kernel
theorem dX3_encode_14 : decode cX3_encode 14 = .ok (.iload_n 3, 1) := by decide +kernel
theorem dX3_encode_15 : decode cX3_encode 15 = .ok (.aload_n 1, 1) := by decide +kernel
theorem dX3_encode_16 : decode cX3_encode 16 = .ok (.invokevirtual 43, 3) := by decide +kernel
theorem dX3_encode_19 : decode cX3_encode 19 = .ok (.if_icmp .ge 85, 3) := by decide +kernel
theorem dX3_encode_22 : decode cX3_encode 22 = .ok (.aload_n 1, 1) := by decide +kernel
theorem dX3_encode_23 : decode cX3_encode 23 = .ok (.iload_n 3, 1) := by decide +kernel
theorem dX3_encode_24 : decode cX3_encode 24 = .ok (.invokevirtual 47, 3) := by decide +kernel
theorem dX3_encode_27 : decode cX3_encode 27 = .ok (.istore 4, 2) := by decide +kernel
theorem dX3_encode_29 : decode cX3_encode 29 = .ok (.iload 4, 2) := by decide +kernel
theorem dX3_encode_31 : decode cX3_encode 31 = .ok (.invokestatic 51, 3) := by decide +kernel
theorem dX3_encode_34 : decode cX3_encode 34 = .ok (.istore 5, 2) := by decide +kernel
theorem dX3_encode_36 : decode cX3_encode 36 = .ok (.iload 5, 2) := by decide +kernel
theorem dX3_encode_38 : decode cX3_encode 38 = .ok (.iconst (-1), 1) := by decide +kernel
theorem dX3_encode_39 : decode cX3_encode 39 = .ok (.if_icmp .eq 32, 3) := by decide +kernel
theorem dX3_encode_42 : decode cX3_encode 42 = .ok (.iload 5, 2) := by decide +kernel
theorem dX3_encode_44 : decode cX3_encode 44 = .ok (.iload_n 2, 1) := by decide +kernel
theorem dX3_encode_45 : decode cX3_encode 45 = .ok (.if_icmp .eq 26, 3) := by decide +kernel
theorem dX3_encode_48 : decode cX3_encode 48 = .ok (.aload_n 0, 1) := by decide +kernel
theorem dX3_encode_49 : decode cX3_encode 49 = .ok (.getfield 29, 3) := by decide +kernel
theorem dX3_encode_52 : decode cX3_encode 52 = .ok (.iload 5, 2) := by decide +kernel
theorem dX3_encode_54 : decode cX3_encode 54 = .ok (.iconst 1, 1) := by decide +kernel
theorem dX3_encode_55 : decode cX3_encode 55 = .ok (.if_icmp .ne 8, 3) := by decide +kernel
theorem dX3_encode_58 : decode cX3_encode 58 = .ok (.bipush 30, 2) := by decide +kernel
theorem dX3_encode_60 : decode cX3_encode 60 = .ok (.goto 5, 3) := by decide +kernel
theorem dX3_encode_63 : decode cX3_encode 63 = .ok (.bipush 31, 2) := by decide +kernel
theorem dX3_encode_65 : decode cX3_encode 65 = .ok (.invokevirtual 56, 3) := by decide +kernel
theorem dX3_encode_68 : decode cX3_encode 68 = .ok (.iload 5, 2) := by decide +kernel
theorem dX3_encode_70 : decode cX3_encode 70 = .ok (.istore_n 2, 1) := by decide +kernel
theorem dX3_encode_71 : decode cX3_encode 71 = .ok (.iload 4, 2) := by decide +kernel
theorem dX3_encode_73 : decode cX3_encode 73 = .ok (.invokestatic 59, 3) := by decide +kernel
theorem dX3_encode_76 : decode cX3_encode 76 = .ok (.istore 6, 2) := by decide +kernel
theorem dX3_encode_78 : decode cX3_encode 78 = .ok (.aload_n 0, 1) := by decide +kernel
theorem dX3_encode_79 : decode cX3_encode 79 = .ok (.getfield 29, 3) := by decide +kernel
theorem dX3_encode_82 : decode cX3_encode 82 = .ok (.iload 6, 2) := by decide +kernel
