theorem dX3_encode_84 : decode cX3_encode 84 = .ok (.invokevirtual 56, 3) := by decide +kernel
theorem dX3_encode_87 : decode cX3_encode 87 = .ok (.iload 6, 2) := by decide +kernel
theorem dX3_encode_89 : decode cX3_encode 89 = .ok (.iload_n 2, 1) := by decide +kernel
theorem dX3_encode_90 : decode cX3_encode 90 = .ok (.aload_n 0, 1) := by decide +kernel
theorem dX3_encode_91 : decode cX3_encode 91 = .ok (.getfield 62, 3) := by decide +kernel
theorem dX3_encode_94 : decode cX3_encode 94 = .ok (.invokestatic 66, 3) := by decide +kernel
theorem dX3_encode_97 : decode cX3_encode 97 = .ok (.istore_n 2, 1) := by decide +kernel
theorem dX3_encode_98 : decode cX3_encode 98 = .ok (.iinc 3 1, 3) := by decide +kernel
theorem dX3_encode_101 : decode cX3_encode 101 = .ok (.goto (-87), 3) := by decide +kernel
theorem dX3_encode_104 : decode cX3_encode 104 = .ok (.aload_n 0, 1) := by decide +kernel
theorem dX3_encode_105 : decode cX3_encode 105 = .ok (.getfield 29, 3) := by decide +kernel
theorem dX3_encode_108 : decode cX3_encode 108 = .ok (.areturn, 1) := by decide +kernel
set_option maxRecDepth 20000 in
theorem ggX3_transmit_X3_encode : GoodIn wsX3_transmit wsX3_encode := goodIn_r _ [6, 7, 8, 9, 10, 11, 12, 13, 14, 15, 16, 17, 18, 19, 20, 21, 22, 23, 24, 25, 26, 27, 28, 29, 30, 31, 32, 33, 34, 35, 36, 37, 38, 39, 40, 41, 42, 43, 44, 45, 46, 47, 48, 49, 50, 51, 52, 53, 54, 55, 56, 57, 58, 59, 60, 61, 62, 63, 64, 65, 66, 67, 68, 69, 70, 71, 72, 73, 74, 75, 76, 77, 78, 79, 80, 81, 82, 83, 84, 85, 86, 87, 88, 89, 90, 91, 92, 93, 94, 95, 96, 97, 98, 99, 100, 101, 102, 103, 104, 105, 106, 107, 108, 109, 110, 111, 112, 113, 114, 115, 116, 117, 118, 119, 120, 121, 122, 123, 124, 125, 126, 127, 128, 129, 130, 131, 132, 133, 134, 135, 136, 137, 145, 146, 147, 148, 149, 150, 151, 152, 153] (by decide +kernel) (by decide +kernel)
set_option maxRecDepth 20000 in
theorem gX3_transmit_X3_encode : GoodIn wsX3_transmit (wsV RX3 70 RX3 yX3_encode wsX3_encode) := goodIn_app (goodIn_of _ (by decide +kernel)) ggX3_transmit_X3_encode
set_option maxRecDepth 20000 in
theorem ggX3_transmit_X5_size : GoodIn wsX3_transmit wsX5_size := goodIn_r _ [19, 15, 152, 153] (by decide +kernel) (by decide +kernel)
set_option maxRecDepth 20000 in
theorem gX3_transmit_X5_size : GoodIn wsX3_transmit (wsV RX3 43 RX5 yX5_size wsX5_size) := goodIn_app (goodIn_of _ (by decide +kernel)) ggX3_transmit_X5_size
set_option maxRecDepth 20000 in
theorem ggX3_transmit_X5_at : GoodIn wsX3_transmit wsX5_at := goodIn_r _ [23, 24, 25, 26, 27, 13, 28, 15, 152, 153] (by decide +kernel) (by decide +kernel)
set_option maxRecDepth 20000 in
theorem gX3_transmit_X5_at : GoodIn wsX3_transmit (wsV RX3 47 RX5 yX5_at wsX5_at) := goodIn_app (goodIn_of _ (by decide +kernel)) ggX3_transmit_X5_at
set_option maxRecDepth 20000 in
theorem ggX3_transmit_X3_transmitCode : GoodIn wsX3_transmit wsX3_transmitCode := goodIn_r _ [141, 142, 143, 8, 9, 144, 16, 17, 18, 13, 19, 15, 20, 21, 22, 23, 24, 25, 26, 27, 28, 36, 37, 38, 39, 135, 136, 31, 137, 145, 146, 147, 148, 149, 150, 151, 152, 153] (by decide +kernel) (by decide +kernel)
set_option maxRecDepth 20000 in
theorem gX3_transmit_X3_transmitCode : GoodIn wsX3_transmit (wsV RX3 74 RX3 yX3_transmitCode wsX3_transmitCode) := goodIn_app (goodIn_of _ (by decide +kernel)) ggX3_transmit_X3_transmitCode
set_option maxRecDepth 20000 in
theorem ggX3_transmit_X0_codeOf : GoodIn wsX3_transmit wsX0_codeOf := goodIn_r _ [42, 33, 34, 31, 35, 43, 44, 45, 46, 47, 48, 49, 50, 51, 52, 53, 54, 55, 56, 57, 58, 59, 60, 61, 62, 63, 64, 65, 66, 67, 68, 69, 70, 71, 72, 73, 74, 75, 76, 77, 78, 79, 80, 81, 82, 83, 84, 85, 86, 87, 88, 89, 90, 91, 92, 93, 94, 95, 96, 97, 98, 99, 100, 101, 102, 103, 104, 105, 106, 107, 108, 109, 110, 111, 112, 113, 114, 115, 116, 117, 118, 119, 120, 121, 122, 123, 124, 125, 126, 127, 128, 129, 130, 131, 132, 133, 134] (by decide +kernel) (by decide +kernel)
set_option maxRecDepth 20000 in
theorem gX3_transmit_X0_codeOf : GoodIn wsX3_transmit (va_wsS RX3 59 yX0_codeOf wsX0_codeOf) := goodIn_app (goodIn_of _ (by decide +kernel)) ggX3_transmit_X0_codeOf
set_option maxRecDepth 20000 in
theorem ggX3_transmit_X5_add : GoodIn wsX3_transmit wsX5_add := goodIn_r _ [39, 15, 24, 152, 153] (by decide +kernel) (by decide +kernel)
set_option maxRecDepth 20000 in
theorem gX3_transmit_X5_add : GoodIn wsX3_transmit (wsV RX3 56 RX5 yX5_add wsX5_add) := goodIn_app (goodIn_of _ (by decide +kernel)) ggX3_transmit_X5_add
theorem dX3_transmit_0 : decode cX3_transmit 0 = .ok (.aload_n 0, 1) := by decide +kernel
theorem dX3_transmit_1 : decode cX3_transmit 1 = .ok (.aload_n 1, 1) := by decide +kernel
theorem dX3_transmit_2 : decode cX3_transmit 2 = .ok (.invokevirtual 70, 3) := by decide +kernel
theorem dX3_transmit_5 : decode cX3_transmit 5 = .ok (.astore_n 2, 1) := by decide +kernel
theorem dX3_transmit_6 : decode cX3_transmit 6 = .ok (.iconst 0, 1) := by decide +kernel
theorem dX3_transmit_7 : decode cX3_transmit 7 = .ok (.istore_n 3, 1) := by decide +kernel
theorem dX3_transmit_8 : decode cX3_transmit 8 = .ok (.iload_n 3, 1) := by decide +kernel
theorem dX3_transmit_9 : decode cX3_transmit 9 = .ok (.aload_n 2, 1) := by decide +kernel
theorem dX3_transmit_10 : decode cX3_transmit 10 = .ok (.invokevirtual 43, 3) := by decide +kernel
theorem dX3_transmit_13 : decode cX3_transmit 13 = .ok (.if_icmp .ge 18, 3) := by decide +kernel
theorem dX3_transmit_16 : decode cX3_transmit 16 = .ok (.aload_n 0, 1) := by decide +kernel
theorem dX3_transmit_17 : decode cX3_transmit 17 = .ok (.aload_n 2, 1) := by decide +kernel
theorem dX3_transmit_18 : decode cX3_transmit 18 = .ok (.iload_n 3, 1) := by decide +kernel
theorem dX3_transmit_19 : decode cX3_transmit 19 = .ok (.invokevirtual 47, 3) := by decide +kernel
theorem dX3_transmit_22 : decode cX3_transmit 22 = .ok (.invokevirtual 74, 3) := by decide +kernel
theorem dX3_transmit_25 : decode cX3_transmit 25 = .ok (.iinc 3 1, 3) := by decide +kernel
theorem dX3_transmit_28 : decode cX3_transmit 28 = .ok (.goto (-20), 3) := by decide +kernel
theorem dX3_transmit_31 : decode cX3_transmit 31 = .ok (.iconst 0, 1) := by decide +kernel
theorem dX3_transmit_32 : decode cX3_transmit 32 = .ok (.istore_n 3, 1) := by decide +kernel
theorem dX3_transmit_33 : decode cX3_transmit 33 = .ok (.iload_n 3, 1) := by decide +kernel
theorem dX3_transmit_34 : decode cX3_transmit 34 = .ok (.aload_n 1, 1) := by decide +kernel
theorem dX3_transmit_35 : decode cX3_transmit 35 = .ok (.invokevirtual 43, 3) := by decide +kernel
theorem dX3_transmit_38 : decode cX3_transmit 38 = .ok (.if_icmp .ge 35, 3) := by decide +kernel
theorem dX3_transmit_41 : decode cX3_transmit 41 = .ok (.aload_n 1, 1) := by decide +kernel
theorem dX3_transmit_42 : decode cX3_transmit 42 = .ok (.iload_n 3, 1) := by decide +kernel
theorem dX3_transmit_43 : decode cX3_transmit 43 = .ok (.invokevirtual 47, 3) := by decide +kernel
theorem dX3_transmit_46 : decode cX3_transmit 46 = .ok (.istore 4, 2) := by decide +kernel
theorem dX3_transmit_48 : decode cX3_transmit 48 = .ok (.iload 4, 2) := by decide +kernel
theorem dX3_transmit_50 : decode cX3_transmit 50 = .ok (.invokestatic 59, 3) := by decide +kernel
theorem dX3_transmit_53 : decode cX3_transmit 53 = .ok (.bipush 29, 2) := by decide +kernel
theorem dX3_transmit_55 : decode cX3_transmit 55 = .ok (.if_icmp .eq 12, 3) := by decide +kernel
theorem dX3_transmit_58 : decode cX3_transmit 58 = .ok (.aload_n 0, 1) := by decide +kernel
theorem dX3_transmit_59 : decode cX3_transmit 59 = .ok (.getfield 14, 3) := by decide +kernel
theorem dX3_transmit_62 : decode cX3_transmit 62 = .ok (.iload 4, 2) := by decide +kernel
theorem dX3_transmit_64 : decode cX3_transmit 64 = .ok (.invokevirtual 56, 3) := by decide +kernel
theorem dX3_transmit_67 : decode cX3_transmit 67 = .ok (.iinc 3 1, 3) := by decide +kernel
theorem dX3_transmit_70 : decode cX3_transmit 70 = .ok (.goto (-37), 3) := by decide +kernel
theorem dX3_transmit_73 : decode cX3_transmit 73 = .ok (.return_, 1) := by decide +kernel
set_option maxRecDepth 20000 in
theorem ggX3_transmitCode_X5_size : GoodIn wsX3_transmitCode wsX5_size := goodIn_r _ [10, 11, 36, 37] (by decide +kernel) (by decide +kernel)
set_option maxRecDepth 20000 in
theorem gX3_transmitCode_X5_size : GoodIn wsX3_transmitCode (wsV RX3 43 RX5 yX5_size wsX5_size) := goodIn_app (goodIn_of _ (by decide +kernel)) ggX3_transmitCode_X5_size
set_option maxRecDepth 20000 in
theorem ggX3_transmitCode_X5_at : GoodIn wsX3_transmitCode wsX5_at := goodIn_r _ [15, 16, 17, 18, 19, 9, 20, 11, 36, 37] (by decide +kernel) (by decide +kernel)
set_option maxRecDepth 20000 in
theorem gX3_transmitCode_X5_at : GoodIn wsX3_transmitCode (wsV RX3 47 RX5 yX5_at wsX5_at) := goodIn_app (goodIn_of _ (by decide +kernel)) ggX3_transmitCode_X5_at
set_option maxRecDepth 20000 in
theorem ggX3_transmitCode_X5_add : GoodIn wsX3_transmitCode wsX5_add := goodIn_r _ [24, 11, 16, 36, 37] (by decide +kernel) (by decide +kernel)
set_option maxRecDepth 20000 in
theorem gX3_transmitCode_X5_add : GoodIn wsX3_transmitCode (wsV RX3 56 RX5 yX5_add wsX5_add) := goodIn_app (goodIn_of _ (by decide +kernel)) ggX3_transmitCode_X5_add
set_option maxRecDepth 20000 in
theorem ggX3_transmitCode_X0_shiftBehind : GoodIn wsX3_transmitCode wsX0_shiftBehind := goodIn_r _ [28] (by decide +kernel) (by decide +kernel)
set_option maxRecDepth 20000 in
theorem gX3_transmitCode_X0_shiftBehind : GoodIn wsX3_transmitCode (va_wsS RX3 66 yX0_shiftBehind wsX0_shiftBehind) := goodIn_app (goodIn_of _ (by decide +kernel)) ggX3_transmitCode_X0_shiftBehind
theorem dX3_transmitCode_0 : decode cX3_transmitCode 0 = .ok (.aload_n 0, 1) := by decide +kernel
theorem dX3_transmitCode_1 : decode cX3_transmitCode 1 = .ok (.getfield 26, 3) := by decide +kernel
theorem dX3_transmitCode_4 : decode cX3_transmitCode 4 = .ok (.aload_n 0, 1) := by decide +kernel
theorem dX3_transmitCode_5 : decode cX3_transmitCode 5 = .ok (.getfield 20, 3) := by decide +kernel
theorem dX3_transmitCode_8 : decode cX3_transmitCode 8 = .ok (.invokevirtual 43, 3) := by decide +kernel
theorem dX3_transmitCode_11 : decode cX3_transmitCode 11 = .ok (.invokevirtual 47, 3) := by decide +kernel
theorem dX3_transmitCode_14 : decode cX3_transmitCode 14 = .ok (.istore_n 2, 1) := by decide +kernel
theorem dX3_transmitCode_15 : decode cX3_transmitCode 15 = .ok (.aload_n 0, 1) := by decide +kernel
theorem dX3_transmitCode_16 : decode cX3_transmitCode 16 = .ok (.getfield 20, 3) := by decide +kernel
theorem dX3_transmitCode_19 : decode cX3_transmitCode 19 = .ok (.iload_n 1, 1) := by decide +kernel
theorem dX3_transmitCode_20 : decode cX3_transmitCode 20 = .ok (.invokevirtual 56, 3) := by decide +kernel
theorem dX3_transmitCode_23 : decode cX3_transmitCode 23 = .ok (.aload_n 0, 1) := by decide +kernel
theorem dX3_transmitCode_24 : decode cX3_transmitCode 24 = .ok (.iload_n 1, 1) := by decide +kernel
theorem dX3_transmitCode_25 : decode cX3_transmitCode 25 = .ok (.aload_n 0, 1) := by decide +kernel
theorem dX3_transmitCode_26 : decode cX3_transmitCode 26 = .ok (.getfield 32, 3) := by decide +kernel
theorem dX3_transmitCode_29 : decode cX3_transmitCode 29 = .ok (.aload_n 0, 1) := by decide +kernel
theorem dX3_transmitCode_30 : decode cX3_transmitCode 30 = .ok (.getfield 62, 3) := by decide +kernel
theorem dX3_transmitCode_33 : decode cX3_transmitCode 33 = .ok (.invokestatic 66, 3) := by decide +kernel
theorem dX3_transmitCode_36 : decode cX3_transmitCode 36 = .ok (.putfield 32, 3) := by decide +kernel
theorem dX3_transmitCode_39 : decode cX3_transmitCode 39 = .ok (.iload_n 2, 1) := by decide +kernel
theorem dX3_transmitCode_40 : decode cX3_transmitCode 40 = .ok (.iconst (-1), 1) := by decide +kernel
theorem dX3_transmitCode_41 : decode cX3_transmitCode 41 = .ok (.if_icmp .ne 14, 3) := by decide +kernel
theorem dX3_transmitCode_44 : decode cX3_transmitCode 44 = .ok (.aload_n 0, 1) := by decide +kernel
theorem dX3_transmitCode_45 : decode cX3_transmitCode 45 = .ok (.getfield 23, 3) := by decide +kernel
theorem dX3_transmitCode_48 : decode cX3_transmitCode 48 = .ok (.iload_n 1, 1) := by decide +kernel
theorem dX3_transmitCode_49 : decode cX3_transmitCode 49 = .ok (.invokevirtual 56, 3) := by decide +kernel
theorem dX3_transmitCode_52 : decode cX3_transmitCode 52 = .ok (.goto 21, 3) := by decide +kernel
theorem dX3_transmitCode_55 : decode cX3_transmitCode 55 = .ok (.iload_n 2, 1) := by decide +kernel
theorem dX3_transmitCode_56 : decode cX3_transmitCode 56 = .ok (.ifCond .eq 17, 3) := by decide +kernel
theorem dX3_transmitCode_59 : decode cX3_transmitCode 59 = .ok (.aload_n 0, 1) := by decide +kernel
theorem dX3_transmitCode_60 : decode cX3_transmitCode 60 = .ok (.getfield 23, 3) := by decide +kernel
theorem dX3_transmitCode_63 : decode cX3_transmitCode 63 = .ok (.iload_n 1, 1) := by decide +kernel
theorem dX3_transmitCode_64 : decode cX3_transmitCode 64 = .ok (.iconst 1, 1) := by decide +kernel
theorem dX3_transmitCode_65 : decode cX3_transmitCode 65 = .ok (.iload_n 2, 1) := by decide +kernel
theorem dX3_transmitCode_66 : decode cX3_transmitCode 66 = .ok (.iconst 1, 1) := by decide +kernel
theorem dX3_transmitCode_67 : decode cX3_transmitCode 67 = .ok (.isub, 1) := by decide +kernel
theorem dX3_transmitCode_68 : decode cX3_transmitCode 68 = .ok (.ishl, 1) := by decide +kernel
theorem dX3_transmitCode_69 : decode cX3_transmitCode 69 = .ok (.ixor, 1) := by decide +kernel
theorem dX3_transmitCode_70 : decode cX3_transmitCode 70 = .ok (.invokevirtual 56, 3) := by decide +kernel
theorem dX3_transmitCode_73 : decode cX3_transmitCode 73 = .ok (.return_, 1) := by decide +kernel
set_option maxRecDepth 20000 in
theorem ggX4_init_X5_init : GoodIn wsX4_init wsX5_init := goodIn_r _ [14, 15, 2, 3, 16, 17, 18, 19, 20, 21, 22, 23] (by decide +kernel) (by decide +kernel)
set_option maxRecDepth 20000 in
theorem gX4_init_X5_init : GoodIn wsX4_init (wsX5_init) := ggX4_init_X5_init
theorem dX4_init_0 : decode cX4_init 0 = .ok (.aload_n 0, 1) := by decide +kernel
theorem dX4_init_1 : decode cX4_init 1 = .ok (.invokespecial 3, 3) := by decide +kernel
theorem dX4_init_4 : decode cX4_init 4 = .ok (.aload_n 0, 1) := by decide +kernel
theorem dX4_init_5 : decode cX4_init 5 = .ok (.new 9, 3) := by decide +kernel
theorem dX4_init_8 : decode cX4_init 8 = .ok (.dup, 1) := by decide +kernel
theorem dX4_init_9 : decode cX4_init 9 = .ok (.sipush 200, 3) := by decide +kernel
theorem dX4_init_12 : decode cX4_init 12 = .ok (.invokespecial 11, 3) := by decide +kernel
theorem dX4_init_15 : decode cX4_init 15 = .ok (.putfield 14, 3) := by decide +kernel
theorem dX4_init_18 : decode cX4_init 18 = .ok (.aload_n 0, 1) := by decide +kernel
theorem dX4_init_19 : decode cX4_init 19 = .ok (.new 9, 3) := by decide +kernel
theorem dX4_init_22 : decode cX4_init 22 = .ok (.dup, 1) := by decide +kernel
theorem dX4_init_23 : decode cX4_init 23 = .ok (.sipush 200, 3) := by decide +kernel
theorem dX4_init_26 : decode cX4_init 26 = .ok (.invokespecial 11, 3) := by decide +kernel
theorem dX4_init_29 : decode cX4_init 29 = .ok (.putfield 20, 3) := by decide +kernel
theorem dX4_init_32 : decode cX4_init 32 = .ok (.aload_n 0, 1) := by decide +kernel
theorem dX4_init_33 : decode cX4_init 33 = .ok (.new 9, 3) := by decide +kernel
theorem dX4_init_36 : decode cX4_init 36 = .ok (.dup, 1) := by decide +kernel
theorem dX4_init_37 : decode cX4_init 37 = .ok (.sipush 200, 3) := by decide +kernel
theorem dX4_init_40 : decode cX4_init 40 = .ok (.invokespecial 11, 3) := by decide +kernel
theorem dX4_init_43 : decode cX4_init 43 = .ok (.putfield 23, 3) := by decide +kernel
theorem dX4_init_46 : decode cX4_init 46 = .ok (.aload_n 0, 1) := by decide +kernel
theorem dX4_init_47 : decode cX4_init 47 = .ok (.new 9, 3) := by decide +kernel
theorem dX4_init_50 : decode cX4_init 50 = .ok (.dup, 1) := by decide +kernel
theorem dX4_init_51 : decode cX4_init 51 = .ok (.sipush 200, 3) := by decide +kernel
theorem dX4_init_54 : decode cX4_init 54 = .ok (.invokespecial 11, 3) := by decide +kernel
theorem dX4_init_57 : decode cX4_init 57 = .ok (.putfield 26, 3) := by decide +kernel
theorem dX4_init_60 : decode cX4_init 60 = .ok (.aload_n 0, 1) := by decide +kernel
theorem dX4_init_61 : decode cX4_init 61 = .ok (.iconst 0, 1) := by decide +kernel
theorem dX4_init_62 : decode cX4_init 62 = .ok (.putfield 29, 3) := by decide +kernel
theorem dX4_init_65 : decode cX4_init 65 = .ok (.return_, 1) := by decide +kernel
set_option maxRecDepth 20000 in
theorem ggX4_decode_X4_reset : GoodIn wsX4_decode wsX4_reset := goodIn_r _ [5, 6, 7, 8, 9, 10, 11, 12, 13, 14, 15, 16, 17, 18, 148, 149, 150, 151, 152, 153, 154, 155, 156] (by decide +kernel) (by decide +kernel)
set_option maxRecDepth 20000 in
theorem gX4_decode_X4_reset : GoodIn wsX4_decode (wsV RX4 33 RX4 yX4_reset wsX4_reset) := goodIn_app (goodIn_of _ (by decide +kernel)) ggX4_decode_X4_reset
set_option maxRecDepth 20000 in
theorem ggX4_decode_X5_size : GoodIn wsX4_decode wsX5_size := goodIn_r _ [22, 18, 155, 156] (by decide +kernel) (by decide +kernel)
set_option maxRecDepth 20000 in
theorem gX4_decode_X5_size : GoodIn wsX4_decode (wsV RX4 41 RX5 yX5_size wsX5_size) := goodIn_app (goodIn_of _ (by decide +kernel)) ggX4_decode_X5_size
set_option maxRecDepth 20000 in
theorem ggX4_decode_X5_at : GoodIn wsX4_decode wsX5_at := goodIn_r _ [26, 27, 28, 29, 30, 16, 31, 18, 155, 156] (by decide +kernel) (by decide +kernel)
set_option maxRecDepth 20000 in
theorem gX4_decode_X5_at : GoodIn wsX4_decode (wsV RX4 45 RX5 yX5_at wsX5_at) := goodIn_app (goodIn_of _ (by decide +kernel)) ggX4_decode_X5_at
set_option maxRecDepth 20000 in
theorem ggX4_decode_X0_isSign : GoodIn wsX4_decode wsX0_isSign := goodIn_r _ [35] (by decide +kernel) (by decide +kernel)
set_option maxRecDepth 20000 in
theorem gX4_decode_X0_isSign : GoodIn wsX4_decode (va_wsS RX4 49 yX0_isSign wsX0_isSign) := goodIn_app (goodIn_of _ (by decide +kernel)) ggX4_decode_X0_isSign
set_option maxRecDepth 20000 in
theorem ggX4_decode_X4_printSegment : GoodIn wsX4_decode wsX4_printSegment := goodIn_r _ [39, 10, 8, 7, 9, 6, 40, 41, 42, 43, 44, 45, 46, 47, 48, 49, 50, 51, 52, 53, 54, 55, 56, 24, 25, 16, 26, 27, 28, 29, 30, 31, 18, 57, 58, 59, 60, 61, 62, 63, 64, 65, 66, 67, 68, 69, 70, 71, 34, 72, 73, 74, 75, 76, 77, 78, 79, 80, 23, 81, 82, 83, 84, 33, 35, 85, 86, 87, 88, 89, 90, 91, 92, 93, 94, 95, 96, 97, 98, 99, 100, 101, 102, 103, 104, 105, 106, 107, 108, 109, 110, 111, 112, 113, 114, 115, 116, 117, 118, 119, 120, 121, 122, 123, 124, 125, 126, 127, 128, 129, 130, 131, 132, 133, 148, 149, 150, 151, 152, 153, 154, 155, 156, 157] (by decide +kernel) (by decide +kernel)
set_option maxRecDepth 20000 in
theorem gX4_decode_X4_printSegment : GoodIn wsX4_decode (wsV RX4 55 RX4 yX4_printSegment wsX4_printSegment) := goodIn_app (goodIn_of _ (by decide +kernel)) ggX4_decode_X4_printSegment
set_option maxRecDepth 20000 in
theorem ggX4_decode_X4_obey : GoodIn wsX4_decode wsX4_obey := goodIn_r _ [137, 10, 11, 12, 6, 81, 82, 34, 83, 84, 33, 35, 85, 86, 87, 88, 89, 90, 91, 92, 93, 94, 95, 96, 97, 98, 99, 100, 101, 102, 103, 104, 105, 106, 107, 108, 109, 110, 111, 112, 113, 114, 115, 116, 117, 118, 119, 120, 121, 122, 123, 124, 125, 126, 127, 128, 129, 130, 131, 132, 133, 76, 77, 78, 16, 79, 18, 27, 138, 139, 140, 148, 149, 150, 151, 152, 153, 154, 155, 156] (by decide +kernel) (by decide +kernel)
set_option maxRecDepth 20000 in
theorem gX4_decode_X4_obey : GoodIn wsX4_decode (wsV RX4 63 RX4 yX4_obey wsX4_obey) := goodIn_app (goodIn_of _ (by decide +kernel)) ggX4_decode_X4_obey
theorem dX4_decode_0 : decode cX4_decode 0 = .ok (.aload_n 0, 1) := by decide +kernel
theorem dX4_decode_1 : decode cX4_decode 1 = .ok (.invokevirtual 33, 3) := by decide +kernel
theorem dX4_decode_4 : decode cX4_decode 4 = .ok (.aload_n 1, 1) := by decide +kernel
theorem dX4_decode_5 : decode cX4_decode 5 = .ok (.getfield 36, 3) := by decide +kernel
theorem dX4_decode_8 : decode cX4_decode 8 = .ok (.astore_n 3, 1) := by decide +kernel
theorem dX4_decode_9 : decode cX4_decode 9 = .ok (.iconst 0, 1) := by decide +kernel
theorem dX4_decode_10 : decode cX4_decode 10 = .ok (.istore 4, 2) := by decide +kernel
theorem dX4_decode_12 : decode cX4_decode 12 = .ok (.iconst 0, 1) := by decide +kernel
theorem dX4_decode_13 : decode cX4_decode 13 = .ok (.istore 5, 2) := by decide +kernel
theorem dX4_decode_15 : decode cX4_decode 15 = .ok (.iload 5, 2) := by decide +kernel
theorem dX4_decode_17 : decode cX4_decode 17 = .ok (.aload_n 3, 1) := by decide +kernel
theorem dX4_decode_18 : decode cX4_decode 18 = .ok (.invokevirtual 41, 3) := by decide +kernel
theorem dX4_decode_21 : decode cX4_decode 21 = .ok (.if_icmp .ge 51, 3) := by decide +kernel
theorem dX4_decode_24 : decode cX4_decode 24 = .ok (.aload_n 3, 1) := by decide +kernel
theorem dX4_decode_25 : decode cX4_decode 25 = .ok (.iload 5, 2) := by decide +kernel
theorem dX4_decode_27 : decode cX4_decode 27 = .ok (.invokevirtual 45, 3) := by decide +kernel
theorem dX4_decode_30 : decode cX4_decode 30 = .ok (.istore 6, 2) := by decide +kernel
theorem dX4_decode_32 : decode cX4_decode 32 = .ok (.iload 6, 2) := by decide +kernel
theorem dX4_decode_34 : decode cX4_decode 34 = .ok (.invokestatic 49, 3) := by decide +kernel
theorem dX4_decode_37 : decode cX4_decode 37 = .ok (.ifCond .ne 29, 3) := by decide +kernel
theorem dX4_decode_40 : decode cX4_decode 40 = .ok (.aload_n 0, 1) := by decide +kernel
theorem dX4_decode_41 : decode cX4_decode 41 = .ok (.aload_n 3, 1) := by decide +kernel
theorem dX4_decode_42 : decode cX4_decode 42 = .ok (.iload 4, 2) := by decide +kernel
theorem dX4_decode_44 : decode cX4_decode 44 = .ok (.iload 5, 2) := by decide +kernel
theorem dX4_decode_46 : decode cX4_decode 46 = .ok (.aload_n 2, 1) := by decide +kernel
theorem dX4_decode_47 : decode cX4_decode 47 = .ok (.invokevirtual 55, 3) := by decide +kernel
theorem dX4_decode_50 : decode cX4_decode 50 = .ok (.aload_n 0, 1) := by decide +kernel
theorem dX4_decode_51 : decode cX4_decode 51 = .ok (.iload 6, 2) := by decide +kernel
theorem dX4_decode_53 : decode cX4_decode 53 = .ok (.aload_n 1, 1) := by decide +kernel
theorem dX4_decode_54 : decode cX4_decode 54 = .ok (.getfield 59, 3) := by decide +kernel
theorem dX4_decode_57 : decode cX4_decode 57 = .ok (.invokevirtual 63, 3) := by decide +kernel
theorem dX4_decode_60 : decode cX4_decode 60 = .ok (.iload 5, 2) := by decide +kernel
theorem dX4_decode_62 : decode cX4_decode 62 = .ok (.iconst 1, 1) := by decide +kernel
theorem dX4_decode_63 : decode cX4_decode 63 = .ok (.iadd, 1) := by decide +kernel
theorem dX4_decode_64 : decode cX4_decode 64 = .ok (.istore 4, 2) := by decide +kernel
theorem dX4_decode_66 : decode cX4_decode 66 = .ok (.iinc 5 1, 3) := by decide +kernel
theorem dX4_decode_69 : decode cX4_decode 69 = .ok (.goto (-54), 3) := by decide +kernel
theorem dX4_decode_72 : decode cX4_decode 72 = .ok (.aload_n 0, 1) := by decide +kernel
theorem dX4_decode_73 : decode cX4_decode 73 = .ok (.aload_n 3, 1) := by decide +kernel
theorem dX4_decode_74 : decode cX4_decode 74 = .ok (.iload 4, 2) := by decide +kernel
theorem dX4_decode_76 : decode cX4_decode 76 = .ok (.aload_n 3, 1) := by decide +kernel
theorem dX4_decode_77 : decode cX4_decode 77 = .ok (.invokevirtual 41, 3) := by decide +kernel
theorem dX4_decode_80 : decode cX4_decode 80 = .ok (.aload_n 2, 1) := by decide +kernel
theorem dX4_decode_81 : decode cX4_decode 81 = .ok (.invokevirtual 55, 3) := by decide +kernel
theorem dX4_decode_84 : decode cX4_decode 84 = .ok (.return_, 1) := by decide +kernel
set_option maxRecDepth 20000 in
theorem ggX4_reset_X5_clear : GoodIn wsX4_reset wsX5_clear := goodIn_r _ [12, 13, 21, 22] (by decide +kernel) (by decide +kernel)
set_option maxRecDepth 20000 in
theorem gX4_reset_X5_clear : GoodIn wsX4_reset (wsV RX4 67 RX5 yX5_clear wsX5_clear) := goodIn_app (goodIn_of _ (by decide +kernel)) ggX4_reset_X5_clear
theorem dX4_reset_0 : decode cX4_reset 0 = .ok (.aload_n 0, 1) := by decide +kernel
theorem dX4_reset_1 : decode cX4_reset 1 = .ok (.getfield 14, 3) := by decide +kernel
theorem dX4_reset_4 : decode cX4_reset 4 = .ok (.invokevirtual 67, 3) := by decide +kernel
theorem dX4_reset_7 : decode cX4_reset 7 = .ok (.aload_n 0, 1) := by decide +kernel
theorem dX4_reset_8 : decode cX4_reset 8 = .ok (.getfield 20, 3) := by decide +kernel
theorem dX4_reset_11 : decode cX4_reset 11 = .ok (.invokevirtual 67, 3) := by decide +kernel
theorem dX4_reset_14 : decode cX4_reset 14 = .ok (.aload_n 0, 1) := by decide +kernel
theorem dX4_reset_15 : decode cX4_reset 15 = .ok (.getfield 23, 3) := by decide +kernel
theorem dX4_reset_18 : decode cX4_reset 18 = .ok (.invokevirtual 67, 3) := by decide +kernel
theorem dX4_reset_21 : decode cX4_reset 21 = .ok (.aload_n 0, 1) := by decide +kernel
theorem dX4_reset_22 : decode cX4_reset 22 = .ok (.getfield 26, 3) := by decide +kernel
theorem dX4_reset_25 : decode cX4_reset 25 = .ok (.invokevirtual 67, 3) := by decide +kernel
theorem dX4_reset_28 : decode cX4_reset 28 = .ok (.aload_n 0, 1) := by decide +kernel
theorem dX4_reset_29 : decode cX4_reset 29 = .ok (.iconst 0, 1) := by decide +kernel
theorem dX4_reset_30 : decode cX4_reset 30 = .ok (.putfield 29, 3) := by decide +kernel
theorem dX4_reset_33 : decode cX4_reset 33 = .ok (.aload_n 0, 1) := by decide +kernel
theorem dX4_reset_34 : decode cX4_reset 34 = .ok (.iconst 0, 1) := by decide +kernel
theorem dX4_reset_35 : decode cX4_reset 35 = .ok (.putfield 70, 3) := by decide +kernel
theorem dX4_reset_38 : decode cX4_reset 38 = .ok (.aload_n 0, 1) := by decide +kernel
theorem dX4_reset_39 : decode cX4_reset 39 = .ok (.iconst 0, 1) := by decide +kernel
theorem dX4_reset_40 : decode cX4_reset 40 = .ok (.putfield 73, 3) := by decide +kernel
theorem dX4_reset_43 : decode cX4_reset 43 = .ok (.return_, 1) := by decide +kernel
set_option maxRecDepth 20000 in
theorem ggX4_printSegment_X1_kindOf : GoodIn wsX4_printSegment wsX1_kindOf := goodIn_r _ [10, 11, 12, 13, 9, 14, 15, 16, 17, 18, 19, 20, 21, 22, 23, 24, 25, 26, 27, 28, 29, 30, 31, 32, 33, 34, 35, 36, 37, 38, 39, 40, 41, 42, 43, 44, 45, 46, 47, 48, 49, 121, 122, 123] (by decide +kernel) (by decide +kernel)
set_option maxRecDepth 20000 in
theorem gX4_printSegment_X1_kindOf : GoodIn wsX4_printSegment (wsV RX4 76 RX1 yX1_kindOf wsX1_kindOf) := goodIn_app (goodIn_of _ (by decide +kernel)) ggX4_printSegment_X1_kindOf
set_option maxRecDepth 20000 in
theorem ggX4_printSegment_X1_shiftOfKind : GoodIn wsX4_printSegment wsX1_shiftOfKind := goodIn_r _ [52] (by decide +kernel) (by decide +kernel)
set_option maxRecDepth 20000 in
theorem gX4_printSegment_X1_shiftOfKind : GoodIn wsX4_printSegment (va_wsS RX4 82 yX1_shiftOfKind wsX1_shiftOfKind) := goodIn_app (goodIn_of _ (by decide +kernel)) ggX4_printSegment_X1_shiftOfKind
set_option maxRecDepth 20000 in
theorem ggX4_printSegment_X5_add : GoodIn wsX4_printSegment wsX5_add := goodIn_r _ [56, 32, 27, 121, 122] (by decide +kernel) (by decide +kernel)
set_option maxRecDepth 20000 in
theorem gX4_printSegment_X5_add : GoodIn wsX4_printSegment (wsV RX4 85 RX5 yX5_add wsX5_add) := goodIn_app (goodIn_of _ (by decide +kernel)) ggX4_printSegment_X5_add
set_option maxRecDepth 20000 in
theorem ggX4_printSegment_X1_findSegment : GoodIn wsX4_printSegment wsX1_findSegment := goodIn_r _ [18, 19, 20, 9, 21, 22, 23, 24, 25, 26, 27, 28, 29, 30, 31, 32, 33, 34, 35, 36, 37, 38, 39, 40, 41, 42, 121, 122, 123] (by decide +kernel) (by decide +kernel)
set_option maxRecDepth 20000 in
theorem gX4_printSegment_X1_findSegment : GoodIn wsX4_printSegment (wsV RX4 88 RX1 yX1_findSegment wsX1_findSegment) := goodIn_app (goodIn_of _ (by decide +kernel)) ggX4_printSegment_X1_findSegment
set_option maxRecDepth 20000 in
theorem ggX4_printSegment_X5_at : GoodIn wsX4_printSegment wsX5_at := goodIn_r _ [26, 27, 28, 29, 30, 25, 31, 32, 121, 122] (by decide +kernel) (by decide +kernel)
set_option maxRecDepth 20000 in
theorem gX4_printSegment_X5_at : GoodIn wsX4_printSegment (wsV RX4 45 RX5 yX5_at wsX5_at) := goodIn_app (goodIn_of _ (by decide +kernel)) ggX4_printSegment_X5_at
set_option maxRecDepth 20000 in
theorem ggX4_printSegment_X0_characterOf : GoodIn wsX4_printSegment wsX0_characterOf := goodIn_r _ [61, 62, 63, 48, 64, 65, 66, 67, 68, 69, 70, 71, 72, 73, 74, 75, 76, 77, 78, 79, 80, 81, 82, 83, 84, 85, 86, 87, 88, 89, 90, 91, 92, 93, 94, 95, 96, 97, 98, 99, 100, 101, 102, 103, 104, 105, 106, 107, 108, 109, 110, 111, 112, 113] (by decide +kernel) (by decide +kernel)
set_option maxRecDepth 20000 in
theorem gX4_printSegment_X0_characterOf : GoodIn wsX4_printSegment (va_wsS RX4 92 yX0_characterOf wsX0_characterOf) := goodIn_app (goodIn_of _ (by decide +kernel)) ggX4_printSegment_X0_characterOf
theorem dX4_printSegment_0 : decode cX4_printSegment 0 = .ok (.iload_n 2, 1) := by decide +kernel
theorem dX4_printSegment_1 : decode cX4_printSegment 1 = .ok (.iload_n 3, 1) := by decide +kernel
theorem dX4_printSegment_2 : decode cX4_printSegment 2 = .ok (.if_icmp .lt 4, 3) := by decide +kernel
theorem dX4_printSegment_5 : decode cX4_printSegment 5 = .ok (.return_, 1) := by decide +kernel
theorem dX4_printSegment_6 : decode cX4_printSegment 6 = .ok (.aload 4, 2) := by decide +kernel
theorem dX4_printSegment_8 : decode cX4_printSegment 8 = .ok (.aload_n 1, 1) := by decide +kernel
theorem dX4_printSegment_9 : decode cX4_printSegment 9 = .ok (.iload_n 2, 1) := by decide +kernel
theorem dX4_printSegment_10 : decode cX4_printSegment 10 = .ok (.iload_n 3, 1) := by decide +kernel
theorem dX4_printSegment_11 : decode cX4_printSegment 11 = .ok (.aload_n 0, 1) := by decide +kernel
theorem dX4_printSegment_12 : decode cX4_printSegment 12 = .ok (.getfield 29, 3) := by decide +kernel
theorem dX4_printSegment_15 : decode cX4_printSegment 15 = .ok (.invokevirtual 76, 3) := by decide +kernel
theorem dX4_printSegment_18 : decode cX4_printSegment 18 = .ok (.istore 5, 2) := by decide +kernel
theorem dX4_printSegment_20 : decode cX4_printSegment 20 = .ok (.aload_n 0, 1) := by decide +kernel
theorem dX4_printSegment_21 : decode cX4_printSegment 21 = .ok (.iload 5, 2) := by decide +kernel
theorem dX4_printSegment_23 : decode cX4_printSegment 23 = .ok (.invokestatic 82, 3) := by decide +kernel
theorem dX4_printSegment_26 : decode cX4_printSegment 26 = .ok (.putfield 29, 3) := by decide +kernel
theorem dX4_printSegment_29 : decode cX4_printSegment 29 = .ok (.aload_n 0, 1) := by decide +kernel
theorem dX4_printSegment_30 : decode cX4_printSegment 30 = .ok (.getfield 23, 3) := by decide +kernel
theorem dX4_printSegment_33 : decode cX4_printSegment 33 = .ok (.iload 5, 2) := by decide +kernel
theorem dX4_printSegment_35 : decode cX4_printSegment 35 = .ok (.invokevirtual 85, 3) := by decide +kernel
theorem dX4_printSegment_38 : decode cX4_printSegment 38 = .ok (.aload_n 0, 1) := by decide +kernel
theorem dX4_printSegment_39 : decode cX4_printSegment 39 = .ok (.getfield 20, 3) := by decide +kernel
theorem dX4_printSegment_42 : decode cX4_printSegment 42 = .ok (.iload_n 3, 1) := by decide +kernel
theorem dX4_printSegment_43 : decode cX4_printSegment 43 = .ok (.iload_n 2, 1) := by decide +kernel
theorem dX4_printSegment_44 : decode cX4_printSegment 44 = .ok (.isub, 1) := by decide +kernel
theorem dX4_printSegment_45 : decode cX4_printSegment 45 = .ok (.invokevirtual 85, 3) := by decide +kernel
theorem dX4_printSegment_48 : decode cX4_printSegment 48 = .ok (.aload_n 0, 1) := by decide +kernel
theorem dX4_printSegment_49 : decode cX4_printSegment 49 = .ok (.getfield 26, 3) := by decide +kernel
theorem dX4_printSegment_52 : decode cX4_printSegment 52 = .ok (.aload_n 0, 1) := by decide +kernel
theorem dX4_printSegment_53 : decode cX4_printSegment 53 = .ok (.getfield 29, 3) := by decide +kernel
theorem dX4_printSegment_56 : decode cX4_printSegment 56 = .ok (.ifCond .ne 14, 3) := by decide +kernel
theorem dX4_printSegment_59 : decode cX4_printSegment 59 = .ok (.aload 4, 2) := by decide +kernel
theorem dX4_printSegment_61 : decode cX4_printSegment 61 = .ok (.aload_n 1, 1) := by decide +kernel
theorem dX4_printSegment_62 : decode cX4_printSegment 62 = .ok (.iload_n 2, 1) := by decide +kernel
theorem dX4_printSegment_63 : decode cX4_printSegment 63 = .ok (.iload_n 3, 1) := by decide +kernel
theorem dX4_printSegment_64 : decode cX4_printSegment 64 = .ok (.invokevirtual 88, 3) := by decide +kernel
theorem dX4_printSegment_67 : decode cX4_printSegment 67 = .ok (.goto 4, 3) := by decide +kernel
theorem dX4_printSegment_70 : decode cX4_printSegment 70 = .ok (.iconst (-1), 1) := by decide +kernel
theorem dX4_printSegment_71 : decode cX4_printSegment 71 = .ok (.invokevirtual 85, 3) := by decide +kernel
theorem dX4_printSegment_74 : decode cX4_printSegment 74 = .ok (.iload_n 2, 1) := by decide +kernel
theorem dX4_printSegment_75 : decode cX4_printSegment 75 = .ok (.istore 6, 2) := by decide +kernel
theorem dX4_printSegment_77 : decode cX4_printSegment 77 = .ok (.iload 6, 2) := by decide +kernel
theorem dX4_printSegment_79 : decode cX4_printSegment 79 = .ok (.iload_n 3, 1) := by decide +kernel
theorem dX4_printSegment_80 : decode cX4_printSegment 80 = .ok (.if_icmp .ge 29, 3) := by decide +kernel
theorem dX4_printSegment_83 : decode cX4_printSegment 83 = .ok (.aload_n 0, 1) := by decide +kernel
theorem dX4_printSegment_84 : decode cX4_printSegment 84 = .ok (.getfield 14, 3) := by decide +kernel
theorem dX4_printSegment_87 : decode cX4_printSegment 87 = .ok (.aload_n 1, 1) := by decide +kernel
theorem dX4_printSegment_88 : decode cX4_printSegment 88 = .ok (.iload 6, 2) := by decide +kernel
theorem dX4_printSegment_90 : decode cX4_printSegment 90 = .ok (.invokevirtual 45, 3) := by decide +kernel
theorem dX4_printSegment_93 : decode cX4_printSegment 93 = .ok (.aload_n 0, 1) := by decide +kernel
theorem dX4_printSegment_94 : decode cX4_printSegment 94 = .ok (.getfield 29, 3) := by decide +kernel
theorem dX4_printSegment_97 : decode cX4_printSegment 97 = .ok (.invokestatic 92, 3) := by decide +kernel
theorem dX4_printSegment_100 : decode cX4_printSegment 100 = .ok (.invokevirtual 85, 3) := by decide +kernel
theorem dX4_printSegment_103 : decode cX4_printSegment 103 = .ok (.iinc 6 1, 3) := by decide +kernel
theorem dX4_printSegment_106 : decode cX4_printSegment 106 = .ok (.goto (-29), 3) := by decide +kernel
theorem dX4_printSegment_109 : decode cX4_printSegment 109 = .ok (.return_, 1) := by decide +kernel
set_option maxRecDepth 20000 in
theorem ggX4_obey_X0_characterOf : GoodIn wsX4_obey wsX0_characterOf := goodIn_r _ [8, 9, 10, 7, 11, 12, 13, 14, 15, 16, 17, 18, 19, 20, 21, 22, 23, 24, 25, 26, 27, 28, 29, 30, 31, 32, 33, 34, 35, 36, 37, 38, 39, 40, 41, 42, 43, 44, 45, 46, 47, 48, 49, 50, 51, 52, 53, 54, 55, 56, 57, 58, 59, 60] (by decide +kernel) (by decide +kernel)
set_option maxRecDepth 20000 in
theorem gX4_obey_X0_characterOf : GoodIn wsX4_obey (va_wsS RX4 92 yX0_characterOf wsX0_characterOf) := goodIn_app (goodIn_of _ (by decide +kernel)) ggX4_obey_X0_characterOf
set_option maxRecDepth 20000 in
theorem ggX4_obey_X5_add : GoodIn wsX4_obey wsX5_add := goodIn_r _ [65, 66, 67, 78, 79] (by decide +kernel) (by decide +kernel)
set_option maxRecDepth 20000 in
theorem gX4_obey_X5_add : GoodIn wsX4_obey (wsV RX4 85 RX5 yX5_add wsX5_add) := goodIn_app (goodIn_of _ (by decide +kernel)) ggX4_obey_X5_add
set_option maxRecDepth 20000 in
theorem ggX4_obey_X0_shiftBehind : GoodIn wsX4_obey wsX0_shiftBehind := goodIn_r _ [70] (by decide +kernel) (by decide +kernel)
set_option maxRecDepth 20000 in
theorem gX4_obey_X0_shiftBehind : GoodIn wsX4_obey (va_wsS RX4 96 yX0_shiftBehind wsX0_shiftBehind) := goodIn_app (goodIn_of _ (by decide +kernel)) ggX4_obey_X0_shiftBehind
theorem dX4_obey_0 : decode cX4_obey 0 = .ok (.iload_n 1, 1) := by decide +kernel
theorem dX4_obey_1 : decode cX4_obey 1 = .ok (.bipush 29, 2) := by decide +kernel
theorem dX4_obey_3 : decode cX4_obey 3 = .ok (.if_icmp .ne 24, 3) := by decide +kernel
theorem dX4_obey_6 : decode cX4_obey 6 = .ok (.aload_n 0, 1) := by decide +kernel
theorem dX4_obey_7 : decode cX4_obey 7 = .ok (.getfield 29, 3) := by decide +kernel
theorem dX4_obey_10 : decode cX4_obey 10 = .ok (.iconst 1, 1) := by decide +kernel
theorem dX4_obey_11 : decode cX4_obey 11 = .ok (.if_icmp .ne 16, 3) := by decide +kernel
theorem dX4_obey_14 : decode cX4_obey 14 = .ok (.aload_n 0, 1) := by decide +kernel
theorem dX4_obey_15 : decode cX4_obey 15 = .ok (.dup, 1) := by decide +kernel
theorem dX4_obey_16 : decode cX4_obey 16 = .ok (.getfield 70, 3) := by decide +kernel
theorem dX4_obey_19 : decode cX4_obey 19 = .ok (.iconst 1, 1) := by decide +kernel
theorem dX4_obey_20 : decode cX4_obey 20 = .ok (.iadd, 1) := by decide +kernel
theorem dX4_obey_21 : decode cX4_obey 21 = .ok (.putfield 70, 3) := by decide +kernel
theorem dX4_obey_24 : decode cX4_obey 24 = .ok (.goto 19, 3) := by decide +kernel
theorem dX4_obey_27 : decode cX4_obey 27 = .ok (.iload_n 1, 1) := by decide +kernel
theorem dX4_obey_28 : decode cX4_obey 28 = .ok (.bipush 29, 2) := by decide +kernel
theorem dX4_obey_30 : decode cX4_obey 30 = .ok (.if_icmp .ne 13, 3) := by decide +kernel
theorem dX4_obey_33 : decode cX4_obey 33 = .ok (.aload_n 0, 1) := by decide +kernel
theorem dX4_obey_34 : decode cX4_obey 34 = .ok (.dup, 1) := by decide +kernel
theorem dX4_obey_35 : decode cX4_obey 35 = .ok (.getfield 73, 3) := by decide +kernel
theorem dX4_obey_38 : decode cX4_obey 38 = .ok (.iconst 1, 1) := by decide +kernel
theorem dX4_obey_39 : decode cX4_obey 39 = .ok (.iadd, 1) := by decide +kernel
theorem dX4_obey_40 : decode cX4_obey 40 = .ok (.putfield 73, 3) := by decide +kernel
theorem dX4_obey_43 : decode cX4_obey 43 = .ok (.iload_n 1, 1) := by decide +kernel
theorem dX4_obey_44 : decode cX4_obey 44 = .ok (.aload_n 0, 1) := by decide +kernel
theorem dX4_obey_45 : decode cX4_obey 45 = .ok (.getfield 29, 3) := by decide +kernel
theorem dX4_obey_48 : decode cX4_obey 48 = .ok (.invokestatic 92, 3) := by decide +kernel
theorem dX4_obey_51 : decode cX4_obey 51 = .ok (.istore_n 3, 1) := by decide +kernel
theorem dX4_obey_52 : decode cX4_obey 52 = .ok (.iload_n 3, 1) := by decide +kernel
theorem dX4_obey_53 : decode cX4_obey 53 = .ok (.iconst (-1), 1) := by decide +kernel
theorem dX4_obey_54 : decode cX4_obey 54 = .ok (.if_icmp .eq 11, 3) := by decide +kernel
theorem dX4_obey_57 : decode cX4_obey 57 = .ok (.aload_n 0, 1) := by decide +kernel
theorem dX4_obey_58 : decode cX4_obey 58 = .ok (.getfield 14, 3) := by decide +kernel
theorem dX4_obey_61 : decode cX4_obey 61 = .ok (.iload_n 3, 1) := by decide +kernel
theorem dX4_obey_62 : decode cX4_obey 62 = .ok (.invokevirtual 85, 3) := by decide +kernel
theorem dX4_obey_65 : decode cX4_obey 65 = .ok (.aload_n 0, 1) := by decide +kernel
theorem dX4_obey_66 : decode cX4_obey 66 = .ok (.iload_n 1, 1) := by decide +kernel
theorem dX4_obey_67 : decode cX4_obey 67 = .ok (.aload_n 0, 1) := by decide +kernel
theorem dX4_obey_68 : decode cX4_obey 68 = .ok (.getfield 29, 3) := by decide +kernel
theorem dX4_obey_71 : decode cX4_obey 71 = .ok (.iload_n 2, 1) := by decide +kernel
theorem dX4_obey_72 : decode cX4_obey 72 = .ok (.invokestatic 96, 3) := by decide +kernel
theorem dX4_obey_75 : decode cX4_obey 75 = .ok (.putfield 29, 3) := by decide +kernel
theorem dX4_obey_78 : decode cX4_obey 78 = .ok (.return_, 1) := by decide +kernel
theorem dX5_init_0 : decode cX5_init 0 = .ok (.aload_n 0, 1) := by decide +kernel
theorem dX5_init_1 : decode cX5_init 1 = .ok (.invokespecial 3, 3) := by decide +kernel
theorem dX5_init_4 : decode cX5_init 4 = .ok (.aload_n 0, 1) := by decide +kernel
theorem dX5_init_5 : decode cX5_init 5 = .ok (.iload_n 1, 1) := by decide +kernel
theorem dX5_init_6 : decode cX5_init 6 = .ok (.iconst 0, 1) := by decide +kernel
theorem dX5_init_7 : decode cX5_init 7 = .ok (.invokestatic 9, 3) := by decide +kernel
theorem dX5_init_10 : decode cX5_init 10 = .ok (.newarray .int, 2) := by decide +kernel
theorem dX5_init_12 : decode cX5_init 12 = .ok (.putfield 15, 3) := by decide +kernel
theorem dX5_init_15 : decode cX5_init 15 = .ok (.return_, 1) := by decide +kernel
theorem dX5_size_0 : decode cX5_size 0 = .ok (.aload_n 0, 1) := by decide +kernel
theorem dX5_size_1 : decode cX5_size 1 = .ok (.getfield 21, 3) := by decide +kernel
theorem dX5_size_4 : decode cX5_size 4 = .ok (.ireturn, 1) := by decide +kernel
theorem dX5_has_0 : decode cX5_has 0 = .ok (.iload_n 1, 1) := by decide +kernel
theorem dX5_has_1 : decode cX5_has 1 = .ok (.ifCond .lt 24, 3) := by decide +kernel
theorem dX5_has_4 : decode cX5_has 4 = .ok (.iload_n 1, 1) := by decide +kernel
theorem dX5_has_5 : decode cX5_has 5 = .ok (.aload_n 0, 1) := by decide +kernel
theorem dX5_has_6 : decode cX5_has 6 = .ok (.getfield 21, 3) := by decide +kernel
theorem dX5_has_9 : decode cX5_has 9 = .ok (.if_icmp .ge 16, 3) := by decide +kernel
theorem dX5_has_12 : decode cX5_has 12 = .ok (.iload_n 1, 1) := by decide +kernel
theorem dX5_has_13 : decode cX5_has 13 = .ok (.aload_n 0, 1) := by decide +kernel
theorem dX5_has_14 : decode cX5_has 14 = .ok (.getfield 15, 3) := by decide +kernel
theorem dX5_has_17 : decode cX5_has 17 = .ok (.arraylength, 1) := by decide +kernel
theorem dX5_has_18 : decode cX5_has 18 = .ok (.if_icmp .ge 7, 3) := by decide +kernel
theorem dX5_has_21 : decode cX5_has 21 = .ok (.iconst 1, 1) := by decide +kernel
theorem dX5_has_22 : decode cX5_has 22 = .ok (.goto 4, 3) := by decide +kernel
theorem dX5_has_25 : decode cX5_has 25 = .ok (.iconst 0, 1) := by decide +kernel
theorem dX5_has_26 : decode cX5_has 26 = .ok (.ireturn, 1) := by decide +kernel
set_option maxRecDepth 20000 in
theorem ggX5_at_X5_has : GoodIn wsX5_at wsX5_has := goodIn_r _ [6, 7, 1, 8, 9] (by decide +kernel) (by decide +kernel)
set_option maxRecDepth 20000 in
theorem gX5_at_X5_has : GoodIn wsX5_at (wsV RX5 25 RX5 yX5_has wsX5_has) := goodIn_app (goodIn_of _ (by decide +kernel)) ggX5_at_X5_has
theorem dX5_at_0 : decode cX5_at 0 = .ok (.aload_n 0, 1) := by decide +kernel
theorem dX5_at_1 : decode cX5_at 1 = .ok (.iload_n 1, 1) := by decide +kernel
theorem dX5_at_2 : decode cX5_at 2 = .ok (.invokevirtual 25, 3) := by decide +kernel
theorem dX5_at_5 : decode cX5_at 5 = .ok (.ifCond .eq 12, 3) := by decide +kernel
theorem dX5_at_8 : decode cX5_at 8 = .ok (.aload_n 0, 1) := by decide +kernel
theorem dX5_at_9 : decode cX5_at 9 = .ok (.getfield 15, 3) := by decide +kernel
theorem dX5_at_12 : decode cX5_at 12 = .ok (.iload_n 1, 1) := by decide +kernel
theorem dX5_at_13 : decode cX5_at 13 = .ok (.iaload, 1) := by decide +kernel
theorem dX5_at_14 : decode cX5_at 14 = .ok (.goto 4, 3) := by decide +kernel
theorem dX5_at_17 : decode cX5_at 17 = .ok (.iconst 0, 1) := by decide +kernel
theorem dX5_at_18 : decode cX5_at 18 = .ok (.ireturn, 1) := by decide +kernel
set_option maxRecDepth 20000 in
theorem ggX5_set_X5_has : GoodIn wsX5_set wsX5_has := goodIn_r _ [6, 7, 1, 8, 9] (by decide +kernel) (by decide +kernel)
set_option maxRecDepth 20000 in
theorem gX5_set_X5_has : GoodIn wsX5_set (wsV RX5 25 RX5 yX5_has wsX5_has) := goodIn_app (goodIn_of _ (by decide +kernel)) ggX5_set_X5_has
theorem dX5_set_0 : decode cX5_set 0 = .ok (.aload_n 0, 1) := by decide +kernel
theorem dX5_set_1 : decode cX5_set 1 = .ok (.iload_n 1, 1) := by decide +kernel
theorem dX5_set_2 : decode cX5_set 2 = .ok (.invokevirtual 25, 3) := by decide +kernel
theorem dX5_set_5 : decode cX5_set 5 = .ok (.ifCond .eq 10, 3) := by decide +kernel
theorem dX5_set_8 : decode cX5_set 8 = .ok (.aload_n 0, 1) := by decide +kernel
theorem dX5_set_9 : decode cX5_set 9 = .ok (.getfield 15, 3) := by decide +kernel
theorem dX5_set_12 : decode cX5_set 12 = .ok (.iload_n 1, 1) := by decide +kernel
theorem dX5_set_13 : decode cX5_set 13 = .ok (.iload_n 2, 1) := by decide +kernel
theorem dX5_set_14 : decode cX5_set 14 = .ok (.iastore, 1) := by decide +kernel
theorem dX5_set_15 : decode cX5_set 15 = .ok (.return_, 1) := by decide +kernel
theorem dX5_add_0 : decode cX5_add 0 = .ok (.aload_n 0, 1) := by decide +kernel
theorem dX5_add_1 : decode cX5_add 1 = .ok (.getfield 21, 3) := by decide +kernel
theorem dX5_add_4 : decode cX5_add 4 = .ok (.ifCond .lt 35, 3) := by decide +kernel
theorem dX5_add_7 : decode cX5_add 7 = .ok (.aload_n 0, 1) := by decide +kernel
theorem dX5_add_8 : decode cX5_add 8 = .ok (.getfield 21, 3) := by decide +kernel
theorem dX5_add_11 : decode cX5_add 11 = .ok (.aload_n 0, 1) := by decide +kernel
theorem dX5_add_12 : decode cX5_add 12 = .ok (.getfield 15, 3) := by decide +kernel
theorem dX5_add_15 : decode cX5_add 15 = .ok (.arraylength, 1) := by decide +kernel
theorem dX5_add_16 : decode cX5_add 16 = .ok (.if_icmp .ge 23, 3) := by decide +kernel
theorem dX5_add_19 : decode cX5_add 19 = .ok (.aload_n 0, 1) := by decide +kernel
theorem dX5_add_20 : decode cX5_add 20 = .ok (.getfield 15, 3) := by decide +kernel
theorem dX5_add_23 : decode cX5_add 23 = .ok (.aload_n 0, 1) := by decide +kernel
theorem dX5_add_24 : decode cX5_add 24 = .ok (.getfield 21, 3) := by decide +kernel
theorem dX5_add_27 : decode cX5_add 27 = .ok (.iload_n 1, 1) := by decide +kernel
theorem dX5_add_28 : decode cX5_add 28 = .ok (.iastore, 1) := by decide +kernel
theorem dX5_add_29 : decode cX5_add 29 = .ok (.aload_n 0, 1) := by decide +kernel
theorem dX5_add_30 : decode cX5_add 30 = .ok (.dup, 1) := by decide +kernel
theorem dX5_add_31 : decode cX5_add 31 = .ok (.getfield 21, 3) := by decide +kernel
theorem dX5_add_34 : decode cX5_add 34 = .ok (.iconst 1, 1) := by decide +kernel
theorem dX5_add_35 : decode cX5_add 35 = .ok (.iadd, 1) := by decide +kernel
theorem dX5_add_36 : decode cX5_add 36 = .ok (.putfield 21, 3) := by decide +kernel
theorem dX5_add_39 : decode cX5_add 39 = .ok (.return_, 1) := by decide +kernel
set_option maxRecDepth 20000 in
theorem ggX5_remove_X5_has : GoodIn wsX5_remove wsX5_has := goodIn_r _ [6, 1, 7, 16, 17] (by decide +kernel) (by decide +kernel)
set_option maxRecDepth 20000 in
theorem gX5_remove_X5_has : GoodIn wsX5_remove (wsV RX5 25 RX5 yX5_has wsX5_has) := goodIn_app (goodIn_of _ (by decide +kernel)) ggX5_remove_X5_has
set_option maxRecDepth 20000 in
theorem ggX5_remove_X5_at : GoodIn wsX5_remove wsX5_at := goodIn_r _ [11, 7, 2, 3, 4, 5, 6, 1, 16, 17] (by decide +kernel) (by decide +kernel)
set_option maxRecDepth 20000 in
theorem gX5_remove_X5_at : GoodIn wsX5_remove (wsV RX5 29 RX5 yX5_at wsX5_at) := goodIn_app (goodIn_of _ (by decide +kernel)) ggX5_remove_X5_at
set_option maxRecDepth 20000 in
theorem ggX5_remove_X5_set : GoodIn wsX5_remove wsX5_set := goodIn_r _ [15, 7, 2, 3, 4, 5, 6, 1, 16, 17] (by decide +kernel) (by decide +kernel)
set_option maxRecDepth 20000 in
theorem gX5_remove_X5_set : GoodIn wsX5_remove (wsV RX5 33 RX5 yX5_set wsX5_set) := goodIn_app (goodIn_of _ (by decide +kernel)) ggX5_remove_X5_set
theorem dX5_remove_0 : decode cX5_remove 0 = .ok (.aload_n 0, 1) := by decide +kernel
theorem dX5_remove_1 : decode cX5_remove 1 = .ok (.iload_n 1, 1) := by decide +kernel
theorem dX5_remove_2 : decode cX5_remove 2 = .ok (.invokevirtual 25, 3) := by decide +kernel
theorem dX5_remove_5 : decode cX5_remove 5 = .ok (.ifCond .ne 4, 3) := by decide +kernel
theorem dX5_remove_8 : decode cX5_remove 8 = .ok (.return_, 1) := by decide +kernel
theorem dX5_remove_9 : decode cX5_remove 9 = .ok (.iload_n 1, 1) := by decide +kernel
theorem dX5_remove_10 : decode cX5_remove 10 = .ok (.iconst 1, 1) := by decide +kernel
theorem dX5_remove_11 : decode cX5_remove 11 = .ok (.iadd, 1) := by decide +kernel
theorem dX5_remove_12 : decode cX5_remove 12 = .ok (.istore_n 2, 1) := by decide +kernel
theorem dX5_remove_13 : decode cX5_remove 13 = .ok (.iload_n 2, 1) := by decide +kernel
theorem dX5_remove_14 : decode cX5_remove 14 = .ok (.aload_n 0, 1) := by decide +kernel
theorem dX5_remove_15 : decode cX5_remove 15 = .ok (.getfield 21, 3) := by decide +kernel
theorem dX5_remove_18 : decode cX5_remove 18 = .ok (.if_icmp .ge 21, 3) := by decide +kernel
theorem dX5_remove_21 : decode cX5_remove 21 = .ok (.aload_n 0, 1) := by decide +kernel
theorem dX5_remove_22 : decode cX5_remove 22 = .ok (.iload_n 2, 1) := by decide +kernel
theorem dX5_remove_23 : decode cX5_remove 23 = .ok (.iconst 1, 1) := by decide +kernel
theorem dX5_remove_24 : decode cX5_remove 24 = .ok (.isub, 1) := by decide +kernel
theorem dX5_remove_25 : decode cX5_remove 25 = .ok (.aload_n 0, 1) := by decide +kernel
theorem dX5_remove_26 : decode cX5_remove 26 = .ok (.iload_n 2, 1) := by decide +kernel
theorem dX5_remove_27 : decode cX5_remove 27 = .ok (.invokevirtual 29, 3) := by decide +kernel
theorem dX5_remove_30 : decode cX5_remove 30 = .ok (.invokevirtual 33, 3) := by decide +kernel
theorem dX5_remove_33 : decode cX5_remove 33 = .ok (.iinc 2 1, 3) := by decide +kernel
theorem dX5_remove_36 : decode cX5_remove 36 = .ok (.goto (-23), 3) := by decide +kernel
theorem dX5_remove_39 : decode cX5_remove 39 = .ok (.aload_n 0, 1) := by decide +kernel
theorem dX5_remove_40 : decode cX5_remove 40 = .ok (.dup, 1) := by decide +kernel
theorem dX5_remove_41 : decode cX5_remove 41 = .ok (.getfield 21, 3) := by decide +kernel
theorem dX5_remove_44 : decode cX5_remove 44 = .ok (.iconst 1, 1) := by decide +kernel
theorem dX5_remove_45 : decode cX5_remove 45 = .ok (.isub, 1) := by decide +kernel
theorem dX5_remove_46 : decode cX5_remove 46 = .ok (.putfield 21, 3) := by decide +kernel
theorem dX5_remove_49 : decode cX5_remove 49 = .ok (.return_, 1) := by decide +kernel
theorem dX5_clear_0 : decode cX5_clear 0 = .ok (.aload_n 0, 1) := by decide +kernel
theorem dX5_clear_1 : decode cX5_clear 1 = .ok (.iconst 0, 1) := by decide +kernel
theorem dX5_clear_2 : decode cX5_clear 2 = .ok (.putfield 21, 3) := by decide +kernel
theorem dX5_clear_5 : decode cX5_clear 5 = .ok (.return_, 1) := by decide +kernel
theorem dX5_shorten_0 : decode cX5_shorten 0 = .ok (.iload_n 1, 1) := by decide +kernel
theorem dX5_shorten_1 : decode cX5_shorten 1 = .ok (.ifCond .lt 16, 3) := by decide +kernel
theorem dX5_shorten_4 : decode cX5_shorten 4 = .ok (.iload_n 1, 1) := by decide +kernel
theorem dX5_shorten_5 : decode cX5_shorten 5 = .ok (.aload_n 0, 1) := by decide +kernel
theorem dX5_shorten_6 : decode cX5_shorten 6 = .ok (.getfield 21, 3) := by decide +kernel
theorem dX5_shorten_9 : decode cX5_shorten 9 = .ok (.if_icmp .ge 8, 3) := by decide +kernel
theorem dX5_shorten_12 : decode cX5_shorten 12 = .ok (.aload_n 0, 1) := by decide +kernel
theorem dX5_shorten_13 : decode cX5_shorten 13 = .ok (.iload_n 1, 1) := by decide +kernel
theorem dX5_shorten_14 : decode cX5_shorten 14 = .ok (.putfield 21, 3) := by decide +kernel
theorem dX5_shorten_17 : decode cX5_shorten 17 = .ok (.return_, 1) := by decide +kernel
set_option maxRecDepth 20000 in
theorem ggX5_fill_X5_clear : GoodIn wsX5_fill wsX5_clear := goodIn_r _ [5, 6, 12, 13] (by decide +kernel) (by decide +kernel)
set_option maxRecDepth 20000 in
theorem gX5_fill_X5_clear : GoodIn wsX5_fill (wsV RX5 37 RX5 yX5_clear wsX5_clear) := goodIn_app (goodIn_of _ (by decide +kernel)) ggX5_fill_X5_clear
set_option maxRecDepth 20000 in
theorem ggX5_fill_X5_add : GoodIn wsX5_fill wsX5_add := goodIn_r _ [10, 6, 11, 12, 13] (by decide +kernel) (by decide +kernel)
set_option maxRecDepth 20000 in
theorem gX5_fill_X5_add : GoodIn wsX5_fill (wsV RX5 40 RX5 yX5_add wsX5_add) := goodIn_app (goodIn_of _ (by decide +kernel)) ggX5_fill_X5_add
theorem dX5_fill_0 : decode cX5_fill 0 = .ok (.aload_n 0, 1) := by decide +kernel
theorem dX5_fill_1 : decode cX5_fill 1 = .ok (.invokevirtual 37, 3) := by decide +kernel
theorem dX5_fill_4 : decode cX5_fill 4 = .ok (.iconst 0, 1) := by decide +kernel
theorem dX5_fill_5 : decode cX5_fill 5 = .ok (.istore_n 3, 1) := by decide +kernel
theorem dX5_fill_6 : decode cX5_fill 6 = .ok (.iload_n 3, 1) := by decide +kernel
theorem dX5_fill_7 : decode cX5_fill 7 = .ok (.iload_n 1, 1) := by decide +kernel
theorem dX5_fill_8 : decode cX5_fill 8 = .ok (.if_icmp .ge 14, 3) := by decide +kernel
theorem dX5_fill_11 : decode cX5_fill 11 = .ok (.aload_n 0, 1) := by decide +kernel
theorem dX5_fill_12 : decode cX5_fill 12 = .ok (.iload_n 2, 1) := by decide +kernel
theorem dX5_fill_13 : decode cX5_fill 13 = .ok (.invokevirtual 40, 3) := by decide +kernel
theorem dX5_fill_16 : decode cX5_fill 16 = .ok (.iinc 3 1, 3) := by decide +kernel
theorem dX5_fill_19 : decode cX5_fill 19 = .ok (.goto (-13), 3) := by decide +kernel
theorem dX5_fill_22 : decode cX5_fill 22 = .ok (.return_, 1) := by decide +kernel
set_option maxRecDepth 20000 in
theorem ggX5_copyFrom_X5_clear : GoodIn wsX5_copyFrom wsX5_clear := goodIn_r _ [6, 1, 20, 21] (by decide +kernel) (by decide +kernel)
set_option maxRecDepth 20000 in
theorem gX5_copyFrom_X5_clear : GoodIn wsX5_copyFrom (wsV RX5 37 RX5 yX5_clear wsX5_clear) := goodIn_app (goodIn_of _ (by decide +kernel)) ggX5_copyFrom_X5_clear
set_option maxRecDepth 20000 in
theorem ggX5_copyFrom_X5_at : GoodIn wsX5_copyFrom wsX5_at := goodIn_r _ [10, 11, 12, 13, 14, 5, 15, 1, 20, 21] (by decide +kernel) (by decide +kernel)
set_option maxRecDepth 20000 in
theorem gX5_copyFrom_X5_at : GoodIn wsX5_copyFrom (wsV RX5 29 RX5 yX5_at wsX5_at) := goodIn_app (goodIn_of _ (by decide +kernel)) ggX5_copyFrom_X5_at
set_option maxRecDepth 20000 in
theorem ggX5_copyFrom_X5_add : GoodIn wsX5_copyFrom wsX5_add := goodIn_r _ [19, 1, 11, 20, 21] (by decide +kernel) (by decide +kernel)
set_option maxRecDepth 20000 in
theorem gX5_copyFrom_X5_add : GoodIn wsX5_copyFrom (wsV RX5 40 RX5 yX5_add wsX5_add) := goodIn_app (goodIn_of _ (by decide +kernel)) ggX5_copyFrom_X5_add
theorem dX5_copyFrom_0 : decode cX5_copyFrom 0 = .ok (.aload_n 0, 1) := by decide +kernel
theorem dX5_copyFrom_1 : decode cX5_copyFrom 1 = .ok (.invokevirtual 37, 3) := by decide +kernel
theorem dX5_copyFrom_4 : decode cX5_copyFrom 4 = .ok (.iconst 0, 1) := by decide +kernel
theorem dX5_copyFrom_5 : decode cX5_copyFrom 5 = .ok (.istore_n 2, 1) := by decide +kernel
theorem dX5_copyFrom_6 : decode cX5_copyFrom 6 = .ok (.iload_n 2, 1) := by decide +kernel
theorem dX5_copyFrom_7 : decode cX5_copyFrom 7 = .ok (.aload_n 1, 1) := by decide +kernel
theorem dX5_copyFrom_8 : decode cX5_copyFrom 8 = .ok (.getfield 21, 3) := by decide +kernel
theorem dX5_copyFrom_11 : decode cX5_copyFrom 11 = .ok (.if_icmp .ge 18, 3) := by decide +kernel
theorem dX5_copyFrom_14 : decode cX5_copyFrom 14 = .ok (.aload_n 0, 1) := by decide +kernel
theorem dX5_copyFrom_15 : decode cX5_copyFrom 15 = .ok (.aload_n 1, 1) := by decide +kernel
theorem dX5_copyFrom_16 : decode cX5_copyFrom 16 = .ok (.iload_n 2, 1) := by decide +kernel
theorem dX5_copyFrom_17 : decode cX5_copyFrom 17 = .ok (.invokevirtual 29, 3) := by decide +kernel
theorem dX5_copyFrom_20 : decode cX5_copyFrom 20 = .ok (.invokevirtual 40, 3) := by decide +kernel
theorem dX5_copyFrom_23 : decode cX5_copyFrom 23 = .ok (.iinc 2 1, 3) := by decide +kernel
theorem dX5_copyFrom_26 : decode cX5_copyFrom 26 = .ok (.goto (-20), 3) := by decide +kernel
theorem dX5_copyFrom_29 : decode cX5_copyFrom 29 = .ok (.return_, 1) := by decide +kernel
set_option maxRecDepth 20000 in
theorem ggX5_find_X5_at : GoodIn wsX5_find wsX5_at := goodIn_r _ [6, 7, 8, 9, 10, 5, 11, 1, 12, 13] (by decide +kernel) (by decide +kernel)
set_option maxRecDepth 20000 in
theorem gX5_find_X5_at : GoodIn wsX5_find (wsV RX5 29 RX5 yX5_at wsX5_at) := goodIn_app (goodIn_of _ (by decide +kernel)) ggX5_find_X5_at
theorem dX5_find_0 : decode cX5_find 0 = .ok (.iconst 0, 1) := by decide +kernel
theorem dX5_find_1 : decode cX5_find 1 = .ok (.istore_n 2, 1) := by decide +kernel
theorem dX5_find_2 : decode cX5_find 2 = .ok (.iload_n 2, 1) := by decide +kernel
theorem dX5_find_3 : decode cX5_find 3 = .ok (.aload_n 0, 1) := by decide +kernel
theorem dX5_find_4 : decode cX5_find 4 = .ok (.getfield 21, 3) := by decide +kernel
theorem dX5_find_7 : decode cX5_find 7 = .ok (.if_icmp .ge 20, 3) := by decide +kernel
theorem dX5_find_10 : decode cX5_find 10 = .ok (.aload_n 0, 1) := by decide +kernel
theorem dX5_find_11 : decode cX5_find 11 = .ok (.iload_n 2, 1) := by decide +kernel
theorem dX5_find_12 : decode cX5_find 12 = .ok (.invokevirtual 29, 3) := by decide +kernel
theorem dX5_find_15 : decode cX5_find 15 = .ok (.iload_n 1, 1) := by decide +kernel
theorem dX5_find_16 : decode cX5_find 16 = .ok (.if_icmp .ne 5, 3) := by decide +kernel
theorem dX5_find_19 : decode cX5_find 19 = .ok (.iload_n 2, 1) := by decide +kernel
theorem dX5_find_20 : decode cX5_find 20 = .ok (.ireturn, 1) := by decide +kernel
theorem dX5_find_21 : decode cX5_find 21 = .ok (.iinc 2 1, 3) := by decide +kernel
theorem dX5_find_24 : decode cX5_find 24 = .ok (.goto (-22), 3) := by decide +kernel
theorem dX5_find_27 : decode cX5_find 27 = .ok (.iconst (-1), 1) := by decide +kernel
theorem dX5_find_28 : decode cX5_find 28 = .ok (.ireturn, 1) := by decide +kernel
set_option maxRecDepth 20000 in
theorem ggX5_count_X5_at : GoodIn wsX5_count wsX5_at := goodIn_r _ [6, 7, 8, 9, 10, 5, 11, 1, 12, 13] (by decide +kernel) (by decide +kernel)
set_option maxRecDepth 20000 in
theorem gX5_count_X5_at : GoodIn wsX5_count (wsV RX5 29 RX5 yX5_at wsX5_at) := goodIn_app (goodIn_of _ (by decide +kernel)) ggX5_count_X5_at
theorem dX5_count_0 : decode cX5_count 0 = .ok (.iconst 0, 1) := by decide +kernel
theorem dX5_count_1 : decode cX5_count 1 = .ok (.istore_n 2, 1) := by decide +kernel
theorem dX5_count_2 : decode cX5_count 2 = .ok (.iconst 0, 1) := by decide +kernel
theorem dX5_count_3 : decode cX5_count 3 = .ok (.istore_n 3, 1) := by decide +kernel
theorem dX5_count_4 : decode cX5_count 4 = .ok (.iload_n 3, 1) := by decide +kernel
theorem dX5_count_5 : decode cX5_count 5 = .ok (.aload_n 0, 1) := by decide +kernel
theorem dX5_count_6 : decode cX5_count 6 = .ok (.getfield 21, 3) := by decide +kernel
theorem dX5_count_9 : decode cX5_count 9 = .ok (.if_icmp .ge 21, 3) := by decide +kernel
theorem dX5_count_12 : decode cX5_count 12 = .ok (.aload_n 0, 1) := by decide +kernel
theorem dX5_count_13 : decode cX5_count 13 = .ok (.iload_n 3, 1) := by decide +kernel
theorem dX5_count_14 : decode cX5_count 14 = .ok (.invokevirtual 29, 3) := by decide +kernel
theorem dX5_count_17 : decode cX5_count 17 = .ok (.iload_n 1, 1) := by decide +kernel
theorem dX5_count_18 : decode cX5_count 18 = .ok (.if_icmp .ne 6, 3) := by decide +kernel
theorem dX5_count_21 : decode cX5_count 21 = .ok (.iinc 2 1, 3) := by decide +kernel
theorem dX5_count_24 : decode cX5_count 24 = .ok (.iinc 3 1, 3) := by decide +kernel
theorem dX5_count_27 : decode cX5_count 27 = .ok (.goto (-23), 3) := by decide +kernel
theorem dX5_count_30 : decode cX5_count 30 = .ok (.iload_n 2, 1) := by decide +kernel
theorem dX5_count_31 : decode cX5_count 31 = .ok (.ireturn, 1) := by decide +kernel
set_option maxRecDepth 20000 in
theorem ggX5_hashOnto_X5_at : GoodIn wsX5_hashOnto wsX5_at := goodIn_r _ [7, 8, 9, 10, 11, 6, 12, 1, 13, 14] (by decide +kernel) (by decide +kernel)
set_option maxRecDepth 20000 in
theorem gX5_hashOnto_X5_at : GoodIn wsX5_hashOnto (wsV RX5 29 RX5 yX5_at wsX5_at) := goodIn_app (goodIn_of _ (by decide +kernel)) ggX5_hashOnto_X5_at
theorem dX5_hashOnto_0 : decode cX5_hashOnto 0 = .ok (.lload_n 1, 1) := by decide +kernel
theorem dX5_hashOnto_1 : decode cX5_hashOnto 1 = .ok (.lstore_n 3, 1) := by decide +kernel
theorem dX5_hashOnto_2 : decode cX5_hashOnto 2 = .ok (.iconst 0, 1) := by decide +kernel
theorem dX5_hashOnto_3 : decode cX5_hashOnto 3 = .ok (.istore 5, 2) := by decide +kernel
theorem dX5_hashOnto_5 : decode cX5_hashOnto 5 = .ok (.iload 5, 2) := by decide +kernel
theorem dX5_hashOnto_7 : decode cX5_hashOnto 7 = .ok (.aload_n 0, 1) := by decide +kernel
theorem dX5_hashOnto_8 : decode cX5_hashOnto 8 = .ok (.getfield 21, 3) := by decide +kernel
theorem dX5_hashOnto_11 : decode cX5_hashOnto 11 = .ok (.if_icmp .ge 23, 3) := by decide +kernel
theorem dX5_hashOnto_14 : decode cX5_hashOnto 14 = .ok (.ldc2_w 44, 3) := by decide +kernel
theorem dX5_hashOnto_17 : decode cX5_hashOnto 17 = .ok (.lload_n 3, 1) := by decide +kernel
theorem dX5_hashOnto_18 : decode cX5_hashOnto 18 = .ok (.lmul, 1) := by decide +kernel
theorem dX5_hashOnto_19 : decode cX5_hashOnto 19 = .ok (.aload_n 0, 1) := by decide +kernel
theorem dX5_hashOnto_20 : decode cX5_hashOnto 20 = .ok (.iload 5, 2) := by decide +kernel
theorem dX5_hashOnto_22 : decode cX5_hashOnto 22 = .ok (.invokevirtual 29, 3) := by decide +kernel
theorem dX5_hashOnto_25 : decode cX5_hashOnto 25 = .ok (.i2l, 1) := by decide +kernel
theorem dX5_hashOnto_26 : decode cX5_hashOnto 26 = .ok (.ladd, 1) := by decide +kernel
theorem dX5_hashOnto_27 : decode cX5_hashOnto 27 = .ok (.lstore_n 3, 1) := by decide +kernel
theorem dX5_hashOnto_28 : decode cX5_hashOnto 28 = .ok (.iinc 5 1, 3) := by decide +kernel
theorem dX5_hashOnto_31 : decode cX5_hashOnto 31 = .ok (.goto (-26), 3) := by decide +kernel
theorem dX5_hashOnto_34 : decode cX5_hashOnto 34 = .ok (.lload_n 3, 1) := by decide +kernel
theorem dX5_hashOnto_35 : decode cX5_hashOnto 35 = .ok (.lreturn, 1) := by decide +kernel
set_option maxRecDepth 20000 in
theorem ggX6_init_X5_init : GoodIn wsX6_init wsX5_init := goodIn_r _ [11, 12, 2, 3, 13, 14, 15, 16, 17, 18, 19, 20] (by decide +kernel) (by decide +kernel)
set_option maxRecDepth 20000 in
theorem gX6_init_X5_init : GoodIn wsX6_init (wsX5_init) := ggX6_init_X5_init
theorem dX6_init_0 : decode cX6_init 0 = .ok (.aload_n 0, 1) := by decide +kernel
theorem dX6_init_1 : decode cX6_init 1 = .ok (.invokespecial 3, 3) := by decide +kernel
theorem dX6_init_4 : decode cX6_init 4 = .ok (.aload_n 0, 1) := by decide +kernel
theorem dX6_init_5 : decode cX6_init 5 = .ok (.new 9, 3) := by decide +kernel
theorem dX6_init_8 : decode cX6_init 8 = .ok (.dup, 1) := by decide +kernel
theorem dX6_init_9 : decode cX6_init 9 = .ok (.sipush 200, 3) := by decide +kernel
theorem dX6_init_12 : decode cX6_init 12 = .ok (.invokespecial 11, 3) := by decide +kernel
theorem dX6_init_15 : decode cX6_init 15 = .ok (.putfield 14, 3) := by decide +kernel
theorem dX6_init_18 : decode cX6_init 18 = .ok (.aload_n 0, 1) := by decide +kernel
theorem dX6_init_19 : decode cX6_init 19 = .ok (.new 9, 3) := by decide +kernel
theorem dX6_init_22 : decode cX6_init 22 = .ok (.dup, 1) := by decide +kernel
theorem dX6_init_23 : decode cX6_init 23 = .ok (.bipush 20, 2) := by decide +kernel
theorem dX6_init_25 : decode cX6_init 25 = .ok (.invokespecial 11, 3) := by decide +kernel
theorem dX6_init_28 : decode cX6_init 28 = .ok (.putfield 20, 3) := by decide +kernel
theorem dX6_init_31 : decode cX6_init 31 = .ok (.return_, 1) := by decide +kernel
set_option maxRecDepth 20000 in
theorem ggX6_take_X5_copyFrom : GoodIn wsX6_take wsX5_copyFrom := goodIn_r _ [12, 13, 14, 15, 16, 11, 17, 18, 19, 20, 21, 22, 23, 24, 25, 26, 27, 28, 29, 30, 50, 51] (by decide +kernel) (by decide +kernel)
set_option maxRecDepth 20000 in
theorem gX6_take_X5_copyFrom : GoodIn wsX6_take (wsV RX6 26 RX5 yX5_copyFrom wsX5_copyFrom) := goodIn_app (goodIn_of _ (by decide +kernel)) ggX6_take_X5_copyFrom
set_option maxRecDepth 20000 in
theorem ggX6_take_X5_size : GoodIn wsX6_take wsX5_size := goodIn_r _ [34, 13, 50, 51] (by decide +kernel) (by decide +kernel)
set_option maxRecDepth 20000 in
theorem gX6_take_X5_size : GoodIn wsX6_take (wsV RX6 36 RX5 yX5_size wsX5_size) := goodIn_app (goodIn_of _ (by decide +kernel)) ggX6_take_X5_size
theorem dX6_take_0 : decode cX6_take 0 = .ok (.aload_n 0, 1) := by decide +kernel
theorem dX6_take_1 : decode cX6_take 1 = .ok (.getfield 14, 3) := by decide +kernel
theorem dX6_take_4 : decode cX6_take 4 = .ok (.aload_n 1, 1) := by decide +kernel
theorem dX6_take_5 : decode cX6_take 5 = .ok (.getfield 23, 3) := by decide +kernel
theorem dX6_take_8 : decode cX6_take 8 = .ok (.invokevirtual 26, 3) := by decide +kernel
theorem dX6_take_11 : decode cX6_take 11 = .ok (.aload_n 0, 1) := by decide +kernel
theorem dX6_take_12 : decode cX6_take 12 = .ok (.getfield 20, 3) := by decide +kernel
theorem dX6_take_15 : decode cX6_take 15 = .ok (.aload_n 2, 1) := by decide +kernel
theorem dX6_take_16 : decode cX6_take 16 = .ok (.getfield 30, 3) := by decide +kernel
theorem dX6_take_19 : decode cX6_take 19 = .ok (.invokevirtual 26, 3) := by decide +kernel
theorem dX6_take_22 : decode cX6_take 22 = .ok (.aload_n 0, 1) := by decide +kernel
theorem dX6_take_23 : decode cX6_take 23 = .ok (.aload_n 1, 1) := by decide +kernel
theorem dX6_take_24 : decode cX6_take 24 = .ok (.getfield 33, 3) := by decide +kernel
theorem dX6_take_27 : decode cX6_take 27 = .ok (.invokevirtual 36, 3) := by decide +kernel
theorem dX6_take_30 : decode cX6_take 30 = .ok (.putfield 40, 3) := by decide +kernel
theorem dX6_take_33 : decode cX6_take 33 = .ok (.aload_n 0, 1) := by decide +kernel
theorem dX6_take_34 : decode cX6_take 34 = .ok (.aload_n 1, 1) := by decide +kernel
theorem dX6_take_35 : decode cX6_take 35 = .ok (.getfield 44, 3) := by decide +kernel
theorem dX6_take_38 : decode cX6_take 38 = .ok (.invokevirtual 36, 3) := by decide +kernel
theorem dX6_take_41 : decode cX6_take 41 = .ok (.putfield 47, 3) := by decide +kernel
theorem dX6_take_44 : decode cX6_take 44 = .ok (.aload_n 0, 1) := by decide +kernel
theorem dX6_take_45 : decode cX6_take 45 = .ok (.aload_n 1, 1) := by decide +kernel
theorem dX6_take_46 : decode cX6_take 46 = .ok (.getfield 50, 3) := by decide +kernel
theorem dX6_take_49 : decode cX6_take 49 = .ok (.invokevirtual 36, 3) := by decide +kernel
theorem dX6_take_52 : decode cX6_take 52 = .ok (.putfield 53, 3) := by decide +kernel
theorem dX6_take_55 : decode cX6_take 55 = .ok (.aload_n 0, 1) := by decide +kernel
theorem dX6_take_56 : decode cX6_take 56 = .ok (.aload_n 1, 1) := by decide +kernel
theorem dX6_take_57 : decode cX6_take 57 = .ok (.getfield 56, 3) := by decide +kernel
theorem dX6_take_60 : decode cX6_take 60 = .ok (.putfield 59, 3) := by decide +kernel
theorem dX6_take_63 : decode cX6_take 63 = .ok (.aload_n 0, 1) := by decide +kernel
theorem dX6_take_64 : decode cX6_take 64 = .ok (.aload_n 1, 1) := by decide +kernel
theorem dX6_take_65 : decode cX6_take 65 = .ok (.getfield 60, 3) := by decide +kernel
theorem dX6_take_68 : decode cX6_take 68 = .ok (.putfield 64, 3) := by decide +kernel
theorem dX6_take_71 : decode cX6_take 71 = .ok (.return_, 1) := by decide +kernel
set_option maxRecDepth 20000 in
theorem ggX6_give_X5_copyFrom : GoodIn wsX6_give wsX5_copyFrom := goodIn_r _ [12, 13, 14, 15, 16, 11, 17, 18, 19, 20, 21, 22, 23, 24, 25, 26, 27, 28, 29, 30, 50, 51] (by decide +kernel) (by decide +kernel)
set_option maxRecDepth 20000 in
theorem gX6_give_X5_copyFrom : GoodIn wsX6_give (wsV RX6 26 RX5 yX5_copyFrom wsX5_copyFrom) := goodIn_app (goodIn_of _ (by decide +kernel)) ggX6_give_X5_copyFrom
set_option maxRecDepth 20000 in
theorem ggX6_give_X5_shorten : GoodIn wsX6_give wsX5_shorten := goodIn_r _ [34, 13, 50, 51] (by decide +kernel) (by decide +kernel)
set_option maxRecDepth 20000 in
theorem gX6_give_X5_shorten : GoodIn wsX6_give (wsV RX6 65 RX5 yX5_shorten wsX5_shorten) := goodIn_app (goodIn_of _ (by decide +kernel)) ggX6_give_X5_shorten
theorem dX6_give_0 : decode cX6_give 0 = .ok (.aload_n 1, 1) := by decide +kernel
theorem dX6_give_1 : decode cX6_give 1 = .ok (.getfield 23, 3) := by decide +kernel
theorem dX6_give_4 : decode cX6_give 4 = .ok (.aload_n 0, 1) := by decide +kernel
theorem dX6_give_5 : decode cX6_give 5 = .ok (.getfield 14, 3) := by decide +kernel
theorem dX6_give_8 : decode cX6_give 8 = .ok (.invokevirtual 26, 3) := by decide +kernel
theorem dX6_give_11 : decode cX6_give 11 = .ok (.aload_n 2, 1) := by decide +kernel
theorem dX6_give_12 : decode cX6_give 12 = .ok (.getfield 30, 3) := by decide +kernel
theorem dX6_give_15 : decode cX6_give 15 = .ok (.aload_n 0, 1) := by decide +kernel
theorem dX6_give_16 : decode cX6_give 16 = .ok (.getfield 20, 3) := by decide +kernel
theorem dX6_give_19 : decode cX6_give 19 = .ok (.invokevirtual 26, 3) := by decide +kernel
theorem dX6_give_22 : decode cX6_give 22 = .ok (.aload_n 1, 1) := by decide +kernel
theorem dX6_give_23 : decode cX6_give 23 = .ok (.getfield 33, 3) := by decide +kernel
theorem dX6_give_26 : decode cX6_give 26 = .ok (.aload_n 0, 1) := by decide +kernel
theorem dX6_give_27 : decode cX6_give 27 = .ok (.getfield 40, 3) := by decide +kernel
theorem dX6_give_30 : decode cX6_give 30 = .ok (.invokevirtual 65, 3) := by decide +kernel
theorem dX6_give_33 : decode cX6_give 33 = .ok (.aload_n 1, 1) := by decide +kernel
theorem dX6_give_34 : decode cX6_give 34 = .ok (.getfield 44, 3) := by decide +kernel
theorem dX6_give_37 : decode cX6_give 37 = .ok (.aload_n 0, 1) := by decide +kernel
theorem dX6_give_38 : decode cX6_give 38 = .ok (.getfield 47, 3) := by decide +kernel
theorem dX6_give_41 : decode cX6_give 41 = .ok (.invokevirtual 65, 3) := by decide +kernel
theorem dX6_give_44 : decode cX6_give 44 = .ok (.aload_n 1, 1) := by decide +kernel
theorem dX6_give_45 : decode cX6_give 45 = .ok (.getfield 50, 3) := by decide +kernel
theorem dX6_give_48 : decode cX6_give 48 = .ok (.aload_n 0, 1) := by decide +kernel
theorem dX6_give_49 : decode cX6_give 49 = .ok (.getfield 53, 3) := by decide +kernel
theorem dX6_give_52 : decode cX6_give 52 = .ok (.invokevirtual 65, 3) := by decide +kernel
theorem dX6_give_55 : decode cX6_give 55 = .ok (.aload_n 1, 1) := by decide +kernel
theorem dX6_give_56 : decode cX6_give 56 = .ok (.aload_n 0, 1) := by decide +kernel
theorem dX6_give_57 : decode cX6_give 57 = .ok (.getfield 59, 3) := by decide +kernel
