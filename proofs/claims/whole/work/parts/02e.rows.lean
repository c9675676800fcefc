theorem dX6_give_60 : decode cX6_give 60 = .ok (.putfield 56, 3) := by decide +kernel
theorem dX6_give_63 : decode cX6_give 63 = .ok (.aload_n 1, 1) := by decide +kernel
theorem dX6_give_64 : decode cX6_give 64 = .ok (.aload_n 0, 1) := by decide +kernel
theorem dX6_give_65 : decode cX6_give 65 = .ok (.getfield 64, 3) := by decide +kernel
theorem dX6_give_68 : decode cX6_give 68 = .ok (.putfield 60, 3) := by decide +kernel
theorem dX6_give_71 : decode cX6_give 71 = .ok (.return_, 1) := by decide +kernel
set_option maxRecDepth 20000 in
theorem ggX7_init_X5_init : GoodIn wsX7_init wsX5_init := goodIn_r _ [26, 27, 2, 3, 28, 29, 30, 31, 32, 33, 90, 91] (by decide +kernel) (by decide +kernel)
set_option maxRecDepth 20000 in
theorem gX7_init_X5_init : GoodIn wsX7_init (wsX5_init) := ggX7_init_X5_init
set_option maxRecDepth 20000 in
theorem ggX7_init_X3_init : GoodIn wsX7_init wsX3_init := goodIn_r _ [36, 37, 2, 3, 38, 5, 6, 39, 40, 41, 42, 43, 44, 45, 25, 26, 27, 28, 29, 30, 31, 32, 33, 46, 47, 48, 49, 50, 51, 52, 53, 54, 55, 56, 57, 58, 90, 91, 97, 98, 99, 100, 101, 102, 103] (by decide +kernel) (by decide +kernel)
set_option maxRecDepth 20000 in
theorem gX7_init_X3_init : GoodIn wsX7_init (wsX3_init) := ggX7_init_X3_init
set_option maxRecDepth 20000 in
theorem ggX7_init_X1_init : GoodIn wsX7_init wsX1_init := goodIn_r _ [60, 61, 2, 3, 62, 5, 6, 63, 64, 25, 26, 27, 28, 29, 30, 31, 32, 33, 90, 91, 104] (by decide +kernel) (by decide +kernel)
set_option maxRecDepth 20000 in
theorem gX7_init_X1_init_n27 : GoodIn wsX7_init (wsX1_init) := ggX7_init_X1_init
set_option maxRecDepth 20000 in
theorem ggX7_init_X4_init : GoodIn wsX7_init wsX4_init := goodIn_r _ [66, 67, 2, 3, 68, 5, 6, 69, 70, 71, 72, 73, 74, 25, 26, 27, 28, 29, 30, 31, 32, 33, 90, 91, 105, 106, 107, 108, 109, 110, 111] (by decide +kernel) (by decide +kernel)
set_option maxRecDepth 20000 in
theorem gX7_init_X4_init_n34 : GoodIn wsX7_init (wsX4_init) := ggX7_init_X4_init
set_option maxRecDepth 20000 in
theorem ggX7_init_X2_init : GoodIn wsX7_init wsX2_init := goodIn_r _ [77, 78, 2, 3, 79, 80, 81, 82, 83, 84, 85, 86, 5, 6, 87, 88, 89, 25, 26, 27, 28, 29, 30, 31, 32, 33, 112, 113, 114, 115, 116, 117, 118, 119, 120, 90, 91] (by decide +kernel) (by decide +kernel)
set_option maxRecDepth 20000 in
theorem gX7_init_X2_init : GoodIn wsX7_init (wsX2_init) := ggX7_init_X2_init
theorem dX7_init_0 : decode cX7_init 0 = .ok (.aload_n 0, 1) := by decide +kernel
theorem dX7_init_1 : decode cX7_init 1 = .ok (.invokespecial 1, 3) := by decide +kernel
theorem dX7_init_4 : decode cX7_init 4 = .ok (.aload_n 0, 1) := by decide +kernel
theorem dX7_init_5 : decode cX7_init 5 = .ok (.new 7, 3) := by decide +kernel
theorem dX7_init_8 : decode cX7_init 8 = .ok (.dup, 1) := by decide +kernel
theorem dX7_init_9 : decode cX7_init 9 = .ok (.bipush 60, 2) := by decide +kernel
theorem dX7_init_11 : decode cX7_init 11 = .ok (.invokespecial 11, 3) := by decide +kernel
theorem dX7_init_14 : decode cX7_init 14 = .ok (.putfield 14, 3) := by decide +kernel
theorem dX7_init_17 : decode cX7_init 17 = .ok (.aload_n 0, 1) := by decide +kernel
theorem dX7_init_18 : decode cX7_init 18 = .ok (.new 18, 3) := by decide +kernel
theorem dX7_init_21 : decode cX7_init 21 = .ok (.dup, 1) := by decide +kernel
theorem dX7_init_22 : decode cX7_init 22 = .ok (.invokespecial 20, 3) := by decide +kernel
theorem dX7_init_25 : decode cX7_init 25 = .ok (.putfield 21, 3) := by decide +kernel
theorem dX7_init_28 : decode cX7_init 28 = .ok (.aload_n 0, 1) := by decide +kernel
theorem dX7_init_29 : decode cX7_init 29 = .ok (.new 25, 3) := by decide +kernel
theorem dX7_init_32 : decode cX7_init 32 = .ok (.dup, 1) := by decide +kernel
theorem dX7_init_33 : decode cX7_init 33 = .ok (.invokespecial 27, 3) := by decide +kernel
theorem dX7_init_36 : decode cX7_init 36 = .ok (.putfield 28, 3) := by decide +kernel
theorem dX7_init_39 : decode cX7_init 39 = .ok (.aload_n 0, 1) := by decide +kernel
theorem dX7_init_40 : decode cX7_init 40 = .ok (.new 32, 3) := by decide +kernel
theorem dX7_init_43 : decode cX7_init 43 = .ok (.dup, 1) := by decide +kernel
theorem dX7_init_44 : decode cX7_init 44 = .ok (.invokespecial 34, 3) := by decide +kernel
theorem dX7_init_47 : decode cX7_init 47 = .ok (.putfield 35, 3) := by decide +kernel
theorem dX7_init_50 : decode cX7_init 50 = .ok (.aload_n 0, 1) := by decide +kernel
theorem dX7_init_51 : decode cX7_init 51 = .ok (.new 39, 3) := by decide +kernel
theorem dX7_init_54 : decode cX7_init 54 = .ok (.dup, 1) := by decide +kernel
theorem dX7_init_55 : decode cX7_init 55 = .ok (.invokespecial 41, 3) := by decide +kernel
theorem dX7_init_58 : decode cX7_init 58 = .ok (.putfield 42, 3) := by decide +kernel
theorem dX7_init_61 : decode cX7_init 61 = .ok (.return_, 1) := by decide +kernel
set_option maxRecDepth 20000 in
theorem ggX7_append_X0_codeOf : GoodIn wsX7_append wsX0_codeOf := goodIn_r _ [9, 10, 11, 8, 12, 13, 14, 15, 16, 17, 18, 19, 20, 21, 22, 23, 24, 25, 26, 27, 28, 29, 30, 31, 32, 33, 34, 35, 36, 37, 38, 39, 40, 41, 42, 43, 44, 45, 46, 47, 48, 49, 50, 51, 52, 53, 54, 55, 56, 57, 58, 59, 60, 61, 62, 63, 64, 65, 66, 67, 68, 69, 70, 71, 72, 73, 74, 75, 76, 77, 78, 79, 80, 81, 82, 83, 84, 85, 86, 87, 88, 89, 90, 91, 92, 93, 94, 95, 96, 97, 98, 99, 100, 101, 102, 103, 104] (by decide +kernel) (by decide +kernel)
set_option maxRecDepth 20000 in
theorem gX7_append_X0_codeOf : GoodIn wsX7_append (va_wsS RX7 46 yX0_codeOf wsX0_codeOf) := goodIn_app (goodIn_of _ (by decide +kernel)) ggX7_append_X0_codeOf
set_option maxRecDepth 20000 in
theorem ggX7_append_X5_size : GoodIn wsX7_append wsX5_size := goodIn_r _ [109, 110, 121, 122] (by decide +kernel) (by decide +kernel)
set_option maxRecDepth 20000 in
theorem gX7_append_X5_size : GoodIn wsX7_append (wsV RX7 59 RX5 yX5_size wsX5_size) := goodIn_app (goodIn_of _ (by decide +kernel)) ggX7_append_X5_size
set_option maxRecDepth 20000 in
theorem ggX7_append_X5_add : GoodIn wsX7_append wsX5_add := goodIn_r _ [114, 110, 115, 121, 122] (by decide +kernel) (by decide +kernel)
set_option maxRecDepth 20000 in
theorem gX7_append_X5_add : GoodIn wsX7_append (wsV RX7 68 RX5 yX5_add wsX5_add) := goodIn_app (goodIn_of _ (by decide +kernel)) ggX7_append_X5_add
theorem dX7_append_0 : decode cX7_append 0 = .ok (.iload_n 1, 1) := by decide +kernel
theorem dX7_append_1 : decode cX7_append 1 = .ok (.invokestatic 46, 3) := by decide +kernel
theorem dX7_append_4 : decode cX7_append 4 = .ok (.iconst (-1), 1) := by decide +kernel
theorem dX7_append_5 : decode cX7_append 5 = .ok (.if_icmp .ne 13, 3) := by decide +kernel
theorem dX7_append_8 : decode cX7_append 8 = .ok (.new 52, 3) := by decide +kernel
theorem dX7_append_11 : decode cX7_append 11 = .ok (.dup, 1) := by decide +kernel
theorem dX7_append_12 : decode cX7_append 12 = .ok (.ldc 54, 2) := by decide +kernel
theorem dX7_append_14 : decode cX7_append 14 = .ok (.invokespecial 56, 3) := by decide +kernel
theorem dX7_append_17 : decode cX7_append 17 = .ok (.athrow, 1) := by decide +kernel
theorem dX7_append_18 : decode cX7_append 18 = .ok (.aload_n 0, 1) := by decide +kernel
theorem dX7_append_19 : decode cX7_append 19 = .ok (.getfield 14, 3) := by decide +kernel
theorem dX7_append_22 : decode cX7_append 22 = .ok (.invokevirtual 59, 3) := by decide +kernel
theorem dX7_append_25 : decode cX7_append 25 = .ok (.bipush 60, 2) := by decide +kernel
theorem dX7_append_27 : decode cX7_append 27 = .ok (.if_icmp .lt 13, 3) := by decide +kernel
theorem dX7_append_30 : decode cX7_append 30 = .ok (.new 63, 3) := by decide +kernel
theorem dX7_append_33 : decode cX7_append 33 = .ok (.dup, 1) := by decide +kernel
theorem dX7_append_34 : decode cX7_append 34 = .ok (.ldc 65, 2) := by decide +kernel
theorem dX7_append_36 : decode cX7_append 36 = .ok (.invokespecial 67, 3) := by decide +kernel
theorem dX7_append_39 : decode cX7_append 39 = .ok (.athrow, 1) := by decide +kernel
theorem dX7_append_40 : decode cX7_append 40 = .ok (.aload_n 0, 1) := by decide +kernel
theorem dX7_append_41 : decode cX7_append 41 = .ok (.getfield 14, 3) := by decide +kernel
theorem dX7_append_44 : decode cX7_append 44 = .ok (.iload_n 1, 1) := by decide +kernel
theorem dX7_append_45 : decode cX7_append 45 = .ok (.invokevirtual 68, 3) := by decide +kernel
theorem dX7_append_48 : decode cX7_append 48 = .ok (.aload_n 0, 1) := by decide +kernel
theorem dX7_append_49 : decode cX7_append 49 = .ok (.getfield 14, 3) := by decide +kernel
theorem dX7_append_52 : decode cX7_append 52 = .ok (.invokevirtual 59, 3) := by decide +kernel
theorem dX7_append_55 : decode cX7_append 55 = .ok (.ireturn, 1) := by decide +kernel
set_option maxRecDepth 20000 in
theorem ggX7_clearBuffer_X5_size : GoodIn wsX7_clearBuffer wsX5_size := goodIn_r _ [6, 7, 17, 18] (by decide +kernel) (by decide +kernel)
set_option maxRecDepth 20000 in
theorem gX7_clearBuffer_X5_size : GoodIn wsX7_clearBuffer (wsV RX7 59 RX5 yX5_size wsX5_size) := goodIn_app (goodIn_of _ (by decide +kernel)) ggX7_clearBuffer_X5_size
set_option maxRecDepth 20000 in
theorem ggX7_clearBuffer_X5_clear : GoodIn wsX7_clearBuffer wsX5_clear := goodIn_r _ [11, 7, 17, 18] (by decide +kernel) (by decide +kernel)
set_option maxRecDepth 20000 in
theorem gX7_clearBuffer_X5_clear : GoodIn wsX7_clearBuffer (wsV RX7 71 RX5 yX5_clear wsX5_clear) := goodIn_app (goodIn_of _ (by decide +kernel)) ggX7_clearBuffer_X5_clear
theorem dX7_clearBuffer_0 : decode cX7_clearBuffer 0 = .ok (.aload_n 0, 1) := by decide +kernel
theorem dX7_clearBuffer_1 : decode cX7_clearBuffer 1 = .ok (.getfield 14, 3) := by decide +kernel
theorem dX7_clearBuffer_4 : decode cX7_clearBuffer 4 = .ok (.invokevirtual 59, 3) := by decide +kernel
theorem dX7_clearBuffer_7 : decode cX7_clearBuffer 7 = .ok (.istore_n 1, 1) := by decide +kernel
theorem dX7_clearBuffer_8 : decode cX7_clearBuffer 8 = .ok (.aload_n 0, 1) := by decide +kernel
theorem dX7_clearBuffer_9 : decode cX7_clearBuffer 9 = .ok (.getfield 14, 3) := by decide +kernel
theorem dX7_clearBuffer_12 : decode cX7_clearBuffer 12 = .ok (.invokevirtual 71, 3) := by decide +kernel
theorem dX7_clearBuffer_15 : decode cX7_clearBuffer 15 = .ok (.iload_n 1, 1) := by decide +kernel
theorem dX7_clearBuffer_16 : decode cX7_clearBuffer 16 = .ok (.ireturn, 1) := by decide +kernel
set_option maxRecDepth 20000 in
theorem ggX7_codesToSend_X3_encode : GoodIn wsX7_codesToSend wsX3_encode := goodIn_r _ [7, 8, 9, 10, 11, 12, 13, 14, 15, 16, 17, 18, 19, 20, 21, 22, 23, 24, 25, 26, 27, 28, 29, 30, 31, 32, 33, 34, 35, 36, 37, 38, 39, 40, 41, 42, 43, 44, 45, 46, 47, 48, 49, 50, 51, 52, 53, 54, 55, 56, 57, 58, 59, 60, 61, 62, 63, 64, 65, 66, 67, 68, 69, 70, 71, 72, 73, 74, 75, 76, 77, 78, 79, 80, 81, 82, 83, 84, 85, 86, 87, 88, 89, 90, 91, 92, 93, 94, 95, 96, 97, 98, 99, 100, 101, 102, 103, 104, 105, 106, 107, 108, 109, 110, 111, 112, 113, 114, 115, 116, 117, 118, 119, 120, 121, 122, 123, 124, 125, 126, 127, 128, 129, 130, 131, 132, 133, 134, 135, 136, 137, 138, 145, 146, 147, 148, 149, 150, 151, 152, 153] (by decide +kernel) (by decide +kernel)
set_option maxRecDepth 20000 in
theorem gX7_codesToSend_X3_encode : GoodIn wsX7_codesToSend (wsV RX7 74 RX3 yX3_encode wsX3_encode) := goodIn_app (goodIn_of _ (by decide +kernel)) ggX7_codesToSend_X3_encode
set_option maxRecDepth 20000 in
theorem ggX7_codesToSend_X5_size : GoodIn wsX7_codesToSend wsX5_size := goodIn_r _ [20, 16, 152, 153] (by decide +kernel) (by decide +kernel)
set_option maxRecDepth 20000 in
theorem gX7_codesToSend_X5_size : GoodIn wsX7_codesToSend (wsV RX7 59 RX5 yX5_size wsX5_size) := goodIn_app (goodIn_of _ (by decide +kernel)) ggX7_codesToSend_X5_size
theorem dX7_codesToSend_0 : decode cX7_codesToSend 0 = .ok (.aload_n 0, 1) := by decide +kernel
theorem dX7_codesToSend_1 : decode cX7_codesToSend 1 = .ok (.getfield 21, 3) := by decide +kernel
theorem dX7_codesToSend_4 : decode cX7_codesToSend 4 = .ok (.aload_n 0, 1) := by decide +kernel
theorem dX7_codesToSend_5 : decode cX7_codesToSend 5 = .ok (.getfield 14, 3) := by decide +kernel
theorem dX7_codesToSend_8 : decode cX7_codesToSend 8 = .ok (.invokevirtual 74, 3) := by decide +kernel
theorem dX7_codesToSend_11 : decode cX7_codesToSend 11 = .ok (.invokevirtual 59, 3) := by decide +kernel
theorem dX7_codesToSend_14 : decode cX7_codesToSend 14 = .ok (.ireturn, 1) := by decide +kernel
set_option maxRecDepth 20000 in
theorem ggX7_send_X5_size : GoodIn wsX7_send wsX5_size := goodIn_r _ [11, 12, 309, 310] (by decide +kernel) (by decide +kernel)
set_option maxRecDepth 20000 in
theorem gX7_send_X5_size : GoodIn wsX7_send (wsV RX7 59 RX5 yX5_size wsX5_size) := goodIn_app (goodIn_of _ (by decide +kernel)) ggX7_send_X5_size
set_option maxRecDepth 20000 in
theorem ggX7_send_X7_sent : GoodIn wsX7_send wsX7_sent := goodIn_r _ [17, 5, 7, 8, 9, 10, 11, 12, 304, 305, 306, 307, 308, 311, 312, 313, 314, 315, 316, 317, 309, 310] (by decide +kernel) (by decide +kernel)
set_option maxRecDepth 20000 in
theorem gX7_send_X7_sent : GoodIn wsX7_send (wsV RX7 80 RX7 yX7_sent wsX7_sent) := goodIn_app (goodIn_of _ (by decide +kernel)) ggX7_send_X7_sent
set_option maxRecDepth 20000 in
theorem ggX7_send_X7_codesToSend : GoodIn wsX7_send wsX7_codesToSend := goodIn_r _ [21, 5, 3, 22, 23, 24, 25, 26, 27, 28, 29, 30, 31, 32, 10, 33, 12, 34, 8, 9, 11, 35, 36, 37, 38, 39, 40, 41, 42, 43, 44, 45, 46, 47, 48, 49, 50, 51, 52, 53, 54, 55, 56, 57, 58, 59, 60, 61, 62, 63, 64, 65, 66, 67, 68, 69, 70, 71, 72, 73, 74, 75, 76, 77, 78, 79, 80, 81, 82, 83, 84, 85, 86, 87, 88, 89, 90, 91, 92, 93, 94, 95, 96, 97, 98, 99, 100, 101, 102, 103, 104, 105, 106, 107, 108, 109, 110, 111, 112, 113, 114, 115, 116, 117, 118, 119, 120, 121, 122, 123, 124, 125, 126, 127, 128, 129, 130, 131, 132, 133, 134, 135, 136, 137, 138, 139, 140, 141, 142, 143, 144, 145, 146, 147, 148, 149, 150, 151, 152, 7, 304, 305, 306, 307, 308, 311, 312, 313, 314, 315, 316, 317, 309, 310] (by decide +kernel) (by decide +kernel)
set_option maxRecDepth 20000 in
theorem gX7_send_X7_codesToSend : GoodIn wsX7_send (wsV RX7 83 RX7 yX7_codesToSend wsX7_codesToSend) := goodIn_app (goodIn_of _ (by decide +kernel)) ggX7_send_X7_codesToSend
set_option maxRecDepth 20000 in
theorem ggX7_send_X2_save : GoodIn wsX7_send wsX2_save := goodIn_r _ [157, 158, 159, 160, 161, 162, 156, 163, 164, 165, 166, 167, 168, 169, 170, 171, 172, 173, 174, 175, 176, 177, 178, 179, 180, 181, 182, 10, 183, 12, 184, 31, 32, 33, 185, 36, 37, 38, 39, 40, 41, 42, 43, 186, 52, 53, 54, 187, 8, 9, 11, 318, 319, 320, 321, 322, 323, 324, 325, 326, 311, 312, 313, 314, 315, 316, 317, 327, 309, 310] (by decide +kernel) (by decide +kernel)
set_option maxRecDepth 20000 in
theorem gX7_send_X2_save : GoodIn wsX7_send (wsV RX7 88 RX2 yX2_save wsX2_save) := goodIn_app (goodIn_of _ (by decide +kernel)) ggX7_send_X2_save
set_option maxRecDepth 20000 in
theorem ggX7_send_X7_received : GoodIn wsX7_send wsX7_received := goodIn_r _ [191, 5, 7, 8, 9, 10, 11, 12, 304, 305, 306, 307, 308, 311, 312, 313, 314, 315, 316, 317, 309, 310] (by decide +kernel) (by decide +kernel)
set_option maxRecDepth 20000 in
theorem gX7_send_X7_received : GoodIn wsX7_send (wsV RX7 92 RX7 yX7_received wsX7_received) := goodIn_app (goodIn_of _ (by decide +kernel)) ggX7_send_X7_received
set_option maxRecDepth 20000 in
theorem ggX7_send_X3_transmit : GoodIn wsX7_send wsX3_transmit := goodIn_r _ [195, 196, 197, 23, 24, 25, 26, 27, 28, 29, 30, 31, 32, 10, 33, 12, 34, 8, 9, 11, 35, 36, 37, 38, 39, 40, 41, 42, 43, 44, 45, 46, 47, 48, 49, 50, 51, 52, 53, 54, 55, 56, 57, 58, 59, 60, 61, 62, 63, 64, 65, 66, 67, 68, 69, 70, 71, 72, 73, 74, 75, 76, 77, 78, 79, 80, 81, 82, 83, 84, 85, 86, 87, 88, 89, 90, 91, 92, 93, 94, 95, 96, 97, 98, 99, 100, 101, 102, 103, 104, 105, 106, 107, 108, 109, 110, 111, 112, 113, 114, 115, 116, 117, 118, 119, 120, 121, 122, 123, 124, 125, 126, 127, 128, 129, 130, 131, 132, 133, 134, 135, 136, 137, 138, 139, 140, 141, 142, 143, 144, 145, 146, 147, 148, 149, 150, 151, 152, 198, 199, 200, 201, 202, 203, 204, 311, 312, 313, 314, 315, 316, 317, 309, 310] (by decide +kernel) (by decide +kernel)
set_option maxRecDepth 20000 in
theorem gX7_send_X3_transmit : GoodIn wsX7_send (wsV RX7 95 RX3 yX3_transmit wsX3_transmit) := goodIn_app (goodIn_of _ (by decide +kernel)) ggX7_send_X3_transmit
set_option maxRecDepth 20000 in
theorem ggX7_send_X5_clear : GoodIn wsX7_send wsX5_clear := goodIn_r _ [33, 12, 309, 310] (by decide +kernel) (by decide +kernel)
set_option maxRecDepth 20000 in
theorem gX7_send_X5_clear : GoodIn wsX7_send (wsV RX7 71 RX5 yX5_clear wsX5_clear) := goodIn_app (goodIn_of _ (by decide +kernel)) ggX7_send_X5_clear
set_option maxRecDepth 20000 in
theorem ggX7_send_X7_decodeAnew : GoodIn wsX7_send wsX7_decodeAnew := goodIn_r _ [209, 210, 5, 6, 211, 212, 213, 214, 215, 216, 217, 218, 219, 220, 221, 222, 223, 224, 225, 226, 227, 31, 32, 10, 33, 12, 228, 8, 9, 11, 229, 36, 37, 38, 39, 40, 41, 42, 43, 230, 231, 46, 232, 233, 234, 235, 236, 237, 238, 239, 240, 241, 242, 243, 244, 245, 246, 247, 248, 249, 250, 251, 252, 253, 254, 255, 256, 257, 258, 259, 260, 261, 262, 185, 263, 264, 265, 266, 267, 268, 269, 270, 271, 272, 52, 53, 54, 273, 274, 275, 276, 277, 278, 78, 79, 64, 80, 70, 81, 82, 83, 84, 75, 76, 279, 280, 281, 282, 71, 72, 73, 74, 283, 284, 87, 285, 286, 287, 288, 121, 289, 290, 124, 291, 292, 293, 104, 294, 295, 296, 297, 115, 116, 117, 298, 129, 130, 131, 132, 133, 134, 299, 300, 301, 302, 303, 151, 152, 304, 305, 306, 307, 308, 311, 312, 313, 314, 315, 316, 317, 328, 329, 330, 331, 332, 333, 334, 309, 310, 327] (by decide +kernel) (by decide +kernel)
set_option maxRecDepth 20000 in
theorem gX7_send_X7_decodeAnew : GoodIn wsX7_send (wsV RX7 99 RX7 yX7_decodeAnew wsX7_decodeAnew) := goodIn_app (goodIn_of _ (by decide +kernel)) ggX7_send_X7_decodeAnew
theorem dX7_send_0 : decode cX7_send 0 = .ok (.aload_n 0, 1) := by decide +kernel
theorem dX7_send_1 : decode cX7_send 1 = .ok (.getfield 14, 3) := by decide +kernel
theorem dX7_send_4 : decode cX7_send 4 = .ok (.invokevirtual 59, 3) := by decide +kernel
theorem dX7_send_7 : decode cX7_send 7 = .ok (.ifCond .ne 13, 3) := by decide +kernel
theorem dX7_send_10 : decode cX7_send 10 = .ok (.new 63, 3) := by decide +kernel
theorem dX7_send_13 : decode cX7_send 13 = .ok (.dup, 1) := by decide +kernel
theorem dX7_send_14 : decode cX7_send 14 = .ok (.ldc 78, 2) := by decide +kernel
theorem dX7_send_16 : decode cX7_send 16 = .ok (.invokespecial 67, 3) := by decide +kernel
theorem dX7_send_19 : decode cX7_send 19 = .ok (.athrow, 1) := by decide +kernel
theorem dX7_send_20 : decode cX7_send 20 = .ok (.aload_n 0, 1) := by decide +kernel
theorem dX7_send_21 : decode cX7_send 21 = .ok (.invokevirtual 80, 3) := by decide +kernel
theorem dX7_send_24 : decode cX7_send 24 = .ok (.aload_n 0, 1) := by decide +kernel
theorem dX7_send_25 : decode cX7_send 25 = .ok (.invokevirtual 83, 3) := by decide +kernel
theorem dX7_send_28 : decode cX7_send 28 = .ok (.iadd, 1) := by decide +kernel
theorem dX7_send_29 : decode cX7_send 29 = .ok (.sipush 200, 3) := by decide +kernel
theorem dX7_send_32 : decode cX7_send 32 = .ok (.if_icmp .le 13, 3) := by decide +kernel
theorem dX7_send_35 : decode cX7_send 35 = .ok (.new 63, 3) := by decide +kernel
theorem dX7_send_38 : decode cX7_send 38 = .ok (.dup, 1) := by decide +kernel
theorem dX7_send_39 : decode cX7_send 39 = .ok (.ldc 86, 2) := by decide +kernel
theorem dX7_send_41 : decode cX7_send 41 = .ok (.invokespecial 67, 3) := by decide +kernel
theorem dX7_send_44 : decode cX7_send 44 = .ok (.athrow, 1) := by decide +kernel
theorem dX7_send_45 : decode cX7_send 45 = .ok (.aload_n 0, 1) := by decide +kernel
theorem dX7_send_46 : decode cX7_send 46 = .ok (.getfield 42, 3) := by decide +kernel
theorem dX7_send_49 : decode cX7_send 49 = .ok (.aload_n 0, 1) := by decide +kernel
theorem dX7_send_50 : decode cX7_send 50 = .ok (.getfield 21, 3) := by decide +kernel
theorem dX7_send_53 : decode cX7_send 53 = .ok (.aload_n 0, 1) := by decide +kernel
theorem dX7_send_54 : decode cX7_send 54 = .ok (.getfield 28, 3) := by decide +kernel
theorem dX7_send_57 : decode cX7_send 57 = .ok (.invokevirtual 88, 3) := by decide +kernel
theorem dX7_send_60 : decode cX7_send 60 = .ok (.aload_n 0, 1) := by decide +kernel
theorem dX7_send_61 : decode cX7_send 61 = .ok (.invokevirtual 92, 3) := by decide +kernel
theorem dX7_send_64 : decode cX7_send 64 = .ok (.istore_n 1, 1) := by decide +kernel
theorem dX7_send_65 : decode cX7_send 65 = .ok (.aload_n 0, 1) := by decide +kernel
theorem dX7_send_66 : decode cX7_send 66 = .ok (.getfield 21, 3) := by decide +kernel
theorem dX7_send_69 : decode cX7_send 69 = .ok (.aload_n 0, 1) := by decide +kernel
theorem dX7_send_70 : decode cX7_send 70 = .ok (.getfield 14, 3) := by decide +kernel
theorem dX7_send_73 : decode cX7_send 73 = .ok (.invokevirtual 95, 3) := by decide +kernel
theorem dX7_send_76 : decode cX7_send 76 = .ok (.aload_n 0, 1) := by decide +kernel
theorem dX7_send_77 : decode cX7_send 77 = .ok (.getfield 14, 3) := by decide +kernel
theorem dX7_send_80 : decode cX7_send 80 = .ok (.invokevirtual 71, 3) := by decide +kernel
theorem dX7_send_83 : decode cX7_send 83 = .ok (.aload_n 0, 1) := by decide +kernel
theorem dX7_send_84 : decode cX7_send 84 = .ok (.invokevirtual 99, 3) := by decide +kernel
theorem dX7_send_87 : decode cX7_send 87 = .ok (.aload_n 0, 1) := by decide +kernel
theorem dX7_send_88 : decode cX7_send 88 = .ok (.invokevirtual 92, 3) := by decide +kernel
theorem dX7_send_91 : decode cX7_send 91 = .ok (.iload_n 1, 1) := by decide +kernel
theorem dX7_send_92 : decode cX7_send 92 = .ok (.isub, 1) := by decide +kernel
theorem dX7_send_93 : decode cX7_send 93 = .ok (.ireturn, 1) := by decide +kernel
set_option maxRecDepth 20000 in
theorem ggX7_setFault_X5_has : GoodIn wsX7_setFault wsX5_has := goodIn_r _ [12, 13, 14, 80, 81] (by decide +kernel) (by decide +kernel)
set_option maxRecDepth 20000 in
theorem gX7_setFault_X5_has : GoodIn wsX7_setFault (wsV RX7 105 RX5 yX5_has wsX5_has) := goodIn_app (goodIn_of _ (by decide +kernel)) ggX7_setFault_X5_has
set_option maxRecDepth 20000 in
theorem ggX7_setFault_X2_save : GoodIn wsX7_setFault wsX2_save := goodIn_r _ [19, 20, 21, 22, 23, 24, 18, 25, 26, 27, 28, 29, 30, 31, 32, 33, 34, 35, 36, 37, 38, 39, 40, 41, 42, 43, 44, 11, 45, 13, 46, 47, 48, 49, 50, 51, 52, 53, 14, 54, 9, 10, 12, 55, 56, 57, 58, 59, 60, 61, 62, 82, 83, 84, 85, 86, 87, 88, 89, 90, 73, 74, 75, 76, 77, 78, 79, 91, 80, 81] (by decide +kernel) (by decide +kernel)
set_option maxRecDepth 20000 in
theorem gX7_setFault_X2_save : GoodIn wsX7_setFault (wsV RX7 88 RX2 yX2_save wsX2_save) := goodIn_app (goodIn_of _ (by decide +kernel)) ggX7_setFault_X2_save
set_option maxRecDepth 20000 in
theorem ggX7_setFault_X5_at : GoodIn wsX7_setFault wsX5_at := goodIn_r _ [53, 14, 54, 9, 10, 11, 12, 13, 80, 81] (by decide +kernel) (by decide +kernel)
set_option maxRecDepth 20000 in
theorem gX7_setFault_X5_at : GoodIn wsX7_setFault (wsV RX7 116 RX5 yX5_at wsX5_at) := goodIn_app (goodIn_of _ (by decide +kernel)) ggX7_setFault_X5_at
set_option maxRecDepth 20000 in
theorem ggX7_setFault_X5_set : GoodIn wsX7_setFault wsX5_set := goodIn_r _ [67, 14, 54, 9, 10, 11, 12, 13, 80, 81] (by decide +kernel) (by decide +kernel)
set_option maxRecDepth 20000 in
theorem gX7_setFault_X5_set : GoodIn wsX7_setFault (wsV RX7 119 RX5 yX5_set wsX5_set) := goodIn_app (goodIn_of _ (by decide +kernel)) ggX7_setFault_X5_set
theorem dX7_setFault_0 : decode cX7_setFault 0 = .ok (.aload_n 0, 1) := by decide +kernel
theorem dX7_setFault_1 : decode cX7_setFault 1 = .ok (.getfield 21, 3) := by decide +kernel
theorem dX7_setFault_4 : decode cX7_setFault 4 = .ok (.getfield 102, 3) := by decide +kernel
theorem dX7_setFault_7 : decode cX7_setFault 7 = .ok (.iload_n 1, 1) := by decide +kernel
theorem dX7_setFault_8 : decode cX7_setFault 8 = .ok (.invokevirtual 105, 3) := by decide +kernel
theorem dX7_setFault_11 : decode cX7_setFault 11 = .ok (.ifCond .ne 13, 3) := by decide +kernel
theorem dX7_setFault_14 : decode cX7_setFault 14 = .ok (.new 109, 3) := by decide +kernel
theorem dX7_setFault_17 : decode cX7_setFault 17 = .ok (.dup, 1) := by decide +kernel
theorem dX7_setFault_18 : decode cX7_setFault 18 = .ok (.ldc 111, 2) := by decide +kernel
theorem dX7_setFault_20 : decode cX7_setFault 20 = .ok (.invokespecial 113, 3) := by decide +kernel
theorem dX7_setFault_23 : decode cX7_setFault 23 = .ok (.athrow, 1) := by decide +kernel
theorem dX7_setFault_24 : decode cX7_setFault 24 = .ok (.iload_n 2, 1) := by decide +kernel
theorem dX7_setFault_25 : decode cX7_setFault 25 = .ok (.iconst (-1), 1) := by decide +kernel
theorem dX7_setFault_26 : decode cX7_setFault 26 = .ok (.if_icmp .lt 8, 3) := by decide +kernel
theorem dX7_setFault_29 : decode cX7_setFault 29 = .ok (.iload_n 2, 1) := by decide +kernel
theorem dX7_setFault_30 : decode cX7_setFault 30 = .ok (.iconst 5, 1) := by decide +kernel
theorem dX7_setFault_31 : decode cX7_setFault 31 = .ok (.if_icmp .le 13, 3) := by decide +kernel
theorem dX7_setFault_34 : decode cX7_setFault 34 = .ok (.new 52, 3) := by decide +kernel
theorem dX7_setFault_37 : decode cX7_setFault 37 = .ok (.dup, 1) := by decide +kernel
theorem dX7_setFault_38 : decode cX7_setFault 38 = .ok (.ldc 114, 2) := by decide +kernel
theorem dX7_setFault_40 : decode cX7_setFault 40 = .ok (.invokespecial 56, 3) := by decide +kernel
theorem dX7_setFault_43 : decode cX7_setFault 43 = .ok (.athrow, 1) := by decide +kernel
theorem dX7_setFault_44 : decode cX7_setFault 44 = .ok (.aload_n 0, 1) := by decide +kernel
theorem dX7_setFault_45 : decode cX7_setFault 45 = .ok (.getfield 42, 3) := by decide +kernel
theorem dX7_setFault_48 : decode cX7_setFault 48 = .ok (.aload_n 0, 1) := by decide +kernel
theorem dX7_setFault_49 : decode cX7_setFault 49 = .ok (.getfield 21, 3) := by decide +kernel
theorem dX7_setFault_52 : decode cX7_setFault 52 = .ok (.aload_n 0, 1) := by decide +kernel
theorem dX7_setFault_53 : decode cX7_setFault 53 = .ok (.getfield 28, 3) := by decide +kernel
theorem dX7_setFault_56 : decode cX7_setFault 56 = .ok (.invokevirtual 88, 3) := by decide +kernel
theorem dX7_setFault_59 : decode cX7_setFault 59 = .ok (.aload_n 0, 1) := by decide +kernel
theorem dX7_setFault_60 : decode cX7_setFault 60 = .ok (.getfield 21, 3) := by decide +kernel
theorem dX7_setFault_63 : decode cX7_setFault 63 = .ok (.getfield 102, 3) := by decide +kernel
theorem dX7_setFault_66 : decode cX7_setFault 66 = .ok (.iload_n 1, 1) := by decide +kernel
theorem dX7_setFault_67 : decode cX7_setFault 67 = .ok (.invokevirtual 116, 3) := by decide +kernel
theorem dX7_setFault_70 : decode cX7_setFault 70 = .ok (.istore_n 3, 1) := by decide +kernel
theorem dX7_setFault_71 : decode cX7_setFault 71 = .ok (.aload_n 0, 1) := by decide +kernel
theorem dX7_setFault_72 : decode cX7_setFault 72 = .ok (.getfield 21, 3) := by decide +kernel
theorem dX7_setFault_75 : decode cX7_setFault 75 = .ok (.getfield 102, 3) := by decide +kernel
theorem dX7_setFault_78 : decode cX7_setFault 78 = .ok (.iload_n 1, 1) := by decide +kernel
theorem dX7_setFault_79 : decode cX7_setFault 79 = .ok (.iload_n 2, 1) := by decide +kernel
theorem dX7_setFault_80 : decode cX7_setFault 80 = .ok (.invokevirtual 119, 3) := by decide +kernel
theorem dX7_setFault_83 : decode cX7_setFault 83 = .ok (.iload_n 3, 1) := by decide +kernel
theorem dX7_setFault_84 : decode cX7_setFault 84 = .ok (.ireturn, 1) := by decide +kernel
set_option maxRecDepth 20000 in
theorem ggX7_sent_X5_size : GoodIn wsX7_sent wsX5_size := goodIn_r _ [6, 7, 20, 21] (by decide +kernel) (by decide +kernel)
set_option maxRecDepth 20000 in
theorem gX7_sent_X5_size : GoodIn wsX7_sent (wsV RX7 59 RX5 yX5_size wsX5_size) := goodIn_app (goodIn_of _ (by decide +kernel)) ggX7_sent_X5_size
theorem dX7_sent_0 : decode cX7_sent 0 = .ok (.aload_n 0, 1) := by decide +kernel
theorem dX7_sent_1 : decode cX7_sent 1 = .ok (.getfield 21, 3) := by decide +kernel
theorem dX7_sent_4 : decode cX7_sent 4 = .ok (.getfield 123, 3) := by decide +kernel
theorem dX7_sent_7 : decode cX7_sent 7 = .ok (.invokevirtual 59, 3) := by decide +kernel
theorem dX7_sent_10 : decode cX7_sent 10 = .ok (.ireturn, 1) := by decide +kernel
set_option maxRecDepth 20000 in
theorem ggX7_received_X5_size : GoodIn wsX7_received wsX5_size := goodIn_r _ [6, 7, 20, 21] (by decide +kernel) (by decide +kernel)
set_option maxRecDepth 20000 in
theorem gX7_received_X5_size : GoodIn wsX7_received (wsV RX7 59 RX5 yX5_size wsX5_size) := goodIn_app (goodIn_of _ (by decide +kernel)) ggX7_received_X5_size
theorem dX7_received_0 : decode cX7_received 0 = .ok (.aload_n 0, 1) := by decide +kernel
theorem dX7_received_1 : decode cX7_received 1 = .ok (.getfield 21, 3) := by decide +kernel
theorem dX7_received_4 : decode cX7_received 4 = .ok (.getfield 126, 3) := by decide +kernel
theorem dX7_received_7 : decode cX7_received 7 = .ok (.invokevirtual 59, 3) := by decide +kernel
theorem dX7_received_10 : decode cX7_received 10 = .ok (.ireturn, 1) := by decide +kernel
set_option maxRecDepth 20000 in
theorem ggX7_sentCode_X5_has : GoodIn wsX7_sentCode wsX5_has := goodIn_r _ [8, 9, 10, 28, 29] (by decide +kernel) (by decide +kernel)
set_option maxRecDepth 20000 in
theorem gX7_sentCode_X5_has : GoodIn wsX7_sentCode (wsV RX7 105 RX5 yX5_has wsX5_has) := goodIn_app (goodIn_of _ (by decide +kernel)) ggX7_sentCode_X5_has
set_option maxRecDepth 20000 in
theorem ggX7_sentCode_X5_at : GoodIn wsX7_sentCode wsX5_at := goodIn_r _ [14, 10, 15, 5, 6, 7, 8, 9, 28, 29] (by decide +kernel) (by decide +kernel)
set_option maxRecDepth 20000 in
theorem gX7_sentCode_X5_at : GoodIn wsX7_sentCode (wsV RX7 116 RX5 yX5_at wsX5_at) := goodIn_app (goodIn_of _ (by decide +kernel)) ggX7_sentCode_X5_at
theorem dX7_sentCode_0 : decode cX7_sentCode 0 = .ok (.aload_n 0, 1) := by decide +kernel
theorem dX7_sentCode_1 : decode cX7_sentCode 1 = .ok (.getfield 21, 3) := by decide +kernel
theorem dX7_sentCode_4 : decode cX7_sentCode 4 = .ok (.getfield 123, 3) := by decide +kernel
theorem dX7_sentCode_7 : decode cX7_sentCode 7 = .ok (.iload_n 1, 1) := by decide +kernel
theorem dX7_sentCode_8 : decode cX7_sentCode 8 = .ok (.invokevirtual 105, 3) := by decide +kernel
theorem dX7_sentCode_11 : decode cX7_sentCode 11 = .ok (.ifCond .ne 13, 3) := by decide +kernel
theorem dX7_sentCode_14 : decode cX7_sentCode 14 = .ok (.new 109, 3) := by decide +kernel
theorem dX7_sentCode_17 : decode cX7_sentCode 17 = .ok (.dup, 1) := by decide +kernel
theorem dX7_sentCode_18 : decode cX7_sentCode 18 = .ok (.ldc 129, 2) := by decide +kernel
theorem dX7_sentCode_20 : decode cX7_sentCode 20 = .ok (.invokespecial 113, 3) := by decide +kernel
theorem dX7_sentCode_23 : decode cX7_sentCode 23 = .ok (.athrow, 1) := by decide +kernel
theorem dX7_sentCode_24 : decode cX7_sentCode 24 = .ok (.aload_n 0, 1) := by decide +kernel
theorem dX7_sentCode_25 : decode cX7_sentCode 25 = .ok (.getfield 21, 3) := by decide +kernel
theorem dX7_sentCode_28 : decode cX7_sentCode 28 = .ok (.getfield 123, 3) := by decide +kernel
theorem dX7_sentCode_31 : decode cX7_sentCode 31 = .ok (.iload_n 1, 1) := by decide +kernel
theorem dX7_sentCode_32 : decode cX7_sentCode 32 = .ok (.invokevirtual 116, 3) := by decide +kernel
theorem dX7_sentCode_35 : decode cX7_sentCode 35 = .ok (.ireturn, 1) := by decide +kernel
set_option maxRecDepth 20000 in
theorem ggX7_receivedCode_X5_has : GoodIn wsX7_receivedCode wsX5_has := goodIn_r _ [8, 9, 10, 28, 29] (by decide +kernel) (by decide +kernel)
set_option maxRecDepth 20000 in
theorem gX7_receivedCode_X5_has : GoodIn wsX7_receivedCode (wsV RX7 105 RX5 yX5_has wsX5_has) := goodIn_app (goodIn_of _ (by decide +kernel)) ggX7_receivedCode_X5_has
set_option maxRecDepth 20000 in
theorem ggX7_receivedCode_X5_at : GoodIn wsX7_receivedCode wsX5_at := goodIn_r _ [14, 10, 15, 5, 6, 7, 8, 9, 28, 29] (by decide +kernel) (by decide +kernel)
set_option maxRecDepth 20000 in
theorem gX7_receivedCode_X5_at : GoodIn wsX7_receivedCode (wsV RX7 116 RX5 yX5_at wsX5_at) := goodIn_app (goodIn_of _ (by decide +kernel)) ggX7_receivedCode_X5_at
theorem dX7_receivedCode_0 : decode cX7_receivedCode 0 = .ok (.aload_n 0, 1) := by decide +kernel
theorem dX7_receivedCode_1 : decode cX7_receivedCode 1 = .ok (.getfield 21, 3) := by decide +kernel
theorem dX7_receivedCode_4 : decode cX7_receivedCode 4 = .ok (.getfield 126, 3) := by decide +kernel
theorem dX7_receivedCode_7 : decode cX7_receivedCode 7 = .ok (.iload_n 1, 1) := by decide +kernel
theorem dX7_receivedCode_8 : decode cX7_receivedCode 8 = .ok (.invokevirtual 105, 3) := by decide +kernel
theorem dX7_receivedCode_11 : decode cX7_receivedCode 11 = .ok (.ifCond .ne 13, 3) := by decide +kernel
theorem dX7_receivedCode_14 : decode cX7_receivedCode 14 = .ok (.new 109, 3) := by decide +kernel
theorem dX7_receivedCode_17 : decode cX7_receivedCode 17 = .ok (.dup, 1) := by decide +kernel
theorem dX7_receivedCode_18 : decode cX7_receivedCode 18 = .ok (.ldc 131, 2) := by decide +kernel
theorem dX7_receivedCode_20 : decode cX7_receivedCode 20 = .ok (.invokespecial 113, 3) := by decide +kernel
theorem dX7_receivedCode_23 : decode cX7_receivedCode 23 = .ok (.athrow, 1) := by decide +kernel
theorem dX7_receivedCode_24 : decode cX7_receivedCode 24 = .ok (.aload_n 0, 1) := by decide +kernel
theorem dX7_receivedCode_25 : decode cX7_receivedCode 25 = .ok (.getfield 21, 3) := by decide +kernel
theorem dX7_receivedCode_28 : decode cX7_receivedCode 28 = .ok (.getfield 126, 3) := by decide +kernel
theorem dX7_receivedCode_31 : decode cX7_receivedCode 31 = .ok (.iload_n 1, 1) := by decide +kernel
theorem dX7_receivedCode_32 : decode cX7_receivedCode 32 = .ok (.invokevirtual 116, 3) := by decide +kernel
theorem dX7_receivedCode_35 : decode cX7_receivedCode 35 = .ok (.ireturn, 1) := by decide +kernel
theorem dX7_senderShift_0 : decode cX7_senderShift 0 = .ok (.aload_n 0, 1) := by decide +kernel
theorem dX7_senderShift_1 : decode cX7_senderShift 1 = .ok (.getfield 21, 3) := by decide +kernel
theorem dX7_senderShift_4 : decode cX7_senderShift 4 = .ok (.getfield 133, 3) := by decide +kernel
theorem dX7_senderShift_7 : decode cX7_senderShift 7 = .ok (.ireturn, 1) := by decide +kernel
set_option maxRecDepth 20000 in
theorem ggX7_faults_X5_count : GoodIn wsX7_faults wsX5_count := goodIn_r _ [6, 7, 8, 9, 10, 5, 11, 12, 13, 14, 15, 16, 29, 30] (by decide +kernel) (by decide +kernel)
set_option maxRecDepth 20000 in
theorem gX7_faults_X5_count : GoodIn wsX7_faults (wsV RX7 137 RX5 yX5_count wsX5_count) := goodIn_app (goodIn_of _ (by decide +kernel)) ggX7_faults_X5_count
theorem dX7_faults_0 : decode cX7_faults 0 = .ok (.sipush 200, 3) := by decide +kernel
theorem dX7_faults_3 : decode cX7_faults 3 = .ok (.aload_n 0, 1) := by decide +kernel
theorem dX7_faults_4 : decode cX7_faults 4 = .ok (.getfield 21, 3) := by decide +kernel
theorem dX7_faults_7 : decode cX7_faults 7 = .ok (.getfield 102, 3) := by decide +kernel
theorem dX7_faults_10 : decode cX7_faults 10 = .ok (.iconst (-1), 1) := by decide +kernel
theorem dX7_faults_11 : decode cX7_faults 11 = .ok (.invokevirtual 137, 3) := by decide +kernel
theorem dX7_faults_14 : decode cX7_faults 14 = .ok (.isub, 1) := by decide +kernel
theorem dX7_faults_15 : decode cX7_faults 15 = .ok (.ireturn, 1) := by decide +kernel
set_option maxRecDepth 20000 in
theorem ggX7_unshiftOnSpace_X2_save : GoodIn wsX7_unshiftOnSpace wsX2_save := goodIn_r _ [8, 9, 10, 11, 12, 13, 7, 14, 15, 16, 17, 18, 19, 20, 21, 22, 23, 24, 25, 26, 27, 28, 29, 30, 31, 32, 33, 34, 35, 36, 37, 38, 39, 40, 41, 42, 43, 44, 45, 46, 47, 48, 49, 50, 51, 52, 53, 54, 55, 56, 57, 200, 201, 202, 203, 204, 205, 206, 207, 208, 193, 194, 195, 196, 197, 198, 199, 209, 210, 211] (by decide +kernel) (by decide +kernel)
set_option maxRecDepth 20000 in
theorem gX7_unshiftOnSpace_X2_save : GoodIn wsX7_unshiftOnSpace (wsV RX7 88 RX2 yX2_save wsX2_save) := goodIn_app (goodIn_of _ (by decide +kernel)) ggX7_unshiftOnSpace_X2_save
set_option maxRecDepth 20000 in
theorem ggX7_unshiftOnSpace_X7_decodeAnew : GoodIn wsX7_unshiftOnSpace wsX7_decodeAnew := goodIn_r _ [62, 63, 2, 3, 64, 65, 66, 67, 68, 69, 70, 71, 72, 73, 74, 75, 76, 77, 78, 79, 80, 38, 39, 34, 40, 36, 81, 55, 56, 57, 82, 42, 43, 44, 45, 46, 47, 48, 49, 83, 84, 85, 86, 87, 88, 89, 90, 91, 92, 93, 94, 95, 96, 97, 98, 99, 100, 101, 102, 103, 104, 105, 106, 107, 108, 109, 110, 111, 112, 113, 114, 115, 116, 41, 117, 118, 119, 120, 121, 122, 123, 124, 125, 126, 51, 52, 53, 127, 128, 129, 130, 131, 132, 133, 134, 135, 136, 137, 138, 139, 140, 141, 142, 143, 144, 145, 146, 147, 148, 149, 150, 151, 152, 153, 154, 155, 156, 157, 158, 159, 160, 161, 162, 163, 164, 165, 166, 167, 168, 169, 170, 171, 172, 173, 174, 175, 176, 177, 178, 179, 180, 181, 182, 183, 184, 185, 186, 187, 188, 189, 190, 191, 192, 193, 194, 195, 196, 197, 198, 199, 212, 213, 214, 215, 216, 217, 218, 210, 211, 209] (by decide +kernel) (by decide +kernel)
set_option maxRecDepth 20000 in
theorem gX7_unshiftOnSpace_X7_decodeAnew : GoodIn wsX7_unshiftOnSpace (wsV RX7 99 RX7 yX7_decodeAnew wsX7_decodeAnew) := goodIn_app (goodIn_of _ (by decide +kernel)) ggX7_unshiftOnSpace_X7_decodeAnew
theorem dX7_unshiftOnSpace_0 : decode cX7_unshiftOnSpace 0 = .ok (.aload_n 0, 1) := by decide +kernel
theorem dX7_unshiftOnSpace_1 : decode cX7_unshiftOnSpace 1 = .ok (.getfield 42, 3) := by decide +kernel
theorem dX7_unshiftOnSpace_4 : decode cX7_unshiftOnSpace 4 = .ok (.aload_n 0, 1) := by decide +kernel
theorem dX7_unshiftOnSpace_5 : decode cX7_unshiftOnSpace 5 = .ok (.getfield 21, 3) := by decide +kernel
theorem dX7_unshiftOnSpace_8 : decode cX7_unshiftOnSpace 8 = .ok (.aload_n 0, 1) := by decide +kernel
theorem dX7_unshiftOnSpace_9 : decode cX7_unshiftOnSpace 9 = .ok (.getfield 28, 3) := by decide +kernel
theorem dX7_unshiftOnSpace_12 : decode cX7_unshiftOnSpace 12 = .ok (.invokevirtual 88, 3) := by decide +kernel
theorem dX7_unshiftOnSpace_15 : decode cX7_unshiftOnSpace 15 = .ok (.aload_n 0, 1) := by decide +kernel
theorem dX7_unshiftOnSpace_16 : decode cX7_unshiftOnSpace 16 = .ok (.getfield 21, 3) := by decide +kernel
theorem dX7_unshiftOnSpace_19 : decode cX7_unshiftOnSpace 19 = .ok (.getfield 140, 3) := by decide +kernel
theorem dX7_unshiftOnSpace_22 : decode cX7_unshiftOnSpace 22 = .ok (.istore_n 2, 1) := by decide +kernel
theorem dX7_unshiftOnSpace_23 : decode cX7_unshiftOnSpace 23 = .ok (.aload_n 0, 1) := by decide +kernel
theorem dX7_unshiftOnSpace_24 : decode cX7_unshiftOnSpace 24 = .ok (.getfield 21, 3) := by decide +kernel
theorem dX7_unshiftOnSpace_27 : decode cX7_unshiftOnSpace 27 = .ok (.iload_n 1, 1) := by decide +kernel
theorem dX7_unshiftOnSpace_28 : decode cX7_unshiftOnSpace 28 = .ok (.putfield 140, 3) := by decide +kernel
theorem dX7_unshiftOnSpace_31 : decode cX7_unshiftOnSpace 31 = .ok (.aload_n 0, 1) := by decide +kernel
theorem dX7_unshiftOnSpace_32 : decode cX7_unshiftOnSpace 32 = .ok (.invokevirtual 99, 3) := by decide +kernel
theorem dX7_unshiftOnSpace_35 : decode cX7_unshiftOnSpace 35 = .ok (.iload_n 2, 1) := by decide +kernel
theorem dX7_unshiftOnSpace_36 : decode cX7_unshiftOnSpace 36 = .ok (.ireturn, 1) := by decide +kernel
set_option maxRecDepth 20000 in
theorem ggX7_learn_X1_wordOfCharacters : GoodIn wsX7_learn wsX1_wordOfCharacters := goodIn_r _ [12, 13, 14, 15, 16, 17, 18, 19, 20, 21, 22, 23, 24, 25, 26, 27, 28, 29, 30, 31, 32, 33, 34, 35, 36, 37, 38, 39, 40, 41, 42, 43, 44, 45, 46, 47, 48, 49, 50, 51, 52, 53, 54, 55, 56, 57, 58, 59, 60, 61, 62, 63, 64, 65, 66, 67, 68, 69, 70, 71, 72, 73, 74, 75, 76, 77, 78, 79, 80, 81, 82, 83, 84, 85, 86, 87, 88, 89, 90, 91, 92, 93, 94, 95, 96, 97, 98, 99, 100, 101, 102, 103, 104, 105, 106, 107, 108, 109, 110, 111, 112, 113, 114, 115, 116, 117, 118, 119, 120, 121, 122, 123, 124, 125, 126, 127, 282, 283] (by decide +kernel) (by decide +kernel)
set_option maxRecDepth 20000 in
theorem gX7_learn_X1_wordOfCharacters : GoodIn wsX7_learn (va_wsS RX7 144 yX1_wordOfCharacters wsX1_wordOfCharacters) := goodIn_app (goodIn_of _ (by decide +kernel)) ggX7_learn_X1_wordOfCharacters
set_option maxRecDepth 20000 in
theorem ggX7_learn_X1_find : GoodIn wsX7_learn wsX1_find := goodIn_r _ [131, 132, 133, 134, 135, 16, 136, 18, 137, 20, 21, 22, 23, 24, 25, 26, 27, 281, 282, 283] (by decide +kernel) (by decide +kernel)
set_option maxRecDepth 20000 in
theorem gX7_learn_X1_find : GoodIn wsX7_learn (wsV RX7 150 RX1 yX1_find wsX1_find) := goodIn_app (goodIn_of _ (by decide +kernel)) ggX7_learn_X1_find
set_option maxRecDepth 20000 in
theorem ggX7_learn_X7_words : GoodIn wsX7_learn wsX7_words := goodIn_r _ [142, 6, 143, 14, 15, 16, 17, 18, 276, 277, 278, 279, 280, 281, 282, 283] (by decide +kernel) (by decide +kernel)
set_option maxRecDepth 20000 in
theorem gX7_learn_X7_words : GoodIn wsX7_learn (wsV RX7 153 RX7 yX7_words wsX7_words) := goodIn_app (goodIn_of _ (by decide +kernel)) ggX7_learn_X7_words
set_option maxRecDepth 20000 in
theorem ggX7_learn_X2_save : GoodIn wsX7_learn wsX2_save := goodIn_r _ [148, 149, 150, 151, 152, 153, 147, 154, 155, 156, 157, 158, 159, 160, 161, 162, 163, 164, 165, 166, 167, 168, 169, 170, 171, 172, 173, 16, 174, 18, 175, 176, 177, 178, 137, 20, 21, 22, 23, 24, 25, 26, 27, 179, 180, 181, 182, 183, 14, 15, 17, 284, 285, 286, 287, 288, 289, 290, 291, 292, 293, 294, 295, 296, 297, 298, 299, 281, 282, 283] (by decide +kernel) (by decide +kernel)
set_option maxRecDepth 20000 in
theorem gX7_learn_X2_save : GoodIn wsX7_learn (wsV RX7 88 RX2 yX2_save wsX2_save) := goodIn_app (goodIn_of _ (by decide +kernel)) ggX7_learn_X2_save
set_option maxRecDepth 20000 in
theorem ggX7_learn_X5_add : GoodIn wsX7_learn wsX5_add := goodIn_r _ [182, 18, 23, 282, 283] (by decide +kernel) (by decide +kernel)
set_option maxRecDepth 20000 in
theorem gX7_learn_X5_add : GoodIn wsX7_learn (wsV RX7 68 RX5 yX5_add wsX5_add) := goodIn_app (goodIn_of _ (by decide +kernel)) ggX7_learn_X5_add
set_option maxRecDepth 20000 in
theorem ggX7_learn_X5_clear : GoodIn wsX7_learn wsX5_clear := goodIn_r _ [178, 18, 282, 283] (by decide +kernel) (by decide +kernel)
set_option maxRecDepth 20000 in
theorem gX7_learn_X5_clear : GoodIn wsX7_learn (wsV RX7 71 RX5 yX5_clear wsX5_clear) := goodIn_app (goodIn_of _ (by decide +kernel)) ggX7_learn_X5_clear
set_option maxRecDepth 20000 in
theorem ggX7_learn_X7_decodeAnew : GoodIn wsX7_learn wsX7_decodeAnew := goodIn_r _ [189, 190, 8, 6, 191, 192, 193, 194, 195, 196, 197, 198, 199, 200, 201, 202, 203, 204, 205, 206, 207, 176, 177, 16, 178, 18, 208, 14, 15, 17, 209, 20, 21, 22, 23, 24, 25, 26, 27, 210, 211, 30, 212, 213, 214, 215, 216, 217, 218, 219, 11, 220, 221, 222, 223, 224, 225, 226, 227, 228, 229, 230, 231, 19, 232, 129, 130, 131, 132, 133, 134, 135, 136, 137, 233, 234, 235, 236, 237, 238, 239, 240, 241, 242, 180, 181, 182, 243, 244, 245, 246, 247, 248, 56, 57, 42, 58, 48, 59, 60, 61, 62, 53, 54, 249, 250, 251, 252, 49, 50, 51, 52, 253, 254, 65, 255, 256, 257, 258, 99, 259, 260, 102, 261, 262, 263, 82, 264, 265, 266, 267, 93, 94, 95, 268, 107, 108, 109, 110, 111, 112, 269, 270, 271, 272, 273, 274, 275, 276, 277, 278, 279, 280, 293, 294, 295, 296, 297, 298, 299, 300, 301, 302, 303, 304, 305, 306, 282, 283, 281] (by decide +kernel) (by decide +kernel)
set_option maxRecDepth 20000 in
theorem gX7_learn_X7_decodeAnew : GoodIn wsX7_learn (wsV RX7 99 RX7 yX7_decodeAnew wsX7_decodeAnew) := goodIn_app (goodIn_of _ (by decide +kernel)) ggX7_learn_X7_decodeAnew
theorem dX7_learn_0 : decode cX7_learn 0 = .ok (.aload_n 0, 1) := by decide +kernel
theorem dX7_learn_1 : decode cX7_learn 1 = .ok (.getfield 14, 3) := by decide +kernel
theorem dX7_learn_4 : decode cX7_learn 4 = .ok (.invokestatic 144, 3) := by decide +kernel
theorem dX7_learn_7 : decode cX7_learn 7 = .ok (.istore_n 1, 1) := by decide +kernel
theorem dX7_learn_8 : decode cX7_learn 8 = .ok (.iload_n 1, 1) := by decide +kernel
theorem dX7_learn_9 : decode cX7_learn 9 = .ok (.ifCond .ne 13, 3) := by decide +kernel
theorem dX7_learn_12 : decode cX7_learn 12 = .ok (.new 52, 3) := by decide +kernel
theorem dX7_learn_15 : decode cX7_learn 15 = .ok (.dup, 1) := by decide +kernel
theorem dX7_learn_16 : decode cX7_learn 16 = .ok (.ldc 148, 2) := by decide +kernel
theorem dX7_learn_18 : decode cX7_learn 18 = .ok (.invokespecial 56, 3) := by decide +kernel
theorem dX7_learn_21 : decode cX7_learn 21 = .ok (.athrow, 1) := by decide +kernel
theorem dX7_learn_22 : decode cX7_learn 22 = .ok (.aload_n 0, 1) := by decide +kernel
theorem dX7_learn_23 : decode cX7_learn 23 = .ok (.getfield 28, 3) := by decide +kernel
theorem dX7_learn_26 : decode cX7_learn 26 = .ok (.iload_n 1, 1) := by decide +kernel
theorem dX7_learn_27 : decode cX7_learn 27 = .ok (.invokevirtual 150, 3) := by decide +kernel
theorem dX7_learn_30 : decode cX7_learn 30 = .ok (.iconst (-1), 1) := by decide +kernel
theorem dX7_learn_31 : decode cX7_learn 31 = .ok (.if_icmp .ne 7, 3) := by decide +kernel
theorem dX7_learn_34 : decode cX7_learn 34 = .ok (.iconst 1, 1) := by decide +kernel
theorem dX7_learn_35 : decode cX7_learn 35 = .ok (.goto 4, 3) := by decide +kernel
theorem dX7_learn_38 : decode cX7_learn 38 = .ok (.iconst 0, 1) := by decide +kernel
theorem dX7_learn_39 : decode cX7_learn 39 = .ok (.istore_n 2, 1) := by decide +kernel
theorem dX7_learn_40 : decode cX7_learn 40 = .ok (.iload_n 2, 1) := by decide +kernel
theorem dX7_learn_41 : decode cX7_learn 41 = .ok (.ifCond .eq 22, 3) := by decide +kernel
theorem dX7_learn_44 : decode cX7_learn 44 = .ok (.aload_n 0, 1) := by decide +kernel
theorem dX7_learn_45 : decode cX7_learn 45 = .ok (.invokevirtual 153, 3) := by decide +kernel
theorem dX7_learn_48 : decode cX7_learn 48 = .ok (.bipush 20, 2) := by decide +kernel
theorem dX7_learn_50 : decode cX7_learn 50 = .ok (.if_icmp .lt 13, 3) := by decide +kernel
theorem dX7_learn_53 : decode cX7_learn 53 = .ok (.new 63, 3) := by decide +kernel
theorem dX7_learn_56 : decode cX7_learn 56 = .ok (.dup, 1) := by decide +kernel
theorem dX7_learn_57 : decode cX7_learn 57 = .ok (.ldc 156, 2) := by decide +kernel
theorem dX7_learn_59 : decode cX7_learn 59 = .ok (.invokespecial 67, 3) := by decide +kernel
theorem dX7_learn_62 : decode cX7_learn 62 = .ok (.athrow, 1) := by decide +kernel
theorem dX7_learn_63 : decode cX7_learn 63 = .ok (.aload_n 0, 1) := by decide +kernel
theorem dX7_learn_64 : decode cX7_learn 64 = .ok (.getfield 42, 3) := by decide +kernel
theorem dX7_learn_67 : decode cX7_learn 67 = .ok (.aload_n 0, 1) := by decide +kernel
theorem dX7_learn_68 : decode cX7_learn 68 = .ok (.getfield 21, 3) := by decide +kernel
theorem dX7_learn_71 : decode cX7_learn 71 = .ok (.aload_n 0, 1) := by decide +kernel
theorem dX7_learn_72 : decode cX7_learn 72 = .ok (.getfield 28, 3) := by decide +kernel
theorem dX7_learn_75 : decode cX7_learn 75 = .ok (.invokevirtual 88, 3) := by decide +kernel
theorem dX7_learn_78 : decode cX7_learn 78 = .ok (.iload_n 2, 1) := by decide +kernel
theorem dX7_learn_79 : decode cX7_learn 79 = .ok (.ifCond .eq 14, 3) := by decide +kernel
theorem dX7_learn_82 : decode cX7_learn 82 = .ok (.aload_n 0, 1) := by decide +kernel
theorem dX7_learn_83 : decode cX7_learn 83 = .ok (.getfield 28, 3) := by decide +kernel
theorem dX7_learn_86 : decode cX7_learn 86 = .ok (.getfield 158, 3) := by decide +kernel
theorem dX7_learn_89 : decode cX7_learn 89 = .ok (.iload_n 1, 1) := by decide +kernel
theorem dX7_learn_90 : decode cX7_learn 90 = .ok (.invokevirtual 68, 3) := by decide +kernel
theorem dX7_learn_93 : decode cX7_learn 93 = .ok (.aload_n 0, 1) := by decide +kernel
theorem dX7_learn_94 : decode cX7_learn 94 = .ok (.getfield 14, 3) := by decide +kernel
theorem dX7_learn_97 : decode cX7_learn 97 = .ok (.invokevirtual 71, 3) := by decide +kernel
theorem dX7_learn_100 : decode cX7_learn 100 = .ok (.aload_n 0, 1) := by decide +kernel
theorem dX7_learn_101 : decode cX7_learn 101 = .ok (.invokevirtual 99, 3) := by decide +kernel
theorem dX7_learn_104 : decode cX7_learn 104 = .ok (.aload_n 0, 1) := by decide +kernel
theorem dX7_learn_105 : decode cX7_learn 105 = .ok (.invokevirtual 153, 3) := by decide +kernel
theorem dX7_learn_108 : decode cX7_learn 108 = .ok (.ireturn, 1) := by decide +kernel
set_option maxRecDepth 20000 in
theorem ggX7_forget_X5_has : GoodIn wsX7_forget wsX5_has := goodIn_r _ [10, 11, 12, 213, 214] (by decide +kernel) (by decide +kernel)
set_option maxRecDepth 20000 in
theorem gX7_forget_X5_has : GoodIn wsX7_forget (wsV RX7 105 RX5 yX5_has wsX5_has) := goodIn_app (goodIn_of _ (by decide +kernel)) ggX7_forget_X5_has
set_option maxRecDepth 20000 in
theorem ggX7_forget_X2_save : GoodIn wsX7_forget wsX2_save := goodIn_r _ [17, 18, 19, 20, 21, 22, 16, 23, 24, 25, 26, 27, 28, 29, 30, 31, 32, 33, 34, 35, 36, 37, 38, 39, 40, 41, 42, 9, 43, 11, 44, 45, 46, 47, 48, 49, 50, 51, 12, 52, 7, 8, 10, 53, 54, 55, 56, 57, 58, 59, 60, 215, 216, 217, 218, 219, 220, 221, 222, 223, 224, 225, 226, 227, 228, 229, 230, 212, 213, 214] (by decide +kernel) (by decide +kernel)
set_option maxRecDepth 20000 in
theorem gX7_forget_X2_save : GoodIn wsX7_forget (wsV RX7 88 RX2 yX2_save wsX2_save) := goodIn_app (goodIn_of _ (by decide +kernel)) ggX7_forget_X2_save
set_option maxRecDepth 20000 in
theorem ggX7_forget_X1_lengthOf : GoodIn wsX7_forget wsX1_lengthOf := goodIn_r _ [65, 66, 67, 68, 64, 69, 70, 71, 49, 50, 9, 51, 12, 52, 7, 8, 10, 11, 212, 213, 214] (by decide +kernel) (by decide +kernel)
set_option maxRecDepth 20000 in
theorem gX7_forget_X1_lengthOf : GoodIn wsX7_forget (wsV RX7 163 RX1 yX1_lengthOf wsX1_lengthOf) := goodIn_app (goodIn_of _ (by decide +kernel)) ggX7_forget_X1_lengthOf
set_option maxRecDepth 20000 in
theorem ggX7_forget_X5_remove : GoodIn wsX7_forget wsX5_remove := goodIn_r _ [75, 11, 52, 7, 8, 9, 10, 12, 48, 49, 50, 51, 76, 77, 78, 79, 213, 214] (by decide +kernel) (by decide +kernel)
set_option maxRecDepth 20000 in
theorem gX7_forget_X5_remove : GoodIn wsX7_forget (wsV RX7 166 RX5 yX5_remove wsX5_remove) := goodIn_app (goodIn_of _ (by decide +kernel)) ggX7_forget_X5_remove
set_option maxRecDepth 20000 in
theorem ggX7_forget_X7_decodeAnew : GoodIn wsX7_forget wsX7_decodeAnew := goodIn_r _ [84, 85, 5, 3, 86, 87, 88, 89, 90, 91, 92, 93, 94, 95, 96, 97, 98, 99, 100, 101, 102, 45, 46, 9, 47, 11, 103, 58, 59, 60, 104, 49, 50, 51, 12, 52, 7, 8, 10, 105, 106, 107, 108, 109, 110, 111, 112, 113, 114, 115, 64, 116, 117, 118, 119, 120, 121, 122, 123, 124, 125, 126, 127, 71, 128, 129, 130, 131, 70, 132, 133, 134, 135, 48, 136, 137, 138, 139, 140, 141, 142, 143, 144, 145, 54, 55, 56, 146, 147, 148, 149, 150, 151, 152, 153, 154, 155, 156, 157, 158, 159, 160, 161, 162, 163, 164, 165, 166, 167, 168, 169, 170, 171, 172, 173, 174, 175, 176, 177, 178, 179, 180, 181, 182, 183, 184, 185, 186, 187, 188, 189, 190, 191, 192, 193, 194, 195, 196, 197, 198, 199, 200, 201, 202, 203, 204, 205, 206, 207, 208, 209, 210, 211, 224, 225, 226, 227, 228, 229, 230, 231, 232, 233, 234, 235, 236, 237, 213, 214, 212] (by decide +kernel) (by decide +kernel)
set_option maxRecDepth 20000 in
theorem gX7_forget_X7_decodeAnew : GoodIn wsX7_forget (wsV RX7 99 RX7 yX7_decodeAnew wsX7_decodeAnew) := goodIn_app (goodIn_of _ (by decide +kernel)) ggX7_forget_X7_decodeAnew
theorem dX7_forget_0 : decode cX7_forget 0 = .ok (.aload_n 0, 1) := by decide +kernel
theorem dX7_forget_1 : decode cX7_forget 1 = .ok (.getfield 28, 3) := by decide +kernel
theorem dX7_forget_4 : decode cX7_forget 4 = .ok (.getfield 158, 3) := by decide +kernel
theorem dX7_forget_7 : decode cX7_forget 7 = .ok (.iload_n 1, 1) := by decide +kernel
theorem dX7_forget_8 : decode cX7_forget 8 = .ok (.invokevirtual 105, 3) := by decide +kernel
theorem dX7_forget_11 : decode cX7_forget 11 = .ok (.ifCond .ne 13, 3) := by decide +kernel
theorem dX7_forget_14 : decode cX7_forget 14 = .ok (.new 109, 3) := by decide +kernel
theorem dX7_forget_17 : decode cX7_forget 17 = .ok (.dup, 1) := by decide +kernel
theorem dX7_forget_18 : decode cX7_forget 18 = .ok (.ldc 161, 2) := by decide +kernel
theorem dX7_forget_20 : decode cX7_forget 20 = .ok (.invokespecial 113, 3) := by decide +kernel
theorem dX7_forget_23 : decode cX7_forget 23 = .ok (.athrow, 1) := by decide +kernel
theorem dX7_forget_24 : decode cX7_forget 24 = .ok (.aload_n 0, 1) := by decide +kernel
theorem dX7_forget_25 : decode cX7_forget 25 = .ok (.getfield 42, 3) := by decide +kernel
theorem dX7_forget_28 : decode cX7_forget 28 = .ok (.aload_n 0, 1) := by decide +kernel
theorem dX7_forget_29 : decode cX7_forget 29 = .ok (.getfield 21, 3) := by decide +kernel
theorem dX7_forget_32 : decode cX7_forget 32 = .ok (.aload_n 0, 1) := by decide +kernel
theorem dX7_forget_33 : decode cX7_forget 33 = .ok (.getfield 28, 3) := by decide +kernel
theorem dX7_forget_36 : decode cX7_forget 36 = .ok (.invokevirtual 88, 3) := by decide +kernel
theorem dX7_forget_39 : decode cX7_forget 39 = .ok (.aload_n 0, 1) := by decide +kernel
theorem dX7_forget_40 : decode cX7_forget 40 = .ok (.getfield 28, 3) := by decide +kernel
theorem dX7_forget_43 : decode cX7_forget 43 = .ok (.iload_n 1, 1) := by decide +kernel
theorem dX7_forget_44 : decode cX7_forget 44 = .ok (.invokevirtual 163, 3) := by decide +kernel
theorem dX7_forget_47 : decode cX7_forget 47 = .ok (.istore_n 2, 1) := by decide +kernel
theorem dX7_forget_48 : decode cX7_forget 48 = .ok (.aload_n 0, 1) := by decide +kernel
theorem dX7_forget_49 : decode cX7_forget 49 = .ok (.getfield 28, 3) := by decide +kernel
theorem dX7_forget_52 : decode cX7_forget 52 = .ok (.getfield 158, 3) := by decide +kernel
theorem dX7_forget_55 : decode cX7_forget 55 = .ok (.iload_n 1, 1) := by decide +kernel
theorem dX7_forget_56 : decode cX7_forget 56 = .ok (.invokevirtual 166, 3) := by decide +kernel
theorem dX7_forget_59 : decode cX7_forget 59 = .ok (.aload_n 0, 1) := by decide +kernel
theorem dX7_forget_60 : decode cX7_forget 60 = .ok (.invokevirtual 99, 3) := by decide +kernel
theorem dX7_forget_63 : decode cX7_forget 63 = .ok (.iload_n 2, 1) := by decide +kernel
theorem dX7_forget_64 : decode cX7_forget 64 = .ok (.ireturn, 1) := by decide +kernel
set_option maxRecDepth 20000 in
theorem ggX7_words_X5_size : GoodIn wsX7_words wsX5_size := goodIn_r _ [6, 7, 14, 15] (by decide +kernel) (by decide +kernel)
set_option maxRecDepth 20000 in
theorem gX7_words_X5_size : GoodIn wsX7_words (wsV RX7 59 RX5 yX5_size wsX5_size) := goodIn_app (goodIn_of _ (by decide +kernel)) ggX7_words_X5_size
theorem dX7_words_0 : decode cX7_words 0 = .ok (.aload_n 0, 1) := by decide +kernel
theorem dX7_words_1 : decode cX7_words 1 = .ok (.getfield 28, 3) := by decide +kernel
theorem dX7_words_4 : decode cX7_words 4 = .ok (.getfield 158, 3) := by decide +kernel
theorem dX7_words_7 : decode cX7_words 7 = .ok (.invokevirtual 59, 3) := by decide +kernel
theorem dX7_words_10 : decode cX7_words 10 = .ok (.ireturn, 1) := by decide +kernel
set_option maxRecDepth 20000 in
theorem ggX7_wordLetter_X5_has : GoodIn wsX7_wordLetter wsX5_has := goodIn_r _ [8, 9, 10, 84, 85] (by decide +kernel) (by decide +kernel)
set_option maxRecDepth 20000 in
theorem gX7_wordLetter_X5_has : GoodIn wsX7_wordLetter (wsV RX7 105 RX5 yX5_has wsX5_has) := goodIn_app (goodIn_of _ (by decide +kernel)) ggX7_wordLetter_X5_has
set_option maxRecDepth 20000 in
theorem ggX7_wordLetter_X1_codeOfLetter : GoodIn wsX7_wordLetter wsX1_codeOfLetter := goodIn_r _ [15, 16, 17, 18, 19, 7, 20, 10, 21, 5, 6, 8, 9, 83, 84, 85] (by decide +kernel) (by decide +kernel)
set_option maxRecDepth 20000 in
theorem gX7_wordLetter_X1_codeOfLetter : GoodIn wsX7_wordLetter (wsV RX7 173 RX1 yX1_codeOfLetter wsX1_codeOfLetter) := goodIn_app (goodIn_of _ (by decide +kernel)) ggX7_wordLetter_X1_codeOfLetter
set_option maxRecDepth 20000 in
theorem ggX7_wordLetter_X0_characterOf : GoodIn wsX7_wordLetter wsX0_characterOf := goodIn_r _ [25, 26, 27, 24, 28, 29, 30, 31, 32, 33, 34, 35, 36, 37, 38, 39, 40, 41, 42, 43, 44, 45, 46, 47, 48, 49, 50, 51, 52, 53, 54, 55, 56, 57, 58, 59, 60, 61, 62, 63, 64, 65, 66, 67, 68, 69, 70, 71, 72, 73, 74, 75, 76, 77] (by decide +kernel) (by decide +kernel)
set_option maxRecDepth 20000 in
theorem gX7_wordLetter_X0_characterOf : GoodIn wsX7_wordLetter (va_wsS RX7 177 yX0_characterOf wsX0_characterOf) := goodIn_app (goodIn_of _ (by decide +kernel)) ggX7_wordLetter_X0_characterOf
theorem dX7_wordLetter_0 : decode cX7_wordLetter 0 = .ok (.aload_n 0, 1) := by decide +kernel
theorem dX7_wordLetter_1 : decode cX7_wordLetter 1 = .ok (.getfield 28, 3) := by decide +kernel
theorem dX7_wordLetter_4 : decode cX7_wordLetter 4 = .ok (.getfield 158, 3) := by decide +kernel
theorem dX7_wordLetter_7 : decode cX7_wordLetter 7 = .ok (.iload_n 1, 1) := by decide +kernel
theorem dX7_wordLetter_8 : decode cX7_wordLetter 8 = .ok (.invokevirtual 105, 3) := by decide +kernel
theorem dX7_wordLetter_11 : decode cX7_wordLetter 11 = .ok (.ifCond .ne 13, 3) := by decide +kernel
theorem dX7_wordLetter_14 : decode cX7_wordLetter 14 = .ok (.new 109, 3) := by decide +kernel
theorem dX7_wordLetter_17 : decode cX7_wordLetter 17 = .ok (.dup, 1) := by decide +kernel
theorem dX7_wordLetter_18 : decode cX7_wordLetter 18 = .ok (.ldc 169, 2) := by decide +kernel
theorem dX7_wordLetter_20 : decode cX7_wordLetter 20 = .ok (.invokespecial 113, 3) := by decide +kernel
theorem dX7_wordLetter_23 : decode cX7_wordLetter 23 = .ok (.athrow, 1) := by decide +kernel
theorem dX7_wordLetter_24 : decode cX7_wordLetter 24 = .ok (.iload_n 2, 1) := by decide +kernel
theorem dX7_wordLetter_25 : decode cX7_wordLetter 25 = .ok (.ifCond .lt 9, 3) := by decide +kernel
theorem dX7_wordLetter_28 : decode cX7_wordLetter 28 = .ok (.iload_n 2, 1) := by decide +kernel
theorem dX7_wordLetter_29 : decode cX7_wordLetter 29 = .ok (.bipush 6, 2) := by decide +kernel
theorem dX7_wordLetter_31 : decode cX7_wordLetter 31 = .ok (.if_icmp .lt 13, 3) := by decide +kernel
theorem dX7_wordLetter_34 : decode cX7_wordLetter 34 = .ok (.new 109, 3) := by decide +kernel
theorem dX7_wordLetter_37 : decode cX7_wordLetter 37 = .ok (.dup, 1) := by decide +kernel
theorem dX7_wordLetter_38 : decode cX7_wordLetter 38 = .ok (.ldc 171, 2) := by decide +kernel
theorem dX7_wordLetter_40 : decode cX7_wordLetter 40 = .ok (.invokespecial 113, 3) := by decide +kernel
theorem dX7_wordLetter_43 : decode cX7_wordLetter 43 = .ok (.athrow, 1) := by decide +kernel
theorem dX7_wordLetter_44 : decode cX7_wordLetter 44 = .ok (.aload_n 0, 1) := by decide +kernel
theorem dX7_wordLetter_45 : decode cX7_wordLetter 45 = .ok (.getfield 28, 3) := by decide +kernel
theorem dX7_wordLetter_48 : decode cX7_wordLetter 48 = .ok (.iload_n 1, 1) := by decide +kernel
theorem dX7_wordLetter_49 : decode cX7_wordLetter 49 = .ok (.iload_n 2, 1) := by decide +kernel
theorem dX7_wordLetter_50 : decode cX7_wordLetter 50 = .ok (.invokevirtual 173, 3) := by decide +kernel
theorem dX7_wordLetter_53 : decode cX7_wordLetter 53 = .ok (.istore_n 3, 1) := by decide +kernel
theorem dX7_wordLetter_54 : decode cX7_wordLetter 54 = .ok (.iload_n 3, 1) := by decide +kernel
theorem dX7_wordLetter_55 : decode cX7_wordLetter 55 = .ok (.ifCond .ne 7, 3) := by decide +kernel
theorem dX7_wordLetter_58 : decode cX7_wordLetter 58 = .ok (.iconst (-1), 1) := by decide +kernel
theorem dX7_wordLetter_59 : decode cX7_wordLetter 59 = .ok (.goto 8, 3) := by decide +kernel
theorem dX7_wordLetter_62 : decode cX7_wordLetter 62 = .ok (.iload_n 3, 1) := by decide +kernel
theorem dX7_wordLetter_63 : decode cX7_wordLetter 63 = .ok (.iconst 0, 1) := by decide +kernel
theorem dX7_wordLetter_64 : decode cX7_wordLetter 64 = .ok (.invokestatic 177, 3) := by decide +kernel
theorem dX7_wordLetter_67 : decode cX7_wordLetter 67 = .ok (.ireturn, 1) := by decide +kernel
set_option maxRecDepth 20000 in
theorem ggX7_uses_X5_has : GoodIn wsX7_uses wsX5_has := goodIn_r _ [9, 10, 11, 34, 35] (by decide +kernel) (by decide +kernel)
set_option maxRecDepth 20000 in
theorem gX7_uses_X5_has : GoodIn wsX7_uses (wsV RX7 105 RX5 yX5_has wsX5_has) := goodIn_app (goodIn_of _ (by decide +kernel)) ggX7_uses_X5_has
set_option maxRecDepth 20000 in
theorem ggX7_uses_X5_count : GoodIn wsX7_uses wsX5_count := goodIn_r _ [15, 10, 16, 17, 18, 8, 19, 11, 20, 6, 7, 9, 34, 35] (by decide +kernel) (by decide +kernel)
set_option maxRecDepth 20000 in
theorem gX7_uses_X5_count : GoodIn wsX7_uses (wsV RX7 137 RX5 yX5_count wsX5_count) := goodIn_app (goodIn_of _ (by decide +kernel)) ggX7_uses_X5_count
theorem dX7_uses_0 : decode cX7_uses 0 = .ok (.aload_n 0, 1) := by decide +kernel
theorem dX7_uses_1 : decode cX7_uses 1 = .ok (.getfield 28, 3) := by decide +kernel
theorem dX7_uses_4 : decode cX7_uses 4 = .ok (.getfield 158, 3) := by decide +kernel
theorem dX7_uses_7 : decode cX7_uses 7 = .ok (.iload_n 1, 1) := by decide +kernel
theorem dX7_uses_8 : decode cX7_uses 8 = .ok (.invokevirtual 105, 3) := by decide +kernel
theorem dX7_uses_11 : decode cX7_uses 11 = .ok (.ifCond .ne 13, 3) := by decide +kernel
theorem dX7_uses_14 : decode cX7_uses 14 = .ok (.new 109, 3) := by decide +kernel
theorem dX7_uses_17 : decode cX7_uses 17 = .ok (.dup, 1) := by decide +kernel
theorem dX7_uses_18 : decode cX7_uses 18 = .ok (.ldc 169, 2) := by decide +kernel
theorem dX7_uses_20 : decode cX7_uses 20 = .ok (.invokespecial 113, 3) := by decide +kernel
theorem dX7_uses_23 : decode cX7_uses 23 = .ok (.athrow, 1) := by decide +kernel
theorem dX7_uses_24 : decode cX7_uses 24 = .ok (.aload_n 0, 1) := by decide +kernel
theorem dX7_uses_25 : decode cX7_uses 25 = .ok (.getfield 35, 3) := by decide +kernel
theorem dX7_uses_28 : decode cX7_uses 28 = .ok (.getfield 180, 3) := by decide +kernel
theorem dX7_uses_31 : decode cX7_uses 31 = .ok (.iload_n 1, 1) := by decide +kernel
theorem dX7_uses_32 : decode cX7_uses 32 = .ok (.invokevirtual 137, 3) := by decide +kernel
theorem dX7_uses_35 : decode cX7_uses 35 = .ok (.ireturn, 1) := by decide +kernel
set_option maxRecDepth 20000 in
theorem ggX7_printedLength_X5_size : GoodIn wsX7_printedLength wsX5_size := goodIn_r _ [6, 7, 20, 21] (by decide +kernel) (by decide +kernel)
set_option maxRecDepth 20000 in
theorem gX7_printedLength_X5_size : GoodIn wsX7_printedLength (wsV RX7 59 RX5 yX5_size wsX5_size) := goodIn_app (goodIn_of _ (by decide +kernel)) ggX7_printedLength_X5_size
theorem dX7_printedLength_0 : decode cX7_printedLength 0 = .ok (.aload_n 0, 1) := by decide +kernel
theorem dX7_printedLength_1 : decode cX7_printedLength 1 = .ok (.getfield 35, 3) := by decide +kernel
theorem dX7_printedLength_4 : decode cX7_printedLength 4 = .ok (.getfield 181, 3) := by decide +kernel
theorem dX7_printedLength_7 : decode cX7_printedLength 7 = .ok (.invokevirtual 59, 3) := by decide +kernel
theorem dX7_printedLength_10 : decode cX7_printedLength 10 = .ok (.ireturn, 1) := by decide +kernel
set_option maxRecDepth 20000 in
theorem ggX7_printed_X5_has : GoodIn wsX7_printed wsX5_has := goodIn_r _ [8, 9, 10, 28, 29] (by decide +kernel) (by decide +kernel)
set_option maxRecDepth 20000 in
theorem gX7_printed_X5_has : GoodIn wsX7_printed (wsV RX7 105 RX5 yX5_has wsX5_has) := goodIn_app (goodIn_of _ (by decide +kernel)) ggX7_printed_X5_has
set_option maxRecDepth 20000 in
theorem ggX7_printed_X5_at : GoodIn wsX7_printed wsX5_at := goodIn_r _ [14, 10, 15, 5, 6, 7, 8, 9, 28, 29] (by decide +kernel) (by decide +kernel)
set_option maxRecDepth 20000 in
theorem gX7_printed_X5_at : GoodIn wsX7_printed (wsV RX7 116 RX5 yX5_at wsX5_at) := goodIn_app (goodIn_of _ (by decide +kernel)) ggX7_printed_X5_at
theorem dX7_printed_0 : decode cX7_printed 0 = .ok (.aload_n 0, 1) := by decide +kernel
theorem dX7_printed_1 : decode cX7_printed 1 = .ok (.getfield 35, 3) := by decide +kernel
theorem dX7_printed_4 : decode cX7_printed 4 = .ok (.getfield 181, 3) := by decide +kernel
theorem dX7_printed_7 : decode cX7_printed 7 = .ok (.iload_n 1, 1) := by decide +kernel
theorem dX7_printed_8 : decode cX7_printed 8 = .ok (.invokevirtual 105, 3) := by decide +kernel
theorem dX7_printed_11 : decode cX7_printed 11 = .ok (.ifCond .ne 13, 3) := by decide +kernel
theorem dX7_printed_14 : decode cX7_printed 14 = .ok (.new 109, 3) := by decide +kernel
theorem dX7_printed_17 : decode cX7_printed 17 = .ok (.dup, 1) := by decide +kernel
theorem dX7_printed_18 : decode cX7_printed 18 = .ok (.ldc 184, 2) := by decide +kernel
theorem dX7_printed_20 : decode cX7_printed 20 = .ok (.invokespecial 113, 3) := by decide +kernel
theorem dX7_printed_23 : decode cX7_printed 23 = .ok (.athrow, 1) := by decide +kernel
theorem dX7_printed_24 : decode cX7_printed 24 = .ok (.aload_n 0, 1) := by decide +kernel
theorem dX7_printed_25 : decode cX7_printed 25 = .ok (.getfield 35, 3) := by decide +kernel
theorem dX7_printed_28 : decode cX7_printed 28 = .ok (.getfield 181, 3) := by decide +kernel
theorem dX7_printed_31 : decode cX7_printed 31 = .ok (.iload_n 1, 1) := by decide +kernel
theorem dX7_printed_32 : decode cX7_printed 32 = .ok (.invokevirtual 116, 3) := by decide +kernel
theorem dX7_printed_35 : decode cX7_printed 35 = .ok (.ireturn, 1) := by decide +kernel
set_option maxRecDepth 20000 in
theorem ggX7_segments_X5_size : GoodIn wsX7_segments wsX5_size := goodIn_r _ [6, 7, 20, 21] (by decide +kernel) (by decide +kernel)
set_option maxRecDepth 20000 in
theorem gX7_segments_X5_size : GoodIn wsX7_segments (wsV RX7 59 RX5 yX5_size wsX5_size) := goodIn_app (goodIn_of _ (by decide +kernel)) ggX7_segments_X5_size
theorem dX7_segments_0 : decode cX7_segments 0 = .ok (.aload_n 0, 1) := by decide +kernel
theorem dX7_segments_1 : decode cX7_segments 1 = .ok (.getfield 35, 3) := by decide +kernel
theorem dX7_segments_4 : decode cX7_segments 4 = .ok (.getfield 186, 3) := by decide +kernel
theorem dX7_segments_7 : decode cX7_segments 7 = .ok (.invokevirtual 59, 3) := by decide +kernel
theorem dX7_segments_10 : decode cX7_segments 10 = .ok (.ireturn, 1) := by decide +kernel
set_option maxRecDepth 20000 in
theorem ggX7_segmentLength_X5_has : GoodIn wsX7_segmentLength wsX5_has := goodIn_r _ [8, 9, 10, 28, 29] (by decide +kernel) (by decide +kernel)
set_option maxRecDepth 20000 in
theorem gX7_segmentLength_X5_has : GoodIn wsX7_segmentLength (wsV RX7 105 RX5 yX5_has wsX5_has) := goodIn_app (goodIn_of _ (by decide +kernel)) ggX7_segmentLength_X5_has
set_option maxRecDepth 20000 in
theorem ggX7_segmentLength_X5_at : GoodIn wsX7_segmentLength wsX5_at := goodIn_r _ [14, 10, 15, 5, 6, 7, 8, 9, 28, 29] (by decide +kernel) (by decide +kernel)
set_option maxRecDepth 20000 in
theorem gX7_segmentLength_X5_at : GoodIn wsX7_segmentLength (wsV RX7 116 RX5 yX5_at wsX5_at) := goodIn_app (goodIn_of _ (by decide +kernel)) ggX7_segmentLength_X5_at
theorem dX7_segmentLength_0 : decode cX7_segmentLength 0 = .ok (.aload_n 0, 1) := by decide +kernel
theorem dX7_segmentLength_1 : decode cX7_segmentLength 1 = .ok (.getfield 35, 3) := by decide +kernel
theorem dX7_segmentLength_4 : decode cX7_segmentLength 4 = .ok (.getfield 189, 3) := by decide +kernel
theorem dX7_segmentLength_7 : decode cX7_segmentLength 7 = .ok (.iload_n 1, 1) := by decide +kernel
theorem dX7_segmentLength_8 : decode cX7_segmentLength 8 = .ok (.invokevirtual 105, 3) := by decide +kernel
theorem dX7_segmentLength_11 : decode cX7_segmentLength 11 = .ok (.ifCond .ne 13, 3) := by decide +kernel
theorem dX7_segmentLength_14 : decode cX7_segmentLength 14 = .ok (.new 109, 3) := by decide +kernel
theorem dX7_segmentLength_17 : decode cX7_segmentLength 17 = .ok (.dup, 1) := by decide +kernel
theorem dX7_segmentLength_18 : decode cX7_segmentLength 18 = .ok (.ldc 192, 2) := by decide +kernel
theorem dX7_segmentLength_20 : decode cX7_segmentLength 20 = .ok (.invokespecial 113, 3) := by decide +kernel
theorem dX7_segmentLength_23 : decode cX7_segmentLength 23 = .ok (.athrow, 1) := by decide +kernel
theorem dX7_segmentLength_24 : decode cX7_segmentLength 24 = .ok (.aload_n 0, 1) := by decide +kernel
theorem dX7_segmentLength_25 : decode cX7_segmentLength 25 = .ok (.getfield 35, 3) := by decide +kernel
theorem dX7_segmentLength_28 : decode cX7_segmentLength 28 = .ok (.getfield 189, 3) := by decide +kernel
theorem dX7_segmentLength_31 : decode cX7_segmentLength 31 = .ok (.iload_n 1, 1) := by decide +kernel
theorem dX7_segmentLength_32 : decode cX7_segmentLength 32 = .ok (.invokevirtual 116, 3) := by decide +kernel
theorem dX7_segmentLength_35 : decode cX7_segmentLength 35 = .ok (.ireturn, 1) := by decide +kernel
set_option maxRecDepth 20000 in
theorem ggX7_segmentKind_X5_has : GoodIn wsX7_segmentKind wsX5_has := goodIn_r _ [8, 9, 10, 28, 29] (by decide +kernel) (by decide +kernel)
set_option maxRecDepth 20000 in
theorem gX7_segmentKind_X5_has : GoodIn wsX7_segmentKind (wsV RX7 105 RX5 yX5_has wsX5_has) := goodIn_app (goodIn_of _ (by decide +kernel)) ggX7_segmentKind_X5_has
set_option maxRecDepth 20000 in
theorem ggX7_segmentKind_X5_at : GoodIn wsX7_segmentKind wsX5_at := goodIn_r _ [14, 10, 15, 5, 6, 7, 8, 9, 28, 29] (by decide +kernel) (by decide +kernel)
set_option maxRecDepth 20000 in
theorem gX7_segmentKind_X5_at : GoodIn wsX7_segmentKind (wsV RX7 116 RX5 yX5_at wsX5_at) := goodIn_app (goodIn_of _ (by decide +kernel)) ggX7_segmentKind_X5_at
theorem dX7_segmentKind_0 : decode cX7_segmentKind 0 = .ok (.aload_n 0, 1) := by decide +kernel
theorem dX7_segmentKind_1 : decode cX7_segmentKind 1 = .ok (.getfield 35, 3) := by decide +kernel
theorem dX7_segmentKind_4 : decode cX7_segmentKind 4 = .ok (.getfield 186, 3) := by decide +kernel
theorem dX7_segmentKind_7 : decode cX7_segmentKind 7 = .ok (.iload_n 1, 1) := by decide +kernel
theorem dX7_segmentKind_8 : decode cX7_segmentKind 8 = .ok (.invokevirtual 105, 3) := by decide +kernel
theorem dX7_segmentKind_11 : decode cX7_segmentKind 11 = .ok (.ifCond .ne 13, 3) := by decide +kernel
theorem dX7_segmentKind_14 : decode cX7_segmentKind 14 = .ok (.new 109, 3) := by decide +kernel
theorem dX7_segmentKind_17 : decode cX7_segmentKind 17 = .ok (.dup, 1) := by decide +kernel
theorem dX7_segmentKind_18 : decode cX7_segmentKind 18 = .ok (.ldc 192, 2) := by decide +kernel
theorem dX7_segmentKind_20 : decode cX7_segmentKind 20 = .ok (.invokespecial 113, 3) := by decide +kernel
theorem dX7_segmentKind_23 : decode cX7_segmentKind 23 = .ok (.athrow, 1) := by decide +kernel
theorem dX7_segmentKind_24 : decode cX7_segmentKind 24 = .ok (.aload_n 0, 1) := by decide +kernel
theorem dX7_segmentKind_25 : decode cX7_segmentKind 25 = .ok (.getfield 35, 3) := by decide +kernel
theorem dX7_segmentKind_28 : decode cX7_segmentKind 28 = .ok (.getfield 186, 3) := by decide +kernel
theorem dX7_segmentKind_31 : decode cX7_segmentKind 31 = .ok (.iload_n 1, 1) := by decide +kernel
theorem dX7_segmentKind_32 : decode cX7_segmentKind 32 = .ok (.invokevirtual 116, 3) := by decide +kernel
theorem dX7_segmentKind_35 : decode cX7_segmentKind 35 = .ok (.ireturn, 1) := by decide +kernel
set_option maxRecDepth 20000 in
theorem ggX7_guesses_X5_count : GoodIn wsX7_guesses wsX5_count := goodIn_r _ [6, 7, 8, 9, 10, 5, 11, 12, 13, 14, 15, 16, 29, 30] (by decide +kernel) (by decide +kernel)
set_option maxRecDepth 20000 in
theorem gX7_guesses_X5_count : GoodIn wsX7_guesses (wsV RX7 137 RX5 yX5_count wsX5_count) := goodIn_app (goodIn_of _ (by decide +kernel)) ggX7_guesses_X5_count
theorem dX7_guesses_0 : decode cX7_guesses 0 = .ok (.aload_n 0, 1) := by decide +kernel
theorem dX7_guesses_1 : decode cX7_guesses 1 = .ok (.getfield 35, 3) := by decide +kernel
theorem dX7_guesses_4 : decode cX7_guesses 4 = .ok (.getfield 186, 3) := by decide +kernel
theorem dX7_guesses_7 : decode cX7_guesses 7 = .ok (.iconst 2, 1) := by decide +kernel
theorem dX7_guesses_8 : decode cX7_guesses 8 = .ok (.invokevirtual 137, 3) := by decide +kernel
theorem dX7_guesses_11 : decode cX7_guesses 11 = .ok (.aload_n 0, 1) := by decide +kernel
theorem dX7_guesses_12 : decode cX7_guesses 12 = .ok (.getfield 35, 3) := by decide +kernel
theorem dX7_guesses_15 : decode cX7_guesses 15 = .ok (.getfield 186, 3) := by decide +kernel
theorem dX7_guesses_18 : decode cX7_guesses 18 = .ok (.iconst 3, 1) := by decide +kernel
theorem dX7_guesses_19 : decode cX7_guesses 19 = .ok (.invokevirtual 137, 3) := by decide +kernel
theorem dX7_guesses_22 : decode cX7_guesses 22 = .ok (.iadd, 1) := by decide +kernel
theorem dX7_guesses_23 : decode cX7_guesses 23 = .ok (.ireturn, 1) := by decide +kernel
set_option maxRecDepth 20000 in
theorem ggX7_doubtful_X5_count : GoodIn wsX7_doubtful wsX5_count := goodIn_r _ [6, 7, 8, 9, 10, 5, 11, 12, 13, 14, 15, 16, 29, 30] (by decide +kernel) (by decide +kernel)
set_option maxRecDepth 20000 in
theorem gX7_doubtful_X5_count : GoodIn wsX7_doubtful (wsV RX7 137 RX5 yX5_count wsX5_count) := goodIn_app (goodIn_of _ (by decide +kernel)) ggX7_doubtful_X5_count
theorem dX7_doubtful_0 : decode cX7_doubtful 0 = .ok (.aload_n 0, 1) := by decide +kernel
theorem dX7_doubtful_1 : decode cX7_doubtful 1 = .ok (.getfield 35, 3) := by decide +kernel
theorem dX7_doubtful_4 : decode cX7_doubtful 4 = .ok (.getfield 186, 3) := by decide +kernel
theorem dX7_doubtful_7 : decode cX7_doubtful 7 = .ok (.iconst 4, 1) := by decide +kernel
theorem dX7_doubtful_8 : decode cX7_doubtful 8 = .ok (.invokevirtual 137, 3) := by decide +kernel
theorem dX7_doubtful_11 : decode cX7_doubtful 11 = .ok (.aload_n 0, 1) := by decide +kernel
theorem dX7_doubtful_12 : decode cX7_doubtful 12 = .ok (.getfield 35, 3) := by decide +kernel
theorem dX7_doubtful_15 : decode cX7_doubtful 15 = .ok (.getfield 186, 3) := by decide +kernel
theorem dX7_doubtful_18 : decode cX7_doubtful 18 = .ok (.iconst 5, 1) := by decide +kernel
theorem dX7_doubtful_19 : decode cX7_doubtful 19 = .ok (.invokevirtual 137, 3) := by decide +kernel
theorem dX7_doubtful_22 : decode cX7_doubtful 22 = .ok (.iadd, 1) := by decide +kernel
theorem dX7_doubtful_23 : decode cX7_doubtful 23 = .ok (.ireturn, 1) := by decide +kernel
theorem dX7_bells_0 : decode cX7_bells 0 = .ok (.aload_n 0, 1) := by decide +kernel
theorem dX7_bells_1 : decode cX7_bells 1 = .ok (.getfield 35, 3) := by decide +kernel
theorem dX7_bells_4 : decode cX7_bells 4 = .ok (.getfield 194, 3) := by decide +kernel
theorem dX7_bells_7 : decode cX7_bells 7 = .ok (.ireturn, 1) := by decide +kernel
theorem dX7_questions_0 : decode cX7_questions 0 = .ok (.aload_n 0, 1) := by decide +kernel
theorem dX7_questions_1 : decode cX7_questions 1 = .ok (.getfield 35, 3) := by decide +kernel
theorem dX7_questions_4 : decode cX7_questions 4 = .ok (.getfield 197, 3) := by decide +kernel
theorem dX7_questions_7 : decode cX7_questions 7 = .ok (.ireturn, 1) := by decide +kernel
theorem dX7_receiverShift_0 : decode cX7_receiverShift 0 = .ok (.aload_n 0, 1) := by decide +kernel
theorem dX7_receiverShift_1 : decode cX7_receiverShift 1 = .ok (.getfield 35, 3) := by decide +kernel
theorem dX7_receiverShift_4 : decode cX7_receiverShift 4 = .ok (.getfield 200, 3) := by decide +kernel
theorem dX7_receiverShift_7 : decode cX7_receiverShift 7 = .ok (.ireturn, 1) := by decide +kernel
set_option maxRecDepth 20000 in
theorem ggX7_wrongCharacters_X5_size : GoodIn wsX7_wrongCharacters wsX5_size := goodIn_r _ [14, 15, 44, 45] (by decide +kernel) (by decide +kernel)
set_option maxRecDepth 20000 in
theorem gX7_wrongCharacters_X5_size : GoodIn wsX7_wrongCharacters (wsV RX7 59 RX5 yX5_size wsX5_size) := goodIn_app (goodIn_of _ (by decide +kernel)) ggX7_wrongCharacters_X5_size
set_option maxRecDepth 20000 in
theorem ggX7_wrongCharacters_X5_at : GoodIn wsX7_wrongCharacters wsX5_at := goodIn_r _ [19, 20, 21, 22, 23, 13, 24, 15, 44, 45] (by decide +kernel) (by decide +kernel)
set_option maxRecDepth 20000 in
theorem gX7_wrongCharacters_X5_at : GoodIn wsX7_wrongCharacters (wsV RX7 116 RX5 yX5_at wsX5_at) := goodIn_app (goodIn_of _ (by decide +kernel)) ggX7_wrongCharacters_X5_at
theorem dX7_wrongCharacters_0 : decode cX7_wrongCharacters 0 = .ok (.aload_n 0, 1) := by decide +kernel
theorem dX7_wrongCharacters_1 : decode cX7_wrongCharacters 1 = .ok (.getfield 35, 3) := by decide +kernel
theorem dX7_wrongCharacters_4 : decode cX7_wrongCharacters 4 = .ok (.getfield 181, 3) := by decide +kernel
theorem dX7_wrongCharacters_7 : decode cX7_wrongCharacters 7 = .ok (.astore_n 1, 1) := by decide +kernel
theorem dX7_wrongCharacters_8 : decode cX7_wrongCharacters 8 = .ok (.aload_n 0, 1) := by decide +kernel
theorem dX7_wrongCharacters_9 : decode cX7_wrongCharacters 9 = .ok (.getfield 21, 3) := by decide +kernel
theorem dX7_wrongCharacters_12 : decode cX7_wrongCharacters 12 = .ok (.getfield 201, 3) := by decide +kernel
theorem dX7_wrongCharacters_15 : decode cX7_wrongCharacters 15 = .ok (.astore_n 2, 1) := by decide +kernel
theorem dX7_wrongCharacters_16 : decode cX7_wrongCharacters 16 = .ok (.aload_n 1, 1) := by decide +kernel
theorem dX7_wrongCharacters_17 : decode cX7_wrongCharacters 17 = .ok (.invokevirtual 59, 3) := by decide +kernel
theorem dX7_wrongCharacters_20 : decode cX7_wrongCharacters 20 = .ok (.aload_n 2, 1) := by decide +kernel
theorem dX7_wrongCharacters_21 : decode cX7_wrongCharacters 21 = .ok (.invokevirtual 59, 3) := by decide +kernel
theorem dX7_wrongCharacters_24 : decode cX7_wrongCharacters 24 = .ok (.invokestatic 204, 3) := by decide +kernel
theorem dX7_wrongCharacters_27 : decode cX7_wrongCharacters 27 = .ok (.istore_n 3, 1) := by decide +kernel
theorem dX7_wrongCharacters_28 : decode cX7_wrongCharacters 28 = .ok (.aload_n 1, 1) := by decide +kernel
theorem dX7_wrongCharacters_29 : decode cX7_wrongCharacters 29 = .ok (.invokevirtual 59, 3) := by decide +kernel
theorem dX7_wrongCharacters_32 : decode cX7_wrongCharacters 32 = .ok (.aload_n 2, 1) := by decide +kernel
theorem dX7_wrongCharacters_33 : decode cX7_wrongCharacters 33 = .ok (.invokevirtual 59, 3) := by decide +kernel
theorem dX7_wrongCharacters_36 : decode cX7_wrongCharacters 36 = .ok (.invokestatic 209, 3) := by decide +kernel
theorem dX7_wrongCharacters_39 : decode cX7_wrongCharacters 39 = .ok (.iload_n 3, 1) := by decide +kernel
theorem dX7_wrongCharacters_40 : decode cX7_wrongCharacters 40 = .ok (.isub, 1) := by decide +kernel
theorem dX7_wrongCharacters_41 : decode cX7_wrongCharacters 41 = .ok (.istore 4, 2) := by decide +kernel
theorem dX7_wrongCharacters_43 : decode cX7_wrongCharacters 43 = .ok (.iconst 0, 1) := by decide +kernel
theorem dX7_wrongCharacters_44 : decode cX7_wrongCharacters 44 = .ok (.istore 5, 2) := by decide +kernel
theorem dX7_wrongCharacters_46 : decode cX7_wrongCharacters 46 = .ok (.iload 5, 2) := by decide +kernel
theorem dX7_wrongCharacters_48 : decode cX7_wrongCharacters 48 = .ok (.iload_n 3, 1) := by decide +kernel
theorem dX7_wrongCharacters_49 : decode cX7_wrongCharacters 49 = .ok (.if_icmp .ge 27, 3) := by decide +kernel
theorem dX7_wrongCharacters_52 : decode cX7_wrongCharacters 52 = .ok (.aload_n 1, 1) := by decide +kernel
theorem dX7_wrongCharacters_53 : decode cX7_wrongCharacters 53 = .ok (.iload 5, 2) := by decide +kernel
theorem dX7_wrongCharacters_55 : decode cX7_wrongCharacters 55 = .ok (.invokevirtual 116, 3) := by decide +kernel
theorem dX7_wrongCharacters_58 : decode cX7_wrongCharacters 58 = .ok (.aload_n 2, 1) := by decide +kernel
theorem dX7_wrongCharacters_59 : decode cX7_wrongCharacters 59 = .ok (.iload 5, 2) := by decide +kernel
theorem dX7_wrongCharacters_61 : decode cX7_wrongCharacters 61 = .ok (.invokevirtual 116, 3) := by decide +kernel
theorem dX7_wrongCharacters_64 : decode cX7_wrongCharacters 64 = .ok (.if_icmp .eq 6, 3) := by decide +kernel
theorem dX7_wrongCharacters_67 : decode cX7_wrongCharacters 67 = .ok (.iinc 4 1, 3) := by decide +kernel
theorem dX7_wrongCharacters_70 : decode cX7_wrongCharacters 70 = .ok (.iinc 5 1, 3) := by decide +kernel
theorem dX7_wrongCharacters_73 : decode cX7_wrongCharacters 73 = .ok (.goto (-27), 3) := by decide +kernel
theorem dX7_wrongCharacters_76 : decode cX7_wrongCharacters 76 = .ok (.iload 4, 2) := by decide +kernel
theorem dX7_wrongCharacters_78 : decode cX7_wrongCharacters 78 = .ok (.ireturn, 1) := by decide +kernel
set_option maxRecDepth 20000 in
theorem ggX7_plausibility_X7_segments : GoodIn wsX7_plausibility wsX7_segments := goodIn_r _ [5, 6, 7, 8, 9, 10, 11, 12, 30, 31, 32, 33, 34, 35, 36, 37, 38, 39, 40, 41, 42, 43] (by decide +kernel) (by decide +kernel)
set_option maxRecDepth 20000 in
theorem gX7_plausibility_X7_segments : GoodIn wsX7_plausibility (wsV RX7 212 RX7 yX7_segments wsX7_segments) := goodIn_app (goodIn_of _ (by decide +kernel)) ggX7_plausibility_X7_segments
set_option maxRecDepth 20000 in
theorem ggX7_plausibility_X7_doubtful : GoodIn wsX7_plausibility wsX7_doubtful := goodIn_r _ [16, 6, 17, 18, 19, 10, 20, 12, 21, 22, 23, 24, 25, 26, 27, 28, 29, 30, 31, 32, 33, 34, 35, 36, 37, 38, 39, 40, 41, 42, 43] (by decide +kernel) (by decide +kernel)
set_option maxRecDepth 20000 in
theorem gX7_plausibility_X7_doubtful : GoodIn wsX7_plausibility (wsV RX7 215 RX7 yX7_doubtful wsX7_doubtful) := goodIn_app (goodIn_of _ (by decide +kernel)) ggX7_plausibility_X7_doubtful
theorem dX7_plausibility_0 : decode cX7_plausibility 0 = .ok (.aload_n 0, 1) := by decide +kernel
