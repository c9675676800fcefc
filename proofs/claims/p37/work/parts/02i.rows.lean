set_option maxRecDepth 20000 in
theorem gX6_init_X5_init : GoodIn wsX6_init (wsX5_init) := ggX6_init_X5_init
set_option maxRecDepth 20000 in
theorem ggX6_take_X5_copyFrom : GoodIn wsX6_take wsX5_copyFrom := goodIn_r _ [12, 13, 14, 15, 16, 11, 17, 18, 19, 20, 21, 22, 23, 24, 25, 26, 46, 47] (by decide +kernel) (by decide +kernel)
set_option maxRecDepth 20000 in
theorem gX6_take_X5_copyFrom : GoodIn wsX6_take (wsV RX6 26 RX5 yX5_copyFrom wsX5_copyFrom) := goodIn_app (goodIn_of _ (by decide +kernel)) ggX6_take_X5_copyFrom
set_option maxRecDepth 20000 in
theorem ggX6_take_X5_size : GoodIn wsX6_take wsX5_size := goodIn_r _ [30, 13, 46, 47] (by decide +kernel) (by decide +kernel)
set_option maxRecDepth 20000 in
theorem gX6_take_X5_size : GoodIn wsX6_take (wsV RX6 36 RX5 yX5_size wsX5_size) := goodIn_app (goodIn_of _ (by decide +kernel)) ggX6_take_X5_size
set_option maxRecDepth 20000 in
theorem ggX6_give_X5_copyFrom : GoodIn wsX6_give wsX5_copyFrom := goodIn_r _ [12, 13, 14, 15, 16, 11, 17, 18, 19, 20, 21, 22, 23, 24, 25, 26, 46, 47] (by decide +kernel) (by decide +kernel)
set_option maxRecDepth 20000 in
theorem gX6_give_X5_copyFrom : GoodIn wsX6_give (wsV RX6 26 RX5 yX5_copyFrom wsX5_copyFrom) := goodIn_app (goodIn_of _ (by decide +kernel)) ggX6_give_X5_copyFrom
set_option maxRecDepth 20000 in
theorem ggX6_give_X5_shorten : GoodIn wsX6_give wsX5_shorten := goodIn_r _ [30, 13, 46, 47] (by decide +kernel) (by decide +kernel)
set_option maxRecDepth 20000 in
theorem gX6_give_X5_shorten : GoodIn wsX6_give (wsV RX6 65 RX5 yX5_shorten wsX5_shorten) := goodIn_app (goodIn_of _ (by decide +kernel)) ggX6_give_X5_shorten
set_option maxRecDepth 20000 in
theorem ggX7_init_X5_init : GoodIn wsX7_init wsX5_init := goodIn_r _ [26, 27, 2, 3, 28, 29, 30, 31, 32, 33, 91, 92] (by decide +kernel) (by decide +kernel)
set_option maxRecDepth 20000 in
theorem gX7_init_X5_init : GoodIn wsX7_init (wsX5_init) := ggX7_init_X5_init
set_option maxRecDepth 20000 in
theorem ggX7_init_X3_init : GoodIn wsX7_init wsX3_init := goodIn_r _ [36, 37, 2, 3, 38, 5, 6, 39, 40, 41, 42, 43, 44, 45, 25, 26, 27, 28, 29, 30, 31, 32, 33, 46, 47, 48, 49, 50, 51, 52, 53, 54, 55, 56, 57, 58, 91, 92, 98, 99, 100, 101, 102, 103, 104] (by decide +kernel) (by decide +kernel)
set_option maxRecDepth 20000 in
theorem gX7_init_X3_init : GoodIn wsX7_init (wsX3_init) := ggX7_init_X3_init
set_option maxRecDepth 20000 in
theorem ggX7_init_X1_init : GoodIn wsX7_init wsX1_init := goodIn_r _ [60, 61, 2, 3, 62, 5, 6, 63, 64, 25, 26, 27, 28, 29, 30, 31, 32, 33, 91, 92, 105] (by decide +kernel) (by decide +kernel)
set_option maxRecDepth 20000 in
theorem gX7_init_X1_init_n27 : GoodIn wsX7_init (wsX1_init) := ggX7_init_X1_init
set_option maxRecDepth 20000 in
theorem ggX7_init_X4_init : GoodIn wsX7_init wsX4_init := goodIn_r _ [66, 67, 2, 3, 68, 5, 6, 69, 70, 71, 72, 73, 74, 75, 25, 26, 27, 28, 29, 30, 31, 32, 33, 91, 92, 106, 107, 108, 109, 110, 111, 112, 113] (by decide +kernel) (by decide +kernel)
set_option maxRecDepth 20000 in
theorem gX7_init_X4_init_n34 : GoodIn wsX7_init (wsX4_init) := ggX7_init_X4_init
set_option maxRecDepth 20000 in
theorem ggX7_init_X2_init : GoodIn wsX7_init wsX2_init := goodIn_r _ [78, 79, 2, 3, 80, 81, 82, 83, 84, 85, 86, 87, 5, 6, 88, 89, 90, 25, 26, 27, 28, 29, 30, 31, 32, 33, 114, 115, 116, 117, 118, 119, 120, 121, 122, 91, 92] (by decide +kernel) (by decide +kernel)
set_option maxRecDepth 20000 in
theorem gX7_init_X2_init : GoodIn wsX7_init (wsX2_init) := ggX7_init_X2_init
set_option maxRecDepth 20000 in
theorem ggX7_append_X0_codeOf : GoodIn wsX7_append wsX0_codeOf := goodIn_r _ [9, 10, 11, 8, 12, 13, 14, 15, 16, 17, 18, 19, 20, 21, 22, 23, 24, 25, 26, 27, 28, 29, 30, 31, 32, 33, 34, 35, 36, 37, 38, 39, 40, 41, 42, 43, 44, 45, 46, 47, 48, 49, 50, 51, 52, 53, 54, 55, 56, 57, 58, 59, 60, 61, 62, 63, 64, 65, 66, 67, 68, 69, 70, 71, 72, 73, 74, 75, 76, 77, 78, 79, 80, 81, 82, 83, 84, 85, 86, 87, 88, 89, 90, 91, 92, 93, 94, 95, 96, 97, 98, 99, 100, 101, 102, 103, 104] (by decide +kernel) (by decide +kernel)
set_option maxRecDepth 20000 in
theorem gX7_append_X0_codeOf : GoodIn wsX7_append (va_wsS RX7 46 yX0_codeOf wsX0_codeOf) := goodIn_app (goodIn_of _ (by decide +kernel)) ggX7_append_X0_codeOf
set_option maxRecDepth 20000 in
theorem ggX7_append_X5_size : GoodIn wsX7_append wsX5_size := goodIn_r _ [109, 110, 121, 122] (by decide +kernel) (by decide +kernel)
set_option maxRecDepth 20000 in
theorem gX7_append_X5_size : GoodIn wsX7_append (wsV RX7 59 RX5 yX5_size wsX5_size) := goodIn_app (goodIn_of _ (by decide +kernel)) ggX7_append_X5_size
set_option maxRecDepth 20000 in
theorem ggX7_append_X5_add : GoodIn wsX7_append wsX5_add := goodIn_r _ [114, 110, 115, 121, 122] (by decide +kernel) (by decide +kernel)
set_option maxRecDepth 20000 in
theorem gX7_append_X5_add : GoodIn wsX7_append (wsV RX7 68 RX5 yX5_add wsX5_add) := goodIn_app (goodIn_of _ (by decide +kernel)) ggX7_append_X5_add
set_option maxRecDepth 20000 in
theorem ggX7_clearBuffer_X5_size : GoodIn wsX7_clearBuffer wsX5_size := goodIn_r _ [6, 7, 17, 18] (by decide +kernel) (by decide +kernel)
set_option maxRecDepth 20000 in
theorem gX7_clearBuffer_X5_size : GoodIn wsX7_clearBuffer (wsV RX7 59 RX5 yX5_size wsX5_size) := goodIn_app (goodIn_of _ (by decide +kernel)) ggX7_clearBuffer_X5_size
set_option maxRecDepth 20000 in
theorem ggX7_clearBuffer_X5_clear : GoodIn wsX7_clearBuffer wsX5_clear := goodIn_r _ [11, 7, 17, 18] (by decide +kernel) (by decide +kernel)
set_option maxRecDepth 20000 in
theorem gX7_clearBuffer_X5_clear : GoodIn wsX7_clearBuffer (wsV RX7 71 RX5 yX5_clear wsX5_clear) := goodIn_app (goodIn_of _ (by decide +kernel)) ggX7_clearBuffer_X5_clear
set_option maxRecDepth 20000 in
theorem ggX7_codesToSend_X3_encode : GoodIn wsX7_codesToSend wsX3_encode := goodIn_r _ [7, 8, 9, 10, 11, 12, 13, 14, 15, 16, 17, 18, 19, 20, 21, 22, 23, 24, 25, 26, 27, 28, 29, 30, 31, 32, 33, 34, 35, 36, 37, 38, 39, 40, 41, 42, 43, 44, 45, 46, 47, 48, 49, 50, 51, 52, 53, 54, 55, 56, 57, 58, 59, 60, 61, 62, 63, 64, 65, 66, 67, 68, 69, 70, 71, 72, 73, 74, 75, 76, 77, 78, 79, 80, 81, 82, 83, 84, 85, 86, 87, 88, 89, 90, 91, 92, 93, 94, 95, 96, 97, 98, 99, 100, 101, 102, 103, 104, 105, 106, 107, 108, 109, 110, 111, 112, 113, 114, 115, 116, 117, 118, 119, 120, 121, 122, 123, 124, 125, 126, 127, 128, 129, 130, 131, 132, 133, 134, 141, 142, 143, 144, 145, 146, 147, 148, 149] (by decide +kernel) (by decide +kernel)
set_option maxRecDepth 20000 in
theorem gX7_codesToSend_X3_encode : GoodIn wsX7_codesToSend (wsV RX7 74 RX3 yX3_encode wsX3_encode) := goodIn_app (goodIn_of _ (by decide +kernel)) ggX7_codesToSend_X3_encode
set_option maxRecDepth 20000 in
theorem ggX7_codesToSend_X5_size : GoodIn wsX7_codesToSend wsX5_size := goodIn_r _ [20, 16, 148, 149] (by decide +kernel) (by decide +kernel)
set_option maxRecDepth 20000 in
theorem gX7_codesToSend_X5_size : GoodIn wsX7_codesToSend (wsV RX7 59 RX5 yX5_size wsX5_size) := goodIn_app (goodIn_of _ (by decide +kernel)) ggX7_codesToSend_X5_size
set_option maxRecDepth 20000 in
theorem ggX7_send_X5_size : GoodIn wsX7_send wsX5_size := goodIn_r _ [12, 13, 294, 295] (by decide +kernel) (by decide +kernel)
set_option maxRecDepth 20000 in
theorem gX7_send_X5_size : GoodIn wsX7_send (wsV RX7 59 RX5 yX5_size wsX5_size) := goodIn_app (goodIn_of _ (by decide +kernel)) ggX7_send_X5_size
set_option maxRecDepth 20000 in
theorem ggX7_send_X7_sent : GoodIn wsX7_send wsX7_sent := goodIn_r _ [18, 5, 8, 9, 10, 11, 12, 13, 289, 290, 291, 292, 293, 296, 297, 298, 299, 300, 301, 302, 294, 295] (by decide +kernel) (by decide +kernel)
set_option maxRecDepth 20000 in
theorem gX7_send_X7_sent : GoodIn wsX7_send (wsV RX7 80 RX7 yX7_sent wsX7_sent) := goodIn_app (goodIn_of _ (by decide +kernel)) ggX7_send_X7_sent
set_option maxRecDepth 20000 in
theorem ggX7_send_X7_codesToSend : GoodIn wsX7_send wsX7_codesToSend := goodIn_r _ [22, 5, 3, 23, 24, 25, 26, 27, 28, 29, 30, 31, 32, 33, 11, 34, 13, 35, 9, 10, 12, 36, 37, 38, 39, 40, 41, 42, 43, 44, 45, 46, 47, 48, 49, 50, 51, 52, 53, 54, 55, 56, 57, 58, 59, 60, 61, 62, 63, 64, 65, 66, 67, 68, 69, 70, 71, 72, 73, 74, 75, 76, 77, 78, 79, 80, 81, 82, 83, 84, 85, 86, 87, 88, 89, 90, 91, 92, 93, 94, 95, 96, 97, 98, 99, 100, 101, 102, 103, 104, 105, 106, 107, 108, 109, 110, 111, 112, 113, 114, 115, 116, 117, 118, 119, 120, 121, 122, 123, 124, 125, 126, 127, 128, 129, 130, 131, 132, 133, 134, 135, 136, 137, 138, 139, 140, 141, 142, 143, 144, 145, 146, 147, 148, 149, 8, 289, 290, 291, 292, 293, 296, 297, 298, 299, 300, 301, 302, 294, 295] (by decide +kernel) (by decide +kernel)
set_option maxRecDepth 20000 in
theorem gX7_send_X7_codesToSend : GoodIn wsX7_send (wsV RX7 83 RX7 yX7_codesToSend wsX7_codesToSend) := goodIn_app (goodIn_of _ (by decide +kernel)) ggX7_send_X7_codesToSend
set_option maxRecDepth 20000 in
theorem ggX7_send_X2_save : GoodIn wsX7_send wsX2_save := goodIn_r _ [154, 155, 156, 157, 158, 159, 153, 160, 161, 162, 163, 164, 165, 166, 167, 168, 169, 170, 171, 172, 173, 174, 175, 176, 177, 178, 179, 11, 180, 13, 181, 32, 33, 34, 182, 37, 38, 39, 40, 183, 49, 50, 51, 184, 9, 10, 12, 303, 304, 305, 306, 307, 308, 309, 310, 311, 296, 297, 298, 299, 300, 301, 302, 312, 294, 295] (by decide +kernel) (by decide +kernel)
set_option maxRecDepth 20000 in
theorem gX7_send_X2_save : GoodIn wsX7_send (wsV RX7 88 RX2 yX2_save wsX2_save) := goodIn_app (goodIn_of _ (by decide +kernel)) ggX7_send_X2_save
set_option maxRecDepth 20000 in
theorem ggX7_send_X7_received : GoodIn wsX7_send wsX7_received := goodIn_r _ [188, 5, 8, 9, 10, 11, 12, 13, 289, 290, 291, 292, 293, 296, 297, 298, 299, 300, 301, 302, 294, 295] (by decide +kernel) (by decide +kernel)
set_option maxRecDepth 20000 in
theorem gX7_send_X7_received : GoodIn wsX7_send (wsV RX7 92 RX7 yX7_received wsX7_received) := goodIn_app (goodIn_of _ (by decide +kernel)) ggX7_send_X7_received
set_option maxRecDepth 20000 in
theorem ggX7_send_X3_transmit : GoodIn wsX7_send wsX3_transmit := goodIn_r _ [192, 193, 194, 24, 25, 26, 27, 28, 29, 30, 31, 32, 33, 11, 34, 13, 35, 9, 10, 12, 36, 37, 38, 39, 40, 41, 42, 43, 44, 45, 46, 47, 48, 49, 50, 51, 52, 53, 54, 55, 56, 57, 58, 59, 60, 61, 62, 63, 64, 65, 66, 67, 68, 69, 70, 71, 72, 73, 74, 75, 76, 77, 78, 79, 80, 81, 82, 83, 84, 85, 86, 87, 88, 89, 90, 91, 92, 93, 94, 95, 96, 97, 98, 99, 100, 101, 102, 103, 104, 105, 106, 107, 108, 109, 110, 111, 112, 113, 114, 115, 116, 117, 118, 119, 120, 121, 122, 123, 124, 125, 126, 127, 128, 129, 130, 131, 132, 133, 134, 135, 136, 137, 138, 139, 140, 141, 142, 143, 144, 145, 146, 147, 148, 149, 195, 196, 197, 198, 199, 200, 201, 296, 297, 298, 299, 300, 301, 302, 294, 295] (by decide +kernel) (by decide +kernel)
set_option maxRecDepth 20000 in
theorem gX7_send_X3_transmit : GoodIn wsX7_send (wsV RX7 95 RX3 yX3_transmit wsX3_transmit) := goodIn_app (goodIn_of _ (by decide +kernel)) ggX7_send_X3_transmit
set_option maxRecDepth 20000 in
theorem ggX7_send_X5_clear : GoodIn wsX7_send wsX5_clear := goodIn_r _ [34, 13, 294, 295] (by decide +kernel) (by decide +kernel)
set_option maxRecDepth 20000 in
theorem gX7_send_X5_clear : GoodIn wsX7_send (wsV RX7 71 RX5 yX5_clear wsX5_clear) := goodIn_app (goodIn_of _ (by decide +kernel)) ggX7_send_X5_clear
set_option maxRecDepth 20000 in
theorem ggX7_send_X4_decode : GoodIn wsX7_send wsX4_decode := goodIn_r _ [207, 208, 209, 210, 206, 211, 212, 213, 214, 215, 216, 217, 218, 219, 220, 32, 33, 11, 34, 13, 221, 9, 10, 12, 222, 37, 38, 39, 40, 223, 224, 43, 225, 226, 227, 228, 229, 230, 231, 232, 233, 234, 235, 236, 237, 238, 239, 240, 241, 242, 243, 244, 245, 246, 247, 182, 248, 249, 250, 251, 252, 253, 254, 255, 256, 257, 49, 50, 51, 258, 259, 260, 261, 262, 263, 75, 76, 61, 77, 67, 78, 79, 80, 81, 72, 73, 264, 265, 266, 267, 68, 69, 70, 71, 268, 269, 84, 270, 271, 272, 273, 118, 274, 275, 121, 276, 277, 278, 101, 279, 280, 281, 282, 112, 113, 114, 283, 126, 127, 128, 129, 130, 131, 284, 285, 286, 287, 288, 148, 149, 296, 297, 298, 299, 300, 301, 302, 313, 314, 315, 316, 317, 318, 319, 320, 294, 295, 312] (by decide +kernel) (by decide +kernel)
set_option maxRecDepth 20000 in
theorem gX7_send_X4_decode : GoodIn wsX7_send (wsV RX7 99 RX4 yX4_decode wsX4_decode) := goodIn_app (goodIn_of _ (by decide +kernel)) ggX7_send_X4_decode
set_option maxRecDepth 20000 in
theorem ggX7_setFault_X5_has : GoodIn wsX7_setFault wsX5_has := goodIn_r _ [12, 13, 14, 80, 81] (by decide +kernel) (by decide +kernel)
set_option maxRecDepth 20000 in
theorem gX7_setFault_X5_has : GoodIn wsX7_setFault (wsV RX7 105 RX5 yX5_has wsX5_has) := goodIn_app (goodIn_of _ (by decide +kernel)) ggX7_setFault_X5_has
set_option maxRecDepth 20000 in
theorem ggX7_setFault_X2_save : GoodIn wsX7_setFault wsX2_save := goodIn_r _ [19, 20, 21, 22, 23, 24, 18, 25, 26, 27, 28, 29, 30, 31, 32, 33, 34, 35, 36, 37, 38, 39, 40, 41, 42, 43, 44, 11, 45, 13, 46, 47, 48, 49, 50, 51, 52, 53, 14, 54, 55, 56, 57, 58, 59, 60, 61, 82, 83, 84, 85, 86, 87, 88, 89, 90, 73, 74, 75, 76, 77, 78, 79, 91, 80, 81] (by decide +kernel) (by decide +kernel)
set_option maxRecDepth 20000 in
theorem gX7_setFault_X2_save : GoodIn wsX7_setFault (wsV RX7 88 RX2 yX2_save wsX2_save) := goodIn_app (goodIn_of _ (by decide +kernel)) ggX7_setFault_X2_save
set_option maxRecDepth 20000 in
theorem ggX7_setFault_X5_at : GoodIn wsX7_setFault wsX5_at := goodIn_r _ [53, 13, 14, 80, 81] (by decide +kernel) (by decide +kernel)
set_option maxRecDepth 20000 in
theorem gX7_setFault_X5_at : GoodIn wsX7_setFault (wsV RX7 116 RX5 yX5_at wsX5_at) := goodIn_app (goodIn_of _ (by decide +kernel)) ggX7_setFault_X5_at
set_option maxRecDepth 20000 in
theorem ggX7_setFault_X5_set : GoodIn wsX7_setFault wsX5_set := goodIn_r _ [66, 14, 67, 9, 10, 11, 12, 13, 80, 81] (by decide +kernel) (by decide +kernel)
set_option maxRecDepth 20000 in
theorem gX7_setFault_X5_set : GoodIn wsX7_setFault (wsV RX7 119 RX5 yX5_set wsX5_set) := goodIn_app (goodIn_of _ (by decide +kernel)) ggX7_setFault_X5_set
set_option maxRecDepth 20000 in
theorem ggX7_sent_X5_size : GoodIn wsX7_sent wsX5_size := goodIn_r _ [6, 7, 20, 21] (by decide +kernel) (by decide +kernel)
set_option maxRecDepth 20000 in
theorem gX7_sent_X5_size : GoodIn wsX7_sent (wsV RX7 59 RX5 yX5_size wsX5_size) := goodIn_app (goodIn_of _ (by decide +kernel)) ggX7_sent_X5_size
set_option maxRecDepth 20000 in
theorem ggX7_received_X5_size : GoodIn wsX7_received wsX5_size := goodIn_r _ [6, 7, 20, 21] (by decide +kernel) (by decide +kernel)
set_option maxRecDepth 20000 in
theorem gX7_received_X5_size : GoodIn wsX7_received (wsV RX7 59 RX5 yX5_size wsX5_size) := goodIn_app (goodIn_of _ (by decide +kernel)) ggX7_received_X5_size
set_option maxRecDepth 20000 in
theorem ggX7_sentCode_X5_has : GoodIn wsX7_sentCode wsX5_has := goodIn_r _ [8, 9, 10, 27, 28] (by decide +kernel) (by decide +kernel)
set_option maxRecDepth 20000 in
theorem gX7_sentCode_X5_has : GoodIn wsX7_sentCode (wsV RX7 105 RX5 yX5_has wsX5_has) := goodIn_app (goodIn_of _ (by decide +kernel)) ggX7_sentCode_X5_has
set_option maxRecDepth 20000 in
theorem ggX7_sentCode_X5_at : GoodIn wsX7_sentCode wsX5_at := goodIn_r _ [14, 9, 10, 27, 28] (by decide +kernel) (by decide +kernel)
set_option maxRecDepth 20000 in
theorem gX7_sentCode_X5_at : GoodIn wsX7_sentCode (wsV RX7 116 RX5 yX5_at wsX5_at) := goodIn_app (goodIn_of _ (by decide +kernel)) ggX7_sentCode_X5_at
set_option maxRecDepth 20000 in
theorem ggX7_receivedCode_X5_has : GoodIn wsX7_receivedCode wsX5_has := goodIn_r _ [8, 9, 10, 27, 28] (by decide +kernel) (by decide +kernel)
set_option maxRecDepth 20000 in
theorem gX7_receivedCode_X5_has : GoodIn wsX7_receivedCode (wsV RX7 105 RX5 yX5_has wsX5_has) := goodIn_app (goodIn_of _ (by decide +kernel)) ggX7_receivedCode_X5_has
set_option maxRecDepth 20000 in
theorem ggX7_receivedCode_X5_at : GoodIn wsX7_receivedCode wsX5_at := goodIn_r _ [14, 9, 10, 27, 28] (by decide +kernel) (by decide +kernel)
set_option maxRecDepth 20000 in
theorem gX7_receivedCode_X5_at : GoodIn wsX7_receivedCode (wsV RX7 116 RX5 yX5_at wsX5_at) := goodIn_app (goodIn_of _ (by decide +kernel)) ggX7_receivedCode_X5_at
set_option maxRecDepth 20000 in
theorem ggX7_faults_X5_count : GoodIn wsX7_faults wsX5_count := goodIn_r _ [6, 7, 8, 9, 10, 5, 11, 12, 25, 26] (by decide +kernel) (by decide +kernel)
set_option maxRecDepth 20000 in
theorem gX7_faults_X5_count : GoodIn wsX7_faults (wsV RX7 137 RX5 yX5_count wsX5_count) := goodIn_app (goodIn_of _ (by decide +kernel)) ggX7_faults_X5_count
set_option maxRecDepth 20000 in
theorem ggX7_unshiftOnSpace_X2_save : GoodIn wsX7_unshiftOnSpace wsX2_save := goodIn_r _ [9, 10, 11, 12, 13, 14, 8, 15, 16, 17, 18, 19, 20, 21, 22, 23, 24, 25, 26, 27, 28, 29, 30, 31, 32, 33, 34, 35, 36, 37, 38, 39, 40, 41, 42, 43, 44, 45, 46, 47, 48, 49, 50, 51, 52, 53, 54, 184, 185, 186, 187, 188, 189, 190, 191, 192, 177, 178, 179, 180, 181, 182, 183, 193, 194, 195] (by decide +kernel) (by decide +kernel)
set_option maxRecDepth 20000 in
theorem gX7_unshiftOnSpace_X2_save : GoodIn wsX7_unshiftOnSpace (wsV RX7 88 RX2 yX2_save wsX2_save) := goodIn_app (goodIn_of _ (by decide +kernel)) ggX7_unshiftOnSpace_X2_save
set_option maxRecDepth 20000 in
theorem ggX7_unshiftOnSpace_X4_decode : GoodIn wsX7_unshiftOnSpace wsX4_decode := goodIn_r _ [59, 60, 61, 62, 58, 63, 64, 65, 66, 67, 68, 69, 70, 71, 72, 39, 40, 35, 41, 37, 73, 52, 53, 54, 74, 43, 44, 45, 46, 75, 76, 77, 78, 79, 80, 81, 82, 83, 84, 85, 86, 87, 88, 89, 90, 91, 92, 93, 94, 95, 96, 97, 98, 99, 100, 42, 101, 102, 103, 104, 105, 106, 107, 108, 109, 110, 48, 49, 50, 111, 112, 113, 114, 115, 116, 117, 118, 119, 120, 121, 122, 123, 124, 125, 126, 127, 128, 129, 130, 131, 132, 133, 134, 135, 136, 137, 138, 139, 140, 141, 142, 143, 144, 145, 146, 147, 148, 149, 150, 151, 152, 153, 154, 155, 156, 157, 158, 159, 160, 161, 162, 163, 164, 165, 166, 167, 168, 169, 170, 171, 177, 178, 179, 180, 181, 182, 183, 196, 197, 198, 199, 200, 201, 202, 203, 194, 195, 193] (by decide +kernel) (by decide +kernel)
