set_option maxRecDepth 20000 in
theorem ggX7_send_X7_sent : GoodIn wsX7_send wsX7_sent := goodIn_r _ [18, 5, 8, 9, 10, 11, 12, 13, 289, 290, 291, 292, 293, 296, 297, 298, 299, 300, 301, 302, 294, 295] (by decide +kernel) (by decide +kernel)
set_option maxRecDepth 20000 in
theorem gX7_send_X7_sent : GoodIn wsX7_send (wsV RX7 80 RX7 yX7_sent wsX7_sent) := goodIn_app (goodIn_of _ (by decide +kernel)) ggX7_send_X7_sent
set_option maxRecDepth 20000 in
theorem ggX7_send_X7_codesToSend : GoodIn wsX7_send wsX7_codesToSend := goodIn_r _ [22, 5, 3, 23, 24, 25, 26, 27, 28, 29, 30, 31, 32, 33, 11, 34, 13, 35, 9, 10, 12, 36, 37, 38, 39, 40, 41, 42, 43, 44, 45, 46, 47, 48, 49, 50, 51, 52, 53, 54, 55, 56, 57, 58, 59, 60, 61, 62, 63, 64, 65, 66, 67, 68, 69, 70, 71, 72, 73, 74, 75, 76, 77, 78, 79, 80, 81, 82, 83, 84, 85, 86, 87, 88, 89, 90, 91, 92, 93, 94, 95, 96, 97, 98, 99, 100, 101, 102, 103, 104, 105, 106, 107, 108, 109, 110, 111, 112, 113, 114, 115, 116, 117, 118, 119, 120, 121, 122, 123, 124, 125, 126, 127, 128, 129, 130, 131, 132, 133, 134, 135, 136, 137, 138, 139, 140, 141, 142, 143, 144, 145, 146, 147, 148, 149, 8, 289, 290, 291, 292, 293, 296, 297, 298, 299, 300, 301, 302, 294, 295] (by decide +kernel) (by decide +kernel)
set_option maxRecDepth 20000 in
theorem gX7_send_X7_codesToSend : GoodIn wsX7_send (wsV RX7 83 RX7 yX7_codesToSend wsX7_codesToSend) := goodIn_app (goodIn_of _ (by decide +kernel)) ggX7_send_X7_codesToSend
set_option maxRecDepth 20000 in
theorem ggX7_send_X2_save : GoodIn wsX7_send wsX2_save := goodIn_r _ [154, 155, 156, 157, 158, 159, 153, 160, 161, 162, 163, 164, 165, 166, 167, 168, 169, 170, 171, 172, 173, 174, 175, 176, 177, 178, 179, 11, 180, 13, 181, 32, 33, 34, 182, 37, 38, 39, 40, 183, 49, 50, 51, 184, 9, 10, 12, 303, 304, 305, 306, 307, 308, 309, 310, 311, 296, 297, 298, 299, 300, 301, 302, 312, 294, 295] (by decide +kernel) (by decide +kernel)
set_option maxRecDepth 20000 in
theorem gX7_send_X2_save : GoodIn wsX7_send (wsV RX7 88 RX2 yX2_save wsX2_save) := goodIn_app (goodIn_of _ (by decide +kernel)) ggX7_send_X2_save
set_option maxRecDepth 20000 in
theorem ggX7_send_X7_received : GoodIn wsX7_send wsX7_received := goodIn_r _ [188, 5, 8, 9, 10, 11, 12, 13, 289, 290, 291, 292, 293, 296, 297, 298, 299, 300, 301, 302, 294, 295] (by decide +kernel) (by decide +kernel)
set_option maxRecDepth 20000 in
theorem gX7_send_X7_received : GoodIn wsX7_send (wsV RX7 92 RX7 yX7_received wsX7_received) := goodIn_app (goodIn_of _ (by decide +kernel)) ggX7_send_X7_received
set_option maxRecDepth 20000 in
theorem ggX7_send_X3_transmit : GoodIn wsX7_send wsX3_transmit := goodIn_r _ [192, 193, 194, 24, 25, 26, 27, 28, 29, 30, 31, 32, 33, 11, 34, 13, 35, 9, 10, 12, 36, 37, 38, 39, 40, 41, 42, 43, 44, 45, 46, 47, 48, 49, 50, 51, 52, 53, 54, 55, 56, 57, 58, 59, 60, 61, 62, 63, 64, 65, 66, 67, 68, 69, 70, 71, 72, 73, 74, 75, 76, 77, 78, 79, 80, 81, 82, 83, 84, 85, 86, 87, 88, 89, 90, 91, 92, 93, 94, 95, 96, 97, 98, 99, 100, 101, 102, 103, 104, 105, 106, 107, 108, 109, 110, 111, 112, 113, 114, 115, 116, 117, 118, 119, 120, 121, 122, 123, 124, 125, 126, 127, 128, 129, 130, 131, 132, 133, 134, 135, 136, 137, 138, 139, 140, 141, 142, 143, 144, 145, 146, 147, 148, 149, 195, 196, 197, 198, 199, 200, 201, 296, 297, 298, 299, 300, 301, 302, 294, 295] (by decide +kernel) (by decide +kernel)
set_option maxRecDepth 20000 in
theorem gX7_send_X3_transmit : GoodIn wsX7_send (wsV RX7 95 RX3 yX3_transmit wsX3_transmit) := goodIn_app (goodIn_of _ (by decide +kernel)) ggX7_send_X3_transmit
set_option maxRecDepth 20000 in
theorem ggX7_send_X5_clear : GoodIn wsX7_send wsX5_clear := goodIn_r _ [34, 13, 294, 295] (by decide +kernel) (by decide +kernel)
set_option maxRecDepth 20000 in
theorem gX7_send_X5_clear : GoodIn wsX7_send (wsV RX7 71 RX5 yX5_clear wsX5_clear) := goodIn_app (goodIn_of _ (by decide +kernel)) ggX7_send_X5_clear
set_option maxRecDepth 20000 in
theorem ggX7_send_X4_decode : GoodIn wsX7_send wsX4_decode := goodIn_r _ [207, 208, 209, 210, 206, 211, 212, 213, 214, 215, 216, 217, 218, 219, 220, 32, 33, 11, 34, 13, 221, 9, 10, 12, 222, 37, 38, 39, 40, 223, 224, 43, 225, 226, 227, 228, 229, 230, 231, 232, 233, 234, 235, 236, 237, 238, 239, 240, 241, 242, 243, 244, 245, 246, 247, 182, 248, 249, 250, 251, 252, 253, 254, 255, 256, 257, 49, 50, 51, 258, 259, 260, 261, 262, 263, 75, 76, 61, 77, 67, 78, 79, 80, 81, 72, 73, 264, 265, 266, 267, 68, 69, 70, 71, 268, 269, 84, 270, 271, 272, 273, 118, 274, 275, 121, 276, 277, 278, 101, 279, 280, 281, 282, 112, 113, 114, 283, 126, 127, 128, 129, 130, 131, 284, 285, 286, 287, 288, 148, 149, 296, 297, 298, 299, 300, 301, 302, 313, 314, 315, 316, 317, 318, 319, 320, 294, 295, 312] (by decide +kernel) (by decide +kernel)
set_option maxRecDepth 20000 in
theorem gX7_send_X4_decode : GoodIn wsX7_send (wsV RX7 99 RX4 yX4_decode wsX4_decode) := goodIn_app (goodIn_of _ (by decide +kernel)) ggX7_send_X4_decode
set_option maxRecDepth 20000 in
theorem ggX7_setFault_X5_has : GoodIn wsX7_setFault wsX5_has := goodIn_r _ [12, 13, 14, 80, 81] (by decide +kernel) (by decide +kernel)
set_option maxRecDepth 20000 in
theorem gX7_setFault_X5_has : GoodIn wsX7_setFault (wsV RX7 105 RX5 yX5_has wsX5_has) := goodIn_app (goodIn_of _ (by decide +kernel)) ggX7_setFault_X5_has
set_option maxRecDepth 20000 in
theorem ggX7_setFault_X2_save : GoodIn wsX7_setFault wsX2_save := goodIn_r _ [19, 20, 21, 22, 23, 24, 18, 25, 26, 27, 28, 29, 30, 31, 32, 33, 34, 35, 36, 37, 38, 39, 40, 41, 42, 43, 44, 11, 45, 13, 46, 47, 48, 49, 50, 51, 52, 53, 14, 54, 55, 56, 57, 58, 59, 60, 61, 82, 83, 84, 85, 86, 87, 88, 89, 90, 73, 74, 75, 76, 77, 78, 79, 91, 80, 81] (by decide +kernel) (by decide +kernel)
set_option maxRecDepth 20000 in
theorem gX7_setFault_X2_save : GoodIn wsX7_setFault (wsV RX7 88 RX2 yX2_save wsX2_save) := goodIn_app (goodIn_of _ (by decide +kernel)) ggX7_setFault_X2_save
set_option maxRecDepth 20000 in
theorem ggX7_setFault_X5_at : GoodIn wsX7_setFault wsX5_at := goodIn_r _ [53, 13, 14, 80, 81] (by decide +kernel) (by decide +kernel)
set_option maxRecDepth 20000 in
theorem gX7_setFault_X5_at : GoodIn wsX7_setFault (wsV RX7 116 RX5 yX5_at wsX5_at) := goodIn_app (goodIn_of _ (by decide +kernel)) ggX7_setFault_X5_at
set_option maxRecDepth 20000 in
theorem ggX7_setFault_X5_set : GoodIn wsX7_setFault wsX5_set := goodIn_r _ [66, 14, 67, 9, 10, 11, 12, 13, 80, 81] (by decide +kernel) (by decide +kernel)
set_option maxRecDepth 20000 in
theorem gX7_setFault_X5_set : GoodIn wsX7_setFault (wsV RX7 119 RX5 yX5_set wsX5_set) := goodIn_app (goodIn_of _ (by decide +kernel)) ggX7_setFault_X5_set
set_option maxRecDepth 20000 in
theorem ggX7_sent_X5_size : GoodIn wsX7_sent wsX5_size := goodIn_r _ [6, 7, 20, 21] (by decide +kernel) (by decide +kernel)
set_option maxRecDepth 20000 in
theorem gX7_sent_X5_size : GoodIn wsX7_sent (wsV RX7 59 RX5 yX5_size wsX5_size) := goodIn_app (goodIn_of _ (by decide +kernel)) ggX7_sent_X5_size
set_option maxRecDepth 20000 in
theorem ggX7_received_X5_size : GoodIn wsX7_received wsX5_size := goodIn_r _ [6, 7, 20, 21] (by decide +kernel) (by decide +kernel)
set_option maxRecDepth 20000 in
theorem gX7_received_X5_size : GoodIn wsX7_received (wsV RX7 59 RX5 yX5_size wsX5_size) := goodIn_app (goodIn_of _ (by decide +kernel)) ggX7_received_X5_size
set_option maxRecDepth 20000 in
theorem ggX7_sentCode_X5_has : GoodIn wsX7_sentCode wsX5_has := goodIn_r _ [8, 9, 10, 27, 28] (by decide +kernel) (by decide +kernel)
set_option maxRecDepth 20000 in
theorem gX7_sentCode_X5_has : GoodIn wsX7_sentCode (wsV RX7 105 RX5 yX5_has wsX5_has) := goodIn_app (goodIn_of _ (by decide +kernel)) ggX7_sentCode_X5_has
set_option maxRecDepth 20000 in
theorem ggX7_sentCode_X5_at : GoodIn wsX7_sentCode wsX5_at := goodIn_r _ [14, 9, 10, 27, 28] (by decide +kernel) (by decide +kernel)
set_option maxRecDepth 20000 in
theorem gX7_sentCode_X5_at : GoodIn wsX7_sentCode (wsV RX7 116 RX5 yX5_at wsX5_at) := goodIn_app (goodIn_of _ (by decide +kernel)) ggX7_sentCode_X5_at
set_option maxRecDepth 20000 in
theorem ggX7_receivedCode_X5_has : GoodIn wsX7_receivedCode wsX5_has := goodIn_r _ [8, 9, 10, 27, 28] (by decide +kernel) (by decide +kernel)
set_option maxRecDepth 20000 in
theorem gX7_receivedCode_X5_has : GoodIn wsX7_receivedCode (wsV RX7 105 RX5 yX5_has wsX5_has) := goodIn_app (goodIn_of _ (by decide +kernel)) ggX7_receivedCode_X5_has
set_option maxRecDepth 20000 in
theorem ggX7_receivedCode_X5_at : GoodIn wsX7_receivedCode wsX5_at := goodIn_r _ [14, 9, 10, 27, 28] (by decide +kernel) (by decide +kernel)
set_option maxRecDepth 20000 in
theorem gX7_receivedCode_X5_at : GoodIn wsX7_receivedCode (wsV RX7 116 RX5 yX5_at wsX5_at) := goodIn_app (goodIn_of _ (by decide +kernel)) ggX7_receivedCode_X5_at
set_option maxRecDepth 20000 in
theorem ggX7_faults_X5_count : GoodIn wsX7_faults wsX5_count := goodIn_r _ [6, 7, 8, 9, 10, 5, 11, 12, 25, 26] (by decide +kernel) (by decide +kernel)
set_option maxRecDepth 20000 in
theorem gX7_faults_X5_count : GoodIn wsX7_faults (wsV RX7 137 RX5 yX5_count wsX5_count) := goodIn_app (goodIn_of _ (by decide +kernel)) ggX7_faults_X5_count
set_option maxRecDepth 20000 in
theorem ggX7_unshiftOnSpace_X2_save : GoodIn wsX7_unshiftOnSpace wsX2_save := goodIn_r _ [9, 10, 11, 12, 13, 14, 8, 15, 16, 17, 18, 19, 20, 21, 22, 23, 24, 25, 26, 27, 28, 29, 30, 31, 32, 33, 34, 35, 36, 37, 38, 39, 40, 41, 42, 43, 44, 45, 46, 47, 48, 49, 50, 51, 52, 53, 54, 184, 185, 186, 187, 188, 189, 190, 191, 192, 177, 178, 179, 180, 181, 182, 183, 193, 194, 195] (by decide +kernel) (by decide +kernel)
set_option maxRecDepth 20000 in
theorem gX7_unshiftOnSpace_X2_save : GoodIn wsX7_unshiftOnSpace (wsV RX7 88 RX2 yX2_save wsX2_save) := goodIn_app (goodIn_of _ (by decide +kernel)) ggX7_unshiftOnSpace_X2_save
set_option maxRecDepth 20000 in
theorem ggX7_unshiftOnSpace_X4_decode : GoodIn wsX7_unshiftOnSpace wsX4_decode := goodIn_r _ [59, 60, 61, 62, 58, 63, 64, 65, 66, 67, 68, 69, 70, 71, 72, 39, 40, 35, 41, 37, 73, 52, 53, 54, 74, 43, 44, 45, 46, 75, 76, 77, 78, 79, 80, 81, 82, 83, 84, 85, 86, 87, 88, 89, 90, 91, 92, 93, 94, 95, 96, 97, 98, 99, 100, 42, 101, 102, 103, 104, 105, 106, 107, 108, 109, 110, 48, 49, 50, 111, 112, 113, 114, 115, 116, 117, 118, 119, 120, 121, 122, 123, 124, 125, 126, 127, 128, 129, 130, 131, 132, 133, 134, 135, 136, 137, 138, 139, 140, 141, 142, 143, 144, 145, 146, 147, 148, 149, 150, 151, 152, 153, 154, 155, 156, 157, 158, 159, 160, 161, 162, 163, 164, 165, 166, 167, 168, 169, 170, 171, 177, 178, 179, 180, 181, 182, 183, 196, 197, 198, 199, 200, 201, 202, 203, 194, 195, 193] (by decide +kernel) (by decide +kernel)
set_option maxRecDepth 20000 in
theorem gX7_unshiftOnSpace_X4_decode : GoodIn wsX7_unshiftOnSpace (wsV RX7 99 RX4 yX4_decode wsX4_decode) := goodIn_app (goodIn_of _ (by decide +kernel)) ggX7_unshiftOnSpace_X4_decode
set_option maxRecDepth 20000 in
theorem ggX7_learn_X1_wordOfCharacters : GoodIn wsX7_learn wsX1_wordOfCharacters := goodIn_r _ [13, 14, 15, 16, 17, 18, 19, 20, 21, 22, 23, 24, 25, 26, 27, 28, 29, 30, 31, 32, 33, 34, 35, 36, 37, 38, 39, 40, 41, 42, 43, 44, 45, 46, 47, 48, 49, 50, 51, 52, 53, 54, 55, 56, 57, 58, 59, 60, 61, 62, 63, 64, 65, 66, 67, 68, 69, 70, 71, 72, 73, 74, 75, 76, 77, 78, 79, 80, 81, 82, 83, 84, 85, 86, 87, 88, 89, 90, 91, 92, 93, 94, 95, 96, 97, 98, 99, 100, 101, 102, 103, 104, 105, 106, 107, 108, 109, 110, 111, 112, 113, 114, 115, 116, 117, 118, 119, 120, 121, 122, 123, 124, 267, 268] (by decide +kernel) (by decide +kernel)
set_option maxRecDepth 20000 in
theorem gX7_learn_X1_wordOfCharacters : GoodIn wsX7_learn (va_wsS RX7 144 yX1_wordOfCharacters wsX1_wordOfCharacters) := goodIn_app (goodIn_of _ (by decide +kernel)) ggX7_learn_X1_wordOfCharacters
set_option maxRecDepth 20000 in
theorem ggX7_learn_X5_find : GoodIn wsX7_learn wsX5_find := goodIn_r _ [128, 19, 129, 21, 22, 17, 23, 24, 267, 268] (by decide +kernel) (by decide +kernel)
set_option maxRecDepth 20000 in
theorem gX7_learn_X5_find : GoodIn wsX7_learn (wsV RX7 153 RX5 yX5_find wsX5_find) := goodIn_app (goodIn_of _ (by decide +kernel)) ggX7_learn_X5_find
set_option maxRecDepth 20000 in
theorem ggX7_learn_X7_words : GoodIn wsX7_learn wsX7_words := goodIn_r _ [134, 6, 135, 15, 16, 17, 18, 19, 261, 262, 263, 264, 265, 266, 267, 268] (by decide +kernel) (by decide +kernel)
set_option maxRecDepth 20000 in
theorem gX7_learn_X7_words : GoodIn wsX7_learn (wsV RX7 156 RX7 yX7_words wsX7_words) := goodIn_app (goodIn_of _ (by decide +kernel)) ggX7_learn_X7_words
set_option maxRecDepth 20000 in
theorem ggX7_learn_X2_save : GoodIn wsX7_learn wsX2_save := goodIn_r _ [140, 141, 142, 143, 144, 145, 139, 146, 147, 148, 149, 150, 151, 152, 153, 154, 155, 156, 157, 158, 159, 160, 161, 162, 163, 164, 165, 17, 166, 19, 167, 168, 169, 170, 129, 21, 22, 23, 24, 171, 172, 173, 174, 175, 15, 16, 18, 269, 270, 271, 272, 273, 274, 275, 276, 277, 278, 279, 280, 281, 282, 283, 284, 266, 267, 268] (by decide +kernel) (by decide +kernel)
set_option maxRecDepth 20000 in
theorem gX7_learn_X2_save : GoodIn wsX7_learn (wsV RX7 88 RX2 yX2_save wsX2_save) := goodIn_app (goodIn_of _ (by decide +kernel)) ggX7_learn_X2_save
set_option maxRecDepth 20000 in
theorem ggX7_learn_X5_add : GoodIn wsX7_learn wsX5_add := goodIn_r _ [174, 19, 24, 267, 268] (by decide +kernel) (by decide +kernel)
set_option maxRecDepth 20000 in
theorem gX7_learn_X5_add : GoodIn wsX7_learn (wsV RX7 68 RX5 yX5_add wsX5_add) := goodIn_app (goodIn_of _ (by decide +kernel)) ggX7_learn_X5_add
set_option maxRecDepth 20000 in
theorem ggX7_learn_X5_clear : GoodIn wsX7_learn wsX5_clear := goodIn_r _ [170, 19, 267, 268] (by decide +kernel) (by decide +kernel)
set_option maxRecDepth 20000 in
theorem gX7_learn_X5_clear : GoodIn wsX7_learn (wsV RX7 71 RX5 yX5_clear wsX5_clear) := goodIn_app (goodIn_of _ (by decide +kernel)) ggX7_learn_X5_clear
set_option maxRecDepth 20000 in
theorem ggX7_learn_X4_decode : GoodIn wsX7_learn wsX4_decode := goodIn_r _ [182, 183, 184, 185, 181, 186, 187, 188, 189, 190, 191, 192, 193, 194, 195, 168, 169, 17, 170, 19, 196, 15, 16, 18, 197, 21, 22, 23, 24, 198, 199, 27, 200, 201, 202, 203, 204, 205, 206, 207, 12, 208, 209, 210, 211, 212, 213, 214, 215, 216, 20, 217, 126, 127, 128, 129, 218, 219, 220, 221, 222, 223, 224, 225, 226, 227, 172, 173, 174, 228, 229, 230, 231, 232, 233, 53, 54, 39, 55, 45, 56, 57, 58, 59, 50, 51, 234, 235, 236, 237, 46, 47, 48, 49, 238, 239, 62, 240, 241, 242, 243, 96, 244, 245, 99, 246, 247, 248, 79, 249, 250, 251, 252, 90, 91, 92, 253, 104, 105, 106, 107, 108, 109, 254, 255, 256, 257, 258, 259, 260, 278, 279, 280, 281, 282, 283, 284, 285, 286, 287, 288, 289, 290, 291, 292, 267, 268, 266] (by decide +kernel) (by decide +kernel)
set_option maxRecDepth 20000 in
theorem gX7_learn_X4_decode : GoodIn wsX7_learn (wsV RX7 99 RX4 yX4_decode wsX4_decode) := goodIn_app (goodIn_of _ (by decide +kernel)) ggX7_learn_X4_decode
set_option maxRecDepth 20000 in
theorem ggX7_forget_X5_has : GoodIn wsX7_forget wsX5_has := goodIn_r _ [11, 12, 13, 201, 202] (by decide +kernel) (by decide +kernel)
set_option maxRecDepth 20000 in
theorem gX7_forget_X5_has : GoodIn wsX7_forget (wsV RX7 105 RX5 yX5_has wsX5_has) := goodIn_app (goodIn_of _ (by decide +kernel)) ggX7_forget_X5_has
set_option maxRecDepth 20000 in
theorem ggX7_forget_X2_save : GoodIn wsX7_forget wsX2_save := goodIn_r _ [18, 19, 20, 21, 22, 23, 17, 24, 25, 26, 27, 28, 29, 30, 31, 32, 33, 34, 35, 36, 37, 38, 39, 40, 41, 42, 43, 10, 44, 12, 45, 46, 47, 48, 49, 50, 51, 52, 13, 53, 54, 55, 56, 57, 58, 59, 60, 203, 204, 205, 206, 207, 208, 209, 210, 211, 212, 213, 214, 215, 216, 217, 218, 200, 201, 202] (by decide +kernel) (by decide +kernel)
set_option maxRecDepth 20000 in
theorem gX7_forget_X2_save : GoodIn wsX7_forget (wsV RX7 88 RX2 yX2_save wsX2_save) := goodIn_app (goodIn_of _ (by decide +kernel)) ggX7_forget_X2_save
set_option maxRecDepth 20000 in
theorem ggX7_forget_X1_lengthOf : GoodIn wsX7_forget wsX1_lengthOf := goodIn_r _ [65, 66, 67, 68, 64, 69, 70, 71, 50, 51, 10, 52, 12, 13, 200, 201, 202] (by decide +kernel) (by decide +kernel)
set_option maxRecDepth 20000 in
theorem gX7_forget_X1_lengthOf : GoodIn wsX7_forget (wsV RX7 163 RX1 yX1_lengthOf wsX1_lengthOf) := goodIn_app (goodIn_of _ (by decide +kernel)) ggX7_forget_X1_lengthOf
set_option maxRecDepth 20000 in
theorem ggX7_forget_X5_remove : GoodIn wsX7_forget wsX5_remove := goodIn_r _ [75, 12, 76, 8, 9, 10, 11, 13, 49, 50, 51, 52, 77, 78, 79, 80, 201, 202] (by decide +kernel) (by decide +kernel)
set_option maxRecDepth 20000 in
theorem gX7_forget_X5_remove : GoodIn wsX7_forget (wsV RX7 166 RX5 yX5_remove wsX5_remove) := goodIn_app (goodIn_of _ (by decide +kernel)) ggX7_forget_X5_remove
set_option maxRecDepth 20000 in
theorem ggX7_forget_X4_decode : GoodIn wsX7_forget wsX4_decode := goodIn_r _ [85, 86, 87, 88, 84, 89, 90, 91, 92, 93, 94, 95, 96, 97, 98, 46, 47, 10, 48, 12, 99, 58, 59, 60, 100, 50, 51, 52, 13, 101, 102, 103, 104, 105, 106, 107, 108, 109, 110, 111, 64, 112, 113, 114, 115, 116, 70, 117, 118, 119, 71, 120, 121, 122, 123, 49, 124, 125, 126, 127, 128, 129, 130, 131, 132, 133, 54, 55, 56, 134, 135, 136, 137, 138, 139, 140, 141, 142, 143, 144, 145, 146, 147, 148, 149, 150, 151, 152, 153, 154, 155, 156, 157, 158, 159, 160, 161, 162, 163, 164, 165, 166, 167, 168, 169, 170, 171, 172, 173, 174, 175, 176, 177, 178, 179, 180, 181, 182, 183, 184, 185, 186, 187, 188, 189, 190, 191, 192, 193, 194, 212, 213, 214, 215, 216, 217, 218, 219, 220, 221, 222, 223, 224, 225, 226, 201, 202, 200] (by decide +kernel) (by decide +kernel)
set_option maxRecDepth 20000 in
theorem gX7_forget_X4_decode : GoodIn wsX7_forget (wsV RX7 99 RX4 yX4_decode wsX4_decode) := goodIn_app (goodIn_of _ (by decide +kernel)) ggX7_forget_X4_decode
set_option maxRecDepth 20000 in
theorem ggX7_words_X5_size : GoodIn wsX7_words wsX5_size := goodIn_r _ [6, 7, 14, 15] (by decide +kernel) (by decide +kernel)
set_option maxRecDepth 20000 in
theorem gX7_words_X5_size : GoodIn wsX7_words (wsV RX7 59 RX5 yX5_size wsX5_size) := goodIn_app (goodIn_of _ (by decide +kernel)) ggX7_words_X5_size
set_option maxRecDepth 20000 in
theorem ggX7_wordLetter_X5_has : GoodIn wsX7_wordLetter wsX5_has := goodIn_r _ [8, 9, 10, 83, 84] (by decide +kernel) (by decide +kernel)
set_option maxRecDepth 20000 in
theorem gX7_wordLetter_X5_has : GoodIn wsX7_wordLetter (wsV RX7 105 RX5 yX5_has wsX5_has) := goodIn_app (goodIn_of _ (by decide +kernel)) ggX7_wordLetter_X5_has
set_option maxRecDepth 20000 in
theorem ggX7_wordLetter_X1_codeOfLetter : GoodIn wsX7_wordLetter wsX1_codeOfLetter := goodIn_r _ [15, 16, 17, 18, 19, 7, 20, 9, 10, 82, 83, 84] (by decide +kernel) (by decide +kernel)
set_option maxRecDepth 20000 in
theorem gX7_wordLetter_X1_codeOfLetter : GoodIn wsX7_wordLetter (wsV RX7 173 RX1 yX1_codeOfLetter wsX1_codeOfLetter) := goodIn_app (goodIn_of _ (by decide +kernel)) ggX7_wordLetter_X1_codeOfLetter
set_option maxRecDepth 20000 in
theorem ggX7_wordLetter_X0_characterOf : GoodIn wsX7_wordLetter wsX0_characterOf := goodIn_r _ [24, 25, 26, 23, 27, 28, 29, 30, 31, 32, 33, 34, 35, 36, 37, 38, 39, 40, 41, 42, 43, 44, 45, 46, 47, 48, 49, 50, 51, 52, 53, 54, 55, 56, 57, 58, 59, 60, 61, 62, 63, 64, 65, 66, 67, 68, 69, 70, 71, 72, 73, 74, 75, 76] (by decide +kernel) (by decide +kernel)
set_option maxRecDepth 20000 in
theorem gX7_wordLetter_X0_characterOf : GoodIn wsX7_wordLetter (va_wsS RX7 177 yX0_characterOf wsX0_characterOf) := goodIn_app (goodIn_of _ (by decide +kernel)) ggX7_wordLetter_X0_characterOf
set_option maxRecDepth 20000 in
theorem ggX7_uses_X5_has : GoodIn wsX7_uses wsX5_has := goodIn_r _ [9, 10, 11, 34, 35] (by decide +kernel) (by decide +kernel)
set_option maxRecDepth 20000 in
theorem gX7_uses_X5_has : GoodIn wsX7_uses (wsV RX7 105 RX5 yX5_has wsX5_has) := goodIn_app (goodIn_of _ (by decide +kernel)) ggX7_uses_X5_has
set_option maxRecDepth 20000 in
theorem ggX7_uses_X5_count : GoodIn wsX7_uses wsX5_count := goodIn_r _ [15, 10, 16, 17, 18, 8, 19, 11, 34, 35] (by decide +kernel) (by decide +kernel)
set_option maxRecDepth 20000 in
theorem gX7_uses_X5_count : GoodIn wsX7_uses (wsV RX7 137 RX5 yX5_count wsX5_count) := goodIn_app (goodIn_of _ (by decide +kernel)) ggX7_uses_X5_count
set_option maxRecDepth 20000 in
theorem ggX7_printedLength_X5_size : GoodIn wsX7_printedLength wsX5_size := goodIn_r _ [6, 7, 21, 22] (by decide +kernel) (by decide +kernel)
set_option maxRecDepth 20000 in
theorem gX7_printedLength_X5_size : GoodIn wsX7_printedLength (wsV RX7 59 RX5 yX5_size wsX5_size) := goodIn_app (goodIn_of _ (by decide +kernel)) ggX7_printedLength_X5_size
set_option maxRecDepth 20000 in
theorem ggX7_printed_X5_has : GoodIn wsX7_printed wsX5_has := goodIn_r _ [8, 9, 10, 28, 29] (by decide +kernel) (by decide +kernel)
set_option maxRecDepth 20000 in
theorem gX7_printed_X5_has : GoodIn wsX7_printed (wsV RX7 105 RX5 yX5_has wsX5_has) := goodIn_app (goodIn_of _ (by decide +kernel)) ggX7_printed_X5_has
set_option maxRecDepth 20000 in
theorem ggX7_printed_X5_at : GoodIn wsX7_printed wsX5_at := goodIn_r _ [14, 9, 10, 28, 29] (by decide +kernel) (by decide +kernel)
