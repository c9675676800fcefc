set_option maxRecDepth 20000 in
theorem gL_acts_L_append : GoodIn wsL_acts (va_wsS RL 83 yL_append wsL_append) := goodIn_app (goodIn_of _ (by decide +kernel)) ggL_acts_L_append
set_option maxRecDepth 20000 in
theorem ggL_acts_L_learn : GoodIn wsL_acts wsL_learn := goodIn_ca (goodIn_ca (goodIn_r _ [291, 182, 211, 292, 293, 294, 4, 295, 189, 190, 216, 217, 205, 8, 6, 7, 9, 296, 297, 91, 298, 299, 57, 58, 40, 59, 42, 101, 48, 49, 50, 51, 300, 222, 82, 223, 301, 219, 220, 221, 224, 225, 226, 227, 228, 229, 124, 230, 231, 232, 233, 234, 126, 137, 138, 139, 140, 131, 132, 235, 122, 123, 125, 127, 128, 129, 130, 236, 237, 143, 238, 239, 240, 241, 242, 243, 244, 245, 246, 247, 248, 249, 250, 251, 252, 253, 155, 254, 255, 256, 257, 258, 259, 260, 261, 262, 263, 160, 161, 162, 264, 265, 266, 148, 267, 268, 151, 269, 270, 271, 272, 164, 165, 166, 167, 168, 169, 273, 274, 275, 276, 277, 278, 279, 280, 281, 282, 283, 284, 285, 286, 287, 302, 103, 104, 105, 47, 303, 304, 305, 306, 206, 10, 11, 12, 13, 14, 15, 16, 17, 18, 19, 20, 21, 22, 23, 24, 25, 26, 27, 28, 29, 30, 31, 32, 33, 34, 35, 36, 37, 38, 39, 41, 43, 44, 45, 46, 52, 53, 54, 55, 56, 288, 207, 60, 61, 62, 63, 64, 65, 66, 67, 68, 69, 70, 71, 72, 73, 74, 75, 76, 77, 78, 79, 80, 81, 83, 84, 85, 86, 87, 88, 89, 90, 92, 93, 94, 95, 96, 97, 98, 99, 100, 102, 106, 107, 108, 109, 110, 111, 112, 113, 114, 115, 116, 117, 118, 119, 120, 121, 133, 134, 135, 136, 141, 142, 144, 145, 146, 147, 149, 150, 152, 153, 154, 156, 157, 158, 159, 163, 170, 171, 172, 173, 174, 175, 176, 395, 396, 397, 398, 399, 416, 417, 418, 407, 408, 409, 410, 411, 412, 413, 414, 415, 400, 401, 402, 403, 404, 405, 406, 419, 420, 421, 422, 423, 424, 425, 426] (by decide +kernel) (by decide +kernel)) (goodIn_sub (fun _ h => List.mem_cons_of_mem _ (List.mem_append_left _ (List.mem_append_right _ h))) (by decide +kernel))) (goodIn_sub (fun _ h => List.mem_cons_of_mem _ (List.mem_append_right _ h)) (by decide +kernel))
set_option maxRecDepth 20000 in
theorem gL_acts_L_learn : GoodIn wsL_acts (va_wsS RL 86 yL_learn wsL_learn) := goodIn_app (goodIn_of _ (by decide +kernel)) ggL_acts_L_learn
set_option maxRecDepth 20000 in
theorem ggL_acts_L_forget : GoodIn wsL_acts wsL_forget := goodIn_ca (goodIn_r _ [309, 181, 310, 311, 312, 4, 313, 187, 188, 8, 6, 7, 9, 191, 192, 193, 40, 194, 42, 51, 10, 11, 12, 13, 14, 15, 16, 17, 18, 19, 20, 21, 22, 23, 24, 25, 26, 27, 28, 29, 30, 31, 32, 33, 34, 35, 36, 37, 38, 39, 41, 43, 44, 45, 46, 47, 48, 49, 50, 52, 53, 54, 55, 56, 57, 58, 59, 314, 315, 316, 91, 317, 318, 319, 320, 321, 97, 101, 322, 323, 324, 325, 200, 326, 197, 198, 199, 60, 61, 62, 63, 64, 65, 66, 67, 68, 69, 70, 71, 72, 73, 74, 75, 76, 77, 78, 79, 80, 81, 82, 83, 84, 85, 86, 87, 88, 89, 90, 92, 93, 94, 95, 96, 98, 99, 100, 102, 103, 104, 105, 106, 107, 108, 109, 110, 111, 112, 113, 114, 115, 116, 117, 118, 119, 120, 121, 122, 123, 124, 125, 126, 127, 128, 129, 130, 131, 132, 133, 134, 135, 136, 137, 138, 139, 140, 141, 142, 143, 144, 145, 146, 147, 148, 149, 150, 151, 152, 153, 154, 155, 156, 157, 158, 159, 160, 161, 162, 163, 164, 165, 166, 167, 168, 169, 170, 171, 172, 173, 174, 175, 176, 395, 396, 397, 398, 399, 416, 417, 418, 407, 408, 409, 410, 411, 412, 413, 414, 415, 400, 401, 402, 403, 404, 405, 406, 419, 420, 421, 422, 423, 424, 425, 426] (by decide +kernel) (by decide +kernel)) (goodIn_sub (fun _ h => List.mem_cons_of_mem _ (List.mem_append_left _ (List.mem_append_left _ (List.mem_append_right _ h)))) (by decide +kernel))
set_option maxRecDepth 20000 in
theorem gL_acts_L_forget : GoodIn wsL_acts (va_wsS RL 89 yL_forget wsL_forget) := goodIn_app (goodIn_of _ (by decide +kernel)) ggL_acts_L_forget
set_option maxRecDepth 20000 in
theorem ggL_acts_L_undo : GoodIn wsL_acts wsL_undo := goodIn_ca (goodIn_r _ [329, 211, 330, 331, 332, 4, 333, 216, 217, 6, 7, 8, 9, 334, 335, 336, 13, 337, 15, 21, 22, 23, 24, 16, 338, 339, 340, 28, 341, 30, 31, 32, 33, 34, 35, 36, 37, 38, 39, 40, 41, 42, 43, 44, 45, 46, 47, 48, 49, 50, 51, 52, 53, 54, 55, 342, 343, 344, 345, 60, 61, 62, 63, 64, 65, 66, 67, 68, 69, 70, 71, 72, 73, 74, 75, 76, 77, 78, 57, 58, 59, 79, 80, 81, 82, 83, 84, 85, 86, 87, 88, 89, 90, 91, 92, 93, 94, 95, 96, 97, 98, 99, 100, 101, 102, 103, 104, 105, 106, 107, 108, 109, 110, 111, 112, 113, 114, 115, 116, 117, 118, 119, 120, 121, 122, 123, 124, 125, 126, 127, 128, 129, 130, 131, 132, 133, 134, 135, 136, 137, 138, 139, 140, 141, 142, 143, 144, 145, 146, 147, 148, 149, 150, 151, 152, 153, 154, 155, 156, 157, 158, 159, 160, 161, 162, 163, 164, 165, 166, 167, 168, 169, 170, 171, 172, 173, 174, 175, 176, 395, 396, 397, 398, 399, 407, 408, 400, 401, 402, 403, 404, 405, 406, 409, 410, 411, 412, 413, 414, 415, 416, 417, 418, 419, 420, 421, 422, 423, 424, 425, 426] (by decide +kernel) (by decide +kernel)) (goodIn_sub (fun _ h => List.mem_cons_of_mem _ (List.mem_append_right _ h)) (by decide +kernel))
set_option maxRecDepth 20000 in
theorem gL_acts_L_undo : GoodIn wsL_acts (va_wsS RL 91 yL_undo wsL_undo) := goodIn_app (goodIn_of _ (by decide +kernel)) ggL_acts_L_undo
set_option maxRecDepth 20000 in
theorem ggL_acts_L_send : GoodIn wsL_acts wsL_send := goodIn_ca (goodIn_r _ [348, 211, 349, 350, 351, 4, 352, 216, 217, 205, 6, 7, 8, 9, 206, 57, 58, 40, 59, 42, 353, 354, 355, 356, 357, 358, 359, 360, 361, 362, 363, 364, 365, 366, 367, 368, 369, 44, 45, 46, 370, 371, 48, 49, 50, 51, 372, 373, 82, 374, 221, 222, 223, 375, 53, 54, 55, 376, 219, 220, 224, 225, 226, 227, 228, 229, 124, 230, 231, 232, 233, 234, 126, 137, 138, 139, 140, 131, 132, 235, 122, 123, 125, 127, 128, 129, 130, 236, 237, 143, 238, 239, 240, 241, 242, 243, 244, 245, 246, 247, 248, 249, 250, 251, 252, 253, 155, 254, 255, 256, 257, 258, 259, 260, 261, 262, 263, 160, 161, 162, 264, 265, 266, 148, 267, 268, 151, 269, 270, 271, 272, 164, 165, 166, 167, 168, 169, 273, 274, 275, 276, 277, 278, 279, 280, 281, 282, 283, 284, 285, 286, 287, 377, 175, 176, 10, 11, 12, 13, 14, 15, 16, 17, 18, 19, 20, 21, 22, 23, 24, 25, 26, 27, 28, 29, 30, 31, 32, 33, 34, 35, 36, 37, 38, 39, 41, 43, 47, 52, 56, 378, 379, 380, 381, 382, 383, 384, 385, 386, 387, 388, 389, 390, 391, 392, 393, 394, 207, 60, 61, 62, 63, 64, 65, 66, 67, 68, 69, 70, 71, 72, 73, 74, 75, 76, 77, 78, 79, 80, 81, 83, 84, 85, 86, 87, 88, 89, 90, 91, 92, 93, 94, 95, 96, 97, 98, 99, 100, 101, 102, 103, 104, 105, 106, 107, 108, 109, 110, 111, 112, 113, 114, 115, 116, 117, 118, 119, 120, 121, 133, 134, 135, 136, 141, 142, 144, 145, 146, 147, 149, 150, 152, 153, 154, 156, 157, 158, 159, 163, 170, 171, 172, 173, 174, 395, 396, 397, 398, 399, 417, 418, 400, 401, 402, 403, 404, 405, 406, 407, 408, 409, 410, 411, 412, 413, 414, 415, 416, 419, 420, 421, 422, 423, 424, 425, 426] (by decide +kernel) (by decide +kernel)) (goodIn_sub (fun _ h => List.mem_cons_of_mem _ (List.mem_append_right _ h)) (by decide +kernel))
set_option maxRecDepth 20000 in
theorem gL_acts_L_send : GoodIn wsL_acts (va_wsS RL 93 yL_send wsL_send) := goodIn_app (goodIn_of _ (by decide +kernel)) ggL_acts_L_send
set_option maxRecDepth 20000 in
theorem ggL_hangs_X7_received : GoodIn wsL_hangs wsX7_received := goodIn_r _ [5, 6, 7, 8, 9, 10, 11, 12, 192, 193, 194, 195, 196, 197, 198, 199, 200, 201, 202, 203, 204, 205] (by decide +kernel) (by decide +kernel)
set_option maxRecDepth 20000 in
theorem gL_hangs_X7_received : GoodIn wsL_hangs (wsV RL 95 RX7 yX7_received wsX7_received) := goodIn_app (goodIn_of _ (by decide +kernel)) ggL_hangs_X7_received
set_option maxRecDepth 20000 in
theorem ggL_hangs_X7_printedLength : GoodIn wsL_hangs wsX7_printedLength := goodIn_r _ [16, 17, 7, 8, 9, 10, 11, 12, 192, 193, 194, 195, 196, 206, 207, 208, 209, 210, 211, 212, 213, 204, 205] (by decide +kernel) (by decide +kernel)
set_option maxRecDepth 20000 in
theorem gL_hangs_X7_printedLength : GoodIn wsL_hangs (wsV RL 98 RX7 yX7_printedLength wsX7_printedLength) := goodIn_app (goodIn_of _ (by decide +kernel)) ggL_hangs_X7_printedLength
set_option maxRecDepth 20000 in
theorem ggL_hangs_X7_segments : GoodIn wsL_hangs wsX7_segments := goodIn_r _ [21, 17, 7, 8, 9, 10, 11, 12, 192, 193, 194, 195, 196, 206, 207, 208, 209, 210, 211, 212, 213, 204, 205] (by decide +kernel) (by decide +kernel)
set_option maxRecDepth 20000 in
theorem gL_hangs_X7_segments : GoodIn wsL_hangs (wsV RL 101 RX7 yX7_segments wsX7_segments) := goodIn_app (goodIn_of _ (by decide +kernel)) ggL_hangs_X7_segments
set_option maxRecDepth 20000 in
theorem ggL_hangs_X7_sent : GoodIn wsL_hangs wsX7_sent := goodIn_r _ [25, 6, 7, 8, 9, 10, 11, 12, 192, 193, 194, 195, 196, 197, 198, 199, 200, 201, 202, 203, 204, 205] (by decide +kernel) (by decide +kernel)
set_option maxRecDepth 20000 in
theorem gL_hangs_X7_sent : GoodIn wsL_hangs (wsV RL 104 RX7 yX7_sent wsX7_sent) := goodIn_app (goodIn_of _ (by decide +kernel)) ggL_hangs_X7_sent
set_option maxRecDepth 20000 in
theorem ggL_hangs_X7_words : GoodIn wsL_hangs wsX7_words := goodIn_r _ [29, 30, 7, 8, 9, 10, 11, 12, 192, 193, 194, 195, 196, 214, 204, 205] (by decide +kernel) (by decide +kernel)
set_option maxRecDepth 20000 in
theorem gL_hangs_X7_words : GoodIn wsL_hangs (wsV RL 107 RX7 yX7_words wsX7_words) := goodIn_app (goodIn_of _ (by decide +kernel)) ggL_hangs_X7_words
set_option maxRecDepth 20000 in
theorem ggL_hangs_L_receivedCode : GoodIn wsL_hangs wsL_receivedCode := goodIn_ca (goodIn_r _ [34, 35, 36, 37, 38, 4, 39, 40, 41, 6, 42, 43, 44, 10, 45, 12, 46, 47, 48, 49, 50, 192, 193, 194, 195, 196, 197, 198, 199, 200, 201, 202, 203, 204, 205] (by decide +kernel) (by decide +kernel)) (goodIn_sub (fun _ h => List.mem_cons_of_mem _ (List.mem_append_left _ (List.mem_append_right _ h))) (by decide +kernel))
set_option maxRecDepth 20000 in
theorem gL_hangs_L_receivedCode : GoodIn wsL_hangs (va_wsS RL 110 yL_receivedCode wsL_receivedCode) := goodIn_app (goodIn_of _ (by decide +kernel)) ggL_hangs_L_receivedCode
set_option maxRecDepth 20000 in
theorem ggL_hangs_L_segmentKind : GoodIn wsL_hangs wsL_segmentKind := goodIn_ca (goodIn_r _ [53, 35, 54, 55, 56, 4, 57, 40, 41, 17, 42, 43, 44, 10, 45, 12, 46, 47, 48, 49, 50, 192, 193, 194, 195, 196, 206, 207, 208, 209, 210, 211, 212, 213, 204, 205] (by decide +kernel) (by decide +kernel)) (goodIn_sub (fun _ h => List.mem_cons_of_mem _ (List.mem_append_left _ (List.mem_append_right _ h))) (by decide +kernel))
set_option maxRecDepth 20000 in
theorem gL_hangs_L_segmentKind : GoodIn wsL_hangs (va_wsS RL 112 yL_segmentKind wsL_segmentKind) := goodIn_app (goodIn_of _ (by decide +kernel)) ggL_hangs_L_segmentKind
set_option maxRecDepth 20000 in
theorem ggL_hangs_L_segmentLength : GoodIn wsL_hangs wsL_segmentLength := goodIn_ca (goodIn_r _ [60, 35, 61, 62, 63, 4, 64, 40, 41, 17, 42, 43, 44, 10, 45, 12, 46, 47, 48, 49, 50, 192, 193, 194, 195, 196, 206, 207, 208, 209, 210, 211, 212, 213, 204, 205] (by decide +kernel) (by decide +kernel)) (goodIn_sub (fun _ h => List.mem_cons_of_mem _ (List.mem_append_left _ (List.mem_append_right _ h))) (by decide +kernel))
set_option maxRecDepth 20000 in
theorem gL_hangs_L_segmentLength : GoodIn wsL_hangs (va_wsS RL 114 yL_segmentLength wsL_segmentLength) := goodIn_app (goodIn_of _ (by decide +kernel)) ggL_hangs_L_segmentLength
set_option maxRecDepth 20000 in
theorem ggL_hangs_L_uses : GoodIn wsL_hangs wsL_uses := goodIn_ca (goodIn_r _ [67, 35, 68, 69, 70, 4, 71, 40, 41, 30, 17, 42, 43, 44, 10, 45, 12, 46, 72, 73, 74, 75, 76, 48, 49, 50, 192, 193, 194, 195, 196, 214, 206, 207, 208, 209, 210, 211, 212, 213, 204, 205] (by decide +kernel) (by decide +kernel)) (goodIn_sub (fun _ h => List.mem_cons_of_mem _ (List.mem_append_left _ (List.mem_append_right _ h))) (by decide +kernel))
set_option maxRecDepth 20000 in
theorem gL_hangs_L_uses : GoodIn wsL_hangs (va_wsS RL 116 yL_uses wsL_uses) := goodIn_app (goodIn_of _ (by decide +kernel)) ggL_hangs_L_uses
set_option maxRecDepth 20000 in
theorem ggL_hangs_L_printed : GoodIn wsL_hangs wsL_printed := goodIn_ca (goodIn_r _ [79, 35, 80, 81, 82, 4, 83, 40, 41, 17, 42, 43, 44, 10, 45, 12, 46, 47, 48, 49, 50, 192, 193, 194, 195, 196, 206, 207, 208, 209, 210, 211, 212, 213, 204, 205] (by decide +kernel) (by decide +kernel)) (goodIn_sub (fun _ h => List.mem_cons_of_mem _ (List.mem_append_left _ (List.mem_append_right _ h))) (by decide +kernel))
set_option maxRecDepth 20000 in
theorem gL_hangs_L_printed : GoodIn wsL_hangs (va_wsS RL 118 yL_printed wsL_printed) := goodIn_app (goodIn_of _ (by decide +kernel)) ggL_hangs_L_printed
set_option maxRecDepth 20000 in
theorem ggL_hangs_X7_bells : GoodIn wsL_hangs wsX7_bells := goodIn_r _ [87, 17, 192, 193, 194, 195, 196, 206, 207, 208, 209, 210, 211, 212, 213] (by decide +kernel) (by decide +kernel)
set_option maxRecDepth 20000 in
theorem gL_hangs_X7_bells : GoodIn wsL_hangs (wsV RL 120 RX7 yX7_bells wsX7_bells) := goodIn_app (goodIn_of _ (by decide +kernel)) ggL_hangs_X7_bells
set_option maxRecDepth 20000 in
theorem ggL_hangs_X7_questions : GoodIn wsL_hangs wsX7_questions := goodIn_r _ [91, 17, 192, 193, 194, 195, 196, 206, 207, 208, 209, 210, 211, 212, 213] (by decide +kernel) (by decide +kernel)
set_option maxRecDepth 20000 in
theorem gL_hangs_X7_questions : GoodIn wsL_hangs (wsV RL 123 RX7 yX7_questions wsX7_questions) := goodIn_app (goodIn_of _ (by decide +kernel)) ggL_hangs_X7_questions
set_option maxRecDepth 20000 in
theorem ggL_hangs_X7_guesses : GoodIn wsL_hangs wsX7_guesses := goodIn_r _ [95, 17, 72, 73, 74, 10, 75, 12, 76, 48, 49, 50, 46, 192, 193, 194, 195, 196, 206, 207, 208, 209, 210, 211, 212, 213, 204, 205] (by decide +kernel) (by decide +kernel)
set_option maxRecDepth 20000 in
theorem gL_hangs_X7_guesses : GoodIn wsL_hangs (wsV RL 126 RX7 yX7_guesses wsX7_guesses) := goodIn_app (goodIn_of _ (by decide +kernel)) ggL_hangs_X7_guesses
set_option maxRecDepth 20000 in
theorem ggL_hangs_X7_doubtful : GoodIn wsL_hangs wsX7_doubtful := goodIn_r _ [99, 17, 72, 73, 74, 10, 75, 12, 76, 48, 49, 50, 46, 192, 193, 194, 195, 196, 206, 207, 208, 209, 210, 211, 212, 213, 204, 205] (by decide +kernel) (by decide +kernel)
set_option maxRecDepth 20000 in
theorem gL_hangs_X7_doubtful : GoodIn wsL_hangs (wsV RL 129 RX7 yX7_doubtful wsX7_doubtful) := goodIn_app (goodIn_of _ (by decide +kernel)) ggL_hangs_X7_doubtful
set_option maxRecDepth 20000 in
theorem ggL_hangs_X7_plausibility : GoodIn wsL_hangs wsX7_plausibility := goodIn_r _ [103, 104, 19, 20, 4, 21, 17, 7, 8, 9, 10, 11, 12, 105, 97, 98, 99, 72, 73, 74, 75, 76, 48, 49, 50, 46, 192, 193, 194, 195, 196, 206, 207, 208, 209, 210, 211, 212, 213, 204, 205] (by decide +kernel) (by decide +kernel)
set_option maxRecDepth 20000 in
theorem gL_hangs_X7_plausibility : GoodIn wsL_hangs (wsV RL 132 RX7 yX7_plausibility wsX7_plausibility) := goodIn_app (goodIn_of _ (by decide +kernel)) ggL_hangs_X7_plausibility
set_option maxRecDepth 20000 in
theorem ggL_hangs_X7_bestRepair : GoodIn wsL_hangs wsX7_bestRepair := goodIn_r _ [109, 17, 30, 6, 104, 19, 20, 4, 21, 7, 8, 9, 10, 11, 12, 47, 48, 49, 50, 46, 110, 111, 112, 113, 114, 115, 116, 117, 118, 119, 120, 121, 122, 123, 124, 125, 126, 127, 128, 129, 130, 131, 76, 132, 133, 134, 135, 136, 137, 138, 192, 193, 194, 195, 196, 206, 207, 208, 209, 210, 211, 212, 213, 197, 198, 199, 200, 201, 202, 203, 204, 205, 214] (by decide +kernel) (by decide +kernel)
set_option maxRecDepth 20000 in
theorem gL_hangs_X7_bestRepair : GoodIn wsL_hangs (wsV RL 136 RX7 yX7_bestRepair wsX7_bestRepair) := goodIn_app (goodIn_of _ (by decide +kernel)) ggL_hangs_X7_bestRepair
set_option maxRecDepth 20000 in
theorem ggL_hangs_L_doubtfulWith : GoodIn wsL_hangs wsL_doubtfulWith := goodIn_ca (goodIn_ca (goodIn_r _ [141, 35, 142, 143, 144, 145, 4, 146, 40, 41, 147, 148, 149, 2, 3, 5, 6, 7, 8, 9, 10, 11, 12, 105, 97, 98, 99, 17, 72, 73, 74, 75, 76, 48, 49, 50, 46, 150, 151, 152, 153, 30, 154, 155, 137, 156, 157, 158, 159, 160, 161, 162, 163, 164, 165, 166, 167, 113, 168, 115, 116, 117, 118, 119, 120, 121, 122, 123, 124, 125, 126, 127, 128, 129, 130, 131, 132, 133, 134, 135, 136, 138, 192, 193, 194, 195, 196, 197, 198, 199, 200, 201, 202, 203, 204, 205, 206, 207, 208, 209, 210, 211, 212, 213, 214] (by decide +kernel) (by decide +kernel)) (goodIn_sub (fun _ h => List.mem_cons_of_mem _ (List.mem_append_left _ (List.mem_append_right _ h))) (by decide +kernel))) (goodIn_sub (fun _ h => List.mem_cons_of_mem _ (List.mem_append_right _ h)) (by decide +kernel))
