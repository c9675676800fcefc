set_option maxRecDepth 20000 in
theorem gX7_unshiftOnSpace_X4_decode : GoodIn wsX7_unshiftOnSpace (wsV RX7 99 RX4 yX4_decode wsX4_decode) := goodIn_app (goodIn_of _ (by decide +kernel)) ggX7_unshiftOnSpace_X4_decode
set_option maxRecDepth 20000 in
theorem ggX7_learn_X1_wordOfCharacters : GoodIn wsX7_learn wsX1_wordOfCharacters := goodIn_r _ [13, 14, 15, 16, 17, 18, 19, 20, 21, 22, 23, 24, 25, 26, 27, 28, 29, 30, 31, 32, 33, 34, 35, 36, 37, 38, 39, 40, 41, 42, 43, 44, 45, 46, 47, 48, 49, 50, 51, 52, 53, 54, 55, 56, 57, 58, 59, 60, 61, 62, 63, 64, 65, 66, 67, 68, 69, 70, 71, 72, 73, 74, 75, 76, 77, 78, 79, 80, 81, 82, 83, 84, 85, 86, 87, 88, 89, 90, 91, 92, 93, 94, 95, 96, 97, 98, 99, 100, 101, 102, 103, 104, 105, 106, 107, 108, 109, 110, 111, 112, 113, 114, 115, 116, 117, 118, 119, 120, 121, 122, 123, 124, 267, 268] (by decide +kernel) (by decide +kernel)
set_option maxRecDepth 20000 in
theorem gX7_learn_X1_wordOfCharacters : GoodIn wsX7_learn (va_wsS RX7 144 yX1_wordOfCharacters wsX1_wordOfCharacters) := goodIn_app (goodIn_of _ (by decide +kernel)) ggX7_learn_X1_wordOfCharacters
set_option maxRecDepth 20000 in
theorem ggX7_learn_X5_find : GoodIn wsX7_learn wsX5_find := goodIn_r _ [128, 19, 129, 21, 22, 17, 23, 24, 267, 268] (by decide +kernel) (by decide +kernel)
set_option maxRecDepth 20000 in
theorem gX7_learn_X5_find : GoodIn wsX7_learn (wsV RX7 153 RX5 yX5_find wsX5_find) := goodIn_app (goodIn_of _ (by decide +kernel)) ggX7_learn_X5_find
set_option maxRecDepth 20000 in
theorem ggX7_learn_X7_words : GoodIn wsX7_learn wsX7_words := goodIn_r _ [134, 6, 135, 15, 16, 17, 18, 19, 261, 262, 263, 264, 265, 266, 267, 268] (by decide +kernel) (by decide +kernel)
set_option maxRecDepth 20000 in
theorem gX7_learn_X7_words : GoodIn wsX7_learn (wsV RX7 156 RX7 yX7_words wsX7_words) := goodIn_app (goodIn_of _ (by decide +kernel)) ggX7_learn_X7_words
set_option maxRecDepth 20000 in
theorem ggX7_learn_X2_save : GoodIn wsX7_learn wsX2_save := goodIn_r _ [140, 141, 142, 143, 144, 145, 139, 146, 147, 148, 149, 150, 151, 152, 153, 154, 155, 156, 157, 158, 159, 160, 161, 162, 163, 164, 165, 17, 166, 19, 167, 168, 169, 170, 129, 21, 22, 23, 24, 171, 172, 173, 174, 175, 15, 16, 18, 269, 270, 271, 272, 273, 274, 275, 276, 277, 278, 279, 280, 281, 282, 283, 284, 266, 267, 268] (by decide +kernel) (by decide +kernel)
set_option maxRecDepth 20000 in
theorem gX7_learn_X2_save : GoodIn wsX7_learn (wsV RX7 88 RX2 yX2_save wsX2_save) := goodIn_app (goodIn_of _ (by decide +kernel)) ggX7_learn_X2_save
set_option maxRecDepth 20000 in
theorem ggX7_learn_X5_add : GoodIn wsX7_learn wsX5_add := goodIn_r _ [174, 19, 24, 267, 268] (by decide +kernel) (by decide +kernel)
set_option maxRecDepth 20000 in
theorem gX7_learn_X5_add : GoodIn wsX7_learn (wsV RX7 68 RX5 yX5_add wsX5_add) := goodIn_app (goodIn_of _ (by decide +kernel)) ggX7_learn_X5_add
set_option maxRecDepth 20000 in
theorem ggX7_learn_X5_clear : GoodIn wsX7_learn wsX5_clear := goodIn_r _ [170, 19, 267, 268] (by decide +kernel) (by decide +kernel)
set_option maxRecDepth 20000 in
theorem gX7_learn_X5_clear : GoodIn wsX7_learn (wsV RX7 71 RX5 yX5_clear wsX5_clear) := goodIn_app (goodIn_of _ (by decide +kernel)) ggX7_learn_X5_clear
set_option maxRecDepth 20000 in
theorem ggX7_learn_X4_decode : GoodIn wsX7_learn wsX4_decode := goodIn_r _ [182, 183, 184, 185, 181, 186, 187, 188, 189, 190, 191, 192, 193, 194, 195, 168, 169, 17, 170, 19, 196, 15, 16, 18, 197, 21, 22, 23, 24, 198, 199, 27, 200, 201, 202, 203, 204, 205, 206, 207, 12, 208, 209, 210, 211, 212, 213, 214, 215, 216, 20, 217, 126, 127, 128, 129, 218, 219, 220, 221, 222, 223, 224, 225, 226, 227, 172, 173, 174, 228, 229, 230, 231, 232, 233, 53, 54, 39, 55, 45, 56, 57, 58, 59, 50, 51, 234, 235, 236, 237, 46, 47, 48, 49, 238, 239, 62, 240, 241, 242, 243, 96, 244, 245, 99, 246, 247, 248, 79, 249, 250, 251, 252, 90, 91, 92, 253, 104, 105, 106, 107, 108, 109, 254, 255, 256, 257, 258, 259, 260, 278, 279, 280, 281, 282, 283, 284, 285, 286, 287, 288, 289, 290, 291, 292, 267, 268, 266] (by decide +kernel) (by decide +kernel)
set_option maxRecDepth 20000 in
theorem gX7_learn_X4_decode : GoodIn wsX7_learn (wsV RX7 99 RX4 yX4_decode wsX4_decode) := goodIn_app (goodIn_of _ (by decide +kernel)) ggX7_learn_X4_decode
set_option maxRecDepth 20000 in
theorem ggX7_forget_X5_has : GoodIn wsX7_forget wsX5_has := goodIn_r _ [11, 12, 13, 201, 202] (by decide +kernel) (by decide +kernel)
set_option maxRecDepth 20000 in
theorem gX7_forget_X5_has : GoodIn wsX7_forget (wsV RX7 105 RX5 yX5_has wsX5_has) := goodIn_app (goodIn_of _ (by decide +kernel)) ggX7_forget_X5_has
set_option maxRecDepth 20000 in
theorem ggX7_forget_X2_save : GoodIn wsX7_forget wsX2_save := goodIn_r _ [18, 19, 20, 21, 22, 23, 17, 24, 25, 26, 27, 28, 29, 30, 31, 32, 33, 34, 35, 36, 37, 38, 39, 40, 41, 42, 43, 10, 44, 12, 45, 46, 47, 48, 49, 50, 51, 52, 13, 53, 54, 55, 56, 57, 58, 59, 60, 203, 204, 205, 206, 207, 208, 209, 210, 211, 212, 213, 214, 215, 216, 217, 218, 200, 201, 202] (by decide +kernel) (by decide +kernel)
set_option maxRecDepth 20000 in
theorem gX7_forget_X2_save : GoodIn wsX7_forget (wsV RX7 88 RX2 yX2_save wsX2_save) := goodIn_app (goodIn_of _ (by decide +kernel)) ggX7_forget_X2_save
set_option maxRecDepth 20000 in
theorem ggX7_forget_X1_lengthOf : GoodIn wsX7_forget wsX1_lengthOf := goodIn_r _ [65, 66, 67, 68, 64, 69, 70, 71, 50, 51, 10, 52, 12, 13, 200, 201, 202] (by decide +kernel) (by decide +kernel)
set_option maxRecDepth 20000 in
theorem gX7_forget_X1_lengthOf : GoodIn wsX7_forget (wsV RX7 163 RX1 yX1_lengthOf wsX1_lengthOf) := goodIn_app (goodIn_of _ (by decide +kernel)) ggX7_forget_X1_lengthOf
set_option maxRecDepth 20000 in
theorem ggX7_forget_X5_remove : GoodIn wsX7_forget wsX5_remove := goodIn_r _ [75, 12, 76, 8, 9, 10, 11, 13, 49, 50, 51, 52, 77, 78, 79, 80, 201, 202] (by decide +kernel) (by decide +kernel)
set_option maxRecDepth 20000 in
theorem gX7_forget_X5_remove : GoodIn wsX7_forget (wsV RX7 166 RX5 yX5_remove wsX5_remove) := goodIn_app (goodIn_of _ (by decide +kernel)) ggX7_forget_X5_remove
set_option maxRecDepth 20000 in
theorem ggX7_forget_X4_decode : GoodIn wsX7_forget wsX4_decode := goodIn_r _ [85, 86, 87, 88, 84, 89, 90, 91, 92, 93, 94, 95, 96, 97, 98, 46, 47, 10, 48, 12, 99, 58, 59, 60, 100, 50, 51, 52, 13, 101, 102, 103, 104, 105, 106, 107, 108, 109, 110, 111, 64, 112, 113, 114, 115, 116, 70, 117, 118, 119, 71, 120, 121, 122, 123, 49, 124, 125, 126, 127, 128, 129, 130, 131, 132, 133, 54, 55, 56, 134, 135, 136, 137, 138, 139, 140, 141, 142, 143, 144, 145, 146, 147, 148, 149, 150, 151, 152, 153, 154, 155, 156, 157, 158, 159, 160, 161, 162, 163, 164, 165, 166, 167, 168, 169, 170, 171, 172, 173, 174, 175, 176, 177, 178, 179, 180, 181, 182, 183, 184, 185, 186, 187, 188, 189, 190, 191, 192, 193, 194, 212, 213, 214, 215, 216, 217, 218, 219, 220, 221, 222, 223, 224, 225, 226, 201, 202, 200] (by decide +kernel) (by decide +kernel)
set_option maxRecDepth 20000 in
theorem gX7_forget_X4_decode : GoodIn wsX7_forget (wsV RX7 99 RX4 yX4_decode wsX4_decode) := goodIn_app (goodIn_of _ (by decide +kernel)) ggX7_forget_X4_decode
set_option maxRecDepth 20000 in
theorem ggX7_words_X5_size : GoodIn wsX7_words wsX5_size := goodIn_r _ [6, 7, 14, 15] (by decide +kernel) (by decide +kernel)
set_option maxRecDepth 20000 in
theorem gX7_words_X5_size : GoodIn wsX7_words (wsV RX7 59 RX5 yX5_size wsX5_size) := goodIn_app (goodIn_of _ (by decide +kernel)) ggX7_words_X5_size
set_option maxRecDepth 20000 in
theorem ggX7_wordLetter_X5_has : GoodIn wsX7_wordLetter wsX5_has := goodIn_r _ [8, 9, 10, 83, 84] (by decide +kernel) (by decide +kernel)
set_option maxRecDepth 20000 in
theorem gX7_wordLetter_X5_has : GoodIn wsX7_wordLetter (wsV RX7 105 RX5 yX5_has wsX5_has) := goodIn_app (goodIn_of _ (by decide +kernel)) ggX7_wordLetter_X5_has
set_option maxRecDepth 20000 in
theorem ggX7_wordLetter_X1_codeOfLetter : GoodIn wsX7_wordLetter wsX1_codeOfLetter := goodIn_r _ [15, 16, 17, 18, 19, 7, 20, 9, 10, 82, 83, 84] (by decide +kernel) (by decide +kernel)
set_option maxRecDepth 20000 in
theorem gX7_wordLetter_X1_codeOfLetter : GoodIn wsX7_wordLetter (wsV RX7 173 RX1 yX1_codeOfLetter wsX1_codeOfLetter) := goodIn_app (goodIn_of _ (by decide +kernel)) ggX7_wordLetter_X1_codeOfLetter
set_option maxRecDepth 20000 in
theorem ggX7_wordLetter_X0_characterOf : GoodIn wsX7_wordLetter wsX0_characterOf := goodIn_r _ [24, 25, 26, 23, 27, 28, 29, 30, 31, 32, 33, 34, 35, 36, 37, 38, 39, 40, 41, 42, 43, 44, 45, 46, 47, 48, 49, 50, 51, 52, 53, 54, 55, 56, 57, 58, 59, 60, 61, 62, 63, 64, 65, 66, 67, 68, 69, 70, 71, 72, 73, 74, 75, 76] (by decide +kernel) (by decide +kernel)
set_option maxRecDepth 20000 in
theorem gX7_wordLetter_X0_characterOf : GoodIn wsX7_wordLetter (va_wsS RX7 177 yX0_characterOf wsX0_characterOf) := goodIn_app (goodIn_of _ (by decide +kernel)) ggX7_wordLetter_X0_characterOf
set_option maxRecDepth 20000 in
theorem ggX7_uses_X5_has : GoodIn wsX7_uses wsX5_has := goodIn_r _ [9, 10, 11, 34, 35] (by decide +kernel) (by decide +kernel)
set_option maxRecDepth 20000 in
theorem gX7_uses_X5_has : GoodIn wsX7_uses (wsV RX7 105 RX5 yX5_has wsX5_has) := goodIn_app (goodIn_of _ (by decide +kernel)) ggX7_uses_X5_has
set_option maxRecDepth 20000 in
theorem ggX7_uses_X5_count : GoodIn wsX7_uses wsX5_count := goodIn_r _ [15, 10, 16, 17, 18, 8, 19, 11, 34, 35] (by decide +kernel) (by decide +kernel)
set_option maxRecDepth 20000 in
theorem gX7_uses_X5_count : GoodIn wsX7_uses (wsV RX7 137 RX5 yX5_count wsX5_count) := goodIn_app (goodIn_of _ (by decide +kernel)) ggX7_uses_X5_count
set_option maxRecDepth 20000 in
theorem ggX7_printedLength_X5_size : GoodIn wsX7_printedLength wsX5_size := goodIn_r _ [6, 7, 21, 22] (by decide +kernel) (by decide +kernel)
set_option maxRecDepth 20000 in
theorem gX7_printedLength_X5_size : GoodIn wsX7_printedLength (wsV RX7 59 RX5 yX5_size wsX5_size) := goodIn_app (goodIn_of _ (by decide +kernel)) ggX7_printedLength_X5_size
set_option maxRecDepth 20000 in
theorem ggX7_printed_X5_has : GoodIn wsX7_printed wsX5_has := goodIn_r _ [8, 9, 10, 28, 29] (by decide +kernel) (by decide +kernel)
set_option maxRecDepth 20000 in
theorem gX7_printed_X5_has : GoodIn wsX7_printed (wsV RX7 105 RX5 yX5_has wsX5_has) := goodIn_app (goodIn_of _ (by decide +kernel)) ggX7_printed_X5_has
set_option maxRecDepth 20000 in
theorem ggX7_printed_X5_at : GoodIn wsX7_printed wsX5_at := goodIn_r _ [14, 9, 10, 28, 29] (by decide +kernel) (by decide +kernel)
set_option maxRecDepth 20000 in
theorem gX7_printed_X5_at : GoodIn wsX7_printed (wsV RX7 116 RX5 yX5_at wsX5_at) := goodIn_app (goodIn_of _ (by decide +kernel)) ggX7_printed_X5_at
set_option maxRecDepth 20000 in
theorem ggX7_segments_X5_size : GoodIn wsX7_segments wsX5_size := goodIn_r _ [6, 7, 21, 22] (by decide +kernel) (by decide +kernel)
set_option maxRecDepth 20000 in
theorem gX7_segments_X5_size : GoodIn wsX7_segments (wsV RX7 59 RX5 yX5_size wsX5_size) := goodIn_app (goodIn_of _ (by decide +kernel)) ggX7_segments_X5_size
set_option maxRecDepth 20000 in
theorem ggX7_segmentLength_X5_has : GoodIn wsX7_segmentLength wsX5_has := goodIn_r _ [8, 9, 10, 28, 29] (by decide +kernel) (by decide +kernel)
set_option maxRecDepth 20000 in
theorem gX7_segmentLength_X5_has : GoodIn wsX7_segmentLength (wsV RX7 105 RX5 yX5_has wsX5_has) := goodIn_app (goodIn_of _ (by decide +kernel)) ggX7_segmentLength_X5_has
set_option maxRecDepth 20000 in
theorem ggX7_segmentLength_X5_at : GoodIn wsX7_segmentLength wsX5_at := goodIn_r _ [14, 9, 10, 28, 29] (by decide +kernel) (by decide +kernel)
set_option maxRecDepth 20000 in
theorem gX7_segmentLength_X5_at : GoodIn wsX7_segmentLength (wsV RX7 116 RX5 yX5_at wsX5_at) := goodIn_app (goodIn_of _ (by decide +kernel)) ggX7_segmentLength_X5_at
set_option maxRecDepth 20000 in
theorem ggX7_segmentKind_X5_has : GoodIn wsX7_segmentKind wsX5_has := goodIn_r _ [8, 9, 10, 28, 29] (by decide +kernel) (by decide +kernel)
set_option maxRecDepth 20000 in
theorem gX7_segmentKind_X5_has : GoodIn wsX7_segmentKind (wsV RX7 105 RX5 yX5_has wsX5_has) := goodIn_app (goodIn_of _ (by decide +kernel)) ggX7_segmentKind_X5_has
set_option maxRecDepth 20000 in
theorem ggX7_segmentKind_X5_at : GoodIn wsX7_segmentKind wsX5_at := goodIn_r _ [14, 9, 10, 28, 29] (by decide +kernel) (by decide +kernel)
set_option maxRecDepth 20000 in
theorem gX7_segmentKind_X5_at : GoodIn wsX7_segmentKind (wsV RX7 116 RX5 yX5_at wsX5_at) := goodIn_app (goodIn_of _ (by decide +kernel)) ggX7_segmentKind_X5_at
set_option maxRecDepth 20000 in
theorem ggX7_guesses_X5_count : GoodIn wsX7_guesses wsX5_count := goodIn_r _ [6, 7, 8, 9, 10, 5, 11, 12, 26, 27] (by decide +kernel) (by decide +kernel)
set_option maxRecDepth 20000 in
theorem gX7_guesses_X5_count : GoodIn wsX7_guesses (wsV RX7 137 RX5 yX5_count wsX5_count) := goodIn_app (goodIn_of _ (by decide +kernel)) ggX7_guesses_X5_count
set_option maxRecDepth 20000 in
theorem ggX7_doubtful_X5_count : GoodIn wsX7_doubtful wsX5_count := goodIn_r _ [6, 7, 8, 9, 10, 5, 11, 12, 26, 27] (by decide +kernel) (by decide +kernel)
set_option maxRecDepth 20000 in
theorem gX7_doubtful_X5_count : GoodIn wsX7_doubtful (wsV RX7 137 RX5 yX5_count wsX5_count) := goodIn_app (goodIn_of _ (by decide +kernel)) ggX7_doubtful_X5_count
set_option maxRecDepth 20000 in
theorem ggX7_wrongCharacters_X5_size : GoodIn wsX7_wrongCharacters wsX5_size := goodIn_r _ [14, 15, 41, 42] (by decide +kernel) (by decide +kernel)
set_option maxRecDepth 20000 in
theorem gX7_wrongCharacters_X5_size : GoodIn wsX7_wrongCharacters (wsV RX7 59 RX5 yX5_size wsX5_size) := goodIn_app (goodIn_of _ (by decide +kernel)) ggX7_wrongCharacters_X5_size
set_option maxRecDepth 20000 in
theorem ggX7_wrongCharacters_X5_at : GoodIn wsX7_wrongCharacters wsX5_at := goodIn_r _ [19, 15, 20, 41, 42] (by decide +kernel) (by decide +kernel)
set_option maxRecDepth 20000 in
theorem gX7_wrongCharacters_X5_at : GoodIn wsX7_wrongCharacters (wsV RX7 116 RX5 yX5_at wsX5_at) := goodIn_app (goodIn_of _ (by decide +kernel)) ggX7_wrongCharacters_X5_at
set_option maxRecDepth 20000 in
theorem ggX7_plausibility_X7_segments : GoodIn wsX7_plausibility wsX7_segments := goodIn_r _ [5, 6, 7, 8, 9, 10, 11, 12, 26, 27, 28, 29, 30, 31, 32, 33, 34, 35, 36, 37, 38, 39, 40] (by decide +kernel) (by decide +kernel)
set_option maxRecDepth 20000 in
theorem gX7_plausibility_X7_segments : GoodIn wsX7_plausibility (wsV RX7 212 RX7 yX7_segments wsX7_segments) := goodIn_app (goodIn_of _ (by decide +kernel)) ggX7_plausibility_X7_segments
set_option maxRecDepth 20000 in
theorem ggX7_plausibility_X7_doubtful : GoodIn wsX7_plausibility wsX7_doubtful := goodIn_r _ [16, 6, 17, 18, 19, 10, 20, 12, 21, 22, 23, 24, 25, 26, 27, 28, 29, 30, 31, 32, 33, 34, 35, 36, 37, 38, 39, 40] (by decide +kernel) (by decide +kernel)
set_option maxRecDepth 20000 in
theorem gX7_plausibility_X7_doubtful : GoodIn wsX7_plausibility (wsV RX7 215 RX7 yX7_doubtful wsX7_doubtful) := goodIn_app (goodIn_of _ (by decide +kernel)) ggX7_plausibility_X7_doubtful
set_option maxRecDepth 20000 in
theorem ggX7_doubtfulWith_X7_received : GoodIn wsX7_doubtfulWith wsX7_received := goodIn_r _ [9, 10, 11, 12, 13, 14, 15, 16, 76, 77, 78, 79, 80, 81, 82, 83, 84, 85, 86, 87, 88, 89] (by decide +kernel) (by decide +kernel)
set_option maxRecDepth 20000 in
theorem gX7_doubtfulWith_X7_received : GoodIn wsX7_doubtfulWith (wsV RX7 92 RX7 yX7_received wsX7_received) := goodIn_app (goodIn_of _ (by decide +kernel)) ggX7_doubtfulWith_X7_received
set_option maxRecDepth 20000 in
theorem ggX7_doubtfulWith_X7_doubtful : GoodIn wsX7_doubtfulWith wsX7_doubtful := goodIn_r _ [20, 21, 22, 23, 24, 14, 25, 16, 26, 27, 28, 29, 30, 76, 77, 78, 79, 80, 90, 91, 92, 93, 94, 95, 96, 97, 88, 89] (by decide +kernel) (by decide +kernel)
set_option maxRecDepth 20000 in
theorem gX7_doubtfulWith_X7_doubtful : GoodIn wsX7_doubtfulWith (wsV RX7 215 RX7 yX7_doubtful wsX7_doubtful) := goodIn_app (goodIn_of _ (by decide +kernel)) ggX7_doubtfulWith_X7_doubtful
set_option maxRecDepth 20000 in
theorem ggX7_doubtfulWith_X7_changeByCut : GoodIn wsX7_doubtfulWith wsX7_changeByCut := goodIn_r _ [34, 10, 35, 36, 37, 38, 39, 40, 27, 28, 14, 29, 16, 30, 41, 42, 43, 44, 45, 46, 47, 12, 13, 15, 48, 49, 50, 51, 52, 53, 54, 55, 56, 57, 58, 59, 60, 61, 62, 63, 64, 65, 66, 67, 68, 69, 26, 70, 71, 72, 73, 74, 75, 76, 77, 78, 79, 80, 81, 82, 83, 84, 85, 86, 87, 88, 89, 98] (by decide +kernel) (by decide +kernel)
set_option maxRecDepth 20000 in
theorem gX7_doubtfulWith_X7_changeByCut : GoodIn wsX7_doubtfulWith (wsV RX7 222 RX7 yX7_changeByCut wsX7_changeByCut) := goodIn_app (goodIn_of _ (by decide +kernel)) ggX7_doubtfulWith_X7_changeByCut
set_option maxRecDepth 20000 in
theorem ggX7_bestRepair_X7_segments : GoodIn wsX7_bestRepair wsX7_segments := goodIn_r _ [8, 1, 9, 10, 11, 12, 13, 14, 50, 51, 52, 53, 54, 55, 56, 57, 58, 59, 60, 61, 62, 70, 71] (by decide +kernel) (by decide +kernel)
set_option maxRecDepth 20000 in
theorem gX7_bestRepair_X7_segments : GoodIn wsX7_bestRepair (wsV RX7 212 RX7 yX7_segments wsX7_segments) := goodIn_app (goodIn_of _ (by decide +kernel)) ggX7_bestRepair_X7_segments
set_option maxRecDepth 20000 in
theorem ggX7_bestRepair_X5_at : GoodIn wsX7_bestRepair wsX5_at := goodIn_r _ [18, 14, 19, 70, 71] (by decide +kernel) (by decide +kernel)
set_option maxRecDepth 20000 in
theorem gX7_bestRepair_X5_at : GoodIn wsX7_bestRepair (wsV RX7 116 RX5 yX5_at wsX5_at) := goodIn_app (goodIn_of _ (by decide +kernel)) ggX7_bestRepair_X5_at
set_option maxRecDepth 20000 in
theorem ggX7_bestRepair_X1_firstRepairingCut : GoodIn wsX7_bestRepair wsX1_firstRepairingCut := goodIn_r _ [24, 25, 26, 27, 23, 28, 29, 30, 31, 32, 33, 34, 35, 36, 37, 16, 17, 12, 18, 14, 19, 38, 39, 40, 41, 42, 43, 44, 45, 46, 47, 48, 49, 72, 70, 71] (by decide +kernel) (by decide +kernel)
set_option maxRecDepth 20000 in
theorem gX7_bestRepair_X1_firstRepairingCut : GoodIn wsX7_bestRepair (wsV RX7 228 RX1 yX1_firstRepairingCut wsX1_firstRepairingCut) := goodIn_app (goodIn_of _ (by decide +kernel)) ggX7_bestRepair_X1_firstRepairingCut
