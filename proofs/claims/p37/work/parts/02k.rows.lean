set_option maxRecDepth 20000 in
theorem ggX7_changeByCut_X0_startOfSigns : GoodIn wsX7_changeByCut wsX0_startOfSigns := goodIn_r _ [6, 7, 8, 9, 10, 11, 12, 13, 14, 15, 5, 16, 65, 66] (by decide +kernel) (by decide +kernel)
set_option maxRecDepth 20000 in
theorem gX7_changeByCut_X0_startOfSigns : GoodIn wsX7_changeByCut (va_wsS RX7 232 yX0_startOfSigns wsX0_startOfSigns) := goodIn_app (goodIn_of _ (by decide +kernel)) ggX7_changeByCut_X0_startOfSigns
set_option maxRecDepth 20000 in
theorem ggX7_changeByCut_X0_endOfSigns : GoodIn wsX7_changeByCut wsX0_endOfSigns := goodIn_r _ [19, 20, 21, 22, 10, 23, 12, 7, 8, 9, 11, 13, 14, 15, 5, 16, 65, 66] (by decide +kernel) (by decide +kernel)
set_option maxRecDepth 20000 in
theorem gX7_changeByCut_X0_endOfSigns : GoodIn wsX7_changeByCut (va_wsS RX7 236 yX0_endOfSigns wsX0_endOfSigns) := goodIn_app (goodIn_of _ (by decide +kernel)) ggX7_changeByCut_X0_endOfSigns
set_option maxRecDepth 20000 in
theorem ggX7_changeByCut_X1_doubtOf : GoodIn wsX7_changeByCut wsX1_doubtOf := goodIn_r _ [28, 29, 30, 31, 27, 32, 33, 34, 35, 36, 37, 38, 39, 40, 41, 8, 9, 10, 11, 12, 13, 42, 43, 44, 45, 46, 47, 48, 49, 50, 51, 5, 52, 67, 65, 66] (by decide +kernel) (by decide +kernel)
set_option maxRecDepth 20000 in
theorem gX7_changeByCut_X1_doubtOf : GoodIn wsX7_changeByCut (wsV RX7 239 RX1 yX1_doubtOf wsX1_doubtOf) := goodIn_app (goodIn_of _ (by decide +kernel)) ggX7_changeByCut_X1_doubtOf
set_option maxRecDepth 20000 in
theorem ggX7_undo_X2_restore : GoodIn wsX7_undo wsX2_restore := goodIn_r _ [11, 12, 13, 14, 15, 10, 16, 17, 18, 19, 20, 21, 22, 23, 24, 25, 26, 27, 28, 29, 30, 31, 32, 33, 34, 35, 36, 37, 38, 39, 40, 41, 42, 43, 44, 45, 46, 47, 48, 49, 50, 51, 52, 178, 179, 180, 181, 182, 183, 184, 185, 186, 187, 188, 189, 190, 191, 192, 193, 194, 195, 196] (by decide +kernel) (by decide +kernel)
set_option maxRecDepth 20000 in
theorem gX7_undo_X2_restore : GoodIn wsX7_undo (wsV RX7 246 RX2 yX2_restore wsX2_restore) := goodIn_app (goodIn_of _ (by decide +kernel)) ggX7_undo_X2_restore
set_option maxRecDepth 20000 in
theorem ggX7_undo_X4_decode : GoodIn wsX7_undo wsX4_decode := goodIn_r _ [57, 58, 59, 60, 56, 61, 62, 63, 64, 65, 66, 67, 68, 69, 70, 37, 38, 33, 39, 35, 71, 72, 73, 74, 75, 41, 42, 43, 44, 76, 77, 78, 79, 80, 81, 82, 83, 84, 85, 86, 87, 88, 89, 90, 91, 92, 93, 94, 95, 96, 97, 98, 99, 100, 101, 40, 102, 103, 104, 105, 106, 107, 108, 109, 110, 111, 46, 47, 48, 112, 113, 114, 115, 116, 117, 118, 119, 120, 121, 122, 123, 124, 125, 126, 127, 128, 129, 130, 131, 132, 133, 134, 135, 136, 137, 138, 139, 140, 141, 142, 143, 144, 145, 146, 147, 148, 149, 150, 151, 152, 153, 154, 155, 156, 157, 158, 159, 160, 161, 162, 163, 164, 165, 166, 167, 168, 169, 170, 171, 172, 180, 181, 182, 183, 184, 185, 186, 197, 198, 199, 200, 201, 202, 203, 204, 195, 196, 194] (by decide +kernel) (by decide +kernel)
set_option maxRecDepth 20000 in
theorem gX7_undo_X4_decode : GoodIn wsX7_undo (wsV RX7 99 RX4 yX4_decode wsX4_decode) := goodIn_app (goodIn_of _ (by decide +kernel)) ggX7_undo_X4_decode
set_option maxRecDepth 20000 in
theorem ggX7_digest_X7_sent : GoodIn wsX7_digest wsX7_sent := goodIn_r _ [10, 3, 11, 12, 13, 14, 15, 16, 128, 129, 130, 131, 132, 133, 134, 135, 136, 137, 138, 139, 148, 149] (by decide +kernel) (by decide +kernel)
set_option maxRecDepth 20000 in
theorem gX7_digest_X7_sent : GoodIn wsX7_digest (wsV RX7 80 RX7 yX7_sent wsX7_sent) := goodIn_app (goodIn_of _ (by decide +kernel)) ggX7_digest_X7_sent
set_option maxRecDepth 20000 in
theorem ggX7_digest_X7_received : GoodIn wsX7_digest wsX7_received := goodIn_r _ [20, 3, 11, 12, 13, 14, 15, 16, 128, 129, 130, 131, 132, 133, 134, 135, 136, 137, 138, 139, 148, 149] (by decide +kernel) (by decide +kernel)
set_option maxRecDepth 20000 in
theorem gX7_digest_X7_received : GoodIn wsX7_digest (wsV RX7 92 RX7 yX7_received wsX7_received) := goodIn_app (goodIn_of _ (by decide +kernel)) ggX7_digest_X7_received
set_option maxRecDepth 20000 in
theorem ggX7_digest_X7_senderShift : GoodIn wsX7_digest wsX7_senderShift := goodIn_r _ [24, 3, 128, 129, 130, 131, 132, 133, 134, 135, 136, 137, 138, 139] (by decide +kernel) (by decide +kernel)
set_option maxRecDepth 20000 in
theorem gX7_digest_X7_senderShift : GoodIn wsX7_digest (wsV RX7 253 RX7 yX7_senderShift wsX7_senderShift) := goodIn_app (goodIn_of _ (by decide +kernel)) ggX7_digest_X7_senderShift
set_option maxRecDepth 20000 in
theorem ggX7_digest_X7_faults : GoodIn wsX7_digest wsX7_faults := goodIn_r _ [28, 3, 29, 30, 31, 14, 32, 16, 33, 34, 35, 36, 37, 128, 129, 130, 131, 132, 133, 134, 135, 136, 137, 138, 139, 148, 149] (by decide +kernel) (by decide +kernel)
set_option maxRecDepth 20000 in
theorem gX7_digest_X7_faults : GoodIn wsX7_digest (wsV RX7 256 RX7 yX7_faults wsX7_faults) := goodIn_app (goodIn_of _ (by decide +kernel)) ggX7_digest_X7_faults
set_option maxRecDepth 20000 in
theorem ggX7_digest_X7_words : GoodIn wsX7_digest wsX7_words := goodIn_r _ [41, 5, 11, 12, 13, 14, 15, 16, 128, 129, 130, 131, 132, 150, 148, 149] (by decide +kernel) (by decide +kernel)
set_option maxRecDepth 20000 in
theorem gX7_digest_X7_words : GoodIn wsX7_digest (wsV RX7 156 RX7 yX7_words wsX7_words) := goodIn_app (goodIn_of _ (by decide +kernel)) ggX7_digest_X7_words
set_option maxRecDepth 20000 in
theorem ggX7_digest_X7_printedLength : GoodIn wsX7_digest wsX7_printedLength := goodIn_r _ [45, 4, 11, 12, 13, 14, 15, 16, 128, 129, 130, 131, 132, 140, 141, 142, 143, 144, 145, 146, 147, 148, 149] (by decide +kernel) (by decide +kernel)
set_option maxRecDepth 20000 in
theorem gX7_digest_X7_printedLength : GoodIn wsX7_digest (wsV RX7 259 RX7 yX7_printedLength wsX7_printedLength) := goodIn_app (goodIn_of _ (by decide +kernel)) ggX7_digest_X7_printedLength
set_option maxRecDepth 20000 in
theorem ggX7_digest_X7_segments : GoodIn wsX7_digest wsX7_segments := goodIn_r _ [49, 4, 11, 12, 13, 14, 15, 16, 128, 129, 130, 131, 132, 140, 141, 142, 143, 144, 145, 146, 147, 148, 149] (by decide +kernel) (by decide +kernel)
set_option maxRecDepth 20000 in
theorem gX7_digest_X7_segments : GoodIn wsX7_digest (wsV RX7 212 RX7 yX7_segments wsX7_segments) := goodIn_app (goodIn_of _ (by decide +kernel)) ggX7_digest_X7_segments
set_option maxRecDepth 20000 in
theorem ggX7_digest_X7_guesses : GoodIn wsX7_digest wsX7_guesses := goodIn_r _ [53, 4, 29, 30, 31, 14, 32, 16, 33, 34, 35, 36, 37, 128, 129, 130, 131, 132, 140, 141, 142, 143, 144, 145, 146, 147, 148, 149] (by decide +kernel) (by decide +kernel)
set_option maxRecDepth 20000 in
theorem gX7_digest_X7_guesses : GoodIn wsX7_digest (wsV RX7 262 RX7 yX7_guesses wsX7_guesses) := goodIn_app (goodIn_of _ (by decide +kernel)) ggX7_digest_X7_guesses
set_option maxRecDepth 20000 in
theorem ggX7_digest_X7_doubtful : GoodIn wsX7_digest wsX7_doubtful := goodIn_r _ [57, 4, 29, 30, 31, 14, 32, 16, 33, 34, 35, 36, 37, 128, 129, 130, 131, 132, 140, 141, 142, 143, 144, 145, 146, 147, 148, 149] (by decide +kernel) (by decide +kernel)
set_option maxRecDepth 20000 in
theorem gX7_digest_X7_doubtful : GoodIn wsX7_digest (wsV RX7 215 RX7 yX7_doubtful wsX7_doubtful) := goodIn_app (goodIn_of _ (by decide +kernel)) ggX7_digest_X7_doubtful
set_option maxRecDepth 20000 in
theorem ggX7_digest_X7_bells : GoodIn wsX7_digest wsX7_bells := goodIn_r _ [61, 4, 128, 129, 130, 131, 132, 140, 141, 142, 143, 144, 145, 146, 147] (by decide +kernel) (by decide +kernel)
set_option maxRecDepth 20000 in
theorem gX7_digest_X7_bells : GoodIn wsX7_digest (wsV RX7 265 RX7 yX7_bells wsX7_bells) := goodIn_app (goodIn_of _ (by decide +kernel)) ggX7_digest_X7_bells
set_option maxRecDepth 20000 in
theorem ggX7_digest_X7_questions : GoodIn wsX7_digest wsX7_questions := goodIn_r _ [65, 4, 128, 129, 130, 131, 132, 140, 141, 142, 143, 144, 145, 146, 147] (by decide +kernel) (by decide +kernel)
set_option maxRecDepth 20000 in
theorem gX7_digest_X7_questions : GoodIn wsX7_digest (wsV RX7 268 RX7 yX7_questions wsX7_questions) := goodIn_app (goodIn_of _ (by decide +kernel)) ggX7_digest_X7_questions
set_option maxRecDepth 20000 in
theorem ggX7_digest_X7_receiverShift : GoodIn wsX7_digest wsX7_receiverShift := goodIn_r _ [69, 4, 128, 129, 130, 131, 132, 140, 141, 142, 143, 144, 145, 146, 147] (by decide +kernel) (by decide +kernel)
set_option maxRecDepth 20000 in
theorem gX7_digest_X7_receiverShift : GoodIn wsX7_digest (wsV RX7 271 RX7 yX7_receiverShift wsX7_receiverShift) := goodIn_app (goodIn_of _ (by decide +kernel)) ggX7_digest_X7_receiverShift
set_option maxRecDepth 20000 in
theorem ggX7_digest_X7_wrongCharacters : GoodIn wsX7_digest wsX7_wrongCharacters := goodIn_r _ [73, 4, 3, 74, 75, 76, 77, 78, 79, 80, 11, 12, 13, 14, 15, 16, 81, 34, 35, 36, 37, 128, 129, 130, 131, 132, 140, 141, 142, 143, 144, 145, 146, 147, 133, 134, 135, 136, 137, 138, 139, 148, 149] (by decide +kernel) (by decide +kernel)
set_option maxRecDepth 20000 in
theorem gX7_digest_X7_wrongCharacters : GoodIn wsX7_digest (wsV RX7 274 RX7 yX7_wrongCharacters wsX7_wrongCharacters) := goodIn_app (goodIn_of _ (by decide +kernel)) ggX7_digest_X7_wrongCharacters
set_option maxRecDepth 20000 in
theorem ggX7_digest_X7_bestRepair : GoodIn wsX7_digest wsX7_bestRepair := goodIn_r _ [85, 4, 5, 3, 46, 47, 48, 9, 49, 11, 12, 13, 14, 15, 16, 81, 34, 35, 36, 37, 86, 87, 88, 89, 90, 91, 92, 93, 94, 95, 96, 97, 98, 99, 100, 101, 102, 103, 104, 105, 106, 107, 33, 108, 109, 110, 111, 112, 113, 114, 128, 129, 130, 131, 132, 140, 141, 142, 143, 144, 145, 146, 147, 133, 134, 135, 136, 137, 138, 139, 148, 149, 150] (by decide +kernel) (by decide +kernel)
set_option maxRecDepth 20000 in
theorem gX7_digest_X7_bestRepair : GoodIn wsX7_digest (wsV RX7 277 RX7 yX7_bestRepair wsX7_bestRepair) := goodIn_app (goodIn_of _ (by decide +kernel)) ggX7_digest_X7_bestRepair
set_option maxRecDepth 20000 in
theorem ggX7_digest_X5_hashOnto : GoodIn wsX7_digest wsX5_hashOnto := goodIn_r _ [118, 16, 119, 33, 34, 35, 14, 36, 37, 148, 149] (by decide +kernel) (by decide +kernel)
set_option maxRecDepth 20000 in
theorem gX7_digest_X5_hashOnto : GoodIn wsX7_digest (wsV RX7 280 RX5 yX5_hashOnto wsX5_hashOnto) := goodIn_app (goodIn_of _ (by decide +kernel)) ggX7_digest_X5_hashOnto
set_option maxRecDepth 20000 in
theorem ggX7_digest_X5_at : GoodIn wsX7_digest wsX5_at := goodIn_r _ [36, 16, 37, 148, 149] (by decide +kernel) (by decide +kernel)
set_option maxRecDepth 20000 in
theorem gX7_digest_X5_at : GoodIn wsX7_digest (wsV RX7 116 RX5 yX5_at wsX5_at) := goodIn_app (goodIn_of _ (by decide +kernel)) ggX7_digest_X5_at
set_option maxRecDepth 20000 in
theorem ggX7_digest_X1_lengthOf : GoodIn wsX7_digest wsX1_lengthOf := goodIn_r _ [123, 124, 125, 126, 89, 127, 99, 103, 34, 35, 14, 36, 16, 37, 150, 148, 149] (by decide +kernel) (by decide +kernel)
set_option maxRecDepth 20000 in
theorem gX7_digest_X1_lengthOf : GoodIn wsX7_digest (wsV RX7 163 RX1 yX1_lengthOf wsX1_lengthOf) := goodIn_app (goodIn_of _ (by decide +kernel)) ggX7_digest_X1_lengthOf
set_option maxRecDepth 20000 in
theorem ggX7_digest_X5_count : GoodIn wsX7_digest wsX5_count := goodIn_r _ [32, 16, 33, 34, 35, 14, 36, 37, 148, 149] (by decide +kernel) (by decide +kernel)
set_option maxRecDepth 20000 in
theorem gX7_digest_X5_count : GoodIn wsX7_digest (wsV RX7 137 RX5 yX5_count wsX5_count) := goodIn_app (goodIn_of _ (by decide +kernel)) ggX7_digest_X5_count
set_option maxRecDepth 20000 in
theorem ggJ0_length_8abf5_J0_coder_7d493 : GoodIn wsJ0_length_8abf5 wsJ0_coder_7d493 := goodIn_r _ [6, 7, 8] (by decide +kernel) (by decide +kernel)
set_option maxRecDepth 20000 in
theorem gJ0_length_8abf5_J0_coder_7d493 : GoodIn wsJ0_length_8abf5 (wsV RJ0 335 RJ0 yJ0_coder_7d493 wsJ0_coder_7d493) := goodIn_app (goodIn_of _ (by decide +kernel)) ggJ0_length_8abf5_J0_coder_7d493
set_option maxRecDepth 20000 in
theorem ggJ0_charAt_5068e_J0_isLatin1_aae02 : GoodIn wsJ0_charAt_5068e wsJ0_isLatin1_aae02 := goodIn_r _ [6, 7, 8] (by decide +kernel) (by decide +kernel)
set_option maxRecDepth 20000 in
theorem gJ0_charAt_5068e_J0_isLatin1_aae02 : GoodIn wsJ0_charAt_5068e (wsV RJ0 492 RJ0 yJ0_isLatin1_aae02 wsJ0_isLatin1_aae02) := goodIn_app (goodIn_of _ (by decide +kernel)) ggJ0_charAt_5068e_J0_isLatin1_aae02
set_option maxRecDepth 20000 in
theorem ggJ0_charAt_5068e_J1_charAt_3b067 : GoodIn wsJ0_charAt_5068e wsJ1_charAt_3b067 := goodIn_r _ [12, 13, 14, 5, 15, 16, 17, 18, 19, 20] (by decide +kernel) (by decide +kernel)
set_option maxRecDepth 20000 in
theorem gJ0_charAt_5068e_J1_charAt_3b067 : GoodIn wsJ0_charAt_5068e (va_wsS RJ0 495 yJ1_charAt_3b067 wsJ1_charAt_3b067) := goodIn_app (goodIn_of _ (by decide +kernel)) ggJ0_charAt_5068e_J1_charAt_3b067
set_option maxRecDepth 20000 in
theorem ggJ0_indexOf_0f7a4_J0_indexOf_7cf53 : GoodIn wsJ0_indexOf_0f7a4 wsJ0_indexOf_7cf53 := goodIn_r _ [5, 6, 7, 8, 9, 4, 10, 11, 12, 13, 14, 15, 16, 17, 18, 19, 20, 21, 22, 23, 24, 25, 26, 27, 28, 29, 30, 31, 32, 33, 34, 35, 36, 37, 38, 39, 40, 41, 42, 43, 44, 45, 46, 47, 48, 49, 50, 51, 52, 53, 54, 55, 56, 57, 58, 59, 60, 61, 62, 63, 64, 65, 66, 67, 68, 69, 70, 71, 72, 73, 74, 75, 76, 77, 78, 79, 80, 81, 82, 83, 84, 85] (by decide +kernel) (by decide +kernel)
set_option maxRecDepth 20000 in
theorem gJ0_indexOf_0f7a4_J0_indexOf_7cf53 : GoodIn wsJ0_indexOf_0f7a4 (wsV RJ0 633 RJ0 yJ0_indexOf_7cf53 wsJ0_indexOf_7cf53) := goodIn_app (goodIn_of _ (by decide +kernel)) ggJ0_indexOf_0f7a4_J0_indexOf_7cf53
set_option maxRecDepth 20000 in
theorem ggJ0_indexOf_7cf53_J0_isLatin1_aae02 : GoodIn wsJ0_indexOf_7cf53 wsJ0_isLatin1_aae02 := goodIn_r _ [6, 7, 8] (by decide +kernel) (by decide +kernel)
set_option maxRecDepth 20000 in
theorem gJ0_indexOf_7cf53_J0_isLatin1_aae02 : GoodIn wsJ0_indexOf_7cf53 (wsV RJ0 492 RJ0 yJ0_isLatin1_aae02 wsJ0_isLatin1_aae02) := goodIn_app (goodIn_of _ (by decide +kernel)) ggJ0_indexOf_7cf53_J0_isLatin1_aae02
set_option maxRecDepth 20000 in
theorem ggJ0_indexOf_7cf53_J0_length_8abf5 : GoodIn wsJ0_indexOf_7cf53 wsJ0_length_8abf5 := goodIn_r _ [12, 1, 13, 14, 15, 5, 16, 7, 8] (by decide +kernel) (by decide +kernel)
set_option maxRecDepth 20000 in
theorem gJ0_indexOf_7cf53_J0_length_8abf5 : GoodIn wsJ0_indexOf_7cf53 (wsV RJ0 505 RJ0 yJ0_length_8abf5 wsJ0_length_8abf5) := goodIn_app (goodIn_of _ (by decide +kernel)) ggJ0_indexOf_7cf53_J0_length_8abf5
set_option maxRecDepth 20000 in
theorem ggJ0_indexOf_7cf53_J1_indexOf_4cfef : GoodIn wsJ0_indexOf_7cf53 wsJ1_indexOf_4cfef := goodIn_r _ [20, 21, 22, 23, 24, 25, 26, 27, 28, 29, 19, 30, 31, 32, 33] (by decide +kernel) (by decide +kernel)
set_option maxRecDepth 20000 in
theorem gJ0_indexOf_7cf53_J1_indexOf_4cfef : GoodIn wsJ0_indexOf_7cf53 (va_wsS RJ0 637 yJ1_indexOf_4cfef wsJ1_indexOf_4cfef) := goodIn_app (goodIn_of _ (by decide +kernel)) ggJ0_indexOf_7cf53_J1_indexOf_4cfef
set_option maxRecDepth 20000 in
theorem ggJ0_checkIndex_df160_J3_checkIndex_8e157 : GoodIn wsJ0_checkIndex_df160 wsJ3_checkIndex_8e157 := goodIn_r _ [5] (by decide +kernel) (by decide +kernel)
set_option maxRecDepth 20000 in
theorem gJ0_checkIndex_df160_J3_checkIndex_8e157 : GoodIn wsJ0_checkIndex_df160 (va_wsS RJ0 1059 yJ3_checkIndex_8e157 wsJ3_checkIndex_8e157) := goodIn_app (goodIn_of _ (by decide +kernel)) ggJ0_checkIndex_df160_J3_checkIndex_8e157
set_option maxRecDepth 20000 in
theorem ggJ1_charAt_3b067_J0_checkIndex_df160 : GoodIn wsJ1_charAt_3b067 wsJ0_checkIndex_df160 := goodIn_r _ [4, 5, 6, 7, 8, 9] (by decide +kernel) (by decide +kernel)
set_option maxRecDepth 20000 in
theorem gJ1_charAt_3b067_J0_checkIndex_df160 : GoodIn wsJ1_charAt_3b067 (va_wsS RJ1 9 yJ0_checkIndex_df160 wsJ0_checkIndex_df160) := goodIn_app (goodIn_of _ (by decide +kernel)) ggJ1_charAt_3b067_J0_checkIndex_df160
set_option maxRecDepth 20000 in
theorem ggJ1_indexOf_4cfef_J1_canEncode_9a6ad : GoodIn wsJ1_indexOf_4cfef wsJ1_canEncode_9a6ad := goodIn_r _ [11] (by decide +kernel) (by decide +kernel)
set_option maxRecDepth 20000 in
theorem gJ1_indexOf_4cfef_J1_canEncode_9a6ad : GoodIn wsJ1_indexOf_4cfef (va_wsS RJ1 88 yJ1_canEncode_9a6ad wsJ1_canEncode_9a6ad) := goodIn_app (goodIn_of _ (by decide +kernel)) ggJ1_indexOf_4cfef_J1_canEncode_9a6ad
set_option maxRecDepth 20000 in
theorem ggJ1_indexOf_4cfef_J1_indexOfChar_4cfef : GoodIn wsJ1_indexOf_4cfef wsJ1_indexOfChar_4cfef := goodIn_r _ [14] (by decide +kernel) (by decide +kernel)
set_option maxRecDepth 20000 in
theorem gJ1_indexOf_4cfef_J1_indexOfChar_4cfef : GoodIn wsJ1_indexOf_4cfef (va_wsS RJ1 95 yJ1_indexOfChar_4cfef wsJ1_indexOfChar_4cfef) := goodIn_app (goodIn_of _ (by decide +kernel)) ggJ1_indexOf_4cfef_J1_indexOfChar_4cfef
set_option maxRecDepth 20000 in
theorem ggL_append_X7_append : GoodIn wsL_append wsX7_append := goodIn_ca (goodIn_ca (goodIn_r _ [7, 8, 9, 10, 11, 12, 13, 14, 15, 16, 17, 18, 19, 20, 21, 22, 23, 24, 25, 26, 27, 28, 29, 30, 31, 32, 33, 34, 35, 36, 37, 38, 39, 40, 41, 42, 43, 44, 45, 46, 47, 48, 49, 50, 51, 52, 53, 54, 55, 56, 57, 58, 59, 60, 61, 62, 63, 64, 65, 66, 67, 68, 69, 70, 71, 72, 73, 74, 75, 76, 77, 78, 79, 80, 81, 82, 83, 84, 85, 86, 87, 88, 89, 90, 91, 92, 93, 94, 95, 96, 97, 98, 99, 100, 101, 102, 103, 104, 105, 106, 107, 108, 109, 110, 111, 112, 113, 114, 115, 116, 117, 118, 119, 120, 121, 122, 123, 124, 125, 126, 127, 128, 129] (by decide +kernel) (by decide +kernel)) (goodIn_sub (fun _ h => List.mem_cons_of_mem _ (List.mem_append_left _ (List.mem_append_right _ h))) (by decide +kernel))) (goodIn_sub (fun _ h => List.mem_cons_of_mem _ (List.mem_append_right _ h)) (by decide +kernel))
set_option maxRecDepth 20000 in
theorem gL_append_X7_append : GoodIn wsL_append (wsV RL 9 RX7 yX7_append wsX7_append) := goodIn_app (goodIn_of _ (by decide +kernel)) ggL_append_X7_append
