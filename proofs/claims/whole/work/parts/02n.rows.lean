set_option maxRecDepth 20000 in
theorem gX8_segmentLength_X8_decodes : GoodIn wsX8_segmentLength (wsV RX8 126 RX8 yX8_decodes wsX8_decodes) := goodIn_app (goodIn_of _ (by decide +kernel)) ggX8_segmentLength_X8_decodes
set_option maxRecDepth 20000 in
theorem ggX8_segmentLength_X8_in : GoodIn wsX8_segmentLength wsX8_in := goodIn_r _ [17] (by decide +kernel) (by decide +kernel)
set_option maxRecDepth 20000 in
theorem gX8_segmentLength_X8_in : GoodIn wsX8_segmentLength (va_wsS RX8 44 yX8_in wsX8_in) := goodIn_app (goodIn_of _ (by decide +kernel)) ggX8_segmentLength_X8_in
set_option maxRecDepth 20000 in
theorem ggX8_segmentLength_X8_refused : GoodIn wsX8_segmentLength wsX8_refused := goodIn_r _ [46, 47, 48, 49, 50, 51, 52, 53, 54, 55, 56, 57, 58, 59, 60, 61, 62, 63, 64] (by decide +kernel) (by decide +kernel)
set_option maxRecDepth 20000 in
theorem gX8_segmentLength_X8_refused : GoodIn wsX8_segmentLength (wsV RX8 65 RX8 yX8_refused wsX8_refused) := goodIn_app (goodIn_of _ (by decide +kernel)) ggX8_segmentLength_X8_refused
set_option maxRecDepth 20000 in
theorem ggX8_segmentKind_X8_decodes : GoodIn wsX8_segmentKind wsX8_decodes := goodIn_r _ [7, 8, 9, 10, 11, 1, 12, 13, 14, 15, 16, 6, 17, 18, 19, 20, 21, 22, 23, 2, 24, 25, 26, 27, 28, 29, 30, 31, 32, 33, 34, 35, 36, 37, 38, 39, 40, 41, 42, 48, 49, 50, 51, 52, 53, 54, 55, 56, 57, 58, 59, 60, 61, 62, 63, 64] (by decide +kernel) (by decide +kernel)
set_option maxRecDepth 20000 in
theorem gX8_segmentKind_X8_decodes : GoodIn wsX8_segmentKind (wsV RX8 126 RX8 yX8_decodes wsX8_decodes) := goodIn_app (goodIn_of _ (by decide +kernel)) ggX8_segmentKind_X8_decodes
set_option maxRecDepth 20000 in
theorem ggX8_segmentKind_X8_in : GoodIn wsX8_segmentKind wsX8_in := goodIn_r _ [17] (by decide +kernel) (by decide +kernel)
set_option maxRecDepth 20000 in
theorem gX8_segmentKind_X8_in : GoodIn wsX8_segmentKind (va_wsS RX8 44 yX8_in wsX8_in) := goodIn_app (goodIn_of _ (by decide +kernel)) ggX8_segmentKind_X8_in
set_option maxRecDepth 20000 in
theorem ggX8_segmentKind_X8_refused : GoodIn wsX8_segmentKind wsX8_refused := goodIn_r _ [46, 47, 48, 49, 50, 51, 52, 53, 54, 55, 56, 57, 58, 59, 60, 61, 62, 63, 64] (by decide +kernel) (by decide +kernel)
set_option maxRecDepth 20000 in
theorem gX8_segmentKind_X8_refused : GoodIn wsX8_segmentKind (wsV RX8 65 RX8 yX8_refused wsX8_refused) := goodIn_app (goodIn_of _ (by decide +kernel)) ggX8_segmentKind_X8_refused
set_option maxRecDepth 20000 in
theorem ggX8_guesses_X8_decodes : GoodIn wsX8_guesses wsX8_decodes := goodIn_r _ [6, 7, 8, 9, 10, 11, 12, 13, 14, 15, 16, 5, 17, 18, 19, 20, 21, 22, 23, 24, 25, 26, 27, 28, 29, 30, 31, 32, 33, 34, 35, 36, 37, 38, 39, 40, 41, 42, 43, 48, 49, 50, 51, 52, 53, 54, 55, 56, 57, 58, 59, 60, 61, 62, 63, 64] (by decide +kernel) (by decide +kernel)
set_option maxRecDepth 20000 in
theorem gX8_guesses_X8_decodes : GoodIn wsX8_guesses (wsV RX8 126 RX8 yX8_decodes wsX8_decodes) := goodIn_app (goodIn_of _ (by decide +kernel)) ggX8_guesses_X8_decodes
set_option maxRecDepth 20000 in
theorem ggX8_guesses_X8_withBit : GoodIn wsX8_guesses wsX8_withBit := goodIn_r _ [47, 11, 24, 48, 49, 50, 51, 52, 53, 54, 55, 56, 57, 58, 59, 60, 61, 62, 63, 64] (by decide +kernel) (by decide +kernel)
set_option maxRecDepth 20000 in
theorem gX8_guesses_X8_withBit : GoodIn wsX8_guesses (wsV RX8 133 RX8 yX8_withBit wsX8_withBit) := goodIn_app (goodIn_of _ (by decide +kernel)) ggX8_guesses_X8_withBit
set_option maxRecDepth 20000 in
theorem ggX8_doubtful_X8_decodes : GoodIn wsX8_doubtful wsX8_decodes := goodIn_r _ [6, 7, 8, 9, 10, 11, 12, 13, 14, 15, 16, 5, 17, 18, 19, 20, 21, 22, 23, 24, 25, 26, 27, 28, 29, 30, 31, 32, 33, 34, 35, 36, 37, 38, 39, 40, 41, 42, 43, 48, 49, 50, 51, 52, 53, 54, 55, 56, 57, 58, 59, 60, 61, 62, 63, 64] (by decide +kernel) (by decide +kernel)
set_option maxRecDepth 20000 in
theorem gX8_doubtful_X8_decodes : GoodIn wsX8_doubtful (wsV RX8 126 RX8 yX8_decodes wsX8_decodes) := goodIn_app (goodIn_of _ (by decide +kernel)) ggX8_doubtful_X8_decodes
set_option maxRecDepth 20000 in
theorem ggX8_doubtful_X8_withBit : GoodIn wsX8_doubtful wsX8_withBit := goodIn_r _ [47, 11, 24, 48, 49, 50, 51, 52, 53, 54, 55, 56, 57, 58, 59, 60, 61, 62, 63, 64] (by decide +kernel) (by decide +kernel)
set_option maxRecDepth 20000 in
theorem gX8_doubtful_X8_withBit : GoodIn wsX8_doubtful (wsV RX8 133 RX8 yX8_withBit wsX8_withBit) := goodIn_app (goodIn_of _ (by decide +kernel)) ggX8_doubtful_X8_withBit
set_option maxRecDepth 20000 in
theorem ggX8_bells_X8_decodes : GoodIn wsX8_bells wsX8_decodes := goodIn_r _ [7, 8, 9, 10, 11, 12, 2, 13, 14, 15, 16, 6, 17, 18, 19, 20, 21, 22, 23, 24, 25, 26, 27, 28, 29, 30, 31, 32, 33, 34, 35, 36, 37, 38, 39, 40, 41, 42, 43, 44, 45, 46, 47, 48, 49, 50, 51, 52, 53, 54, 55, 56, 57, 58, 59, 60] (by decide +kernel) (by decide +kernel)
set_option maxRecDepth 20000 in
theorem gX8_bells_X8_decodes : GoodIn wsX8_bells (wsV RX8 126 RX8 yX8_decodes wsX8_decodes) := goodIn_app (goodIn_of _ (by decide +kernel)) ggX8_bells_X8_decodes
set_option maxRecDepth 20000 in
theorem ggX8_questions_X8_decodes : GoodIn wsX8_questions wsX8_decodes := goodIn_r _ [7, 8, 9, 10, 11, 12, 13, 2, 14, 15, 16, 6, 17, 18, 19, 20, 21, 22, 23, 24, 25, 26, 27, 28, 29, 30, 31, 32, 33, 34, 35, 36, 37, 38, 39, 40, 41, 42, 43, 44, 45, 46, 47, 48, 49, 50, 51, 52, 53, 54, 55, 56, 57, 58, 59, 60] (by decide +kernel) (by decide +kernel)
set_option maxRecDepth 20000 in
theorem gX8_questions_X8_decodes : GoodIn wsX8_questions (wsV RX8 126 RX8 yX8_decodes wsX8_decodes) := goodIn_app (goodIn_of _ (by decide +kernel)) ggX8_questions_X8_decodes
set_option maxRecDepth 20000 in
theorem ggX8_receiverShift_X8_decodes : GoodIn wsX8_receiverShift wsX8_decodes := goodIn_r _ [7, 8, 9, 10, 11, 12, 13, 14, 2, 15, 16, 6, 17, 18, 19, 20, 21, 22, 23, 24, 25, 26, 27, 28, 29, 30, 31, 32, 33, 34, 35, 36, 37, 38, 39, 40, 41, 42, 43, 44, 45, 46, 47, 48, 49, 50, 51, 52, 53, 54, 55, 56, 57, 58, 59, 60] (by decide +kernel) (by decide +kernel)
set_option maxRecDepth 20000 in
theorem gX8_receiverShift_X8_decodes : GoodIn wsX8_receiverShift (wsV RX8 126 RX8 yX8_decodes wsX8_decodes) := goodIn_app (goodIn_of _ (by decide +kernel)) ggX8_receiverShift_X8_decodes
set_option maxRecDepth 20000 in
theorem ggX8_wrongCharacters_X8_decodes : GoodIn wsX8_wrongCharacters wsX8_decodes := goodIn_r _ [6, 7, 8, 9, 10, 11, 12, 13, 14, 15, 16, 5, 17, 18, 19, 20, 21, 22, 23, 24, 25, 26, 27, 28, 29, 30, 31, 32, 33, 34, 35, 36, 37, 38, 39, 40, 41, 42, 43, 48, 49, 50, 51, 52, 53, 54, 55, 56, 57, 58, 59, 60, 61, 62, 63, 64] (by decide +kernel) (by decide +kernel)
set_option maxRecDepth 20000 in
theorem gX8_wrongCharacters_X8_decodes : GoodIn wsX8_wrongCharacters (wsV RX8 126 RX8 yX8_decodes wsX8_decodes) := goodIn_app (goodIn_of _ (by decide +kernel)) ggX8_wrongCharacters_X8_decodes
set_option maxRecDepth 20000 in
theorem ggX8_wrongCharacters_X8_wrong : GoodIn wsX8_wrongCharacters wsX8_wrong := goodIn_r _ [47, 10, 8, 43, 48, 49, 50, 51, 52, 53, 54, 55, 56, 57, 58, 59, 60, 61, 62, 63, 64] (by decide +kernel) (by decide +kernel)
set_option maxRecDepth 20000 in
theorem gX8_wrongCharacters_X8_wrong : GoodIn wsX8_wrongCharacters (wsV RX8 136 RX8 yX8_wrong wsX8_wrong) := goodIn_app (goodIn_of _ (by decide +kernel)) ggX8_wrongCharacters_X8_wrong
set_option maxRecDepth 20000 in
theorem ggX8_plausibility_X8_decodes : GoodIn wsX8_plausibility wsX8_decodes := goodIn_r _ [7, 8, 9, 10, 11, 2, 12, 13, 14, 15, 16, 6, 17, 18, 19, 20, 21, 22, 23, 24, 25, 26, 27, 28, 29, 30, 31, 32, 33, 34, 35, 36, 37, 38, 39, 40, 41, 42, 43, 48, 49, 50, 51, 52, 53, 54, 55, 56, 57, 58, 59, 60, 61, 62, 63, 64] (by decide +kernel) (by decide +kernel)
set_option maxRecDepth 20000 in
theorem gX8_plausibility_X8_decodes : GoodIn wsX8_plausibility (wsV RX8 126 RX8 yX8_decodes wsX8_decodes) := goodIn_app (goodIn_of _ (by decide +kernel)) ggX8_plausibility_X8_decodes
set_option maxRecDepth 20000 in
theorem ggX8_plausibility_X8_withBit : GoodIn wsX8_plausibility wsX8_withBit := goodIn_r _ [47, 2, 24, 48, 49, 50, 51, 52, 53, 54, 55, 56, 57, 58, 59, 60, 61, 62, 63, 64] (by decide +kernel) (by decide +kernel)
set_option maxRecDepth 20000 in
theorem gX8_plausibility_X8_withBit : GoodIn wsX8_plausibility (wsV RX8 133 RX8 yX8_withBit wsX8_withBit) := goodIn_app (goodIn_of _ (by decide +kernel)) ggX8_plausibility_X8_withBit
set_option maxRecDepth 20000 in
theorem ggX8_doubtsWith_X8_decodes : GoodIn wsX8_doubtsWith wsX8_decodes := goodIn_r _ [5, 6, 7, 8, 9, 10, 11, 12, 13, 14, 15, 4, 16, 17, 18, 19, 20, 21, 22, 23, 24, 25, 26, 27, 28, 29, 30, 31, 32, 33, 34, 35, 36, 37, 38, 39, 40, 41, 42, 47, 48, 49, 50, 51, 52, 53, 54, 55, 56, 57, 58, 59, 60, 61, 62, 63] (by decide +kernel) (by decide +kernel)
set_option maxRecDepth 20000 in
theorem gX8_doubtsWith_X8_decodes : GoodIn wsX8_doubtsWith (wsV RX8 126 RX8 yX8_decodes wsX8_decodes) := goodIn_app (goodIn_of _ (by decide +kernel)) ggX8_doubtsWith_X8_decodes
set_option maxRecDepth 20000 in
theorem ggX8_doubtsWith_X8_withBit : GoodIn wsX8_doubtsWith wsX8_withBit := goodIn_r _ [46, 10, 23, 47, 48, 49, 50, 51, 52, 53, 54, 55, 56, 57, 58, 59, 60, 61, 62, 63] (by decide +kernel) (by decide +kernel)
set_option maxRecDepth 20000 in
theorem gX8_doubtsWith_X8_withBit : GoodIn wsX8_doubtsWith (wsV RX8 133 RX8 yX8_withBit wsX8_withBit) := goodIn_app (goodIn_of _ (by decide +kernel)) ggX8_doubtsWith_X8_withBit
set_option maxRecDepth 20000 in
theorem ggX8_doubtfulWith_X8_in : GoodIn wsX8_doubtfulWith wsX8_in := goodIn_r _ [5] (by decide +kernel) (by decide +kernel)
set_option maxRecDepth 20000 in
theorem gX8_doubtfulWith_X8_in : GoodIn wsX8_doubtfulWith (va_wsS RX8 44 yX8_in wsX8_in) := goodIn_app (goodIn_of _ (by decide +kernel)) ggX8_doubtfulWith_X8_in
set_option maxRecDepth 20000 in
theorem ggX8_doubtfulWith_X8_refused : GoodIn wsX8_doubtfulWith wsX8_refused := goodIn_r _ [9, 10, 56, 57, 58, 59, 60, 61, 62, 63, 64, 65, 66, 67, 68, 69, 70, 71, 72] (by decide +kernel) (by decide +kernel)
set_option maxRecDepth 20000 in
theorem gX8_doubtfulWith_X8_refused : GoodIn wsX8_doubtfulWith (wsV RX8 65 RX8 yX8_refused wsX8_refused) := goodIn_app (goodIn_of _ (by decide +kernel)) ggX8_doubtfulWith_X8_refused
set_option maxRecDepth 20000 in
theorem ggX8_doubtfulWith_X8_doubtsWith : GoodIn wsX8_doubtfulWith wsX8_doubtsWith := goodIn_r _ [14, 15, 16, 17, 4, 18, 19, 1, 20, 21, 22, 23, 24, 25, 2, 3, 5, 26, 27, 28, 29, 30, 31, 32, 33, 34, 35, 36, 37, 38, 39, 40, 41, 42, 43, 44, 45, 46, 47, 48, 49, 50, 51, 52, 53, 54, 55, 56, 57, 58, 59, 60, 61, 62, 63, 64, 65, 66, 67, 68, 69, 70, 71, 72] (by decide +kernel) (by decide +kernel)
set_option maxRecDepth 20000 in
theorem gX8_doubtfulWith_X8_doubtsWith : GoodIn wsX8_doubtfulWith (wsV RX8 139 RX8 yX8_doubtsWith wsX8_doubtsWith) := goodIn_app (goodIn_of _ (by decide +kernel)) ggX8_doubtfulWith_X8_doubtsWith
set_option maxRecDepth 20000 in
theorem ggX8_repair_X8_doubtsWith : GoodIn wsX8_repair wsX8_doubtsWith := goodIn_r _ [6, 7, 8, 9, 5, 10, 11, 1, 12, 13, 14, 15, 16, 17, 18, 19, 20, 21, 22, 23, 24, 25, 26, 27, 28, 29, 30, 31, 32, 33, 34, 35, 36, 37, 38, 39, 40, 41, 42, 43, 44, 45, 46, 47, 48, 49, 50, 51, 52, 53, 54, 55, 56, 57, 58, 59, 60, 61, 62, 63, 64, 65, 66, 67] (by decide +kernel) (by decide +kernel)
set_option maxRecDepth 20000 in
theorem gX8_repair_X8_doubtsWith : GoodIn wsX8_repair (wsV RX8 139 RX8 yX8_doubtsWith wsX8_doubtsWith) := goodIn_app (goodIn_of _ (by decide +kernel)) ggX8_repair_X8_doubtsWith
set_option maxRecDepth 20000 in
theorem ggX8_bestRepair_X8_repair : GoodIn wsX8_bestRepair wsX8_repair := goodIn_r _ [6, 7, 8, 9, 10, 5, 11, 12, 13, 14, 15, 16, 17, 18, 19, 20, 21, 22, 23, 24, 25, 26, 27, 28, 29, 30, 31, 32, 33, 34, 35, 36, 37, 38, 39, 40, 41, 42, 43, 44, 45, 46, 47, 48, 49, 50, 51, 52, 53, 54, 55, 56, 57, 58, 59, 60, 61, 62, 63, 64, 65, 66, 67, 68, 69, 70, 71, 72] (by decide +kernel) (by decide +kernel)
set_option maxRecDepth 20000 in
theorem gX8_bestRepair_X8_repair : GoodIn wsX8_bestRepair (wsV RX8 142 RX8 yX8_repair wsX8_repair) := goodIn_app (goodIn_of _ (by decide +kernel)) ggX8_bestRepair_X8_repair
set_option maxRecDepth 20000 in
theorem ggX8_undo_X8_refused : GoodIn wsX8_undo wsX8_refused := goodIn_r _ [8, 9, 10, 11, 12, 13, 14, 15, 16, 17, 18, 19, 20, 21, 22, 23, 24, 25, 26] (by decide +kernel) (by decide +kernel)
set_option maxRecDepth 20000 in
theorem gX8_undo_X8_refused : GoodIn wsX8_undo (wsV RX8 65 RX8 yX8_refused wsX8_refused) := goodIn_app (goodIn_of _ (by decide +kernel)) ggX8_undo_X8_refused
set_option maxRecDepth 20000 in
theorem ggX8_digest_X8_repair : GoodIn wsX8_digest wsX8_repair := goodIn_r _ [17, 3, 18, 19, 20, 16, 21, 22, 23, 24, 25, 26, 27, 5, 6, 7, 8, 9, 28, 29, 30, 31, 32, 33, 34, 35, 11, 12, 36, 37, 38, 39, 40, 41, 42, 43, 44, 45, 46, 47, 48, 49, 50, 51, 52, 53, 10, 54, 55, 56, 57, 70, 71, 72, 73, 74, 75, 76, 77, 78, 79, 80, 81, 82, 83, 84, 85, 86] (by decide +kernel) (by decide +kernel)
set_option maxRecDepth 20000 in
theorem gX8_digest_X8_repair : GoodIn wsX8_digest (wsV RX8 142 RX8 yX8_repair wsX8_repair) := goodIn_app (goodIn_of _ (by decide +kernel)) ggX8_digest_X8_repair
set_option maxRecDepth 20000 in
theorem ggX8_digest_X8_decodes : GoodIn wsX8_digest wsX8_decodes := goodIn_r _ [25, 26, 3, 27, 5, 6, 7, 8, 9, 28, 29, 16, 30, 31, 32, 33, 34, 35, 11, 12, 36, 37, 38, 39, 40, 41, 42, 43, 44, 45, 46, 47, 48, 49, 50, 51, 52, 53, 10, 70, 71, 72, 73, 74, 75, 76, 77, 78, 79, 80, 81, 82, 83, 84, 85, 86] (by decide +kernel) (by decide +kernel)
set_option maxRecDepth 20000 in
theorem gX8_digest_X8_decodes : GoodIn wsX8_digest (wsV RX8 126 RX8 yX8_decodes wsX8_decodes) := goodIn_app (goodIn_of _ (by decide +kernel)) ggX8_digest_X8_decodes
set_option maxRecDepth 20000 in
theorem ggX8_digest_X8_faulty : GoodIn wsX8_digest wsX8_faulty := goodIn_r _ [61, 3, 70, 71, 72, 73, 74, 75, 76, 77, 78, 79, 80, 81, 82, 83, 84, 85, 86] (by decide +kernel) (by decide +kernel)
set_option maxRecDepth 20000 in
theorem gX8_digest_X8_faulty : GoodIn wsX8_digest (wsV RX8 82 RX8 yX8_faulty wsX8_faulty) := goodIn_app (goodIn_of _ (by decide +kernel)) ggX8_digest_X8_faulty
set_option maxRecDepth 20000 in
theorem ggX8_digest_X8_withBit : GoodIn wsX8_digest wsX8_withBit := goodIn_r _ [57, 6, 12, 70, 71, 72, 73, 74, 75, 76, 77, 78, 79, 80, 81, 82, 83, 84, 85, 86] (by decide +kernel) (by decide +kernel)
set_option maxRecDepth 20000 in
theorem gX8_digest_X8_withBit : GoodIn wsX8_digest (wsV RX8 133 RX8 yX8_withBit wsX8_withBit) := goodIn_app (goodIn_of _ (by decide +kernel)) ggX8_digest_X8_withBit
set_option maxRecDepth 20000 in
theorem ggX8_digest_X8_wrong : GoodIn wsX8_digest wsX8_wrong := goodIn_r _ [65, 5, 3, 10, 70, 71, 72, 73, 74, 75, 76, 77, 78, 79, 80, 81, 82, 83, 84, 85, 86] (by decide +kernel) (by decide +kernel)
set_option maxRecDepth 20000 in
theorem gX8_digest_X8_wrong : GoodIn wsX8_digest (wsV RX8 136 RX8 yX8_wrong wsX8_wrong) := goodIn_app (goodIn_of _ (by decide +kernel)) ggX8_digest_X8_wrong
set_option maxRecDepth 20000 in
theorem ggX8_digest_X8_usesOf : GoodIn wsX8_digest wsX8_usesOf := goodIn_r _ [69, 6, 12, 35, 11, 40, 41, 42, 16, 43, 3, 27, 70, 71, 72, 73, 74, 75, 76, 77, 78, 79, 80, 81, 82, 83, 84, 85, 86] (by decide +kernel) (by decide +kernel)
set_option maxRecDepth 20000 in
theorem gX8_digest_X8_usesOf : GoodIn wsX8_digest (wsV RX8 130 RX8 yX8_usesOf wsX8_usesOf) := goodIn_app (goodIn_of _ (by decide +kernel)) ggX8_digest_X8_usesOf
set_option maxRecDepth 20000 in
theorem ggJ0_length_8abf5_J0_coder_7d493 : GoodIn wsJ0_length_8abf5 wsJ0_coder_7d493 := goodIn_r _ [6, 7, 8] (by decide +kernel) (by decide +kernel)
set_option maxRecDepth 20000 in
theorem gJ0_length_8abf5_J0_coder_7d493 : GoodIn wsJ0_length_8abf5 (wsV RJ0 335 RJ0 yJ0_coder_7d493 wsJ0_coder_7d493) := goodIn_app (goodIn_of _ (by decide +kernel)) ggJ0_length_8abf5_J0_coder_7d493
set_option maxRecDepth 20000 in
theorem ggJ0_charAt_5068e_J0_isLatin1_aae02 : GoodIn wsJ0_charAt_5068e wsJ0_isLatin1_aae02 := goodIn_r _ [6, 7, 8] (by decide +kernel) (by decide +kernel)
set_option maxRecDepth 20000 in
theorem gJ0_charAt_5068e_J0_isLatin1_aae02 : GoodIn wsJ0_charAt_5068e (wsV RJ0 492 RJ0 yJ0_isLatin1_aae02 wsJ0_isLatin1_aae02) := goodIn_app (goodIn_of _ (by decide +kernel)) ggJ0_charAt_5068e_J0_isLatin1_aae02
set_option maxRecDepth 20000 in
theorem ggJ0_charAt_5068e_J1_charAt_3b067 : GoodIn wsJ0_charAt_5068e wsJ1_charAt_3b067 := goodIn_r _ [12, 13, 14, 5, 15, 16, 17, 18, 19, 20] (by decide +kernel) (by decide +kernel)
set_option maxRecDepth 20000 in
theorem gJ0_charAt_5068e_J1_charAt_3b067 : GoodIn wsJ0_charAt_5068e (va_wsS RJ0 495 yJ1_charAt_3b067 wsJ1_charAt_3b067) := goodIn_app (goodIn_of _ (by decide +kernel)) ggJ0_charAt_5068e_J1_charAt_3b067
set_option maxRecDepth 20000 in
theorem ggJ0_indexOf_0f7a4_J0_indexOf_7cf53 : GoodIn wsJ0_indexOf_0f7a4 wsJ0_indexOf_7cf53 := goodIn_r _ [5, 6, 7, 8, 9, 4, 10, 11, 12, 13, 14, 15, 16, 17, 18, 19, 20, 21, 22, 23, 24, 25, 26, 27, 28, 29, 30, 31, 32, 33, 34, 35, 36, 37, 38, 39, 40, 41, 42, 43, 44, 45, 46, 47, 48, 49, 50, 51, 52, 53, 54, 55, 56, 57, 58, 59, 60, 61, 62, 63, 64, 65, 66, 67, 68, 69, 70, 71, 72, 73, 74, 75, 76, 77, 78, 79, 80, 81, 82, 83, 84, 85] (by decide +kernel) (by decide +kernel)
set_option maxRecDepth 20000 in
theorem gJ0_indexOf_0f7a4_J0_indexOf_7cf53 : GoodIn wsJ0_indexOf_0f7a4 (wsV RJ0 633 RJ0 yJ0_indexOf_7cf53 wsJ0_indexOf_7cf53) := goodIn_app (goodIn_of _ (by decide +kernel)) ggJ0_indexOf_0f7a4_J0_indexOf_7cf53
set_option maxRecDepth 20000 in
theorem ggJ0_indexOf_7cf53_J0_isLatin1_aae02 : GoodIn wsJ0_indexOf_7cf53 wsJ0_isLatin1_aae02 := goodIn_r _ [6, 7, 8] (by decide +kernel) (by decide +kernel)
set_option maxRecDepth 20000 in
theorem gJ0_indexOf_7cf53_J0_isLatin1_aae02 : GoodIn wsJ0_indexOf_7cf53 (wsV RJ0 492 RJ0 yJ0_isLatin1_aae02 wsJ0_isLatin1_aae02) := goodIn_app (goodIn_of _ (by decide +kernel)) ggJ0_indexOf_7cf53_J0_isLatin1_aae02
set_option maxRecDepth 20000 in
theorem ggJ0_indexOf_7cf53_J0_length_8abf5 : GoodIn wsJ0_indexOf_7cf53 wsJ0_length_8abf5 := goodIn_r _ [12, 1, 13, 14, 15, 5, 16, 7, 8] (by decide +kernel) (by decide +kernel)
set_option maxRecDepth 20000 in
theorem gJ0_indexOf_7cf53_J0_length_8abf5 : GoodIn wsJ0_indexOf_7cf53 (wsV RJ0 505 RJ0 yJ0_length_8abf5 wsJ0_length_8abf5) := goodIn_app (goodIn_of _ (by decide +kernel)) ggJ0_indexOf_7cf53_J0_length_8abf5
set_option maxRecDepth 20000 in
theorem ggJ0_indexOf_7cf53_J1_indexOf_4cfef : GoodIn wsJ0_indexOf_7cf53 wsJ1_indexOf_4cfef := goodIn_r _ [20, 21, 22, 23, 24, 25, 26, 27, 28, 29, 19, 30, 31, 32, 33] (by decide +kernel) (by decide +kernel)
set_option maxRecDepth 20000 in
theorem gJ0_indexOf_7cf53_J1_indexOf_4cfef : GoodIn wsJ0_indexOf_7cf53 (va_wsS RJ0 637 yJ1_indexOf_4cfef wsJ1_indexOf_4cfef) := goodIn_app (goodIn_of _ (by decide +kernel)) ggJ0_indexOf_7cf53_J1_indexOf_4cfef
set_option maxRecDepth 20000 in
theorem ggJ0_checkIndex_df160_J3_checkIndex_8e157 : GoodIn wsJ0_checkIndex_df160 wsJ3_checkIndex_8e157 := goodIn_r _ [5] (by decide +kernel) (by decide +kernel)
set_option maxRecDepth 20000 in
theorem gJ0_checkIndex_df160_J3_checkIndex_8e157 : GoodIn wsJ0_checkIndex_df160 (va_wsS RJ0 1059 yJ3_checkIndex_8e157 wsJ3_checkIndex_8e157) := goodIn_app (goodIn_of _ (by decide +kernel)) ggJ0_checkIndex_df160_J3_checkIndex_8e157
set_option maxRecDepth 20000 in
theorem ggJ1_charAt_3b067_J0_checkIndex_df160 : GoodIn wsJ1_charAt_3b067 wsJ0_checkIndex_df160 := goodIn_r _ [4, 5, 6, 7, 8, 9] (by decide +kernel) (by decide +kernel)
set_option maxRecDepth 20000 in
theorem gJ1_charAt_3b067_J0_checkIndex_df160 : GoodIn wsJ1_charAt_3b067 (va_wsS RJ1 9 yJ0_checkIndex_df160 wsJ0_checkIndex_df160) := goodIn_app (goodIn_of _ (by decide +kernel)) ggJ1_charAt_3b067_J0_checkIndex_df160
set_option maxRecDepth 20000 in
theorem ggJ1_indexOf_4cfef_J1_canEncode_9a6ad : GoodIn wsJ1_indexOf_4cfef wsJ1_canEncode_9a6ad := goodIn_r _ [11] (by decide +kernel) (by decide +kernel)
set_option maxRecDepth 20000 in
theorem gJ1_indexOf_4cfef_J1_canEncode_9a6ad : GoodIn wsJ1_indexOf_4cfef (va_wsS RJ1 88 yJ1_canEncode_9a6ad wsJ1_canEncode_9a6ad) := goodIn_app (goodIn_of _ (by decide +kernel)) ggJ1_indexOf_4cfef_J1_canEncode_9a6ad
set_option maxRecDepth 20000 in
theorem ggJ1_indexOf_4cfef_J1_indexOfChar_4cfef : GoodIn wsJ1_indexOf_4cfef wsJ1_indexOfChar_4cfef := goodIn_r _ [14] (by decide +kernel) (by decide +kernel)
set_option maxRecDepth 20000 in
theorem gJ1_indexOf_4cfef_J1_indexOfChar_4cfef : GoodIn wsJ1_indexOf_4cfef (va_wsS RJ1 95 yJ1_indexOfChar_4cfef wsJ1_indexOfChar_4cfef) := goodIn_app (goodIn_of _ (by decide +kernel)) ggJ1_indexOf_4cfef_J1_indexOfChar_4cfef
set_option maxRecDepth 20000 in
theorem ggL_append_X7_append : GoodIn wsL_append wsX7_append := goodIn_ca (goodIn_ca (goodIn_r _ [7, 8, 9, 10, 11, 12, 13, 14, 15, 16, 17, 18, 19, 20, 21, 22, 23, 24, 25, 26, 27, 28, 29, 30, 31, 32, 33, 34, 35, 36, 37, 38, 39, 40, 41, 42, 43, 44, 45, 46, 47, 48, 49, 50, 51, 52, 53, 54, 55, 56, 57, 58, 59, 60, 61, 62, 63, 64, 65, 66, 67, 68, 69, 70, 71, 72, 73, 74, 75, 76, 77, 78, 79, 80, 81, 82, 83, 84, 85, 86, 87, 88, 89, 90, 91, 92, 93, 94, 95, 96, 97, 98, 99, 100, 101, 102, 103, 104, 105, 106, 107, 108, 109, 110, 111, 112, 113, 114, 115, 116, 117, 118, 119, 120, 121, 122, 123, 124, 125, 126, 127, 128, 129] (by decide +kernel) (by decide +kernel)) (goodIn_sub (fun _ h => List.mem_cons_of_mem _ (List.mem_append_left _ (List.mem_append_right _ h))) (by decide +kernel))) (goodIn_sub (fun _ h => List.mem_cons_of_mem _ (List.mem_append_right _ h)) (by decide +kernel))
