set_option maxRecDepth 20000 in
theorem ggX8_append_X8_refused : GoodIn wsX8_append wsX8_refused := goodIn_r _ [22, 23, 24, 25, 26, 27, 28, 29, 30, 31, 32, 33, 34, 35, 36, 37, 38, 39, 40] (by decide +kernel) (by decide +kernel)
set_option maxRecDepth 20000 in
theorem gX8_append_X8_refused : GoodIn wsX8_append (wsV RX8 65 RX8 yX8_refused wsX8_refused) := goodIn_app (goodIn_of _ (by decide +kernel)) ggX8_append_X8_refused
set_option maxRecDepth 20000 in
theorem ggX8_needed_X8_shiftOf : GoodIn wsX8_needed wsX8_shiftOf := goodIn_r _ [7, 8, 9, 6, 10, 11, 12, 13] (by decide +kernel) (by decide +kernel)
set_option maxRecDepth 20000 in
theorem gX8_needed_X8_shiftOf : GoodIn wsX8_needed (va_wsS RX8 68 yX8_shiftOf wsX8_shiftOf) := goodIn_app (goodIn_of _ (by decide +kernel)) ggX8_needed_X8_shiftOf
set_option maxRecDepth 20000 in
theorem ggX8_codesToSend_X8_needed : GoodIn wsX8_codesToSend wsX8_needed := goodIn_r _ [6, 7, 8, 9, 10, 11, 5, 12, 13, 14, 15, 16, 17, 18, 19, 20, 21, 22, 23, 24, 25, 26, 27, 28, 29, 30, 31, 32, 33, 34, 35] (by decide +kernel) (by decide +kernel)
set_option maxRecDepth 20000 in
theorem gX8_codesToSend_X8_needed : GoodIn wsX8_codesToSend (wsV RX8 71 RX8 yX8_needed wsX8_needed) := goodIn_app (goodIn_of _ (by decide +kernel)) ggX8_codesToSend_X8_needed
set_option maxRecDepth 20000 in
theorem ggX8_send_X8_needed : GoodIn wsX8_send wsX8_needed := goodIn_r _ [8, 2, 1, 3, 9, 10, 7, 11, 12, 13, 14, 15, 16, 17, 42, 43, 44, 45, 46, 47, 48, 49, 50, 51, 52, 53, 54, 55, 56, 57, 58] (by decide +kernel) (by decide +kernel)
set_option maxRecDepth 20000 in
theorem gX8_send_X8_needed : GoodIn wsX8_send (wsV RX8 71 RX8 yX8_needed wsX8_needed) := goodIn_app (goodIn_of _ (by decide +kernel)) ggX8_send_X8_needed
set_option maxRecDepth 20000 in
theorem ggX8_send_X8_refused : GoodIn wsX8_send wsX8_refused := goodIn_r _ [21, 22, 42, 43, 44, 45, 46, 47, 48, 49, 50, 51, 52, 53, 54, 55, 56, 57, 58] (by decide +kernel) (by decide +kernel)
set_option maxRecDepth 20000 in
theorem gX8_send_X8_refused : GoodIn wsX8_send (wsV RX8 65 RX8 yX8_refused wsX8_refused) := goodIn_app (goodIn_of _ (by decide +kernel)) ggX8_send_X8_refused
set_option maxRecDepth 20000 in
theorem ggX8_send_X8_saves : GoodIn wsX8_send wsX8_saves := goodIn_r _ [26, 27, 28, 2, 42, 43, 44, 45, 46, 47, 48, 49, 50, 51, 52, 53, 54, 55, 56, 57, 58] (by decide +kernel) (by decide +kernel)
set_option maxRecDepth 20000 in
theorem gX8_send_X8_saves : GoodIn wsX8_send (wsV RX8 75 RX8 yX8_saves wsX8_saves) := goodIn_app (goodIn_of _ (by decide +kernel)) ggX8_send_X8_saves
set_option maxRecDepth 20000 in
theorem ggX8_send_X8_shiftOf : GoodIn wsX8_send wsX8_shiftOf := goodIn_r _ [11, 12, 13, 7, 14, 15, 16, 17] (by decide +kernel) (by decide +kernel)
set_option maxRecDepth 20000 in
theorem gX8_send_X8_shiftOf : GoodIn wsX8_send (va_wsS RX8 68 yX8_shiftOf wsX8_shiftOf) := goodIn_app (goodIn_of _ (by decide +kernel)) ggX8_send_X8_shiftOf
set_option maxRecDepth 20000 in
theorem ggX8_send_X8_sends : GoodIn wsX8_send wsX8_sends := goodIn_r _ [32, 2, 42, 43, 44, 45, 46, 47, 48, 49, 50, 51, 52, 53, 54, 55, 56, 57, 58] (by decide +kernel) (by decide +kernel)
set_option maxRecDepth 20000 in
theorem gX8_send_X8_sends : GoodIn wsX8_send (wsV RX8 78 RX8 yX8_sends wsX8_sends) := goodIn_app (goodIn_of _ (by decide +kernel)) ggX8_send_X8_sends
set_option maxRecDepth 20000 in
theorem ggX8_send_X8_codeOf : GoodIn wsX8_send wsX8_codeOf := goodIn_r _ [35, 12, 13, 7, 14, 15, 16, 17, 36, 37, 38, 39, 40, 41] (by decide +kernel) (by decide +kernel)
set_option maxRecDepth 20000 in
theorem gX8_send_X8_codeOf : GoodIn wsX8_send (va_wsS RX8 59 yX8_codeOf wsX8_codeOf) := goodIn_app (goodIn_of _ (by decide +kernel)) ggX8_send_X8_codeOf
set_option maxRecDepth 20000 in
theorem ggX8_setFault_X8_in : GoodIn wsX8_setFault wsX8_in := goodIn_r _ [5] (by decide +kernel) (by decide +kernel)
set_option maxRecDepth 20000 in
theorem gX8_setFault_X8_in : GoodIn wsX8_setFault (va_wsS RX8 44 yX8_in wsX8_in) := goodIn_app (goodIn_of _ (by decide +kernel)) ggX8_setFault_X8_in
set_option maxRecDepth 20000 in
theorem ggX8_setFault_X8_refused : GoodIn wsX8_setFault wsX8_refused := goodIn_r _ [9, 10, 17, 18, 19, 20, 21, 22, 23, 24, 25, 26, 27, 28, 29, 30, 31, 32, 33] (by decide +kernel) (by decide +kernel)
set_option maxRecDepth 20000 in
theorem gX8_setFault_X8_refused : GoodIn wsX8_setFault (wsV RX8 65 RX8 yX8_refused wsX8_refused) := goodIn_app (goodIn_of _ (by decide +kernel)) ggX8_setFault_X8_refused
set_option maxRecDepth 20000 in
theorem ggX8_setFault_X8_saves : GoodIn wsX8_setFault wsX8_saves := goodIn_r _ [14, 15, 16, 1, 17, 18, 19, 20, 21, 22, 23, 24, 25, 26, 27, 28, 29, 30, 31, 32, 33] (by decide +kernel) (by decide +kernel)
set_option maxRecDepth 20000 in
theorem gX8_setFault_X8_saves : GoodIn wsX8_setFault (wsV RX8 75 RX8 yX8_saves wsX8_saves) := goodIn_app (goodIn_of _ (by decide +kernel)) ggX8_setFault_X8_saves
set_option maxRecDepth 20000 in
theorem ggX8_sentCode_X8_in : GoodIn wsX8_sentCode wsX8_in := goodIn_r _ [5] (by decide +kernel) (by decide +kernel)
set_option maxRecDepth 20000 in
theorem gX8_sentCode_X8_in : GoodIn wsX8_sentCode (va_wsS RX8 44 yX8_in wsX8_in) := goodIn_app (goodIn_of _ (by decide +kernel)) ggX8_sentCode_X8_in
set_option maxRecDepth 20000 in
theorem ggX8_sentCode_X8_refused : GoodIn wsX8_sentCode wsX8_refused := goodIn_r _ [9, 10, 11, 12, 13, 14, 15, 16, 17, 18, 19, 20, 21, 22, 23, 24, 25, 26, 27] (by decide +kernel) (by decide +kernel)
set_option maxRecDepth 20000 in
theorem gX8_sentCode_X8_refused : GoodIn wsX8_sentCode (wsV RX8 65 RX8 yX8_refused wsX8_refused) := goodIn_app (goodIn_of _ (by decide +kernel)) ggX8_sentCode_X8_refused
set_option maxRecDepth 20000 in
theorem ggX8_receivedCode_X8_in : GoodIn wsX8_receivedCode wsX8_in := goodIn_r _ [5] (by decide +kernel) (by decide +kernel)
set_option maxRecDepth 20000 in
theorem gX8_receivedCode_X8_in : GoodIn wsX8_receivedCode (va_wsS RX8 44 yX8_in wsX8_in) := goodIn_app (goodIn_of _ (by decide +kernel)) ggX8_receivedCode_X8_in
set_option maxRecDepth 20000 in
theorem ggX8_receivedCode_X8_refused : GoodIn wsX8_receivedCode wsX8_refused := goodIn_r _ [9, 10, 11, 12, 13, 14, 15, 16, 17, 18, 19, 20, 21, 22, 23, 24, 25, 26, 27] (by decide +kernel) (by decide +kernel)
set_option maxRecDepth 20000 in
theorem gX8_receivedCode_X8_refused : GoodIn wsX8_receivedCode (wsV RX8 65 RX8 yX8_refused wsX8_refused) := goodIn_app (goodIn_of _ (by decide +kernel)) ggX8_receivedCode_X8_refused
set_option maxRecDepth 20000 in
theorem ggX8_faults_X8_faulty : GoodIn wsX8_faults wsX8_faulty := goodIn_r _ [6, 7, 8, 9, 10, 11, 12, 13, 14, 15, 16, 17, 18, 19, 20, 21, 22, 23, 24] (by decide +kernel) (by decide +kernel)
set_option maxRecDepth 20000 in
theorem gX8_faults_X8_faulty : GoodIn wsX8_faults (wsV RX8 82 RX8 yX8_faulty wsX8_faulty) := goodIn_app (goodIn_of _ (by decide +kernel)) ggX8_faults_X8_faulty
set_option maxRecDepth 20000 in
theorem ggX8_isPlausible_X8_isWord : GoodIn wsX8_isPlausible wsX8_isWord := goodIn_r _ [7, 2, 1, 8, 9, 10, 11, 12, 13, 14, 15, 16, 17, 18, 19, 20, 21, 22, 23, 24] (by decide +kernel) (by decide +kernel)
set_option maxRecDepth 20000 in
theorem gX8_isPlausible_X8_isWord : GoodIn wsX8_isPlausible (wsV RX8 85 RX8 yX8_isWord wsX8_isWord) := goodIn_app (goodIn_of _ (by decide +kernel)) ggX8_isPlausible_X8_isWord
set_option maxRecDepth 20000 in
theorem ggX8_segment_X8_in : GoodIn wsX8_segment wsX8_in := goodIn_r _ [11] (by decide +kernel) (by decide +kernel)
set_option maxRecDepth 20000 in
theorem gX8_segment_X8_in : GoodIn wsX8_segment (va_wsS RX8 44 yX8_in wsX8_in) := goodIn_app (goodIn_of _ (by decide +kernel)) ggX8_segment_X8_in
set_option maxRecDepth 20000 in
theorem ggX8_segment_X8_isPlausible : GoodIn wsX8_segment wsX8_isPlausible := goodIn_r _ [15, 2, 16, 17, 18, 19, 10, 20, 33, 34, 35, 36, 37, 38, 39, 40, 41, 42, 43, 44, 45, 46, 47, 48, 49] (by decide +kernel) (by decide +kernel)
set_option maxRecDepth 20000 in
theorem gX8_segment_X8_isPlausible : GoodIn wsX8_segment (wsV RX8 94 RX8 yX8_isPlausible wsX8_isPlausible) := goodIn_app (goodIn_of _ (by decide +kernel)) ggX8_segment_X8_isPlausible
set_option maxRecDepth 20000 in
theorem ggX8_segment_X8_characterOf : GoodIn wsX8_segment wsX8_characterOf := goodIn_r _ [23, 24, 25, 10, 26] (by decide +kernel) (by decide +kernel)
set_option maxRecDepth 20000 in
theorem gX8_segment_X8_characterOf : GoodIn wsX8_segment (va_wsS RX8 100 yX8_characterOf wsX8_characterOf) := goodIn_app (goodIn_of _ (by decide +kernel)) ggX8_segment_X8_characterOf
set_option maxRecDepth 20000 in
theorem ggX8_segment_X8_prints : GoodIn wsX8_segment wsX8_prints := goodIn_r _ [30, 31, 32, 33, 34, 35, 36, 37, 38, 39, 40, 41, 42, 43, 44, 45, 46, 47, 48, 49] (by decide +kernel) (by decide +kernel)
set_option maxRecDepth 20000 in
theorem gX8_segment_X8_prints : GoodIn wsX8_segment (wsV RX8 104 RX8 yX8_prints wsX8_prints) := goodIn_app (goodIn_of _ (by decide +kernel)) ggX8_segment_X8_prints
set_option maxRecDepth 20000 in
theorem ggX8_decodes_X8_in : GoodIn wsX8_decodes wsX8_in := goodIn_r _ [12] (by decide +kernel) (by decide +kernel)
set_option maxRecDepth 20000 in
theorem gX8_decodes_X8_in : GoodIn wsX8_decodes (va_wsS RX8 44 yX8_in wsX8_in) := goodIn_app (goodIn_of _ (by decide +kernel)) ggX8_decodes_X8_in
set_option maxRecDepth 20000 in
theorem ggX8_decodes_X8_segment : GoodIn wsX8_decodes wsX8_segment := goodIn_r _ [16, 1, 3, 8, 17, 5, 18, 19, 9, 10, 11, 12, 20, 21, 22, 23, 2, 24, 25, 26, 27, 28, 29, 30, 31, 32, 33, 34, 35, 36, 37, 38, 4, 39, 40, 41, 42, 43, 44, 45, 46, 47, 48, 49, 50, 51, 52, 53, 54, 55] (by decide +kernel) (by decide +kernel)
set_option maxRecDepth 20000 in
theorem gX8_decodes_X8_segment : GoodIn wsX8_decodes (wsV RX8 113 RX8 yX8_segment wsX8_segment) := goodIn_app (goodIn_of _ (by decide +kernel)) ggX8_decodes_X8_segment
set_option maxRecDepth 20000 in
theorem ggX8_decodes_X8_prints : GoodIn wsX8_decodes wsX8_prints := goodIn_r _ [37, 38, 4, 39, 40, 41, 42, 43, 44, 45, 46, 47, 48, 49, 50, 51, 52, 53, 54, 55] (by decide +kernel) (by decide +kernel)
set_option maxRecDepth 20000 in
theorem gX8_decodes_X8_prints : GoodIn wsX8_decodes (wsV RX8 104 RX8 yX8_prints wsX8_prints) := goodIn_app (goodIn_of _ (by decide +kernel)) ggX8_decodes_X8_prints
set_option maxRecDepth 20000 in
theorem ggX8_unshiftOnSpace_X8_saves : GoodIn wsX8_unshiftOnSpace wsX8_saves := goodIn_r _ [7, 8, 9, 2, 10, 11, 12, 13, 14, 15, 16, 17, 18, 19, 20, 21, 22, 23, 24, 25, 26] (by decide +kernel) (by decide +kernel)
set_option maxRecDepth 20000 in
theorem gX8_unshiftOnSpace_X8_saves : GoodIn wsX8_unshiftOnSpace (wsV RX8 75 RX8 yX8_saves wsX8_saves) := goodIn_app (goodIn_of _ (by decide +kernel)) ggX8_unshiftOnSpace_X8_saves
set_option maxRecDepth 20000 in
theorem ggX8_known_X8_codeOf : GoodIn wsX8_known wsX8_codeOf := goodIn_r _ [7, 8, 9, 6, 10, 11, 12, 13, 14, 15, 16, 17, 18, 19] (by decide +kernel) (by decide +kernel)
set_option maxRecDepth 20000 in
theorem gX8_known_X8_codeOf : GoodIn wsX8_known (va_wsS RX8 59 yX8_codeOf wsX8_codeOf) := goodIn_app (goodIn_of _ (by decide +kernel)) ggX8_known_X8_codeOf
set_option maxRecDepth 20000 in
theorem ggX8_hasWord_X8_in : GoodIn wsX8_hasWord wsX8_in := goodIn_r _ [6] (by decide +kernel) (by decide +kernel)
set_option maxRecDepth 20000 in
theorem gX8_hasWord_X8_in : GoodIn wsX8_hasWord (va_wsS RX8 44 yX8_in wsX8_in) := goodIn_app (goodIn_of _ (by decide +kernel)) ggX8_hasWord_X8_in
set_option maxRecDepth 20000 in
theorem ggX8_hasWord_X8_isLetter : GoodIn wsX8_hasWord wsX8_isLetter := goodIn_r _ [9, 3, 4, 5, 6] (by decide +kernel) (by decide +kernel)
set_option maxRecDepth 20000 in
theorem gX8_hasWord_X8_isLetter : GoodIn wsX8_hasWord (va_wsS RX8 52 yX8_isLetter wsX8_isLetter) := goodIn_app (goodIn_of _ (by decide +kernel)) ggX8_hasWord_X8_isLetter
set_option maxRecDepth 20000 in
theorem ggX8_learn_X8_hasWord : GoodIn wsX8_learn wsX8_hasWord := goodIn_r _ [8, 2, 3, 9, 10, 7, 11, 12, 13, 14, 39, 40, 41, 42, 43, 44, 45, 46, 47, 48, 49, 50, 51, 52, 53, 54, 55] (by decide +kernel) (by decide +kernel)
set_option maxRecDepth 20000 in
theorem gX8_learn_X8_hasWord : GoodIn wsX8_learn (wsV RX8 116 RX8 yX8_hasWord wsX8_hasWord) := goodIn_app (goodIn_of _ (by decide +kernel)) ggX8_learn_X8_hasWord
set_option maxRecDepth 20000 in
theorem ggX8_learn_X8_known : GoodIn wsX8_learn wsX8_known := goodIn_r _ [18, 1, 2, 3, 19, 20, 7, 21, 12, 13, 14, 9, 10, 11, 22, 23, 24, 25, 26, 27, 39, 40, 41, 42, 43, 44, 45, 46, 47, 48, 49, 50, 51, 52, 53, 54, 55] (by decide +kernel) (by decide +kernel)
set_option maxRecDepth 20000 in
theorem gX8_learn_X8_known : GoodIn wsX8_learn (wsV RX8 120 RX8 yX8_known wsX8_known) := goodIn_app (goodIn_of _ (by decide +kernel)) ggX8_learn_X8_known
set_option maxRecDepth 20000 in
theorem ggX8_learn_X8_refused : GoodIn wsX8_learn wsX8_refused := goodIn_r _ [31, 32, 39, 40, 41, 42, 43, 44, 45, 46, 47, 48, 49, 50, 51, 52, 53, 54, 55] (by decide +kernel) (by decide +kernel)
set_option maxRecDepth 20000 in
theorem gX8_learn_X8_refused : GoodIn wsX8_learn (wsV RX8 65 RX8 yX8_refused wsX8_refused) := goodIn_app (goodIn_of _ (by decide +kernel)) ggX8_learn_X8_refused
set_option maxRecDepth 20000 in
theorem ggX8_learn_X8_saves : GoodIn wsX8_learn wsX8_saves := goodIn_r _ [36, 37, 38, 1, 39, 40, 41, 42, 43, 44, 45, 46, 47, 48, 49, 50, 51, 52, 53, 54, 55] (by decide +kernel) (by decide +kernel)
set_option maxRecDepth 20000 in
theorem gX8_learn_X8_saves : GoodIn wsX8_learn (wsV RX8 75 RX8 yX8_saves wsX8_saves) := goodIn_app (goodIn_of _ (by decide +kernel)) ggX8_learn_X8_saves
set_option maxRecDepth 20000 in
theorem ggX8_learn_X8_codeOf : GoodIn wsX8_learn wsX8_codeOf := goodIn_r _ [21, 12, 13, 7, 14, 9, 10, 11, 22, 23, 24, 25, 26, 27] (by decide +kernel) (by decide +kernel)
set_option maxRecDepth 20000 in
theorem gX8_learn_X8_codeOf : GoodIn wsX8_learn (va_wsS RX8 59 yX8_codeOf wsX8_codeOf) := goodIn_app (goodIn_of _ (by decide +kernel)) ggX8_learn_X8_codeOf
set_option maxRecDepth 20000 in
theorem ggX8_isIn_X8_in : GoodIn wsX8_isIn wsX8_in := goodIn_r _ [5] (by decide +kernel) (by decide +kernel)
set_option maxRecDepth 20000 in
theorem gX8_isIn_X8_in : GoodIn wsX8_isIn (va_wsS RX8 44 yX8_in wsX8_in) := goodIn_app (goodIn_of _ (by decide +kernel)) ggX8_isIn_X8_in
set_option maxRecDepth 20000 in
theorem ggX8_forget_X8_isIn : GoodIn wsX8_forget wsX8_isIn := goodIn_r _ [6, 1, 7, 8, 5, 9, 21, 22, 23, 24, 25, 26, 27, 28, 29, 30, 31, 32, 33, 34, 35, 36, 37] (by decide +kernel) (by decide +kernel)
set_option maxRecDepth 20000 in
theorem gX8_forget_X8_isIn : GoodIn wsX8_forget (wsV RX8 123 RX8 yX8_isIn wsX8_isIn) := goodIn_app (goodIn_of _ (by decide +kernel)) ggX8_forget_X8_isIn
set_option maxRecDepth 20000 in
theorem ggX8_forget_X8_refused : GoodIn wsX8_forget wsX8_refused := goodIn_r _ [13, 14, 21, 22, 23, 24, 25, 26, 27, 28, 29, 30, 31, 32, 33, 34, 35, 36, 37] (by decide +kernel) (by decide +kernel)
set_option maxRecDepth 20000 in
theorem gX8_forget_X8_refused : GoodIn wsX8_forget (wsV RX8 65 RX8 yX8_refused wsX8_refused) := goodIn_app (goodIn_of _ (by decide +kernel)) ggX8_forget_X8_refused
set_option maxRecDepth 20000 in
theorem ggX8_forget_X8_saves : GoodIn wsX8_forget wsX8_saves := goodIn_r _ [18, 19, 20, 1, 21, 22, 23, 24, 25, 26, 27, 28, 29, 30, 31, 32, 33, 34, 35, 36, 37] (by decide +kernel) (by decide +kernel)
set_option maxRecDepth 20000 in
theorem gX8_forget_X8_saves : GoodIn wsX8_forget (wsV RX8 75 RX8 yX8_saves wsX8_saves) := goodIn_app (goodIn_of _ (by decide +kernel)) ggX8_forget_X8_saves
set_option maxRecDepth 20000 in
theorem ggX8_wordLetter_X8_isIn : GoodIn wsX8_wordLetter wsX8_isIn := goodIn_r _ [6, 1, 7, 8, 5, 9, 15, 16, 17, 18, 19, 20, 21, 22, 23, 24, 25, 26, 27, 28, 29, 30, 31] (by decide +kernel) (by decide +kernel)
set_option maxRecDepth 20000 in
theorem gX8_wordLetter_X8_isIn : GoodIn wsX8_wordLetter (wsV RX8 123 RX8 yX8_isIn wsX8_isIn) := goodIn_app (goodIn_of _ (by decide +kernel)) ggX8_wordLetter_X8_isIn
set_option maxRecDepth 20000 in
theorem ggX8_wordLetter_X8_in : GoodIn wsX8_wordLetter wsX8_in := goodIn_r _ [9] (by decide +kernel) (by decide +kernel)
set_option maxRecDepth 20000 in
theorem gX8_wordLetter_X8_in : GoodIn wsX8_wordLetter (va_wsS RX8 44 yX8_in wsX8_in) := goodIn_app (goodIn_of _ (by decide +kernel)) ggX8_wordLetter_X8_in
set_option maxRecDepth 20000 in
theorem ggX8_wordLetter_X8_refused : GoodIn wsX8_wordLetter wsX8_refused := goodIn_r _ [13, 14, 15, 16, 17, 18, 19, 20, 21, 22, 23, 24, 25, 26, 27, 28, 29, 30, 31] (by decide +kernel) (by decide +kernel)
set_option maxRecDepth 20000 in
theorem gX8_wordLetter_X8_refused : GoodIn wsX8_wordLetter (wsV RX8 65 RX8 yX8_refused wsX8_refused) := goodIn_app (goodIn_of _ (by decide +kernel)) ggX8_wordLetter_X8_refused
set_option maxRecDepth 20000 in
theorem ggX8_usesOf_X8_isWord : GoodIn wsX8_usesOf wsX8_isWord := goodIn_r _ [9, 10, 11, 12, 13, 14, 15, 16, 17, 18, 19, 20, 21, 22, 23, 24, 25, 26, 27, 28] (by decide +kernel) (by decide +kernel)
set_option maxRecDepth 20000 in
theorem gX8_usesOf_X8_isWord : GoodIn wsX8_usesOf (wsV RX8 85 RX8 yX8_isWord wsX8_isWord) := goodIn_app (goodIn_of _ (by decide +kernel)) ggX8_usesOf_X8_isWord
set_option maxRecDepth 20000 in
theorem ggX8_uses_X8_isIn : GoodIn wsX8_uses wsX8_isIn := goodIn_r _ [5, 6, 7, 8, 4, 9, 56, 57, 58, 59, 60, 61, 62, 63, 64, 65, 66, 67, 68, 69, 70, 71, 72] (by decide +kernel) (by decide +kernel)
set_option maxRecDepth 20000 in
theorem gX8_uses_X8_isIn : GoodIn wsX8_uses (wsV RX8 123 RX8 yX8_isIn wsX8_isIn) := goodIn_app (goodIn_of _ (by decide +kernel)) ggX8_uses_X8_isIn
set_option maxRecDepth 20000 in
theorem ggX8_uses_X8_refused : GoodIn wsX8_uses wsX8_refused := goodIn_r _ [13, 14, 56, 57, 58, 59, 60, 61, 62, 63, 64, 65, 66, 67, 68, 69, 70, 71, 72] (by decide +kernel) (by decide +kernel)
set_option maxRecDepth 20000 in
theorem gX8_uses_X8_refused : GoodIn wsX8_uses (wsV RX8 65 RX8 yX8_refused wsX8_refused) := goodIn_app (goodIn_of _ (by decide +kernel)) ggX8_uses_X8_refused
set_option maxRecDepth 20000 in
theorem ggX8_uses_X8_decodes : GoodIn wsX8_uses wsX8_decodes := goodIn_r _ [18, 19, 6, 20, 21, 22, 23, 24, 25, 7, 8, 4, 9, 26, 27, 28, 29, 30, 31, 32, 33, 34, 35, 36, 37, 38, 39, 40, 41, 42, 43, 44, 45, 46, 47, 48, 49, 50, 51, 56, 57, 58, 59, 60, 61, 62, 63, 64, 65, 66, 67, 68, 69, 70, 71, 72] (by decide +kernel) (by decide +kernel)
set_option maxRecDepth 20000 in
theorem gX8_uses_X8_decodes : GoodIn wsX8_uses (wsV RX8 126 RX8 yX8_decodes wsX8_decodes) := goodIn_app (goodIn_of _ (by decide +kernel)) ggX8_uses_X8_decodes
set_option maxRecDepth 20000 in
theorem ggX8_uses_X8_usesOf : GoodIn wsX8_uses wsX8_usesOf := goodIn_r _ [55, 22, 32, 30, 31, 37, 38, 39, 4, 40, 6, 20, 56, 57, 58, 59, 60, 61, 62, 63, 64, 65, 66, 67, 68, 69, 70, 71, 72] (by decide +kernel) (by decide +kernel)
set_option maxRecDepth 20000 in
theorem gX8_uses_X8_usesOf : GoodIn wsX8_uses (wsV RX8 130 RX8 yX8_usesOf wsX8_usesOf) := goodIn_app (goodIn_of _ (by decide +kernel)) ggX8_uses_X8_usesOf
set_option maxRecDepth 20000 in
theorem ggX8_printedLength_X8_decodes : GoodIn wsX8_printedLength wsX8_decodes := goodIn_r _ [7, 8, 9, 10, 2, 11, 12, 13, 14, 15, 16, 6, 17, 18, 19, 20, 21, 22, 23, 24, 25, 26, 27, 28, 29, 30, 31, 32, 33, 34, 35, 36, 37, 38, 39, 40, 41, 42, 43, 44, 45, 46, 47, 48, 49, 50, 51, 52, 53, 54, 55, 56, 57, 58, 59, 60] (by decide +kernel) (by decide +kernel)
set_option maxRecDepth 20000 in
theorem gX8_printedLength_X8_decodes : GoodIn wsX8_printedLength (wsV RX8 126 RX8 yX8_decodes wsX8_decodes) := goodIn_app (goodIn_of _ (by decide +kernel)) ggX8_printedLength_X8_decodes
set_option maxRecDepth 20000 in
theorem ggX8_printed_X8_decodes : GoodIn wsX8_printed wsX8_decodes := goodIn_r _ [7, 8, 9, 10, 1, 11, 12, 13, 14, 15, 16, 6, 17, 18, 19, 20, 21, 22, 23, 24, 25, 26, 27, 28, 29, 30, 31, 32, 33, 34, 35, 36, 37, 38, 39, 40, 41, 42, 2, 48, 49, 50, 51, 52, 53, 54, 55, 56, 57, 58, 59, 60, 61, 62, 63, 64] (by decide +kernel) (by decide +kernel)
set_option maxRecDepth 20000 in
theorem gX8_printed_X8_decodes : GoodIn wsX8_printed (wsV RX8 126 RX8 yX8_decodes wsX8_decodes) := goodIn_app (goodIn_of _ (by decide +kernel)) ggX8_printed_X8_decodes
set_option maxRecDepth 20000 in
theorem ggX8_printed_X8_in : GoodIn wsX8_printed wsX8_in := goodIn_r _ [17] (by decide +kernel) (by decide +kernel)
set_option maxRecDepth 20000 in
theorem gX8_printed_X8_in : GoodIn wsX8_printed (va_wsS RX8 44 yX8_in wsX8_in) := goodIn_app (goodIn_of _ (by decide +kernel)) ggX8_printed_X8_in
set_option maxRecDepth 20000 in
theorem ggX8_printed_X8_refused : GoodIn wsX8_printed wsX8_refused := goodIn_r _ [46, 47, 48, 49, 50, 51, 52, 53, 54, 55, 56, 57, 58, 59, 60, 61, 62, 63, 64] (by decide +kernel) (by decide +kernel)
set_option maxRecDepth 20000 in
theorem gX8_printed_X8_refused : GoodIn wsX8_printed (wsV RX8 65 RX8 yX8_refused wsX8_refused) := goodIn_app (goodIn_of _ (by decide +kernel)) ggX8_printed_X8_refused
set_option maxRecDepth 20000 in
theorem ggX8_segments_X8_decodes : GoodIn wsX8_segments wsX8_decodes := goodIn_r _ [7, 8, 9, 10, 11, 2, 12, 13, 14, 15, 16, 6, 17, 18, 19, 20, 21, 22, 23, 24, 25, 26, 27, 28, 29, 30, 31, 32, 33, 34, 35, 36, 37, 38, 39, 40, 41, 42, 43, 44, 45, 46, 47, 48, 49, 50, 51, 52, 53, 54, 55, 56, 57, 58, 59, 60] (by decide +kernel) (by decide +kernel)
set_option maxRecDepth 20000 in
theorem gX8_segments_X8_decodes : GoodIn wsX8_segments (wsV RX8 126 RX8 yX8_decodes wsX8_decodes) := goodIn_app (goodIn_of _ (by decide +kernel)) ggX8_segments_X8_decodes
set_option maxRecDepth 20000 in
theorem ggX8_segmentLength_X8_decodes : GoodIn wsX8_segmentLength wsX8_decodes := goodIn_r _ [7, 8, 9, 10, 11, 1, 12, 13, 14, 15, 16, 6, 17, 18, 19, 20, 21, 22, 2, 23, 24, 25, 26, 27, 28, 29, 30, 31, 32, 33, 34, 35, 36, 37, 38, 39, 40, 41, 42, 48, 49, 50, 51, 52, 53, 54, 55, 56, 57, 58, 59, 60, 61, 62, 63, 64] (by decide +kernel) (by decide +kernel)
