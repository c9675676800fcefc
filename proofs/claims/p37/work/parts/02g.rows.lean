set_option maxRecDepth 20000 in
theorem ggX0_codeOf_X0_isLetter : GoodIn wsX0_codeOf wsX0_isLetter := goodIn_r _ [4] (by decide +kernel) (by decide +kernel)
set_option maxRecDepth 20000 in
theorem gX0_codeOf_X0_isLetter : GoodIn wsX0_codeOf (va_wsS RX0 9 yX0_isLetter wsX0_isLetter) := goodIn_app (goodIn_of _ (by decide +kernel)) ggX0_codeOf_X0_isLetter
set_option maxRecDepth 20000 in
theorem ggX0_codeOf_X0_codeOfFigure : GoodIn wsX0_codeOf wsX0_codeOfFigure := goodIn_r _ [7, 8, 9, 10, 11, 12, 13, 14, 15, 16, 17, 18, 19, 20, 21, 22, 23, 24, 25, 26, 27, 28, 29, 30, 31, 32, 33, 34, 35, 36, 37, 38, 39, 40, 41, 42, 43, 44, 45, 46, 47, 48, 49, 50, 51, 52, 53, 54, 55, 56, 57, 58, 59, 60, 61, 62, 63, 64, 65, 66, 67, 68, 69, 70, 71, 72, 73, 74, 75, 76, 77, 78, 79, 80, 81, 82, 83, 84, 85, 86, 87, 88, 89, 90, 91, 92, 93, 94, 95, 96] (by decide +kernel) (by decide +kernel)
set_option maxRecDepth 20000 in
theorem gX0_codeOf_X0_codeOfFigure : GoodIn wsX0_codeOf (va_wsS RX0 15 yX0_codeOfFigure wsX0_codeOfFigure) := goodIn_app (goodIn_of _ (by decide +kernel)) ggX0_codeOf_X0_codeOfFigure
set_option maxRecDepth 20000 in
theorem ggX0_codeOfFigure_J0_indexOf_0f7a4 : GoodIn wsX0_codeOfFigure wsJ0_indexOf_0f7a4 := goodIn_r _ [5, 6, 7, 8, 4, 9, 10, 11, 12, 13, 14, 15, 16, 17, 18, 19, 20, 21, 22, 23, 24, 25, 26, 27, 28, 29, 30, 31, 32, 33, 34, 35, 36, 37, 38, 39, 40, 41, 42, 43, 44, 45, 46, 47, 48, 49, 50, 51, 52, 53, 54, 55, 56, 57, 58, 59, 60, 61, 62, 63, 64, 65, 66, 67, 68, 69, 70, 71, 72, 73, 74, 75, 76, 77, 78, 79, 80, 81, 82, 83, 84, 85, 86, 87, 88, 89] (by decide +kernel) (by decide +kernel)
set_option maxRecDepth 20000 in
theorem gX0_codeOfFigure_J0_indexOf_0f7a4 : GoodIn wsX0_codeOfFigure (wsV RX0 21 RJ0 yJ0_indexOf_0f7a4 wsJ0_indexOf_0f7a4) := goodIn_app (goodIn_of _ (by decide +kernel)) ggX0_codeOfFigure_J0_indexOf_0f7a4
set_option maxRecDepth 20000 in
theorem ggX0_shiftFor_X0_isLetter : GoodIn wsX0_shiftFor wsX0_isLetter := goodIn_r _ [4] (by decide +kernel) (by decide +kernel)
set_option maxRecDepth 20000 in
theorem gX0_shiftFor_X0_isLetter : GoodIn wsX0_shiftFor (va_wsS RX0 9 yX0_isLetter wsX0_isLetter) := goodIn_app (goodIn_of _ (by decide +kernel)) ggX0_shiftFor_X0_isLetter
set_option maxRecDepth 20000 in
theorem ggX0_characterOf_X0_isSign : GoodIn wsX0_characterOf wsX0_isSign := goodIn_r _ [4] (by decide +kernel) (by decide +kernel)
set_option maxRecDepth 20000 in
theorem gX0_characterOf_X0_isSign : GoodIn wsX0_characterOf (va_wsS RX0 26 yX0_isSign wsX0_isSign) := goodIn_app (goodIn_of _ (by decide +kernel)) ggX0_characterOf_X0_isSign
set_option maxRecDepth 20000 in
theorem ggX0_characterOf_J0_length_8abf5 : GoodIn wsX0_characterOf wsJ0_length_8abf5 := goodIn_r _ [9, 10, 11, 12, 13, 8, 14, 15, 16] (by decide +kernel) (by decide +kernel)
set_option maxRecDepth 20000 in
theorem gX0_characterOf_J0_length_8abf5 : GoodIn wsX0_characterOf (wsV RX0 29 RJ0 yJ0_length_8abf5 wsJ0_length_8abf5) := goodIn_app (goodIn_of _ (by decide +kernel)) ggX0_characterOf_J0_length_8abf5
set_option maxRecDepth 20000 in
theorem ggX0_characterOf_J0_charAt_5068e : GoodIn wsX0_characterOf wsJ0_charAt_5068e := goodIn_r _ [20, 10, 21, 22, 23, 8, 24, 15, 16, 25, 26, 27, 28, 29, 30, 31, 32, 33, 34, 35, 36, 37, 38, 39, 40, 41, 42, 43, 44, 45, 46, 47, 48, 49, 50, 51, 52, 53] (by decide +kernel) (by decide +kernel)
set_option maxRecDepth 20000 in
theorem gX0_characterOf_J0_charAt_5068e : GoodIn wsX0_characterOf (wsV RX0 33 RJ0 yJ0_charAt_5068e wsJ0_charAt_5068e) := goodIn_app (goodIn_of _ (by decide +kernel)) ggX0_characterOf_J0_charAt_5068e
set_option maxRecDepth 20000 in
theorem ggX0_startOfSigns_X5_at : GoodIn wsX0_startOfSigns wsX5_at := goodIn_r _ [5, 6, 7, 12, 13] (by decide +kernel) (by decide +kernel)
set_option maxRecDepth 20000 in
theorem gX0_startOfSigns_X5_at : GoodIn wsX0_startOfSigns (wsV RX0 37 RX5 yX5_at wsX5_at) := goodIn_app (goodIn_of _ (by decide +kernel)) ggX0_startOfSigns_X5_at
set_option maxRecDepth 20000 in
theorem ggX0_startOfSigns_X0_isSign : GoodIn wsX0_startOfSigns wsX0_isSign := goodIn_r _ [11] (by decide +kernel) (by decide +kernel)
set_option maxRecDepth 20000 in
theorem gX0_startOfSigns_X0_isSign : GoodIn wsX0_startOfSigns (va_wsS RX0 26 yX0_isSign wsX0_isSign) := goodIn_app (goodIn_of _ (by decide +kernel)) ggX0_startOfSigns_X0_isSign
set_option maxRecDepth 20000 in
theorem ggX0_endOfSigns_X5_size : GoodIn wsX0_endOfSigns wsX5_size := goodIn_r _ [5, 6, 16, 17] (by decide +kernel) (by decide +kernel)
set_option maxRecDepth 20000 in
theorem gX0_endOfSigns_X5_size : GoodIn wsX0_endOfSigns (wsV RX0 42 RX5 yX5_size wsX5_size) := goodIn_app (goodIn_of _ (by decide +kernel)) ggX0_endOfSigns_X5_size
set_option maxRecDepth 20000 in
theorem ggX0_endOfSigns_X5_at : GoodIn wsX0_endOfSigns wsX5_at := goodIn_r _ [10, 6, 11, 16, 17] (by decide +kernel) (by decide +kernel)
set_option maxRecDepth 20000 in
theorem gX0_endOfSigns_X5_at : GoodIn wsX0_endOfSigns (wsV RX0 37 RX5 yX5_at wsX5_at) := goodIn_app (goodIn_of _ (by decide +kernel)) ggX0_endOfSigns_X5_at
set_option maxRecDepth 20000 in
theorem ggX0_endOfSigns_X0_isSign : GoodIn wsX0_endOfSigns wsX0_isSign := goodIn_r _ [15] (by decide +kernel) (by decide +kernel)
set_option maxRecDepth 20000 in
theorem gX0_endOfSigns_X0_isSign : GoodIn wsX0_endOfSigns (va_wsS RX0 26 yX0_isSign wsX0_isSign) := goodIn_app (goodIn_of _ (by decide +kernel)) ggX0_endOfSigns_X0_isSign
set_option maxRecDepth 20000 in
theorem ggX1_init_X5_init : GoodIn wsX1_init wsX5_init := goodIn_r _ [10, 11, 2, 3, 12, 13, 14, 15, 16, 17, 18, 19] (by decide +kernel) (by decide +kernel)
set_option maxRecDepth 20000 in
theorem gX1_init_X5_init : GoodIn wsX1_init (wsX5_init) := ggX1_init_X5_init
set_option maxRecDepth 20000 in
theorem ggX1_wordOfCharacters_X5_size : GoodIn wsX1_wordOfCharacters wsX5_size := goodIn_r _ [5, 6, 112, 113] (by decide +kernel) (by decide +kernel)
set_option maxRecDepth 20000 in
theorem gX1_wordOfCharacters_X5_size : GoodIn wsX1_wordOfCharacters (wsV RX1 20 RX5 yX5_size wsX5_size) := goodIn_app (goodIn_of _ (by decide +kernel)) ggX1_wordOfCharacters_X5_size
set_option maxRecDepth 20000 in
theorem ggX1_wordOfCharacters_X5_at : GoodIn wsX1_wordOfCharacters wsX5_at := goodIn_r _ [10, 6, 11, 112, 113] (by decide +kernel) (by decide +kernel)
set_option maxRecDepth 20000 in
theorem gX1_wordOfCharacters_X5_at : GoodIn wsX1_wordOfCharacters (wsV RX1 24 RX5 yX5_at wsX5_at) := goodIn_app (goodIn_of _ (by decide +kernel)) ggX1_wordOfCharacters_X5_at
set_option maxRecDepth 20000 in
theorem ggX1_wordOfCharacters_X0_isLetter : GoodIn wsX1_wordOfCharacters wsX0_isLetter := goodIn_r _ [15] (by decide +kernel) (by decide +kernel)
set_option maxRecDepth 20000 in
theorem gX1_wordOfCharacters_X0_isLetter : GoodIn wsX1_wordOfCharacters (va_wsS RX1 28 yX0_isLetter wsX0_isLetter) := goodIn_app (goodIn_of _ (by decide +kernel)) ggX1_wordOfCharacters_X0_isLetter
set_option maxRecDepth 20000 in
theorem ggX1_wordOfCharacters_X0_codeOf : GoodIn wsX1_wordOfCharacters wsX0_codeOf := goodIn_r _ [18, 19, 13, 14, 15, 20, 21, 22, 23, 24, 25, 26, 27, 28, 29, 30, 31, 32, 33, 34, 35, 36, 37, 38, 39, 40, 41, 42, 43, 44, 45, 46, 47, 48, 49, 50, 51, 52, 53, 54, 55, 56, 57, 58, 59, 60, 61, 62, 63, 64, 65, 66, 67, 68, 69, 70, 71, 72, 73, 74, 75, 76, 77, 78, 79, 80, 81, 82, 83, 84, 85, 86, 87, 88, 89, 90, 91, 92, 93, 94, 95, 96, 97, 98, 99, 100, 101, 102, 103, 104, 105, 106, 107, 108, 109, 110, 111] (by decide +kernel) (by decide +kernel)
set_option maxRecDepth 20000 in
theorem gX1_wordOfCharacters_X0_codeOf : GoodIn wsX1_wordOfCharacters (va_wsS RX1 34 yX0_codeOf wsX0_codeOf) := goodIn_app (goodIn_of _ (by decide +kernel)) ggX1_wordOfCharacters_X0_codeOf
set_option maxRecDepth 20000 in
theorem ggX1_wordOfCodes_X5_at : GoodIn wsX1_wordOfCodes wsX5_at := goodIn_r _ [5, 6, 7, 8, 9] (by decide +kernel) (by decide +kernel)
set_option maxRecDepth 20000 in
theorem gX1_wordOfCodes_X5_at : GoodIn wsX1_wordOfCodes (wsV RX1 24 RX5 yX5_at wsX5_at) := goodIn_app (goodIn_of _ (by decide +kernel)) ggX1_wordOfCodes_X5_at
set_option maxRecDepth 20000 in
theorem ggX1_areDigits_X5_at : GoodIn wsX1_areDigits wsX5_at := goodIn_r _ [5, 6, 7, 12, 13] (by decide +kernel) (by decide +kernel)
set_option maxRecDepth 20000 in
theorem gX1_areDigits_X5_at : GoodIn wsX1_areDigits (wsV RX1 24 RX5 yX5_at wsX5_at) := goodIn_app (goodIn_of _ (by decide +kernel)) ggX1_areDigits_X5_at
set_option maxRecDepth 20000 in
theorem ggX1_areDigits_X0_isDigit : GoodIn wsX1_areDigits wsX0_isDigit := goodIn_r _ [11] (by decide +kernel) (by decide +kernel)
set_option maxRecDepth 20000 in
theorem gX1_areDigits_X0_isDigit : GoodIn wsX1_areDigits (va_wsS RX1 37 yX0_isDigit wsX0_isDigit) := goodIn_app (goodIn_of _ (by decide +kernel)) ggX1_areDigits_X0_isDigit
set_option maxRecDepth 20000 in
theorem ggX1_findSegment_X1_wordOfCodes : GoodIn wsX1_findSegment wsX1_wordOfCodes := goodIn_r _ [5, 6, 7, 8, 9, 10, 11, 12, 19, 20] (by decide +kernel) (by decide +kernel)
set_option maxRecDepth 20000 in
theorem gX1_findSegment_X1_wordOfCodes : GoodIn wsX1_findSegment (va_wsS RX1 40 yX1_wordOfCodes wsX1_wordOfCodes) := goodIn_app (goodIn_of _ (by decide +kernel)) ggX1_findSegment_X1_wordOfCodes
set_option maxRecDepth 20000 in
theorem ggX1_findSegment_X5_find : GoodIn wsX1_findSegment wsX5_find := goodIn_r _ [16, 11, 17, 7, 8, 9, 10, 12, 19, 20] (by decide +kernel) (by decide +kernel)
set_option maxRecDepth 20000 in
theorem gX1_findSegment_X5_find : GoodIn wsX1_findSegment (wsV RX1 44 RX5 yX5_find wsX5_find) := goodIn_app (goodIn_of _ (by decide +kernel)) ggX1_findSegment_X5_find
set_option maxRecDepth 20000 in
theorem ggX1_codeOfLetter_X5_at : GoodIn wsX1_codeOfLetter wsX5_at := goodIn_r _ [6, 7, 8, 10, 11] (by decide +kernel) (by decide +kernel)
set_option maxRecDepth 20000 in
theorem gX1_codeOfLetter_X5_at : GoodIn wsX1_codeOfLetter (wsV RX1 24 RX5 yX5_at wsX5_at) := goodIn_app (goodIn_of _ (by decide +kernel)) ggX1_codeOfLetter_X5_at
set_option maxRecDepth 20000 in
theorem ggX1_lengthOf_X1_codeOfLetter : GoodIn wsX1_lengthOf wsX1_codeOfLetter := goodIn_r _ [5, 6, 7, 8, 9, 10, 11, 12, 13, 14, 15, 16] (by decide +kernel) (by decide +kernel)
set_option maxRecDepth 20000 in
theorem gX1_lengthOf_X1_codeOfLetter : GoodIn wsX1_lengthOf (wsV RX1 47 RX1 yX1_codeOfLetter wsX1_codeOfLetter) := goodIn_app (goodIn_of _ (by decide +kernel)) ggX1_lengthOf_X1_codeOfLetter
set_option maxRecDepth 20000 in
theorem ggX1_kindOf_X1_findSegment : GoodIn wsX1_kindOf wsX1_findSegment := goodIn_r _ [5, 6, 7, 8, 4, 9, 10, 11, 12, 13, 14, 15, 16, 17, 18, 19, 20, 21, 29, 30, 31] (by decide +kernel) (by decide +kernel)
set_option maxRecDepth 20000 in
theorem gX1_kindOf_X1_findSegment : GoodIn wsX1_kindOf (wsV RX1 51 RX1 yX1_findSegment wsX1_findSegment) := goodIn_app (goodIn_of _ (by decide +kernel)) ggX1_kindOf_X1_findSegment
set_option maxRecDepth 20000 in
theorem ggX1_kindOf_X1_areDigits : GoodIn wsX1_kindOf wsX1_areDigits := goodIn_r _ [24, 10, 11, 12, 13, 14, 15, 16, 25, 26, 27, 28, 30, 31] (by decide +kernel) (by decide +kernel)
set_option maxRecDepth 20000 in
theorem gX1_kindOf_X1_areDigits : GoodIn wsX1_kindOf (va_wsS RX1 54 yX1_areDigits wsX1_areDigits) := goodIn_app (goodIn_of _ (by decide +kernel)) ggX1_kindOf_X1_areDigits
set_option maxRecDepth 20000 in
theorem ggX1_isDoubtful_X1_findSegment : GoodIn wsX1_isDoubtful wsX1_findSegment := goodIn_r _ [5, 6, 7, 8, 4, 9, 10, 11, 12, 13, 14, 15, 16, 17, 18, 19, 20, 21, 29, 30, 31] (by decide +kernel) (by decide +kernel)
set_option maxRecDepth 20000 in
theorem gX1_isDoubtful_X1_findSegment : GoodIn wsX1_isDoubtful (wsV RX1 51 RX1 yX1_findSegment wsX1_findSegment) := goodIn_app (goodIn_of _ (by decide +kernel)) ggX1_isDoubtful_X1_findSegment
set_option maxRecDepth 20000 in
theorem ggX1_isDoubtful_X1_areDigits : GoodIn wsX1_isDoubtful wsX1_areDigits := goodIn_r _ [24, 10, 11, 12, 13, 14, 15, 16, 25, 26, 27, 28, 30, 31] (by decide +kernel) (by decide +kernel)
set_option maxRecDepth 20000 in
theorem gX1_isDoubtful_X1_areDigits : GoodIn wsX1_isDoubtful (va_wsS RX1 54 yX1_areDigits wsX1_areDigits) := goodIn_app (goodIn_of _ (by decide +kernel)) ggX1_isDoubtful_X1_areDigits
set_option maxRecDepth 20000 in
theorem ggX1_doubtOf_X1_isDoubtful : GoodIn wsX1_doubtOf wsX1_isDoubtful := goodIn_r _ [5, 6, 7, 8, 4, 9, 10, 11, 12, 13, 14, 15, 16, 17, 18, 19, 20, 21, 22, 23, 24, 25, 26, 27, 28, 29, 30, 31, 32, 33, 34, 35] (by decide +kernel) (by decide +kernel)
set_option maxRecDepth 20000 in
theorem gX1_doubtOf_X1_isDoubtful : GoodIn wsX1_doubtOf (wsV RX1 58 RX1 yX1_isDoubtful wsX1_isDoubtful) := goodIn_app (goodIn_of _ (by decide +kernel)) ggX1_doubtOf_X1_isDoubtful
set_option maxRecDepth 20000 in
theorem ggX1_firstRepairingCut_X1_isDoubtful : GoodIn wsX1_firstRepairingCut wsX1_isDoubtful := goodIn_r _ [5, 6, 7, 8, 4, 9, 10, 11, 12, 13, 14, 15, 16, 17, 18, 19, 20, 21, 22, 23, 24, 25, 26, 27, 28, 29, 30, 31, 32, 33, 34, 35] (by decide +kernel) (by decide +kernel)
set_option maxRecDepth 20000 in
theorem gX1_firstRepairingCut_X1_isDoubtful : GoodIn wsX1_firstRepairingCut (wsV RX1 58 RX1 yX1_isDoubtful wsX1_isDoubtful) := goodIn_app (goodIn_of _ (by decide +kernel)) ggX1_firstRepairingCut_X1_isDoubtful
set_option maxRecDepth 20000 in
theorem ggX2_init_X6_init : GoodIn wsX2_init wsX6_init := goodIn_r _ [9, 10, 2, 3, 11, 12, 13, 14, 15, 16, 17, 18, 19, 20, 21, 22, 23, 24, 25, 35, 36, 28, 29, 30, 31, 32, 33, 34] (by decide +kernel) (by decide +kernel)
set_option maxRecDepth 20000 in
theorem gX2_init_X6_init_n17 : GoodIn wsX2_init (wsX6_init) := ggX2_init_X6_init
set_option maxRecDepth 20000 in
theorem ggX2_save_X2_discardOldest : GoodIn wsX2_save wsX2_discardOldest := goodIn_r _ [7, 2, 1, 8, 9, 10, 6, 11, 47, 48] (by decide +kernel) (by decide +kernel)
set_option maxRecDepth 20000 in
theorem gX2_save_X2_discardOldest : GoodIn wsX2_save (wsV RX2 22 RX2 yX2_discardOldest wsX2_discardOldest) := goodIn_app (goodIn_of _ (by decide +kernel)) ggX2_save_X2_discardOldest
set_option maxRecDepth 20000 in
theorem ggX2_save_X2_stateAt : GoodIn wsX2_save wsX2_stateAt := goodIn_r _ [11, 2, 47, 48] (by decide +kernel) (by decide +kernel)
set_option maxRecDepth 20000 in
theorem gX2_save_X2_stateAt : GoodIn wsX2_save (wsV RX2 25 RX2 yX2_stateAt wsX2_stateAt) := goodIn_app (goodIn_of _ (by decide +kernel)) ggX2_save_X2_stateAt
set_option maxRecDepth 20000 in
theorem ggX2_save_X6_take : GoodIn wsX2_save wsX6_take := goodIn_r _ [16, 17, 18, 19, 20, 21, 22, 23, 24, 25, 26, 27, 28, 29, 30, 31, 32, 33, 34, 35, 36, 37, 38, 39, 40, 41, 42, 43, 44, 45, 46, 49, 50, 51, 52, 53, 54, 55, 56, 57, 58, 59, 60, 61, 62, 63, 64, 65] (by decide +kernel) (by decide +kernel)
set_option maxRecDepth 20000 in
theorem gX2_save_X6_take : GoodIn wsX2_save (wsV RX2 29 RX6 yX6_take wsX6_take) := goodIn_app (goodIn_of _ (by decide +kernel)) ggX2_save_X6_take
set_option maxRecDepth 20000 in
theorem ggX2_restore_X2_stateAt : GoodIn wsX2_restore wsX2_stateAt := goodIn_r _ [6, 7, 43, 44] (by decide +kernel) (by decide +kernel)
set_option maxRecDepth 20000 in
theorem gX2_restore_X2_stateAt : GoodIn wsX2_restore (wsV RX2 25 RX2 yX2_stateAt wsX2_stateAt) := goodIn_app (goodIn_of _ (by decide +kernel)) ggX2_restore_X2_stateAt
set_option maxRecDepth 20000 in
theorem ggX2_restore_X6_give : GoodIn wsX2_restore wsX6_give := goodIn_r _ [12, 13, 14, 15, 16, 17, 18, 19, 20, 21, 22, 23, 24, 25, 26, 27, 28, 29, 30, 31, 32, 33, 34, 35, 36, 37, 38, 39, 40, 41, 42, 45, 46, 47, 48, 49, 50, 51, 52, 53, 54, 55, 56, 57, 58, 59, 60, 61] (by decide +kernel) (by decide +kernel)
set_option maxRecDepth 20000 in
theorem gX2_restore_X6_give : GoodIn wsX2_restore (wsV RX2 33 RX6 yX6_give wsX6_give) := goodIn_app (goodIn_of _ (by decide +kernel)) ggX2_restore_X6_give
set_option maxRecDepth 20000 in
theorem ggX2_discardOldest_X2_stateAt : GoodIn wsX2_discardOldest wsX2_stateAt := goodIn_r _ [7, 1, 8, 9] (by decide +kernel) (by decide +kernel)
set_option maxRecDepth 20000 in
theorem gX2_discardOldest_X2_stateAt : GoodIn wsX2_discardOldest (wsV RX2 25 RX2 yX2_stateAt wsX2_stateAt) := goodIn_app (goodIn_of _ (by decide +kernel)) ggX2_discardOldest_X2_stateAt
set_option maxRecDepth 20000 in
theorem ggX3_init_X5_init : GoodIn wsX3_init wsX5_init := goodIn_r _ [15, 16, 2, 3, 17, 18, 19, 20, 21, 22, 36, 37] (by decide +kernel) (by decide +kernel)
set_option maxRecDepth 20000 in
theorem gX3_init_X5_init : GoodIn wsX3_init (wsX5_init) := ggX3_init_X5_init
set_option maxRecDepth 20000 in
theorem ggX3_init_X5_fill : GoodIn wsX3_init wsX5_fill := goodIn_r _ [26, 27, 28, 29, 6, 30, 31, 32, 33, 34, 35, 22, 36, 37] (by decide +kernel) (by decide +kernel)
set_option maxRecDepth 20000 in
theorem gX3_init_X5_fill : GoodIn wsX3_init (wsV RX3 36 RX5 yX5_fill wsX5_fill) := goodIn_app (goodIn_of _ (by decide +kernel)) ggX3_init_X5_fill
set_option maxRecDepth 20000 in
theorem ggX3_encode_X5_clear : GoodIn wsX3_encode wsX5_clear := goodIn_r _ [8, 9, 135, 136] (by decide +kernel) (by decide +kernel)
set_option maxRecDepth 20000 in
theorem gX3_encode_X5_clear : GoodIn wsX3_encode (wsV RX3 40 RX5 yX5_clear wsX5_clear) := goodIn_app (goodIn_of _ (by decide +kernel)) ggX3_encode_X5_clear
set_option maxRecDepth 20000 in
theorem ggX3_encode_X5_size : GoodIn wsX3_encode wsX5_size := goodIn_r _ [13, 9, 135, 136] (by decide +kernel) (by decide +kernel)
set_option maxRecDepth 20000 in
theorem gX3_encode_X5_size : GoodIn wsX3_encode (wsV RX3 43 RX5 yX5_size wsX5_size) := goodIn_app (goodIn_of _ (by decide +kernel)) ggX3_encode_X5_size
set_option maxRecDepth 20000 in
theorem ggX3_encode_X5_at : GoodIn wsX3_encode wsX5_at := goodIn_r _ [17, 9, 18, 135, 136] (by decide +kernel) (by decide +kernel)
set_option maxRecDepth 20000 in
theorem gX3_encode_X5_at : GoodIn wsX3_encode (wsV RX3 47 RX5 yX5_at wsX5_at) := goodIn_app (goodIn_of _ (by decide +kernel)) ggX3_encode_X5_at
set_option maxRecDepth 20000 in
theorem ggX3_encode_X0_shiftFor : GoodIn wsX3_encode wsX0_shiftFor := goodIn_r _ [22, 23, 24, 21, 25] (by decide +kernel) (by decide +kernel)
set_option maxRecDepth 20000 in
theorem gX3_encode_X0_shiftFor : GoodIn wsX3_encode (va_wsS RX3 51 yX0_shiftFor wsX0_shiftFor) := goodIn_app (goodIn_of _ (by decide +kernel)) ggX3_encode_X0_shiftFor
set_option maxRecDepth 20000 in
theorem ggX3_encode_X5_add : GoodIn wsX3_encode wsX5_add := goodIn_r _ [29, 9, 18, 135, 136] (by decide +kernel) (by decide +kernel)
