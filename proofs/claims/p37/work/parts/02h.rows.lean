set_option maxRecDepth 20000 in
theorem gX3_encode_X5_add : GoodIn wsX3_encode (wsV RX3 56 RX5 yX5_add wsX5_add) := goodIn_app (goodIn_of _ (by decide +kernel)) ggX3_encode_X5_add
set_option maxRecDepth 20000 in
theorem ggX3_encode_X0_codeOf : GoodIn wsX3_encode wsX0_codeOf := goodIn_r _ [32, 23, 24, 21, 25, 33, 34, 35, 36, 37, 38, 39, 40, 41, 42, 43, 44, 45, 46, 47, 48, 49, 50, 51, 52, 53, 54, 55, 56, 57, 58, 59, 60, 61, 62, 63, 64, 65, 66, 67, 68, 69, 70, 71, 72, 73, 74, 75, 76, 77, 78, 79, 80, 81, 82, 83, 84, 85, 86, 87, 88, 89, 90, 91, 92, 93, 94, 95, 96, 97, 98, 99, 100, 101, 102, 103, 104, 105, 106, 107, 108, 109, 110, 111, 112, 113, 114, 115, 116, 117, 118, 119, 120, 121, 122, 123, 124] (by decide +kernel) (by decide +kernel)
set_option maxRecDepth 20000 in
theorem gX3_encode_X0_codeOf : GoodIn wsX3_encode (va_wsS RX3 59 yX0_codeOf wsX0_codeOf) := goodIn_app (goodIn_of _ (by decide +kernel)) ggX3_encode_X0_codeOf
set_option maxRecDepth 20000 in
theorem ggX3_encode_X0_shiftBehind : GoodIn wsX3_encode wsX0_shiftBehind := goodIn_r _ [127] (by decide +kernel) (by decide +kernel)
set_option maxRecDepth 20000 in
theorem gX3_encode_X0_shiftBehind : GoodIn wsX3_encode (va_wsS RX3 66 yX0_shiftBehind wsX0_shiftBehind) := goodIn_app (goodIn_of _ (by decide +kernel)) ggX3_encode_X0_shiftBehind
set_option maxRecDepth 20000 in
theorem ggX3_transmit_X3_encode : GoodIn wsX3_transmit wsX3_encode := goodIn_r _ [6, 7, 8, 9, 10, 11, 12, 13, 14, 15, 16, 17, 18, 19, 20, 21, 22, 23, 24, 25, 26, 27, 28, 29, 30, 31, 32, 33, 34, 35, 36, 37, 38, 39, 40, 41, 42, 43, 44, 45, 46, 47, 48, 49, 50, 51, 52, 53, 54, 55, 56, 57, 58, 59, 60, 61, 62, 63, 64, 65, 66, 67, 68, 69, 70, 71, 72, 73, 74, 75, 76, 77, 78, 79, 80, 81, 82, 83, 84, 85, 86, 87, 88, 89, 90, 91, 92, 93, 94, 95, 96, 97, 98, 99, 100, 101, 102, 103, 104, 105, 106, 107, 108, 109, 110, 111, 112, 113, 114, 115, 116, 117, 118, 119, 120, 121, 122, 123, 124, 125, 126, 127, 128, 129, 130, 131, 132, 133, 141, 142, 143, 144, 145, 146, 147, 148, 149] (by decide +kernel) (by decide +kernel)
set_option maxRecDepth 20000 in
theorem gX3_transmit_X3_encode : GoodIn wsX3_transmit (wsV RX3 70 RX3 yX3_encode wsX3_encode) := goodIn_app (goodIn_of _ (by decide +kernel)) ggX3_transmit_X3_encode
set_option maxRecDepth 20000 in
theorem ggX3_transmit_X5_size : GoodIn wsX3_transmit wsX5_size := goodIn_r _ [19, 15, 148, 149] (by decide +kernel) (by decide +kernel)
set_option maxRecDepth 20000 in
theorem gX3_transmit_X5_size : GoodIn wsX3_transmit (wsV RX3 43 RX5 yX5_size wsX5_size) := goodIn_app (goodIn_of _ (by decide +kernel)) ggX3_transmit_X5_size
set_option maxRecDepth 20000 in
theorem ggX3_transmit_X5_at : GoodIn wsX3_transmit wsX5_at := goodIn_r _ [23, 15, 24, 148, 149] (by decide +kernel) (by decide +kernel)
set_option maxRecDepth 20000 in
theorem gX3_transmit_X5_at : GoodIn wsX3_transmit (wsV RX3 47 RX5 yX5_at wsX5_at) := goodIn_app (goodIn_of _ (by decide +kernel)) ggX3_transmit_X5_at
set_option maxRecDepth 20000 in
theorem ggX3_transmit_X3_transmitCode : GoodIn wsX3_transmit wsX3_transmitCode := goodIn_r _ [137, 138, 139, 8, 9, 140, 16, 17, 18, 13, 19, 15, 20, 21, 22, 23, 24, 32, 33, 34, 35, 131, 132, 27, 133, 141, 142, 143, 144, 145, 146, 147, 148, 149] (by decide +kernel) (by decide +kernel)
set_option maxRecDepth 20000 in
theorem gX3_transmit_X3_transmitCode : GoodIn wsX3_transmit (wsV RX3 74 RX3 yX3_transmitCode wsX3_transmitCode) := goodIn_app (goodIn_of _ (by decide +kernel)) ggX3_transmit_X3_transmitCode
set_option maxRecDepth 20000 in
theorem ggX3_transmit_X0_codeOf : GoodIn wsX3_transmit wsX0_codeOf := goodIn_r _ [38, 29, 30, 27, 31, 39, 40, 41, 42, 43, 44, 45, 46, 47, 48, 49, 50, 51, 52, 53, 54, 55, 56, 57, 58, 59, 60, 61, 62, 63, 64, 65, 66, 67, 68, 69, 70, 71, 72, 73, 74, 75, 76, 77, 78, 79, 80, 81, 82, 83, 84, 85, 86, 87, 88, 89, 90, 91, 92, 93, 94, 95, 96, 97, 98, 99, 100, 101, 102, 103, 104, 105, 106, 107, 108, 109, 110, 111, 112, 113, 114, 115, 116, 117, 118, 119, 120, 121, 122, 123, 124, 125, 126, 127, 128, 129, 130] (by decide +kernel) (by decide +kernel)
set_option maxRecDepth 20000 in
theorem gX3_transmit_X0_codeOf : GoodIn wsX3_transmit (va_wsS RX3 59 yX0_codeOf wsX0_codeOf) := goodIn_app (goodIn_of _ (by decide +kernel)) ggX3_transmit_X0_codeOf
set_option maxRecDepth 20000 in
theorem ggX3_transmit_X5_add : GoodIn wsX3_transmit wsX5_add := goodIn_r _ [35, 15, 24, 148, 149] (by decide +kernel) (by decide +kernel)
set_option maxRecDepth 20000 in
theorem gX3_transmit_X5_add : GoodIn wsX3_transmit (wsV RX3 56 RX5 yX5_add wsX5_add) := goodIn_app (goodIn_of _ (by decide +kernel)) ggX3_transmit_X5_add
set_option maxRecDepth 20000 in
theorem ggX3_transmitCode_X5_size : GoodIn wsX3_transmitCode wsX5_size := goodIn_r _ [10, 11, 32, 33] (by decide +kernel) (by decide +kernel)
set_option maxRecDepth 20000 in
theorem gX3_transmitCode_X5_size : GoodIn wsX3_transmitCode (wsV RX3 43 RX5 yX5_size wsX5_size) := goodIn_app (goodIn_of _ (by decide +kernel)) ggX3_transmitCode_X5_size
set_option maxRecDepth 20000 in
theorem ggX3_transmitCode_X5_at : GoodIn wsX3_transmitCode wsX5_at := goodIn_r _ [15, 11, 16, 32, 33] (by decide +kernel) (by decide +kernel)
set_option maxRecDepth 20000 in
theorem gX3_transmitCode_X5_at : GoodIn wsX3_transmitCode (wsV RX3 47 RX5 yX5_at wsX5_at) := goodIn_app (goodIn_of _ (by decide +kernel)) ggX3_transmitCode_X5_at
set_option maxRecDepth 20000 in
theorem ggX3_transmitCode_X5_add : GoodIn wsX3_transmitCode wsX5_add := goodIn_r _ [20, 11, 16, 32, 33] (by decide +kernel) (by decide +kernel)
set_option maxRecDepth 20000 in
theorem gX3_transmitCode_X5_add : GoodIn wsX3_transmitCode (wsV RX3 56 RX5 yX5_add wsX5_add) := goodIn_app (goodIn_of _ (by decide +kernel)) ggX3_transmitCode_X5_add
set_option maxRecDepth 20000 in
theorem ggX3_transmitCode_X0_shiftBehind : GoodIn wsX3_transmitCode wsX0_shiftBehind := goodIn_r _ [24] (by decide +kernel) (by decide +kernel)
set_option maxRecDepth 20000 in
theorem gX3_transmitCode_X0_shiftBehind : GoodIn wsX3_transmitCode (va_wsS RX3 66 yX0_shiftBehind wsX0_shiftBehind) := goodIn_app (goodIn_of _ (by decide +kernel)) ggX3_transmitCode_X0_shiftBehind
set_option maxRecDepth 20000 in
theorem ggX4_init_X5_init : GoodIn wsX4_init wsX5_init := goodIn_r _ [15, 16, 2, 3, 17, 18, 19, 20, 21, 22, 23, 24] (by decide +kernel) (by decide +kernel)
set_option maxRecDepth 20000 in
theorem gX4_init_X5_init : GoodIn wsX4_init (wsX5_init) := ggX4_init_X5_init
set_option maxRecDepth 20000 in
theorem ggX4_decode_X4_reset : GoodIn wsX4_decode wsX4_reset := goodIn_r _ [5, 6, 7, 8, 9, 10, 11, 12, 13, 14, 15, 16, 17, 18, 19, 137, 138, 139, 140, 141, 142, 143, 144, 145, 146] (by decide +kernel) (by decide +kernel)
set_option maxRecDepth 20000 in
theorem gX4_decode_X4_reset : GoodIn wsX4_decode (wsV RX4 36 RX4 yX4_reset wsX4_reset) := goodIn_app (goodIn_of _ (by decide +kernel)) ggX4_decode_X4_reset
set_option maxRecDepth 20000 in
theorem ggX4_decode_X5_size : GoodIn wsX4_decode wsX5_size := goodIn_r _ [23, 19, 145, 146] (by decide +kernel) (by decide +kernel)
set_option maxRecDepth 20000 in
theorem gX4_decode_X5_size : GoodIn wsX4_decode (wsV RX4 44 RX5 yX5_size wsX5_size) := goodIn_app (goodIn_of _ (by decide +kernel)) ggX4_decode_X5_size
set_option maxRecDepth 20000 in
theorem ggX4_decode_X5_at : GoodIn wsX4_decode wsX5_at := goodIn_r _ [27, 19, 28, 145, 146] (by decide +kernel) (by decide +kernel)
set_option maxRecDepth 20000 in
theorem gX4_decode_X5_at : GoodIn wsX4_decode (wsV RX4 48 RX5 yX5_at wsX5_at) := goodIn_app (goodIn_of _ (by decide +kernel)) ggX4_decode_X5_at
set_option maxRecDepth 20000 in
theorem ggX4_decode_X0_isSign : GoodIn wsX4_decode wsX0_isSign := goodIn_r _ [32] (by decide +kernel) (by decide +kernel)
set_option maxRecDepth 20000 in
theorem gX4_decode_X0_isSign : GoodIn wsX4_decode (va_wsS RX4 52 yX0_isSign wsX0_isSign) := goodIn_app (goodIn_of _ (by decide +kernel)) ggX4_decode_X0_isSign
set_option maxRecDepth 20000 in
theorem ggX4_decode_X4_printSegment : GoodIn wsX4_decode wsX4_printSegment := goodIn_r _ [36, 11, 9, 7, 8, 10, 6, 37, 38, 39, 40, 41, 42, 43, 44, 45, 46, 47, 48, 49, 50, 25, 26, 17, 27, 19, 28, 51, 52, 53, 54, 55, 56, 57, 58, 59, 60, 31, 61, 62, 63, 64, 65, 66, 67, 68, 69, 24, 70, 71, 72, 73, 30, 32, 74, 75, 76, 77, 78, 79, 80, 81, 82, 83, 84, 85, 86, 87, 88, 89, 90, 91, 92, 93, 94, 95, 96, 97, 98, 99, 100, 101, 102, 103, 104, 105, 106, 107, 108, 109, 110, 111, 112, 113, 114, 115, 116, 117, 118, 119, 120, 121, 122, 137, 138, 139, 140, 141, 142, 143, 144, 147, 145, 146] (by decide +kernel) (by decide +kernel)
set_option maxRecDepth 20000 in
theorem gX4_decode_X4_printSegment : GoodIn wsX4_decode (wsV RX4 58 RX4 yX4_printSegment wsX4_printSegment) := goodIn_app (goodIn_of _ (by decide +kernel)) ggX4_decode_X4_printSegment
set_option maxRecDepth 20000 in
theorem ggX4_decode_X4_obey : GoodIn wsX4_decode wsX4_obey := goodIn_r _ [126, 11, 12, 13, 6, 70, 71, 31, 72, 73, 30, 32, 74, 75, 76, 77, 78, 79, 80, 81, 82, 83, 84, 85, 86, 87, 88, 89, 90, 91, 92, 93, 94, 95, 96, 97, 98, 99, 100, 101, 102, 103, 104, 105, 106, 107, 108, 109, 110, 111, 112, 113, 114, 115, 116, 117, 118, 119, 120, 121, 122, 65, 66, 67, 17, 68, 19, 28, 127, 128, 129, 137, 138, 139, 140, 141, 142, 143, 144, 145, 146] (by decide +kernel) (by decide +kernel)
set_option maxRecDepth 20000 in
theorem gX4_decode_X4_obey : GoodIn wsX4_decode (wsV RX4 66 RX4 yX4_obey wsX4_obey) := goodIn_app (goodIn_of _ (by decide +kernel)) ggX4_decode_X4_obey
set_option maxRecDepth 20000 in
theorem ggX4_reset_X5_clear : GoodIn wsX4_reset wsX5_clear := goodIn_r _ [13, 14, 23, 24] (by decide +kernel) (by decide +kernel)
set_option maxRecDepth 20000 in
theorem gX4_reset_X5_clear : GoodIn wsX4_reset (wsV RX4 70 RX5 yX5_clear wsX5_clear) := goodIn_app (goodIn_of _ (by decide +kernel)) ggX4_reset_X5_clear
set_option maxRecDepth 20000 in
theorem ggX4_printSegment_X1_kindOf : GoodIn wsX4_printSegment wsX1_kindOf := goodIn_r _ [11, 12, 13, 14, 10, 15, 16, 17, 18, 19, 20, 21, 22, 23, 24, 25, 26, 27, 28, 29, 30, 31, 32, 33, 34, 35, 36, 37, 38, 111, 112, 113] (by decide +kernel) (by decide +kernel)
set_option maxRecDepth 20000 in
theorem gX4_printSegment_X1_kindOf : GoodIn wsX4_printSegment (wsV RX4 79 RX1 yX1_kindOf wsX1_kindOf) := goodIn_app (goodIn_of _ (by decide +kernel)) ggX4_printSegment_X1_kindOf
set_option maxRecDepth 20000 in
theorem ggX4_printSegment_X1_shiftOfKind : GoodIn wsX4_printSegment wsX1_shiftOfKind := goodIn_r _ [41] (by decide +kernel) (by decide +kernel)
set_option maxRecDepth 20000 in
theorem gX4_printSegment_X1_shiftOfKind : GoodIn wsX4_printSegment (va_wsS RX4 85 yX1_shiftOfKind wsX1_shiftOfKind) := goodIn_app (goodIn_of _ (by decide +kernel)) ggX4_printSegment_X1_shiftOfKind
set_option maxRecDepth 20000 in
theorem ggX4_printSegment_X5_add : GoodIn wsX4_printSegment wsX5_add := goodIn_r _ [45, 25, 26, 112, 113] (by decide +kernel) (by decide +kernel)
set_option maxRecDepth 20000 in
theorem gX4_printSegment_X5_add : GoodIn wsX4_printSegment (wsV RX4 88 RX5 yX5_add wsX5_add) := goodIn_app (goodIn_of _ (by decide +kernel)) ggX4_printSegment_X5_add
set_option maxRecDepth 20000 in
theorem ggX4_printSegment_X1_findSegment : GoodIn wsX4_printSegment wsX1_findSegment := goodIn_r _ [15, 16, 17, 18, 10, 19, 20, 21, 22, 23, 24, 25, 26, 27, 28, 29, 30, 31, 111, 112, 113] (by decide +kernel) (by decide +kernel)
set_option maxRecDepth 20000 in
theorem gX4_printSegment_X1_findSegment : GoodIn wsX4_printSegment (wsV RX4 91 RX1 yX1_findSegment wsX1_findSegment) := goodIn_app (goodIn_of _ (by decide +kernel)) ggX4_printSegment_X1_findSegment
set_option maxRecDepth 20000 in
theorem ggX4_printSegment_X5_at : GoodIn wsX4_printSegment wsX5_at := goodIn_r _ [24, 25, 26, 112, 113] (by decide +kernel) (by decide +kernel)
set_option maxRecDepth 20000 in
theorem gX4_printSegment_X5_at : GoodIn wsX4_printSegment (wsV RX4 48 RX5 yX5_at wsX5_at) := goodIn_app (goodIn_of _ (by decide +kernel)) ggX4_printSegment_X5_at
set_option maxRecDepth 20000 in
theorem ggX4_printSegment_X0_characterOf : GoodIn wsX4_printSegment wsX0_characterOf := goodIn_r _ [50, 51, 52, 37, 53, 54, 55, 56, 57, 58, 59, 60, 61, 62, 63, 64, 65, 66, 67, 68, 69, 70, 71, 72, 73, 74, 75, 76, 77, 78, 79, 80, 81, 82, 83, 84, 85, 86, 87, 88, 89, 90, 91, 92, 93, 94, 95, 96, 97, 98, 99, 100, 101, 102] (by decide +kernel) (by decide +kernel)
set_option maxRecDepth 20000 in
theorem gX4_printSegment_X0_characterOf : GoodIn wsX4_printSegment (va_wsS RX4 95 yX0_characterOf wsX0_characterOf) := goodIn_app (goodIn_of _ (by decide +kernel)) ggX4_printSegment_X0_characterOf
set_option maxRecDepth 20000 in
theorem ggX4_obey_X0_characterOf : GoodIn wsX4_obey wsX0_characterOf := goodIn_r _ [8, 9, 10, 7, 11, 12, 13, 14, 15, 16, 17, 18, 19, 20, 21, 22, 23, 24, 25, 26, 27, 28, 29, 30, 31, 32, 33, 34, 35, 36, 37, 38, 39, 40, 41, 42, 43, 44, 45, 46, 47, 48, 49, 50, 51, 52, 53, 54, 55, 56, 57, 58, 59, 60] (by decide +kernel) (by decide +kernel)
set_option maxRecDepth 20000 in
theorem gX4_obey_X0_characterOf : GoodIn wsX4_obey (va_wsS RX4 95 yX0_characterOf wsX0_characterOf) := goodIn_app (goodIn_of _ (by decide +kernel)) ggX4_obey_X0_characterOf
set_option maxRecDepth 20000 in
theorem ggX4_obey_X5_add : GoodIn wsX4_obey wsX5_add := goodIn_r _ [65, 66, 67, 79, 80] (by decide +kernel) (by decide +kernel)
set_option maxRecDepth 20000 in
theorem gX4_obey_X5_add : GoodIn wsX4_obey (wsV RX4 88 RX5 yX5_add wsX5_add) := goodIn_app (goodIn_of _ (by decide +kernel)) ggX4_obey_X5_add
set_option maxRecDepth 20000 in
theorem ggX4_obey_X0_shiftBehind : GoodIn wsX4_obey wsX0_shiftBehind := goodIn_r _ [70] (by decide +kernel) (by decide +kernel)
set_option maxRecDepth 20000 in
theorem gX4_obey_X0_shiftBehind : GoodIn wsX4_obey (va_wsS RX4 99 yX0_shiftBehind wsX0_shiftBehind) := goodIn_app (goodIn_of _ (by decide +kernel)) ggX4_obey_X0_shiftBehind
set_option maxRecDepth 20000 in
theorem ggX5_set_X5_has : GoodIn wsX5_set wsX5_has := goodIn_r _ [6, 7, 1, 8, 9] (by decide +kernel) (by decide +kernel)
set_option maxRecDepth 20000 in
theorem gX5_set_X5_has : GoodIn wsX5_set (wsV RX5 25 RX5 yX5_has wsX5_has) := goodIn_app (goodIn_of _ (by decide +kernel)) ggX5_set_X5_has
set_option maxRecDepth 20000 in
theorem ggX5_remove_X5_has : GoodIn wsX5_remove wsX5_has := goodIn_r _ [6, 1, 7, 16, 17] (by decide +kernel) (by decide +kernel)
set_option maxRecDepth 20000 in
theorem gX5_remove_X5_has : GoodIn wsX5_remove (wsV RX5 25 RX5 yX5_has wsX5_has) := goodIn_app (goodIn_of _ (by decide +kernel)) ggX5_remove_X5_has
set_option maxRecDepth 20000 in
theorem ggX5_remove_X5_at : GoodIn wsX5_remove wsX5_at := goodIn_r _ [11, 1, 7, 16, 17] (by decide +kernel) (by decide +kernel)
set_option maxRecDepth 20000 in
theorem gX5_remove_X5_at : GoodIn wsX5_remove (wsV RX5 29 RX5 yX5_at wsX5_at) := goodIn_app (goodIn_of _ (by decide +kernel)) ggX5_remove_X5_at
set_option maxRecDepth 20000 in
theorem ggX5_remove_X5_set : GoodIn wsX5_remove wsX5_set := goodIn_r _ [15, 7, 2, 3, 4, 5, 6, 1, 16, 17] (by decide +kernel) (by decide +kernel)
set_option maxRecDepth 20000 in
theorem gX5_remove_X5_set : GoodIn wsX5_remove (wsV RX5 33 RX5 yX5_set wsX5_set) := goodIn_app (goodIn_of _ (by decide +kernel)) ggX5_remove_X5_set
set_option maxRecDepth 20000 in
theorem ggX5_fill_X5_clear : GoodIn wsX5_fill wsX5_clear := goodIn_r _ [5, 6, 12, 13] (by decide +kernel) (by decide +kernel)
set_option maxRecDepth 20000 in
theorem gX5_fill_X5_clear : GoodIn wsX5_fill (wsV RX5 37 RX5 yX5_clear wsX5_clear) := goodIn_app (goodIn_of _ (by decide +kernel)) ggX5_fill_X5_clear
set_option maxRecDepth 20000 in
theorem ggX5_fill_X5_add : GoodIn wsX5_fill wsX5_add := goodIn_r _ [10, 6, 11, 12, 13] (by decide +kernel) (by decide +kernel)
set_option maxRecDepth 20000 in
theorem gX5_fill_X5_add : GoodIn wsX5_fill (wsV RX5 40 RX5 yX5_add wsX5_add) := goodIn_app (goodIn_of _ (by decide +kernel)) ggX5_fill_X5_add
set_option maxRecDepth 20000 in
theorem ggX5_copyFrom_X5_clear : GoodIn wsX5_copyFrom wsX5_clear := goodIn_r _ [6, 1, 16, 17] (by decide +kernel) (by decide +kernel)
set_option maxRecDepth 20000 in
theorem gX5_copyFrom_X5_clear : GoodIn wsX5_copyFrom (wsV RX5 37 RX5 yX5_clear wsX5_clear) := goodIn_app (goodIn_of _ (by decide +kernel)) ggX5_copyFrom_X5_clear
set_option maxRecDepth 20000 in
theorem ggX5_copyFrom_X5_at : GoodIn wsX5_copyFrom wsX5_at := goodIn_r _ [10, 1, 11, 16, 17] (by decide +kernel) (by decide +kernel)
set_option maxRecDepth 20000 in
theorem gX5_copyFrom_X5_at : GoodIn wsX5_copyFrom (wsV RX5 29 RX5 yX5_at wsX5_at) := goodIn_app (goodIn_of _ (by decide +kernel)) ggX5_copyFrom_X5_at
set_option maxRecDepth 20000 in
theorem ggX5_copyFrom_X5_add : GoodIn wsX5_copyFrom wsX5_add := goodIn_r _ [15, 1, 11, 16, 17] (by decide +kernel) (by decide +kernel)
set_option maxRecDepth 20000 in
theorem gX5_copyFrom_X5_add : GoodIn wsX5_copyFrom (wsV RX5 40 RX5 yX5_add wsX5_add) := goodIn_app (goodIn_of _ (by decide +kernel)) ggX5_copyFrom_X5_add
set_option maxRecDepth 20000 in
theorem ggX5_find_X5_at : GoodIn wsX5_find wsX5_at := goodIn_r _ [6, 1, 7, 8, 9] (by decide +kernel) (by decide +kernel)
set_option maxRecDepth 20000 in
theorem gX5_find_X5_at : GoodIn wsX5_find (wsV RX5 29 RX5 yX5_at wsX5_at) := goodIn_app (goodIn_of _ (by decide +kernel)) ggX5_find_X5_at
set_option maxRecDepth 20000 in
theorem ggX5_count_X5_at : GoodIn wsX5_count wsX5_at := goodIn_r _ [6, 1, 7, 8, 9] (by decide +kernel) (by decide +kernel)
set_option maxRecDepth 20000 in
theorem gX5_count_X5_at : GoodIn wsX5_count (wsV RX5 29 RX5 yX5_at wsX5_at) := goodIn_app (goodIn_of _ (by decide +kernel)) ggX5_count_X5_at
set_option maxRecDepth 20000 in
theorem ggX5_hashOnto_X5_at : GoodIn wsX5_hashOnto wsX5_at := goodIn_r _ [7, 1, 8, 9, 10] (by decide +kernel) (by decide +kernel)
set_option maxRecDepth 20000 in
theorem gX5_hashOnto_X5_at : GoodIn wsX5_hashOnto (wsV RX5 29 RX5 yX5_at wsX5_at) := goodIn_app (goodIn_of _ (by decide +kernel)) ggX5_hashOnto_X5_at
set_option maxRecDepth 20000 in
theorem ggX6_init_X5_init : GoodIn wsX6_init wsX5_init := goodIn_r _ [11, 12, 2, 3, 13, 14, 15, 16, 17, 18, 19, 20] (by decide +kernel) (by decide +kernel)
