/-! ===== BEGIN printed: names, fields, word lists, decode rows ===== -/
def RX0 : String := "TelexReceiver$Codes"
noncomputable def TX0 : u_T := fun k => match k with
  | _ => ("", "", "", false)
def tyX0 : Nat → FieldType := fun k => match k with
  | _ => .int
noncomputable abbrev wsX00 : List Cond := u_ws RX0 TX0 0
theorem nmX0 : ∀ a, a < 0 → ∀ b, b < 0 → a ≠ b → (TX0 a).2.1 ≠ (TX0 b).2.1 := by decide +kernel
theorem tyX0_ok : ∀ k, k < 0 → parseFieldDescriptor (TX0 k).2.2.1 = some (tyX0 k) := by decide +kernel
abbrev cX0_isLetter : ByteArray := prog_2_method_2_code
def yX0_isLetter : MethodName := ⟨RX0, "isLetter", "(I)Z"⟩
abbrev cX0_isSign : ByteArray := prog_2_method_3_code
def yX0_isSign : MethodName := ⟨RX0, "isSign", "(I)Z"⟩
abbrev cX0_isDigit : ByteArray := prog_2_method_4_code
def yX0_isDigit : MethodName := ⟨RX0, "isDigit", "(I)Z"⟩
abbrev cX0_codeOf : ByteArray := prog_2_method_5_code
def yX0_codeOf : MethodName := ⟨RX0, "codeOf", "(I)I"⟩
abbrev cX0_codeOfFigure : ByteArray := prog_2_method_6_code
def yX0_codeOfFigure : MethodName := ⟨RX0, "codeOfFigure", "(I)I"⟩
abbrev cX0_shiftFor : ByteArray := prog_2_method_7_code
def yX0_shiftFor : MethodName := ⟨RX0, "shiftFor", "(I)I"⟩
abbrev cX0_characterOf : ByteArray := prog_2_method_8_code
def yX0_characterOf : MethodName := ⟨RX0, "characterOf", "(II)I"⟩
abbrev cX0_startOfSigns : ByteArray := prog_2_method_9_code
def yX0_startOfSigns : MethodName := ⟨RX0, "startOfSigns", "(LTelexReceiver$Row;I)I"⟩
abbrev cX0_endOfSigns : ByteArray := prog_2_method_10_code
def yX0_endOfSigns : MethodName := ⟨RX0, "endOfSigns", "(LTelexReceiver$Row;I)I"⟩
abbrev cX0_shiftBehind : ByteArray := prog_2_method_11_code
def yX0_shiftBehind : MethodName := ⟨RX0, "shiftBehind", "(IIZ)I"⟩
def RX1 : String := "TelexReceiver$Dictionary"
noncomputable def TX1 : u_T := fun k => match k with
  | _ => ("TelexReceiver$Dictionary", "wordRow", "LTelexReceiver$Row;", true)
def tyX1 : Nat → FieldType := fun k => match k with
  | _ => .object "TelexReceiver$Row"
noncomputable abbrev wsX10 : List Cond := u_ws RX1 TX1 1
theorem nmX1 : ∀ a, a < 1 → ∀ b, b < 1 → a ≠ b → (TX1 a).2.1 ≠ (TX1 b).2.1 := by decide +kernel
theorem tyX1_ok : ∀ k, k < 1 → parseFieldDescriptor (TX1 k).2.2.1 = some (tyX1 k) := by decide +kernel
abbrev cX1_init : ByteArray := prog_3_method_1_code
def yX1_init : MethodName := ⟨RX1, "<init>", "()V"⟩
abbrev cX1_wordOfCharacters : ByteArray := prog_3_method_2_code
def yX1_wordOfCharacters : MethodName := ⟨RX1, "wordOfCharacters", "(LTelexReceiver$Row;)I"⟩
abbrev cX1_wordOfCodes : ByteArray := prog_3_method_3_code
def yX1_wordOfCodes : MethodName := ⟨RX1, "wordOfCodes", "(LTelexReceiver$Row;II)I"⟩
abbrev cX1_areDigits : ByteArray := prog_3_method_4_code
def yX1_areDigits : MethodName := ⟨RX1, "areDigits", "(LTelexReceiver$Row;II)Z"⟩
abbrev cX1_findSegment : ByteArray := prog_3_method_5_code
def yX1_findSegment : MethodName := ⟨RX1, "findSegment", "(LTelexReceiver$Row;II)I"⟩
abbrev cX1_codeOfLetter : ByteArray := prog_3_method_6_code
def yX1_codeOfLetter : MethodName := ⟨RX1, "codeOfLetter", "(II)I"⟩
abbrev cX1_lengthOf : ByteArray := prog_3_method_7_code
def yX1_lengthOf : MethodName := ⟨RX1, "lengthOf", "(I)I"⟩
abbrev cX1_kindOf : ByteArray := prog_3_method_8_code
def yX1_kindOf : MethodName := ⟨RX1, "kindOf", "(LTelexReceiver$Row;III)I"⟩
abbrev cX1_shiftOfKind : ByteArray := prog_3_method_9_code
def yX1_shiftOfKind : MethodName := ⟨RX1, "shiftOfKind", "(I)I"⟩
abbrev cX1_isDoubtful : ByteArray := prog_3_method_10_code
def yX1_isDoubtful : MethodName := ⟨RX1, "isDoubtful", "(LTelexReceiver$Row;II)Z"⟩
abbrev cX1_doubtOf : ByteArray := prog_3_method_11_code
def yX1_doubtOf : MethodName := ⟨RX1, "doubtOf", "(LTelexReceiver$Row;II)I"⟩
abbrev cX1_firstRepairingCut : ByteArray := prog_3_method_12_code
def yX1_firstRepairingCut : MethodName := ⟨RX1, "firstRepairingCut", "(LTelexReceiver$Row;II)I"⟩
def RX2 : String := "TelexReceiver$History"
noncomputable def TX2 : u_T := fun k => match k with
  | 0 => ("TelexReceiver$History", "states", "[LTelexReceiver$Saved;", true)
  | _ => ("TelexReceiver$History", "count", "I", false)
def tyX2 : Nat → FieldType := fun k => match k with
  | 0 => .array (.object "TelexReceiver$Saved")
  | _ => .int
noncomputable abbrev wsX20 : List Cond := u_ws RX2 TX2 2
theorem nmX2 : ∀ a, a < 2 → ∀ b, b < 2 → a ≠ b → (TX2 a).2.1 ≠ (TX2 b).2.1 := by decide +kernel
theorem tyX2_ok : ∀ k, k < 2 → parseFieldDescriptor (TX2 k).2.2.1 = some (tyX2 k) := by decide +kernel
abbrev cX2_init : ByteArray := prog_4_method_1_code
def yX2_init : MethodName := ⟨RX2, "<init>", "()V"⟩
abbrev cX2_save : ByteArray := prog_4_method_2_code
def yX2_save : MethodName := ⟨RX2, "save", "(LTelexReceiver$Line;LTelexReceiver$Dictionary;)V"⟩
abbrev cX2_restore : ByteArray := prog_4_method_3_code
def yX2_restore : MethodName := ⟨RX2, "restore", "(LTelexReceiver$Line;LTelexReceiver$Dictionary;)V"⟩
abbrev cX2_stateAt : ByteArray := prog_4_method_4_code
def yX2_stateAt : MethodName := ⟨RX2, "stateAt", "(I)LTelexReceiver$Saved;"⟩
abbrev cX2_discardOldest : ByteArray := prog_4_method_5_code
def yX2_discardOldest : MethodName := ⟨RX2, "discardOldest", "()V"⟩
def RX3 : String := "TelexReceiver$Line"
noncomputable def TX3 : u_T := fun k => match k with
  | 0 => ("TelexReceiver$Line", "characterRow", "LTelexReceiver$Row;", true)
  | 1 => ("TelexReceiver$Line", "sentRow", "LTelexReceiver$Row;", true)
  | 2 => ("TelexReceiver$Line", "receivedRow", "LTelexReceiver$Row;", true)
  | 3 => ("TelexReceiver$Line", "faultRow", "LTelexReceiver$Row;", true)
  | 4 => ("TelexReceiver$Line", "encoded", "LTelexReceiver$Row;", true)
  | 5 => ("TelexReceiver$Line", "shift", "I", false)
  | _ => ("TelexReceiver$Line", "unshifts", "Z", false)
def tyX3 : Nat → FieldType := fun k => match k with
  | 0 => .object "TelexReceiver$Row"
  | 1 => .object "TelexReceiver$Row"
  | 2 => .object "TelexReceiver$Row"
  | 3 => .object "TelexReceiver$Row"
  | 4 => .object "TelexReceiver$Row"
  | 5 => .int
  | _ => .boolean
noncomputable abbrev wsX30 : List Cond := u_ws RX3 TX3 7
theorem nmX3 : ∀ a, a < 7 → ∀ b, b < 7 → a ≠ b → (TX3 a).2.1 ≠ (TX3 b).2.1 := by decide +kernel
theorem tyX3_ok : ∀ k, k < 7 → parseFieldDescriptor (TX3 k).2.2.1 = some (tyX3 k) := by decide +kernel
abbrev cX3_init : ByteArray := prog_5_method_1_code
def yX3_init : MethodName := ⟨RX3, "<init>", "()V"⟩
abbrev cX3_encode : ByteArray := prog_5_method_2_code
def yX3_encode : MethodName := ⟨RX3, "encode", "(LTelexReceiver$Row;)LTelexReceiver$Row;"⟩
abbrev cX3_transmit : ByteArray := prog_5_method_3_code
def yX3_transmit : MethodName := ⟨RX3, "transmit", "(LTelexReceiver$Row;)V"⟩
abbrev cX3_transmitCode : ByteArray := prog_5_method_4_code
def yX3_transmitCode : MethodName := ⟨RX3, "transmitCode", "(I)V"⟩
def RX4 : String := "TelexReceiver$Printer"
noncomputable def TX4 : u_T := fun k => match k with
  | 0 => ("TelexReceiver$Printer", "printedRow", "LTelexReceiver$Row;", true)
  | 1 => ("TelexReceiver$Printer", "startRow", "LTelexReceiver$Row;", true)
  | 2 => ("TelexReceiver$Printer", "lengthRow", "LTelexReceiver$Row;", true)
  | 3 => ("TelexReceiver$Printer", "kindRow", "LTelexReceiver$Row;", true)
  | 4 => ("TelexReceiver$Printer", "wordRow", "LTelexReceiver$Row;", true)
  | 5 => ("TelexReceiver$Printer", "shift", "I", false)
  | 6 => ("TelexReceiver$Printer", "bellCount", "I", false)
  | _ => ("TelexReceiver$Printer", "questionCount", "I", false)
def tyX4 : Nat → FieldType := fun k => match k with
  | 0 => .object "TelexReceiver$Row"
  | 1 => .object "TelexReceiver$Row"
  | 2 => .object "TelexReceiver$Row"
  | 3 => .object "TelexReceiver$Row"
  | 4 => .object "TelexReceiver$Row"
  | 5 => .int
  | 6 => .int
  | _ => .int
noncomputable abbrev wsX40 : List Cond := u_ws RX4 TX4 8
theorem nmX4 : ∀ a, a < 8 → ∀ b, b < 8 → a ≠ b → (TX4 a).2.1 ≠ (TX4 b).2.1 := by decide +kernel
theorem tyX4_ok : ∀ k, k < 8 → parseFieldDescriptor (TX4 k).2.2.1 = some (tyX4 k) := by decide +kernel
abbrev cX4_init : ByteArray := prog_6_method_1_code
def yX4_init : MethodName := ⟨RX4, "<init>", "()V"⟩
abbrev cX4_decode : ByteArray := prog_6_method_2_code
def yX4_decode : MethodName := ⟨RX4, "decode", "(LTelexReceiver$Line;LTelexReceiver$Dictionary;)V"⟩
abbrev cX4_reset : ByteArray := prog_6_method_3_code
def yX4_reset : MethodName := ⟨RX4, "reset", "()V"⟩
abbrev cX4_printSegment : ByteArray := prog_6_method_4_code
def yX4_printSegment : MethodName := ⟨RX4, "printSegment", "(LTelexReceiver$Row;IILTelexReceiver$Dictionary;)V"⟩
abbrev cX4_obey : ByteArray := prog_6_method_5_code
def yX4_obey : MethodName := ⟨RX4, "obey", "(IZ)V"⟩
def RX5 : String := "TelexReceiver$Row"
noncomputable def TX5 : u_T := fun k => match k with
  | 0 => ("TelexReceiver$Row", "values", "[I", true)
  | _ => ("TelexReceiver$Row", "size", "I", false)
def tyX5 : Nat → FieldType := fun k => match k with
  | 0 => .array .int
  | _ => .int
noncomputable abbrev wsX50 : List Cond := u_ws RX5 TX5 2
theorem nmX5 : ∀ a, a < 2 → ∀ b, b < 2 → a ≠ b → (TX5 a).2.1 ≠ (TX5 b).2.1 := by decide +kernel
theorem tyX5_ok : ∀ k, k < 2 → parseFieldDescriptor (TX5 k).2.2.1 = some (tyX5 k) := by decide +kernel
abbrev cX5_init : ByteArray := prog_7_method_1_code
def yX5_init : MethodName := ⟨RX5, "<init>", "(I)V"⟩
abbrev cX5_size : ByteArray := prog_7_method_2_code
def yX5_size : MethodName := ⟨RX5, "size", "()I"⟩
abbrev cX5_has : ByteArray := prog_7_method_3_code
def yX5_has : MethodName := ⟨RX5, "has", "(I)Z"⟩
abbrev cX5_at : ByteArray := prog_7_method_4_code
def yX5_at : MethodName := ⟨RX5, "at", "(I)I"⟩
abbrev cX5_set : ByteArray := prog_7_method_5_code
def yX5_set : MethodName := ⟨RX5, "set", "(II)V"⟩
abbrev cX5_add : ByteArray := prog_7_method_6_code
def yX5_add : MethodName := ⟨RX5, "add", "(I)V"⟩
abbrev cX5_remove : ByteArray := prog_7_method_7_code
def yX5_remove : MethodName := ⟨RX5, "remove", "(I)V"⟩
abbrev cX5_clear : ByteArray := prog_7_method_8_code
def yX5_clear : MethodName := ⟨RX5, "clear", "()V"⟩
abbrev cX5_shorten : ByteArray := prog_7_method_9_code
def yX5_shorten : MethodName := ⟨RX5, "shorten", "(I)V"⟩
abbrev cX5_fill : ByteArray := prog_7_method_10_code
def yX5_fill : MethodName := ⟨RX5, "fill", "(II)V"⟩
abbrev cX5_copyFrom : ByteArray := prog_7_method_11_code
def yX5_copyFrom : MethodName := ⟨RX5, "copyFrom", "(LTelexReceiver$Row;)V"⟩
abbrev cX5_find : ByteArray := prog_7_method_12_code
def yX5_find : MethodName := ⟨RX5, "find", "(I)I"⟩
abbrev cX5_count : ByteArray := prog_7_method_13_code
def yX5_count : MethodName := ⟨RX5, "count", "(I)I"⟩
abbrev cX5_hashOnto : ByteArray := prog_7_method_14_code
def yX5_hashOnto : MethodName := ⟨RX5, "hashOnto", "(J)J"⟩
def RX6 : String := "TelexReceiver$Saved"
noncomputable def TX6 : u_T := fun k => match k with
  | 0 => ("TelexReceiver$Saved", "faultRow", "LTelexReceiver$Row;", true)
  | 1 => ("TelexReceiver$Saved", "wordRow", "LTelexReceiver$Row;", true)
  | 2 => ("TelexReceiver$Saved", "characterCount", "I", false)
  | 3 => ("TelexReceiver$Saved", "sentCount", "I", false)
  | 4 => ("TelexReceiver$Saved", "receivedCount", "I", false)
  | 5 => ("TelexReceiver$Saved", "shift", "I", false)
  | _ => ("TelexReceiver$Saved", "unshifts", "Z", false)
def tyX6 : Nat → FieldType := fun k => match k with
  | 0 => .object "TelexReceiver$Row"
  | 1 => .object "TelexReceiver$Row"
  | 2 => .int
  | 3 => .int
  | 4 => .int
  | 5 => .int
  | _ => .boolean
noncomputable abbrev wsX60 : List Cond := u_ws RX6 TX6 7
theorem nmX6 : ∀ a, a < 7 → ∀ b, b < 7 → a ≠ b → (TX6 a).2.1 ≠ (TX6 b).2.1 := by decide +kernel
theorem tyX6_ok : ∀ k, k < 7 → parseFieldDescriptor (TX6 k).2.2.1 = some (tyX6 k) := by decide +kernel
abbrev cX6_init : ByteArray := prog_8_method_1_code
def yX6_init : MethodName := ⟨RX6, "<init>", "()V"⟩
abbrev cX6_take : ByteArray := prog_8_method_2_code
def yX6_take : MethodName := ⟨RX6, "take", "(LTelexReceiver$Line;LTelexReceiver$Dictionary;)V"⟩
abbrev cX6_give : ByteArray := prog_8_method_3_code
def yX6_give : MethodName := ⟨RX6, "give", "(LTelexReceiver$Line;LTelexReceiver$Dictionary;)V"⟩
def RX7 : String := "TelexReceiver"
noncomputable def TX7 : u_T := fun k => match k with
  | 0 => ("TelexReceiver", "buffer", "LTelexReceiver$Row;", true)
  | 1 => ("TelexReceiver", "line", "LTelexReceiver$Line;", true)
  | 2 => ("TelexReceiver", "dictionary", "LTelexReceiver$Dictionary;", true)
  | 3 => ("TelexReceiver", "printer", "LTelexReceiver$Printer;", true)
  | _ => ("TelexReceiver", "history", "LTelexReceiver$History;", true)
def tyX7 : Nat → FieldType := fun k => match k with
  | 0 => .object "TelexReceiver$Row"
  | 1 => .object "TelexReceiver$Line"
  | 2 => .object "TelexReceiver$Dictionary"
  | 3 => .object "TelexReceiver$Printer"
  | _ => .object "TelexReceiver$History"
noncomputable abbrev wsX70 : List Cond := u_ws RX7 TX7 5
theorem nmX7 : ∀ a, a < 5 → ∀ b, b < 5 → a ≠ b → (TX7 a).2.1 ≠ (TX7 b).2.1 := by decide +kernel
theorem tyX7_ok : ∀ k, k < 5 → parseFieldDescriptor (TX7 k).2.2.1 = some (tyX7 k) := by decide +kernel
abbrev cX7_init : ByteArray := prog_1_method_1_code
def yX7_init : MethodName := ⟨RX7, "<init>", "()V"⟩
abbrev cX7_append : ByteArray := prog_1_method_2_code
def yX7_append : MethodName := ⟨RX7, "append", "(I)I"⟩
abbrev cX7_clearBuffer : ByteArray := prog_1_method_3_code
def yX7_clearBuffer : MethodName := ⟨RX7, "clearBuffer", "()I"⟩
abbrev cX7_codesToSend : ByteArray := prog_1_method_4_code
def yX7_codesToSend : MethodName := ⟨RX7, "codesToSend", "()I"⟩
abbrev cX7_send : ByteArray := prog_1_method_5_code
def yX7_send : MethodName := ⟨RX7, "send", "()I"⟩
abbrev cX7_setFault : ByteArray := prog_1_method_6_code
def yX7_setFault : MethodName := ⟨RX7, "setFault", "(II)I"⟩
abbrev cX7_sent : ByteArray := prog_1_method_7_code
def yX7_sent : MethodName := ⟨RX7, "sent", "()I"⟩
abbrev cX7_received : ByteArray := prog_1_method_8_code
def yX7_received : MethodName := ⟨RX7, "received", "()I"⟩
abbrev cX7_sentCode : ByteArray := prog_1_method_9_code
def yX7_sentCode : MethodName := ⟨RX7, "sentCode", "(I)I"⟩
abbrev cX7_receivedCode : ByteArray := prog_1_method_10_code
def yX7_receivedCode : MethodName := ⟨RX7, "receivedCode", "(I)I"⟩
abbrev cX7_senderShift : ByteArray := prog_1_method_11_code
def yX7_senderShift : MethodName := ⟨RX7, "senderShift", "()I"⟩
abbrev cX7_faults : ByteArray := prog_1_method_12_code
def yX7_faults : MethodName := ⟨RX7, "faults", "()I"⟩
abbrev cX7_unshiftOnSpace : ByteArray := prog_1_method_13_code
def yX7_unshiftOnSpace : MethodName := ⟨RX7, "unshiftOnSpace", "(Z)Z"⟩
abbrev cX7_learn : ByteArray := prog_1_method_14_code
def yX7_learn : MethodName := ⟨RX7, "learn", "()I"⟩
abbrev cX7_forget : ByteArray := prog_1_method_15_code
def yX7_forget : MethodName := ⟨RX7, "forget", "(I)I"⟩
abbrev cX7_words : ByteArray := prog_1_method_16_code
def yX7_words : MethodName := ⟨RX7, "words", "()I"⟩
abbrev cX7_wordLetter : ByteArray := prog_1_method_17_code
def yX7_wordLetter : MethodName := ⟨RX7, "wordLetter", "(II)I"⟩
abbrev cX7_uses : ByteArray := prog_1_method_18_code
def yX7_uses : MethodName := ⟨RX7, "uses", "(I)I"⟩
abbrev cX7_printedLength : ByteArray := prog_1_method_19_code
def yX7_printedLength : MethodName := ⟨RX7, "printedLength", "()I"⟩
abbrev cX7_printed : ByteArray := prog_1_method_20_code
def yX7_printed : MethodName := ⟨RX7, "printed", "(I)I"⟩
abbrev cX7_segments : ByteArray := prog_1_method_21_code
def yX7_segments : MethodName := ⟨RX7, "segments", "()I"⟩
abbrev cX7_segmentLength : ByteArray := prog_1_method_22_code
def yX7_segmentLength : MethodName := ⟨RX7, "segmentLength", "(I)I"⟩
abbrev cX7_segmentKind : ByteArray := prog_1_method_23_code
def yX7_segmentKind : MethodName := ⟨RX7, "segmentKind", "(I)I"⟩
abbrev cX7_guesses : ByteArray := prog_1_method_24_code
def yX7_guesses : MethodName := ⟨RX7, "guesses", "()I"⟩
abbrev cX7_doubtful : ByteArray := prog_1_method_25_code
def yX7_doubtful : MethodName := ⟨RX7, "doubtful", "()I"⟩
abbrev cX7_bells : ByteArray := prog_1_method_26_code
def yX7_bells : MethodName := ⟨RX7, "bells", "()I"⟩
abbrev cX7_questions : ByteArray := prog_1_method_27_code
def yX7_questions : MethodName := ⟨RX7, "questions", "()I"⟩
abbrev cX7_receiverShift : ByteArray := prog_1_method_28_code
def yX7_receiverShift : MethodName := ⟨RX7, "receiverShift", "()I"⟩
abbrev cX7_wrongCharacters : ByteArray := prog_1_method_29_code
def yX7_wrongCharacters : MethodName := ⟨RX7, "wrongCharacters", "()I"⟩
abbrev cX7_plausibility : ByteArray := prog_1_method_30_code
def yX7_plausibility : MethodName := ⟨RX7, "plausibility", "()D"⟩
abbrev cX7_doubtfulWith : ByteArray := prog_1_method_31_code
def yX7_doubtfulWith : MethodName := ⟨RX7, "doubtfulWith", "(II)I"⟩
abbrev cX7_bestRepair : ByteArray := prog_1_method_32_code
def yX7_bestRepair : MethodName := ⟨RX7, "bestRepair", "()I"⟩
abbrev cX7_changeByCut : ByteArray := prog_1_method_33_code
def yX7_changeByCut : MethodName := ⟨RX7, "changeByCut", "(I)I"⟩
abbrev cX7_undo : ByteArray := prog_1_method_34_code
def yX7_undo : MethodName := ⟨RX7, "undo", "()I"⟩
abbrev cX7_savedStates : ByteArray := prog_1_method_35_code
def yX7_savedStates : MethodName := ⟨RX7, "savedStates", "()I"⟩
abbrev cX7_digest : ByteArray := prog_1_method_36_code
def yX7_digest : MethodName := ⟨RX7, "digest", "()J"⟩
def RX8 : String := "TelexReceiverModel"
noncomputable def TX8 : u_T := fun k => match k with
  | _ => ("", "", "", false)
def tyX8 : Nat → FieldType := fun k => match k with
  | _ => .int
noncomputable abbrev wsX80 : List Cond := u_ws RX8 TX8 0
theorem nmX8 : ∀ a, a < 0 → ∀ b, b < 0 → a ≠ b → (TX8 a).2.1 ≠ (TX8 b).2.1 := by decide +kernel
theorem tyX8_ok : ∀ k, k < 0 → parseFieldDescriptor (TX8 k).2.2.1 = some (tyX8 k) := by decide +kernel
def RJ11 : String := "java/lang/Character"
noncomputable def TJ11 : u_T := fun k => match k with
  | _ => ("", "", "", false)
def tyJ11 : Nat → FieldType := fun k => match k with
  | _ => .int
noncomputable abbrev wsJ110 : List Cond := u_ws RJ11 TJ11 0
theorem nmJ11 : ∀ a, a < 0 → ∀ b, b < 0 → a ≠ b → (TJ11 a).2.1 ≠ (TJ11 b).2.1 := by decide +kernel
theorem tyJ11_ok : ∀ k, k < 0 → parseFieldDescriptor (TJ11 k).2.2.1 = some (tyJ11 k) := by decide +kernel
abbrev cJ11_isValidCodePoint_9a6ad : ByteArray := prog_11_method_11_code
def yJ11_isValidCodePoint_9a6ad : MethodName := ⟨RJ11, "isValidCodePoint", "(I)Z"⟩
abbrev cJ11_highSurrogate_5068e : ByteArray := prog_11_method_28_code
def yJ11_highSurrogate_5068e : MethodName := ⟨RJ11, "highSurrogate", "(I)C"⟩
abbrev cJ11_lowSurrogate_5068e : ByteArray := prog_11_method_29_code
def yJ11_lowSurrogate_5068e : MethodName := ⟨RJ11, "lowSurrogate", "(I)C"⟩
def RJ9 : String := "java/lang/Math"
noncomputable def TJ9 : u_T := fun k => match k with
  | _ => ("", "", "", false)
def tyJ9 : Nat → FieldType := fun k => match k with
  | _ => .int
noncomputable abbrev wsJ90 : List Cond := u_ws RJ9 TJ9 0
theorem nmJ9 : ∀ a, a < 0 → ∀ b, b < 0 → a ≠ b → (TJ9 a).2.1 ≠ (TJ9 b).2.1 := by decide +kernel
theorem tyJ9_ok : ∀ k, k < 0 → parseFieldDescriptor (TJ9 k).2.2.1 = some (tyJ9 k) := by decide +kernel
abbrev cJ9_max_7cf53 : ByteArray := prog_16_method_65_code
def yJ9_max_7cf53 : MethodName := ⟨RJ9, "max", "(II)I"⟩
abbrev cJ9_min_7cf53 : ByteArray := prog_16_method_69_code
def yJ9_min_7cf53 : MethodName := ⟨RJ9, "min", "(II)I"⟩
def RJ0 : String := "java/lang/String"
noncomputable def TJ0 : u_T := fun k => match k with
  | _ => ("", "", "", false)
def tyJ0 : Nat → FieldType := fun k => match k with
  | _ => .int
noncomputable abbrev wsJ00 : List Cond := u_ws RJ0 TJ0 0
theorem nmJ0 : ∀ a, a < 0 → ∀ b, b < 0 → a ≠ b → (TJ0 a).2.1 ≠ (TJ0 b).2.1 := by decide +kernel
theorem tyJ0_ok : ∀ k, k < 0 → parseFieldDescriptor (TJ0 k).2.2.1 = some (tyJ0 k) := by decide +kernel
abbrev cJ0_length_8abf5 : ByteArray := prog_18_method_54_code
def yJ0_length_8abf5 : MethodName := ⟨RJ0, "length", "()I"⟩
abbrev cJ0_charAt_5068e : ByteArray := prog_18_method_56_code
def yJ0_charAt_5068e : MethodName := ⟨RJ0, "charAt", "(I)C"⟩
abbrev cJ0_indexOf_0f7a4 : ByteArray := prog_18_method_79_code
def yJ0_indexOf_0f7a4 : MethodName := ⟨RJ0, "indexOf", "(I)I"⟩
abbrev cJ0_indexOf_7cf53 : ByteArray := prog_18_method_80_code
def yJ0_indexOf_7cf53 : MethodName := ⟨RJ0, "indexOf", "(II)I"⟩
abbrev cJ0_coder_7d493 : ByteArray := prog_18_method_152_code
def yJ0_coder_7d493 : MethodName := ⟨RJ0, "coder", "()B"⟩
abbrev cJ0_isLatin1_aae02 : ByteArray := prog_18_method_154_code
def yJ0_isLatin1_aae02 : MethodName := ⟨RJ0, "isLatin1", "()Z"⟩
abbrev cJ0_checkIndex_df160 : ByteArray := prog_18_method_155_code
def yJ0_checkIndex_df160 : MethodName := ⟨RJ0, "checkIndex", "(II)V"⟩
abbrev cJ0_checkBoundsBeginEnd_23922 : ByteArray := prog_18_method_158_code
def yJ0_checkBoundsBeginEnd_23922 : MethodName := ⟨RJ0, "checkBoundsBeginEnd", "(III)V"⟩
def RJ1 : String := "java/lang/StringLatin1"
noncomputable def TJ1 : u_T := fun k => match k with
  | _ => ("", "", "", false)
def tyJ1 : Nat → FieldType := fun k => match k with
  | _ => .int
noncomputable abbrev wsJ10 : List Cond := u_ws RJ1 TJ1 0
theorem nmJ1 : ∀ a, a < 0 → ∀ b, b < 0 → a ≠ b → (TJ1 a).2.1 ≠ (TJ1 b).2.1 := by decide +kernel
theorem tyJ1_ok : ∀ k, k < 0 → parseFieldDescriptor (TJ1 k).2.2.1 = some (tyJ1 k) := by decide +kernel
abbrev cJ1_charAt_3b067 : ByteArray := prog_19_method_2_code
def yJ1_charAt_3b067 : MethodName := ⟨RJ1, "charAt", "([BI)C"⟩
abbrev cJ1_canEncode_9a6ad : ByteArray := prog_19_method_4_code
def yJ1_canEncode_9a6ad : MethodName := ⟨RJ1, "canEncode", "(I)Z"⟩
abbrev cJ1_indexOf_4cfef : ByteArray := prog_19_method_22_code
def yJ1_indexOf_4cfef : MethodName := ⟨RJ1, "indexOf", "([BIII)I"⟩
abbrev cJ1_indexOfChar_4cfef : ByteArray := prog_19_method_23_code
def yJ1_indexOfChar_4cfef : MethodName := ⟨RJ1, "indexOfChar", "([BIII)I"⟩
def RJ2 : String := "java/lang/StringUTF16"
noncomputable def TJ2 : u_T := fun k => match k with
  | _ => ("", "", "", false)
def tyJ2 : Nat → FieldType := fun k => match k with
  | _ => .int
noncomputable abbrev wsJ20 : List Cond := u_ws RJ2 TJ2 0
theorem nmJ2 : ∀ a, a < 0 → ∀ b, b < 0 → a ≠ b → (TJ2 a).2.1 ≠ (TJ2 b).2.1 := by decide +kernel
theorem tyJ2_ok : ∀ k, k < 0 → parseFieldDescriptor (TJ2 k).2.2.1 = some (tyJ2 k) := by decide +kernel
abbrev cJ2_getChar_3b067 : ByteArray := prog_20_method_5_code
def yJ2_getChar_3b067 : MethodName := ⟨RJ2, "getChar", "([BI)C"⟩
abbrev cJ2_length_9d52b : ByteArray := prog_20_method_6_code
def yJ2_length_9d52b : MethodName := ⟨RJ2, "length", "([B)I"⟩
abbrev cJ2_indexOf_4cfef : ByteArray := prog_20_method_40_code
def yJ2_indexOf_4cfef : MethodName := ⟨RJ2, "indexOf", "([BIII)I"⟩
abbrev cJ2_indexOfChar_4cfef : ByteArray := prog_20_method_47_code
def yJ2_indexOfChar_4cfef : MethodName := ⟨RJ2, "indexOfChar", "([BIII)I"⟩
abbrev cJ2_indexOfCharUnsafe_4cfef : ByteArray := prog_20_method_48_code
def yJ2_indexOfCharUnsafe_4cfef : MethodName := ⟨RJ2, "indexOfCharUnsafe", "([BIII)I"⟩
abbrev cJ2_indexOfSupplementary_4cfef : ByteArray := prog_20_method_49_code
def yJ2_indexOfSupplementary_4cfef : MethodName := ⟨RJ2, "indexOfSupplementary", "([BIII)I"⟩
abbrev cJ2_charAt_3b067 : ByteArray := prog_20_method_83_code
def yJ2_charAt_3b067 : MethodName := ⟨RJ2, "charAt", "([BI)C"⟩
abbrev cJ2_checkIndex_2214a : ByteArray := prog_20_method_91_code
def yJ2_checkIndex_2214a : MethodName := ⟨RJ2, "checkIndex", "(I[B)V"⟩
abbrev cJ2_checkBoundsBeginEnd_d044e : ByteArray := prog_20_method_93_code
def yJ2_checkBoundsBeginEnd_d044e : MethodName := ⟨RJ2, "checkBoundsBeginEnd", "(II[B)V"⟩
def RJ3 : String := "jdk/internal/util/Preconditions"
noncomputable def TJ3 : u_T := fun k => match k with
  | _ => ("", "", "", false)
def tyJ3 : Nat → FieldType := fun k => match k with
  | _ => .int
noncomputable abbrev wsJ30 : List Cond := u_ws RJ3 TJ3 0
theorem nmJ3 : ∀ a, a < 0 → ∀ b, b < 0 → a ≠ b → (TJ3 a).2.1 ≠ (TJ3 b).2.1 := by decide +kernel
theorem tyJ3_ok : ∀ k, k < 0 → parseFieldDescriptor (TJ3 k).2.2.1 = some (tyJ3 k) := by decide +kernel
abbrev cJ3_checkIndex_8e157 : ByteArray := prog_22_method_11_code
def yJ3_checkIndex_8e157 : MethodName := ⟨RJ3, "checkIndex", "(IILjava/util/function/BiFunction;)I"⟩
abbrev cJ3_checkFromToIndex_8c36e : ByteArray := prog_22_method_12_code
def yJ3_checkFromToIndex_8c36e : MethodName := ⟨RJ3, "checkFromToIndex", "(IIILjava/util/function/BiFunction;)I"⟩
def RL : String := "TelexReceiverLaw"
abbrev cL_cell : ByteArray := method_2_code
def yL_cell : MethodName := ⟨RL, "cell", "([II)I"⟩
abbrev cL_append : ByteArray := method_3_code
def yL_append : MethodName := ⟨RL, "append", "(LTelexReceiver;I)I"⟩
abbrev cL_send : ByteArray := method_4_code
def yL_send : MethodName := ⟨RL, "send", "(LTelexReceiver;)I"⟩
abbrev cL_setFault : ByteArray := method_5_code
def yL_setFault : MethodName := ⟨RL, "setFault", "(LTelexReceiver;II)I"⟩
abbrev cL_learn : ByteArray := method_6_code
def yL_learn : MethodName := ⟨RL, "learn", "(LTelexReceiver;)I"⟩
abbrev cL_forget : ByteArray := method_7_code
def yL_forget : MethodName := ⟨RL, "forget", "(LTelexReceiver;I)I"⟩
abbrev cL_sentCode : ByteArray := method_8_code
def yL_sentCode : MethodName := ⟨RL, "sentCode", "(LTelexReceiver;I)I"⟩
abbrev cL_receivedCode : ByteArray := method_9_code
def yL_receivedCode : MethodName := ⟨RL, "receivedCode", "(LTelexReceiver;I)I"⟩
abbrev cL_printed : ByteArray := method_10_code
def yL_printed : MethodName := ⟨RL, "printed", "(LTelexReceiver;I)I"⟩
abbrev cL_segmentLength : ByteArray := method_11_code
def yL_segmentLength : MethodName := ⟨RL, "segmentLength", "(LTelexReceiver;I)I"⟩
abbrev cL_segmentKind : ByteArray := method_12_code
def yL_segmentKind : MethodName := ⟨RL, "segmentKind", "(LTelexReceiver;I)I"⟩
abbrev cL_wordLetter : ByteArray := method_13_code
def yL_wordLetter : MethodName := ⟨RL, "wordLetter", "(LTelexReceiver;II)I"⟩
abbrev cL_uses : ByteArray := method_14_code
def yL_uses : MethodName := ⟨RL, "uses", "(LTelexReceiver;I)I"⟩
abbrev cL_undo : ByteArray := method_15_code
def yL_undo : MethodName := ⟨RL, "undo", "(LTelexReceiver;)I"⟩
abbrev cL_doubtfulWith : ByteArray := method_16_code
def yL_doubtfulWith : MethodName := ⟨RL, "doubtfulWith", "(LTelexReceiver;II)I"⟩
abbrev cL_acts : ByteArray := method_19_code
def yL_acts : MethodName := ⟨RL, "acts", "(LTelexReceiver;I)I"⟩
abbrev cL_hangs : ByteArray := method_20_code
def yL_hangs : MethodName := ⟨RL, "hangs", "(LTelexReceiver;)Z"⟩
abbrev cL_refuses : ByteArray := method_21_code
def yL_refuses : MethodName := ⟨RL, "refuses", "(LTelexReceiver;I)Z"⟩
abbrev cL_law : ByteArray := code
def yL_law : MethodName := ⟨RL, "law", "([I)Z"⟩
noncomputable abbrev vwCl : List vw_C := [(RX1, TX1, 1), (RX2, TX2, 2), (RX3, TX3, 7), (RX4, TX4, 8), (RX5, TX5, 2), (RX6, TX6, 7), (RX7, TX7, 5)]
