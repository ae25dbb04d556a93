/-! ===== BEGIN printed: names, fields, word lists, decode rows ===== -/
def RX0 : String := "Signkinds$Line"
def TX0 : u_T := fun k => match k with
  | 0 => ("Signkinds$Line", "numbers", "[I", true)
  | _ => ("Signkinds$Line", "size", "I", false)
def tyX0 : Nat → FieldType := fun k => match k with
  | 0 => .array .int
  | _ => .int
abbrev wsX00 : List Cond := u_ws RX0 TX0 2
theorem nmX0 : ∀ a, a < 2 → ∀ b, b < 2 → a ≠ b → (TX0 a).2.1 ≠ (TX0 b).2.1 := by decide +kernel
theorem tyX0_ok : ∀ k, k < 2 → parseFieldDescriptor (TX0 k).2.2.1 = some (tyX0 k) := by decide +kernel
abbrev cX0_init : ByteArray := prog_2_method_1_code
def yX0_init : MethodName := ⟨RX0, "<init>", "(I)V"⟩
abbrev cX0_size : ByteArray := prog_2_method_2_code
def yX0_size : MethodName := ⟨RX0, "size", "()I"⟩
abbrev cX0_hasPlace : ByteArray := prog_2_method_3_code
def yX0_hasPlace : MethodName := ⟨RX0, "hasPlace", "(I)Z"⟩
abbrev cX0_hasRoomFor : ByteArray := prog_2_method_4_code
def yX0_hasRoomFor : MethodName := ⟨RX0, "hasRoomFor", "(I)Z"⟩
abbrev cX0_get : ByteArray := prog_2_method_5_code
def yX0_get : MethodName := ⟨RX0, "get", "(I)I"⟩
abbrev cX0_set : ByteArray := prog_2_method_6_code
def yX0_set : MethodName := ⟨RX0, "set", "(II)V"⟩
abbrev cX0_add : ByteArray := prog_2_method_7_code
def yX0_add : MethodName := ⟨RX0, "add", "(I)V"⟩
abbrev cX0_clear : ByteArray := prog_2_method_8_code
def yX0_clear : MethodName := ⟨RX0, "clear", "()V"⟩
abbrev cX0_takeAway : ByteArray := prog_2_method_9_code
def yX0_takeAway : MethodName := ⟨RX0, "takeAway", "(I)V"⟩
abbrev cX0_narrow : ByteArray := prog_2_method_10_code
def yX0_narrow : MethodName := ⟨RX0, "narrow", "(II)V"⟩
abbrev cX0_turnRound : ByteArray := prog_2_method_11_code
def yX0_turnRound : MethodName := ⟨RX0, "turnRound", "()V"⟩
abbrev cX0_become : ByteArray := prog_2_method_12_code
def yX0_become : MethodName := ⟨RX0, "become", "(LSignkinds$Line;)V"⟩
def RX1 : String := "Signkinds$Past"
def TX1 : u_T := fun k => match k with
  | 0 => ("Signkinds$Past", "states", "[LSignkinds$State;", true)
  | _ => ("Signkinds$Past", "size", "I", false)
def tyX1 : Nat → FieldType := fun k => match k with
  | 0 => .array (.object "Signkinds$State")
  | _ => .int
abbrev wsX10 : List Cond := u_ws RX1 TX1 2
theorem nmX1 : ∀ a, a < 2 → ∀ b, b < 2 → a ≠ b → (TX1 a).2.1 ≠ (TX1 b).2.1 := by decide +kernel
theorem tyX1_ok : ∀ k, k < 2 → parseFieldDescriptor (TX1 k).2.2.1 = some (tyX1 k) := by decide +kernel
abbrev cX1_init : ByteArray := prog_3_method_1_code
def yX1_init : MethodName := ⟨RX1, "<init>", "()V"⟩
abbrev cX1_size : ByteArray := prog_3_method_2_code
def yX1_size : MethodName := ⟨RX1, "size", "()I"⟩
abbrev cX1_keep : ByteArray := prog_3_method_3_code
def yX1_keep : MethodName := ⟨RX1, "keep", "(LSignkinds$State;)V"⟩
abbrev cX1_bringBack : ByteArray := prog_3_method_4_code
def yX1_bringBack : MethodName := ⟨RX1, "bringBack", "(LSignkinds$State;)V"⟩
def RX2 : String := "Signkinds$Signs"
def TX2 : u_T := fun k => match k with
  | _ => ("", "", "", false)
def tyX2 : Nat → FieldType := fun k => match k with
  | _ => .int
abbrev wsX20 : List Cond := u_ws RX2 TX2 0
theorem nmX2 : ∀ a, a < 0 → ∀ b, b < 0 → a ≠ b → (TX2 a).2.1 ≠ (TX2 b).2.1 := by decide +kernel
theorem tyX2_ok : ∀ k, k < 0 → parseFieldDescriptor (TX2 k).2.2.1 = some (tyX2 k) := by decide +kernel
abbrev cX2_isSign : ByteArray := prog_4_method_2_code
def yX2_isSign : MethodName := ⟨RX2, "isSign", "(I)Z"⟩
abbrev cX2_isRadix : ByteArray := prog_4_method_3_code
def yX2_isRadix : MethodName := ⟨RX2, "isRadix", "(I)Z"⟩
abbrev cX2_isOf : ByteArray := prog_4_method_4_code
def yX2_isOf : MethodName := ⟨RX2, "isOf", "(II)Z"⟩
abbrev cX2_kindsOf : ByteArray := prog_4_method_5_code
def yX2_kindsOf : MethodName := ⟨RX2, "kindsOf", "(I)I"⟩
abbrev cX2_upperOf : ByteArray := prog_4_method_6_code
def yX2_upperOf : MethodName := ⟨RX2, "upperOf", "(I)I"⟩
abbrev cX2_lowerOf : ByteArray := prog_4_method_7_code
def yX2_lowerOf : MethodName := ⟨RX2, "lowerOf", "(I)I"⟩
abbrev cX2_signValue : ByteArray := prog_4_method_8_code
def yX2_signValue : MethodName := ⟨RX2, "signValue", "(I)I"⟩
abbrev cX2_numberOf : ByteArray := prog_4_method_9_code
def yX2_numberOf : MethodName := ⟨RX2, "numberOf", "(II)I"⟩
abbrev cX2_digitOf : ByteArray := prog_4_method_10_code
def yX2_digitOf : MethodName := ⟨RX2, "digitOf", "(II)I"⟩
abbrev cX2_digitsOf : ByteArray := prog_4_method_11_code
def yX2_digitsOf : MethodName := ⟨RX2, "digitsOf", "(II)I"⟩
abbrev cX2_digitNumber : ByteArray := prog_4_method_12_code
def yX2_digitNumber : MethodName := ⟨RX2, "digitNumber", "(III)I"⟩
abbrev cX2_shifted : ByteArray := prog_4_method_13_code
def yX2_shifted : MethodName := ⟨RX2, "shifted", "(III)I"⟩
abbrev cX2_firstSpelled : ByteArray := prog_4_method_14_code
def yX2_firstSpelled : MethodName := ⟨RX2, "firstSpelled", "(I)I"⟩
abbrev cX2_secondSpelled : ByteArray := prog_4_method_15_code
def yX2_secondSpelled : MethodName := ⟨RX2, "secondSpelled", "(I)I"⟩
abbrev cX2_formOf : ByteArray := prog_4_method_16_code
def yX2_formOf : MethodName := ⟨RX2, "formOf", "(I)C"⟩
abbrev cX2_isSoundSign : ByteArray := prog_4_method_17_code
def yX2_isSoundSign : MethodName := ⟨RX2, "isSoundSign", "(I)Z"⟩
abbrev cX2_plainValueOf : ByteArray := prog_4_method_18_code
def yX2_plainValueOf : MethodName := ⟨RX2, "plainValueOf", "(I)I"⟩
abbrev cX2_isPlainDigit : ByteArray := prog_4_method_19_code
def yX2_isPlainDigit : MethodName := ⟨RX2, "isPlainDigit", "(I)Z"⟩
abbrev cX2_isGreatPlain : ByteArray := prog_4_method_20_code
def yX2_isGreatPlain : MethodName := ⟨RX2, "isGreatPlain", "(I)Z"⟩
abbrev cX2_isSmallPlain : ByteArray := prog_4_method_21_code
def yX2_isSmallPlain : MethodName := ⟨RX2, "isSmallPlain", "(I)Z"⟩
abbrev cX2_isAnyGreat : ByteArray := prog_4_method_22_code
def yX2_isAnyGreat : MethodName := ⟨RX2, "isAnyGreat", "(I)Z"⟩
abbrev cX2_isAnyLetter : ByteArray := prog_4_method_23_code
def yX2_isAnyLetter : MethodName := ⟨RX2, "isAnyLetter", "(I)Z"⟩
abbrev cX2_isBetween : ByteArray := prog_4_method_24_code
def yX2_isBetween : MethodName := ⟨RX2, "isBetween", "(III)Z"⟩
def RX3 : String := "Signkinds$State"
def TX3 : u_T := fun k => match k with
  | 0 => ("Signkinds$State", "rows", "[LSignkinds$Line;", true)
  | _ => ("Signkinds$State", "tracks", "[LSignkinds$Line;", true)
def tyX3 : Nat → FieldType := fun k => match k with
  | 0 => .array (.object "Signkinds$Line")
  | _ => .array (.object "Signkinds$Line")
abbrev wsX30 : List Cond := u_ws RX3 TX3 2
theorem nmX3 : ∀ a, a < 2 → ∀ b, b < 2 → a ≠ b → (TX3 a).2.1 ≠ (TX3 b).2.1 := by decide +kernel
theorem tyX3_ok : ∀ k, k < 2 → parseFieldDescriptor (TX3 k).2.2.1 = some (tyX3 k) := by decide +kernel
abbrev cX3_init : ByteArray := prog_5_method_1_code
def yX3_init : MethodName := ⟨RX3, "<init>", "()V"⟩
abbrev cX3_howManySigns : ByteArray := prog_5_method_2_code
def yX3_howManySigns : MethodName := ⟨RX3, "howManySigns", "()I"⟩
abbrev cX3_howManyUnits : ByteArray := prog_5_method_3_code
def yX3_howManyUnits : MethodName := ⟨RX3, "howManyUnits", "()I"⟩
abbrev cX3_become : ByteArray := prog_5_method_4_code
def yX3_become : MethodName := ⟨RX3, "become", "(LSignkinds$State;)V"⟩
def RX4 : String := "Signkinds$Units"
def TX4 : u_T := fun k => match k with
  | _ => ("", "", "", false)
def tyX4 : Nat → FieldType := fun k => match k with
  | _ => .int
abbrev wsX40 : List Cond := u_ws RX4 TX4 0
theorem nmX4 : ∀ a, a < 0 → ∀ b, b < 0 → a ≠ b → (TX4 a).2.1 ≠ (TX4 b).2.1 := by decide +kernel
theorem tyX4_ok : ∀ k, k < 0 → parseFieldDescriptor (TX4 k).2.2.1 = some (tyX4 k) := by decide +kernel
abbrev cX4_isUnit : ByteArray := prog_6_method_2_code
def yX4_isUnit : MethodName := ⟨RX4, "isUnit", "(I)Z"⟩
abbrev cX4_isHigh : ByteArray := prog_6_method_3_code
def yX4_isHigh : MethodName := ⟨RX4, "isHigh", "(I)Z"⟩
abbrev cX4_isLow : ByteArray := prog_6_method_4_code
def yX4_isLow : MethodName := ⟨RX4, "isLow", "(I)Z"⟩
abbrev cX4_isHalf : ByteArray := prog_6_method_5_code
def yX4_isHalf : MethodName := ⟨RX4, "isHalf", "(I)Z"⟩
abbrev cX4_isAnyCode : ByteArray := prog_6_method_6_code
def yX4_isAnyCode : MethodName := ⟨RX4, "isAnyCode", "(I)Z"⟩
abbrev cX4_isWideCode : ByteArray := prog_6_method_7_code
def yX4_isWideCode : MethodName := ⟨RX4, "isWideCode", "(I)Z"⟩
abbrev cX4_unitsOf : ByteArray := prog_6_method_8_code
def yX4_unitsOf : MethodName := ⟨RX4, "unitsOf", "(I)I"⟩
abbrev cX4_highOf : ByteArray := prog_6_method_9_code
def yX4_highOf : MethodName := ⟨RX4, "highOf", "(I)I"⟩
abbrev cX4_lowOf : ByteArray := prog_6_method_10_code
def yX4_lowOf : MethodName := ⟨RX4, "lowOf", "(I)I"⟩
abbrev cX4_codeOf : ByteArray := prog_6_method_11_code
def yX4_codeOf : MethodName := ⟨RX4, "codeOf", "(II)I"⟩
abbrev cX4_turned : ByteArray := prog_6_method_12_code
def yX4_turned : MethodName := ⟨RX4, "turned", "(I)I"⟩
abbrev cX4_addCode : ByteArray := prog_6_method_13_code
def yX4_addCode : MethodName := ⟨RX4, "addCode", "(LSignkinds$Line;I)V"⟩
abbrev cX4_codeFrom : ByteArray := prog_6_method_14_code
def yX4_codeFrom : MethodName := ⟨RX4, "codeFrom", "(LSignkinds$Line;I)I"⟩
abbrev cX4_isCodeBegin : ByteArray := prog_6_method_15_code
def yX4_isCodeBegin : MethodName := ⟨RX4, "isCodeBegin", "(LSignkinds$Line;I)Z"⟩
abbrev cX4_codeBegin : ByteArray := prog_6_method_16_code
def yX4_codeBegin : MethodName := ⟨RX4, "codeBegin", "(LSignkinds$Line;I)I"⟩
abbrev cX4_listCodes : ByteArray := prog_6_method_17_code
def yX4_listCodes : MethodName := ⟨RX4, "listCodes", "(LSignkinds$Line;LSignkinds$Line;)V"⟩
abbrev cX4_howMany : ByteArray := prog_6_method_18_code
def yX4_howMany : MethodName := ⟨RX4, "howMany", "(LSignkinds$Line;I)I"⟩
abbrev cX4_isCounted : ByteArray := prog_6_method_19_code
def yX4_isCounted : MethodName := ⟨RX4, "isCounted", "(II)Z"⟩
abbrev cX4_areSentAgain : ByteArray := prog_6_method_20_code
def yX4_areSentAgain : MethodName := ⟨RX4, "areSentAgain", "(LSignkinds$Line;)Z"⟩
abbrev cX4_standsAt : ByteArray := prog_6_method_21_code
def yX4_standsAt : MethodName := ⟨RX4, "standsAt", "(LSignkinds$Line;II)Z"⟩
def RX5 : String := "Signkinds"
def TX5 : u_T := fun k => match k with
  | 0 => ("Signkinds", "now", "LSignkinds$State;", true)
  | 1 => ("Signkinds", "past", "LSignkinds$Past;", true)
  | 2 => ("Signkinds", "reversed", "LSignkinds$Line;", true)
  | _ => ("Signkinds", "knocks", "I", false)
def tyX5 : Nat → FieldType := fun k => match k with
  | 0 => .object "Signkinds$State"
  | 1 => .object "Signkinds$Past"
  | 2 => .object "Signkinds$Line"
  | _ => .int
abbrev wsX50 : List Cond := u_ws RX5 TX5 4
theorem nmX5 : ∀ a, a < 4 → ∀ b, b < 4 → a ≠ b → (TX5 a).2.1 ≠ (TX5 b).2.1 := by decide +kernel
theorem tyX5_ok : ∀ k, k < 4 → parseFieldDescriptor (TX5 k).2.2.1 = some (tyX5 k) := by decide +kernel
abbrev cX5_init : ByteArray := prog_1_method_1_code
def yX5_init : MethodName := ⟨RX5, "<init>", "()V"⟩
abbrev cX5_lay : ByteArray := prog_1_method_2_code
def yX5_lay : MethodName := ⟨RX5, "lay", "(IIIII)I"⟩
abbrev cX5_drop : ByteArray := prog_1_method_3_code
def yX5_drop : MethodName := ⟨RX5, "drop", "(II)I"⟩
abbrev cX5_copy : ByteArray := prog_1_method_4_code
def yX5_copy : MethodName := ⟨RX5, "copy", "(II)I"⟩
abbrev cX5_raise : ByteArray := prog_1_method_5_code
def yX5_raise : MethodName := ⟨RX5, "raise", "(I)I"⟩
abbrev cX5_sink : ByteArray := prog_1_method_6_code
def yX5_sink : MethodName := ⟨RX5, "sink", "(I)I"⟩
abbrev cX5_sieve : ByteArray := prog_1_method_7_code
def yX5_sieve : MethodName := ⟨RX5, "sieve", "(IIZ)I"⟩
abbrev cX5_strip : ByteArray := prog_1_method_8_code
def yX5_strip : MethodName := ⟨RX5, "strip", "(I)I"⟩
abbrev cX5_turn : ByteArray := prog_1_method_9_code
def yX5_turn : MethodName := ⟨RX5, "turn", "(I)I"⟩
abbrev cX5_write : ByteArray := prog_1_method_10_code
def yX5_write : MethodName := ⟨RX5, "write", "(III)I"⟩
abbrev cX5_spell : ByteArray := prog_1_method_11_code
def yX5_spell : MethodName := ⟨RX5, "spell", "(II)I"⟩
abbrev cX5_read : ByteArray := prog_1_method_12_code
def yX5_read : MethodName := ⟨RX5, "read", "(II)I"⟩
abbrev cX5_send : ByteArray := prog_1_method_13_code
def yX5_send : MethodName := ⟨RX5, "send", "(II)I"⟩
abbrev cX5_put : ByteArray := prog_1_method_14_code
def yX5_put : MethodName := ⟨RX5, "put", "(II)I"⟩
abbrev cX5_cut : ByteArray := prog_1_method_15_code
def yX5_cut : MethodName := ⟨RX5, "cut", "(II)I"⟩
abbrev cX5_flip : ByteArray := prog_1_method_16_code
def yX5_flip : MethodName := ⟨RX5, "flip", "(I)I"⟩
abbrev cX5_reverse : ByteArray := prog_1_method_17_code
def yX5_reverse : MethodName := ⟨RX5, "reverse", "(I)I"⟩
abbrev cX5_undo : ByteArray := prog_1_method_18_code
def yX5_undo : MethodName := ⟨RX5, "undo", "()I"⟩
abbrev cX5_knock : ByteArray := prog_1_method_19_code
def yX5_knock : MethodName := ⟨RX5, "knock", "()I"⟩
abbrev cX5_isDigit : ByteArray := prog_1_method_20_code
def yX5_isDigit : MethodName := ⟨RX5, "isDigit", "(I)Z"⟩
abbrev cX5_isLetter : ByteArray := prog_1_method_21_code
def yX5_isLetter : MethodName := ⟨RX5, "isLetter", "(I)Z"⟩
abbrev cX5_isLetterOrDigit : ByteArray := prog_1_method_22_code
def yX5_isLetterOrDigit : MethodName := ⟨RX5, "isLetterOrDigit", "(I)Z"⟩
abbrev cX5_isWhite : ByteArray := prog_1_method_23_code
def yX5_isWhite : MethodName := ⟨RX5, "isWhite", "(I)Z"⟩
abbrev cX5_isGreat : ByteArray := prog_1_method_24_code
def yX5_isGreat : MethodName := ⟨RX5, "isGreat", "(I)Z"⟩
abbrev cX5_kinds : ByteArray := prog_1_method_25_code
def yX5_kinds : MethodName := ⟨RX5, "kinds", "(I)I"⟩
abbrev cX5_upper : ByteArray := prog_1_method_26_code
def yX5_upper : MethodName := ⟨RX5, "upper", "(IZ)I"⟩
abbrev cX5_lower : ByteArray := prog_1_method_27_code
def yX5_lower : MethodName := ⟨RX5, "lower", "(IZ)I"⟩
abbrev cX5_value : ByteArray := prog_1_method_28_code
def yX5_value : MethodName := ⟨RX5, "value", "(IZ)I"⟩
abbrev cX5_number : ByteArray := prog_1_method_29_code
def yX5_number : MethodName := ⟨RX5, "number", "(IIZ)I"⟩
abbrev cX5_digit : ByteArray := prog_1_method_30_code
def yX5_digit : MethodName := ⟨RX5, "digit", "(II)I"⟩
abbrev cX5_length : ByteArray := prog_1_method_31_code
def yX5_length : MethodName := ⟨RX5, "length", "(I)I"⟩
abbrev cX5_at : ByteArray := prog_1_method_32_code
def yX5_at : MethodName := ⟨RX5, "at", "(II)I"⟩
abbrev cX5_count : ByteArray := prog_1_method_33_code
def yX5_count : MethodName := ⟨RX5, "count", "(II)I"⟩
abbrev cX5_first : ByteArray := prog_1_method_34_code
def yX5_first : MethodName := ⟨RX5, "first", "(III)I"⟩
abbrev cX5_last : ByteArray := prog_1_method_35_code
def yX5_last : MethodName := ⟨RX5, "last", "(II)I"⟩
abbrev cX5_forms : ByteArray := prog_1_method_36_code
def yX5_forms : MethodName := ⟨RX5, "forms", "(I)Ljava/lang/String;"⟩
abbrev cX5_spelled : ByteArray := prog_1_method_37_code
def yX5_spelled : MethodName := ⟨RX5, "spelled", "(I)Ljava/lang/String;"⟩
abbrev cX5_told : ByteArray := prog_1_method_38_code
def yX5_told : MethodName := ⟨RX5, "told", "(II)I"⟩
abbrev cX5_sum : ByteArray := prog_1_method_39_code
def yX5_sum : MethodName := ⟨RX5, "sum", "(II)I"⟩
abbrev cX5_values : ByteArray := prog_1_method_40_code
def yX5_values : MethodName := ⟨RX5, "values", "(I)I"⟩
abbrev cX5_words : ByteArray := prog_1_method_41_code
def yX5_words : MethodName := ⟨RX5, "words", "(I)I"⟩
abbrev cX5_word : ByteArray := prog_1_method_42_code
def yX5_word : MethodName := ⟨RX5, "word", "(IIZ)I"⟩
abbrev cX5_isAlike : ByteArray := prog_1_method_43_code
def yX5_isAlike : MethodName := ⟨RX5, "isAlike", "(II)Z"⟩
abbrev cX5_order : ByteArray := prog_1_method_44_code
def yX5_order : MethodName := ⟨RX5, "order", "(II)I"⟩
abbrev cX5_isCode : ByteArray := prog_1_method_45_code
def yX5_isCode : MethodName := ⟨RX5, "isCode", "(I)Z"⟩
abbrev cX5_isPlain : ByteArray := prog_1_method_46_code
def yX5_isPlain : MethodName := ⟨RX5, "isPlain", "(I)Z"⟩
abbrev cX5_isWide : ByteArray := prog_1_method_47_code
def yX5_isWide : MethodName := ⟨RX5, "isWide", "(I)Z"⟩
abbrev cX5_units : ByteArray := prog_1_method_48_code
def yX5_units : MethodName := ⟨RX5, "units", "(I)I"⟩
abbrev cX5_half : ByteArray := prog_1_method_49_code
def yX5_half : MethodName := ⟨RX5, "half", "(IZ)I"⟩
abbrev cX5_code : ByteArray := prog_1_method_50_code
def yX5_code : MethodName := ⟨RX5, "code", "(II)I"⟩
abbrev cX5_ofUnit : ByteArray := prog_1_method_51_code
def yX5_ofUnit : MethodName := ⟨RX5, "ofUnit", "(II)I"⟩
abbrev cX5_compare : ByteArray := prog_1_method_52_code
def yX5_compare : MethodName := ⟨RX5, "compare", "(II)I"⟩
abbrev cX5_ofTrack : ByteArray := prog_1_method_53_code
def yX5_ofTrack : MethodName := ⟨RX5, "ofTrack", "(II)I"⟩
abbrev cX5_unit : ByteArray := prog_1_method_54_code
def yX5_unit : MethodName := ⟨RX5, "unit", "(II)I"⟩
abbrev cX5_codeAt : ByteArray := prog_1_method_55_code
def yX5_codeAt : MethodName := ⟨RX5, "codeAt", "(II)I"⟩
abbrev cX5_nth : ByteArray := prog_1_method_56_code
def yX5_nth : MethodName := ⟨RX5, "nth", "(II)I"⟩
abbrev cX5_house : ByteArray := prog_1_method_57_code
def yX5_house : MethodName := ⟨RX5, "house", "(I)I"⟩
abbrev cX5_isSound : ByteArray := prog_1_method_58_code
def yX5_isSound : MethodName := ⟨RX5, "isSound", "()Z"⟩
abbrev cX5_digest : ByteArray := prog_1_method_59_code
def yX5_digest : MethodName := ⟨RX5, "digest", "()J"⟩
abbrev cX5_rowOf : ByteArray := prog_1_method_60_code
def yX5_rowOf : MethodName := ⟨RX5, "rowOf", "(I)LSignkinds$Line;"⟩
abbrev cX5_trackOf : ByteArray := prog_1_method_61_code
def yX5_trackOf : MethodName := ⟨RX5, "trackOf", "(I)LSignkinds$Line;"⟩
abbrev cX5_numberAt : ByteArray := prog_1_method_62_code
def yX5_numberAt : MethodName := ⟨RX5, "numberAt", "(LSignkinds$Line;I)I"⟩
abbrev cX5_checkSign : ByteArray := prog_1_method_63_code
def yX5_checkSign : MethodName := ⟨RX5, "checkSign", "(I)V"⟩
abbrev cX5_checkKind : ByteArray := prog_1_method_64_code
def yX5_checkKind : MethodName := ⟨RX5, "checkKind", "(I)V"⟩
abbrev cX5_checkRadix : ByteArray := prog_1_method_65_code
def yX5_checkRadix : MethodName := ⟨RX5, "checkRadix", "(I)V"⟩
abbrev cX5_checkUnit : ByteArray := prog_1_method_66_code
def yX5_checkUnit : MethodName := ⟨RX5, "checkUnit", "(I)V"⟩
abbrev cX5_checkAreTwo : ByteArray := prog_1_method_67_code
def yX5_checkAreTwo : MethodName := ⟨RX5, "checkAreTwo", "(II)V"⟩
abbrev cX5_laid : ByteArray := prog_1_method_68_code
def yX5_laid : MethodName := ⟨RX5, "laid", "(I)I"⟩
abbrev cX5_addLaid : ByteArray := prog_1_method_69_code
def yX5_addLaid : MethodName := ⟨RX5, "addLaid", "(LSignkinds$Line;I)V"⟩
abbrev cX5_shorten : ByteArray := prog_1_method_70_code
def yX5_shorten : MethodName := ⟨RX5, "shorten", "(LSignkinds$Line;I)I"⟩
abbrev cX5_canBeRead : ByteArray := prog_1_method_71_code
def yX5_canBeRead : MethodName := ⟨RX5, "canBeRead", "(LSignkinds$Line;)Z"⟩
abbrev cX5_isWordBegin : ByteArray := prog_1_method_72_code
def yX5_isWordBegin : MethodName := ⟨RX5, "isWordBegin", "(LSignkinds$Line;I)Z"⟩
abbrev cX5_wordBegin : ByteArray := prog_1_method_73_code
def yX5_wordBegin : MethodName := ⟨RX5, "wordBegin", "(LSignkinds$Line;I)I"⟩
abbrev cX5_ahead : ByteArray := prog_1_method_74_code
def yX5_ahead : MethodName := ⟨RX5, "ahead", "(II)I"⟩
abbrev cX5_isSoundRow : ByteArray := prog_1_method_75_code
def yX5_isSoundRow : MethodName := ⟨RX5, "isSoundRow", "(LSignkinds$Line;)Z"⟩
abbrev cX5_isSoundTrack : ByteArray := prog_1_method_76_code
def yX5_isSoundTrack : MethodName := ⟨RX5, "isSoundTrack", "(LSignkinds$Line;)Z"⟩
abbrev cX5_with : ByteArray := prog_1_method_77_code
def yX5_with : MethodName := ⟨RX5, "with", "(JJ)J"⟩
abbrev cX5_withRow : ByteArray := prog_1_method_78_code
def yX5_withRow : MethodName := ⟨RX5, "withRow", "(JI)J"⟩
abbrev cX5_withTrack : ByteArray := prog_1_method_79_code
def yX5_withTrack : MethodName := ⟨RX5, "withTrack", "(JI)J"⟩
def RX6 : String := "SignkindsLaw$Out"
def TX6 : u_T := fun k => match k with
  | 0 => ("SignkindsLaw$Out", "n", "J", false)
  | _ => ("SignkindsLaw$Out", "s", "Ljava/lang/String;", false)
def tyX6 : Nat → FieldType := fun k => match k with
  | 0 => .long
  | _ => .object "java/lang/String"
abbrev wsX60 : List Cond := u_ws RX6 TX6 2
theorem nmX6 : ∀ a, a < 2 → ∀ b, b < 2 → a ≠ b → (TX6 a).2.1 ≠ (TX6 b).2.1 := by decide +kernel
theorem tyX6_ok : ∀ k, k < 2 → parseFieldDescriptor (TX6 k).2.2.1 = some (tyX6 k) := by decide +kernel
abbrev cX6_init : ByteArray := prog_8_method_1_code
def yX6_init : MethodName := ⟨RX6, "<init>", "()V"⟩
def RX7 : String := "SignkindsModel"
def TX7 : u_T := fun k => match k with
  | 0 => ("SignkindsModel", "thrown", "I", false)
  | 1 => ("SignkindsModel", "rows", "[[I", false)
  | 2 => ("SignkindsModel", "before", "Ljava/util/ArrayList;", true)
  | _ => ("SignkindsModel", "knocks", "I", false)
def tyX7 : Nat → FieldType := fun k => match k with
  | 0 => .int
  | 1 => .array (.array .int)
  | 2 => .object "java/util/ArrayList"
  | _ => .int
abbrev wsX70 : List Cond := u_ws RX7 TX7 4
theorem nmX7 : ∀ a, a < 4 → ∀ b, b < 4 → a ≠ b → (TX7 a).2.1 ≠ (TX7 b).2.1 := by decide +kernel
theorem tyX7_ok : ∀ k, k < 4 → parseFieldDescriptor (TX7 k).2.2.1 = some (tyX7 k) := by decide +kernel
abbrev cX7_init : ByteArray := prog_9_method_1_code
def yX7_init : MethodName := ⟨RX7, "<init>", "()V"⟩
abbrev cX7_isOf : ByteArray := prog_9_method_2_code
def yX7_isOf : MethodName := ⟨RX7, "isOf", "(III)Z"⟩
abbrev cX7_one : ByteArray := prog_9_method_3_code
def yX7_one : MethodName := ⟨RX7, "one", "(Z)I"⟩
abbrev cX7_isSign : ByteArray := prog_9_method_4_code
def yX7_isSign : MethodName := ⟨RX7, "isSign", "(I)Z"⟩
abbrev cX7_isKind : ByteArray := prog_9_method_5_code
def yX7_isKind : MethodName := ⟨RX7, "isKind", "(II)Z"⟩
abbrev cX7_upperOf : ByteArray := prog_9_method_6_code
def yX7_upperOf : MethodName := ⟨RX7, "upperOf", "(I)I"⟩
abbrev cX7_lowerOf : ByteArray := prog_9_method_7_code
def yX7_lowerOf : MethodName := ⟨RX7, "lowerOf", "(I)I"⟩
abbrev cX7_valueOf : ByteArray := prog_9_method_8_code
def yX7_valueOf : MethodName := ⟨RX7, "valueOf", "(I)I"⟩
abbrev cX7_isRadix : ByteArray := prog_9_method_9_code
def yX7_isRadix : MethodName := ⟨RX7, "isRadix", "(I)Z"⟩
abbrev cX7_numberOf : ByteArray := prog_9_method_10_code
def yX7_numberOf : MethodName := ⟨RX7, "numberOf", "(II)I"⟩
abbrev cX7_digitOf : ByteArray := prog_9_method_11_code
def yX7_digitOf : MethodName := ⟨RX7, "digitOf", "(II)I"⟩
abbrev cX7_thrown : ByteArray := prog_9_method_12_code
def yX7_thrown : MethodName := ⟨RX7, "thrown", "()I"⟩
abbrev cX7_refuse : ByteArray := prog_9_method_13_code
def yX7_refuse : MethodName := ⟨RX7, "refuse", "(ZI)Z"⟩
abbrev cX7_start : ByteArray := prog_9_method_14_code
def yX7_start : MethodName := ⟨RX7, "start", "(ZI)Z"⟩
abbrev cX7_isNoRow : ByteArray := prog_9_method_15_code
def yX7_isNoRow : MethodName := ⟨RX7, "isNoRow", "(I)Z"⟩
abbrev cX7_isNoTrack : ByteArray := prog_9_method_16_code
def yX7_isNoTrack : MethodName := ⟨RX7, "isNoTrack", "(I)Z"⟩
abbrev cX7_isNoKind : ByteArray := prog_9_method_17_code
def yX7_isNoKind : MethodName := ⟨RX7, "isNoKind", "(I)Z"⟩
abbrev cX7_set : ByteArray := prog_9_method_18_code
def yX7_set : MethodName := ⟨RX7, "set", "(I[I)I"⟩
abbrev cX7_part : ByteArray := prog_9_method_19_code
def yX7_part : MethodName := ⟨RX7, "part", "([III)[I"⟩
abbrev cX7_joined : ByteArray := prog_9_method_20_code
def yX7_joined : MethodName := ⟨RX7, "joined", "([I[I)[I"⟩
abbrev cX7_only : ByteArray := prog_9_method_21_code
def yX7_only : MethodName := ⟨RX7, "only", "([I[Z)[I"⟩
abbrev cX7_turned : ByteArray := prog_9_method_22_code
def yX7_turned : MethodName := ⟨RX7, "turned", "([I)[I"⟩
abbrev cX7_lay : ByteArray := prog_9_method_23_code
def yX7_lay : MethodName := ⟨RX7, "lay", "(IIIII)I"⟩
abbrev cX7_drop : ByteArray := prog_9_method_24_code
def yX7_drop : MethodName := ⟨RX7, "drop", "(II)I"⟩
abbrev cX7_copy : ByteArray := prog_9_method_25_code
def yX7_copy : MethodName := ⟨RX7, "copy", "(II)I"⟩
abbrev cX7_cased : ByteArray := prog_9_method_26_code
def yX7_cased : MethodName := ⟨RX7, "cased", "(IZ)I"⟩
abbrev cX7_raise : ByteArray := prog_9_method_27_code
def yX7_raise : MethodName := ⟨RX7, "raise", "(I)I"⟩
abbrev cX7_sink : ByteArray := prog_9_method_28_code
def yX7_sink : MethodName := ⟨RX7, "sink", "(I)I"⟩
abbrev cX7_sieve : ByteArray := prog_9_method_29_code
def yX7_sieve : MethodName := ⟨RX7, "sieve", "(IIZ)I"⟩
abbrev cX7_strip : ByteArray := prog_9_method_30_code
def yX7_strip : MethodName := ⟨RX7, "strip", "(I)I"⟩
abbrev cX7_turn : ByteArray := prog_9_method_31_code
def yX7_turn : MethodName := ⟨RX7, "turn", "(I)I"⟩
abbrev cX7_write : ByteArray := prog_9_method_32_code
def yX7_write : MethodName := ⟨RX7, "write", "(III)I"⟩
abbrev cX7_spelledOf : ByteArray := prog_9_method_33_code
def yX7_spelledOf : MethodName := ⟨RX7, "spelledOf", "([I)[I"⟩
abbrev cX7_spell : ByteArray := prog_9_method_34_code
def yX7_spell : MethodName := ⟨RX7, "spell", "(II)I"⟩
abbrev cX7_read : ByteArray := prog_9_method_35_code
def yX7_read : MethodName := ⟨RX7, "read", "(II)I"⟩
abbrev cX7_isHigh : ByteArray := prog_9_method_36_code
def yX7_isHigh : MethodName := ⟨RX7, "isHigh", "(I)Z"⟩
abbrev cX7_isLow : ByteArray := prog_9_method_37_code
def yX7_isLow : MethodName := ⟨RX7, "isLow", "(I)Z"⟩
abbrev cX7_isHalf : ByteArray := prog_9_method_38_code
def yX7_isHalf : MethodName := ⟨RX7, "isHalf", "(I)Z"⟩
abbrev cX7_sent : ByteArray := prog_9_method_39_code
def yX7_sent : MethodName := ⟨RX7, "sent", "(I)[I"⟩
abbrev cX7_both : ByteArray := prog_9_method_40_code
def yX7_both : MethodName := ⟨RX7, "both", "(II)I"⟩
abbrev cX7_turnedUnit : ByteArray := prog_9_method_41_code
def yX7_turnedUnit : MethodName := ⟨RX7, "turnedUnit", "(I)I"⟩
abbrev cX7_behind : ByteArray := prog_9_method_42_code
def yX7_behind : MethodName := ⟨RX7, "behind", "(I[I)I"⟩
abbrev cX7_send : ByteArray := prog_9_method_43_code
def yX7_send : MethodName := ⟨RX7, "send", "(II)I"⟩
abbrev cX7_put : ByteArray := prog_9_method_44_code
def yX7_put : MethodName := ⟨RX7, "put", "(II)I"⟩
abbrev cX7_cut : ByteArray := prog_9_method_45_code
def yX7_cut : MethodName := ⟨RX7, "cut", "(II)I"⟩
abbrev cX7_flip : ByteArray := prog_9_method_46_code
def yX7_flip : MethodName := ⟨RX7, "flip", "(I)I"⟩
abbrev cX7_codeOf : ByteArray := prog_9_method_47_code
def yX7_codeOf : MethodName := ⟨RX7, "codeOf", "(II)I"⟩
abbrev cX7_codes : ByteArray := prog_9_method_48_code
def yX7_codes : MethodName := ⟨RX7, "codes", "(I)[I"⟩
abbrev cX7_reverse : ByteArray := prog_9_method_49_code
def yX7_reverse : MethodName := ⟨RX7, "reverse", "(I)I"⟩
abbrev cX7_undo : ByteArray := prog_9_method_50_code
def yX7_undo : MethodName := ⟨RX7, "undo", "()I"⟩
abbrev cX7_knock : ByteArray := prog_9_method_51_code
def yX7_knock : MethodName := ⟨RX7, "knock", "()I"⟩
abbrev cX7_kindTold : ByteArray := prog_9_method_52_code
def yX7_kindTold : MethodName := ⟨RX7, "kindTold", "(II)Z"⟩
abbrev cX7_isDigit : ByteArray := prog_9_method_53_code
def yX7_isDigit : MethodName := ⟨RX7, "isDigit", "(I)Z"⟩
abbrev cX7_isLetter : ByteArray := prog_9_method_54_code
def yX7_isLetter : MethodName := ⟨RX7, "isLetter", "(I)Z"⟩
abbrev cX7_isLetterOrDigit : ByteArray := prog_9_method_55_code
def yX7_isLetterOrDigit : MethodName := ⟨RX7, "isLetterOrDigit", "(I)Z"⟩
abbrev cX7_isWhite : ByteArray := prog_9_method_56_code
def yX7_isWhite : MethodName := ⟨RX7, "isWhite", "(I)Z"⟩
abbrev cX7_isGreat : ByteArray := prog_9_method_57_code
def yX7_isGreat : MethodName := ⟨RX7, "isGreat", "(I)Z"⟩
abbrev cX7_kindsOf : ByteArray := prog_9_method_58_code
def yX7_kindsOf : MethodName := ⟨RX7, "kindsOf", "(I)I"⟩
abbrev cX7_kinds : ByteArray := prog_9_method_59_code
def yX7_kinds : MethodName := ⟨RX7, "kinds", "(I)I"⟩
abbrev cX7_upper : ByteArray := prog_9_method_60_code
def yX7_upper : MethodName := ⟨RX7, "upper", "(IZ)I"⟩
abbrev cX7_lower : ByteArray := prog_9_method_61_code
def yX7_lower : MethodName := ⟨RX7, "lower", "(IZ)I"⟩
abbrev cX7_value : ByteArray := prog_9_method_62_code
def yX7_value : MethodName := ⟨RX7, "value", "(IZ)I"⟩
abbrev cX7_number : ByteArray := prog_9_method_63_code
def yX7_number : MethodName := ⟨RX7, "number", "(IIZ)I"⟩
abbrev cX7_digit : ByteArray := prog_9_method_64_code
def yX7_digit : MethodName := ⟨RX7, "digit", "(II)I"⟩
abbrev cX7_length : ByteArray := prog_9_method_65_code
def yX7_length : MethodName := ⟨RX7, "length", "(I)I"⟩
abbrev cX7_at : ByteArray := prog_9_method_66_code
def yX7_at : MethodName := ⟨RX7, "at", "(II)I"⟩
abbrev cX7_countOf : ByteArray := prog_9_method_67_code
def yX7_countOf : MethodName := ⟨RX7, "countOf", "(II)I"⟩
abbrev cX7_count : ByteArray := prog_9_method_68_code
def yX7_count : MethodName := ⟨RX7, "count", "(II)I"⟩
abbrev cX7_first : ByteArray := prog_9_method_69_code
def yX7_first : MethodName := ⟨RX7, "first", "(III)I"⟩
abbrev cX7_last : ByteArray := prog_9_method_70_code
def yX7_last : MethodName := ⟨RX7, "last", "(II)I"⟩
abbrev cX7_forms : ByteArray := prog_9_method_71_code
def yX7_forms : MethodName := ⟨RX7, "forms", "(I)Ljava/lang/String;"⟩
abbrev cX7_spelled : ByteArray := prog_9_method_72_code
def yX7_spelled : MethodName := ⟨RX7, "spelled", "(I)Ljava/lang/String;"⟩
abbrev cX7_toldOf : ByteArray := prog_9_method_73_code
def yX7_toldOf : MethodName := ⟨RX7, "toldOf", "(II)I"⟩
abbrev cX7_told : ByteArray := prog_9_method_74_code
def yX7_told : MethodName := ⟨RX7, "told", "(II)I"⟩
abbrev cX7_sum : ByteArray := prog_9_method_75_code
def yX7_sum : MethodName := ⟨RX7, "sum", "(II)I"⟩
abbrev cX7_valuesOf : ByteArray := prog_9_method_76_code
def yX7_valuesOf : MethodName := ⟨RX7, "valuesOf", "(I)I"⟩
abbrev cX7_values : ByteArray := prog_9_method_77_code
def yX7_values : MethodName := ⟨RX7, "values", "(I)I"⟩
abbrev cX7_wordsOf : ByteArray := prog_9_method_78_code
def yX7_wordsOf : MethodName := ⟨RX7, "wordsOf", "(I)Ljava/util/ArrayList;"⟩
abbrev cX7_words : ByteArray := prog_9_method_79_code
def yX7_words : MethodName := ⟨RX7, "words", "(I)I"⟩
abbrev cX7_word : ByteArray := prog_9_method_80_code
def yX7_word : MethodName := ⟨RX7, "word", "(IIZ)I"⟩
abbrev cX7_areAlike : ByteArray := prog_9_method_81_code
def yX7_areAlike : MethodName := ⟨RX7, "areAlike", "(II)Z"⟩
abbrev cX7_isAlike : ByteArray := prog_9_method_82_code
def yX7_isAlike : MethodName := ⟨RX7, "isAlike", "(II)Z"⟩
abbrev cX7_orderOf : ByteArray := prog_9_method_83_code
def yX7_orderOf : MethodName := ⟨RX7, "orderOf", "([I[I)I"⟩
abbrev cX7_order : ByteArray := prog_9_method_84_code
def yX7_order : MethodName := ⟨RX7, "order", "(II)I"⟩
abbrev cX7_isCode : ByteArray := prog_9_method_85_code
def yX7_isCode : MethodName := ⟨RX7, "isCode", "(I)Z"⟩
abbrev cX7_isPlain : ByteArray := prog_9_method_86_code
def yX7_isPlain : MethodName := ⟨RX7, "isPlain", "(I)Z"⟩
abbrev cX7_isWide : ByteArray := prog_9_method_87_code
def yX7_isWide : MethodName := ⟨RX7, "isWide", "(I)Z"⟩
abbrev cX7_units : ByteArray := prog_9_method_88_code
def yX7_units : MethodName := ⟨RX7, "units", "(I)I"⟩
abbrev cX7_half : ByteArray := prog_9_method_89_code
def yX7_half : MethodName := ⟨RX7, "half", "(IZ)I"⟩
abbrev cX7_code : ByteArray := prog_9_method_90_code
def yX7_code : MethodName := ⟨RX7, "code", "(II)I"⟩
abbrev cX7_ofUnitTold : ByteArray := prog_9_method_91_code
def yX7_ofUnitTold : MethodName := ⟨RX7, "ofUnitTold", "(II)I"⟩
abbrev cX7_ofUnit : ByteArray := prog_9_method_92_code
def yX7_ofUnit : MethodName := ⟨RX7, "ofUnit", "(II)I"⟩
abbrev cX7_compare : ByteArray := prog_9_method_93_code
def yX7_compare : MethodName := ⟨RX7, "compare", "(II)I"⟩
abbrev cX7_trackTold : ByteArray := prog_9_method_94_code
def yX7_trackTold : MethodName := ⟨RX7, "trackTold", "(II)I"⟩
abbrev cX7_ofTrack : ByteArray := prog_9_method_95_code
def yX7_ofTrack : MethodName := ⟨RX7, "ofTrack", "(II)I"⟩
abbrev cX7_isNoPlace : ByteArray := prog_9_method_96_code
def yX7_isNoPlace : MethodName := ⟨RX7, "isNoPlace", "(II)Z"⟩
abbrev cX7_unit : ByteArray := prog_9_method_97_code
def yX7_unit : MethodName := ⟨RX7, "unit", "(II)I"⟩
abbrev cX7_codeAt : ByteArray := prog_9_method_98_code
def yX7_codeAt : MethodName := ⟨RX7, "codeAt", "(II)I"⟩
abbrev cX7_nth : ByteArray := prog_9_method_99_code
def yX7_nth : MethodName := ⟨RX7, "nth", "(II)I"⟩
abbrev cX7_houseOf : ByteArray := prog_9_method_100_code
def yX7_houseOf : MethodName := ⟨RX7, "houseOf", "(I)I"⟩
abbrev cX7_house : ByteArray := prog_9_method_101_code
def yX7_house : MethodName := ⟨RX7, "house", "(I)I"⟩
abbrev cX7_isSound : ByteArray := prog_9_method_102_code
def yX7_isSound : MethodName := ⟨RX7, "isSound", "()Z"⟩
abbrev cX7_digest : ByteArray := prog_9_method_103_code
def yX7_digest : MethodName := ⟨RX7, "digest", "()J"⟩
def RJx145de : String := "java/io/Serializable"
def TJx145de : u_T := fun k => match k with
  | _ => ("", "", "", false)
def tyJx145de : Nat → FieldType := fun k => match k with
  | _ => .int
abbrev wsJx145de0 : List Cond := u_ws RJx145de TJx145de 0
theorem nmJx145de : ∀ a, a < 0 → ∀ b, b < 0 → a ≠ b → (TJx145de a).2.1 ≠ (TJx145de b).2.1 := by decide +kernel
theorem tyJx145de_ok : ∀ k, k < 0 → parseFieldDescriptor (TJx145de k).2.2.1 = some (tyJx145de k) := by decide +kernel
def RJ5 : String := "java/lang/AbstractStringBuilder"
def TJ5 : u_T := fun k => match k with
  | _ => ("", "", "", false)
def tyJ5 : Nat → FieldType := fun k => match k with
  | _ => .int
abbrev wsJ50 : List Cond := u_ws RJ5 TJ5 0
theorem nmJ5 : ∀ a, a < 0 → ∀ b, b < 0 → a ≠ b → (TJ5 a).2.1 ≠ (TJ5 b).2.1 := by decide +kernel
theorem tyJ5_ok : ∀ k, k < 0 → parseFieldDescriptor (TJ5 k).2.2.1 = some (tyJ5 k) := by decide +kernel
abbrev cJ5_init_d00df : ByteArray := prog_11_method_2_code
def yJ5_init_d00df : MethodName := ⟨RJ5, "<init>", "(I)V"⟩
abbrev cJ5_length_8abf5 : ByteArray := prog_11_method_6_code
def yJ5_length_8abf5 : MethodName := ⟨RJ5, "length", "()I"⟩
abbrev cJ5_ensureCapacityInternal_d00df : ByteArray := prog_11_method_9_code
def yJ5_ensureCapacityInternal_d00df : MethodName := ⟨RJ5, "ensureCapacityInternal", "(I)V"⟩
abbrev cJ5_newCapacity_0f7a4 : ByteArray := prog_11_method_10_code
def yJ5_newCapacity_0f7a4 : MethodName := ⟨RJ5, "newCapacity", "(I)I"⟩
abbrev cJ5_inflate_da8c8 : ByteArray := prog_11_method_11_code
def yJ5_inflate_da8c8 : MethodName := ⟨RJ5, "inflate", "()V"⟩
abbrev cJ5_append_cf1ce : ByteArray := prog_11_method_22_code
def yJ5_append_cf1ce : MethodName := ⟨RJ5, "append", "(Ljava/lang/String;)Ljava/lang/AbstractStringBuilder;"⟩
abbrev cJ5_appendNull_278bc : ByteArray := prog_11_method_26_code
def yJ5_appendNull_278bc : MethodName := ⟨RJ5, "appendNull", "()Ljava/lang/AbstractStringBuilder;"⟩
abbrev cJ5_append_3fe6f : ByteArray := prog_11_method_31_code
def yJ5_append_3fe6f : MethodName := ⟨RJ5, "append", "(C)Ljava/lang/AbstractStringBuilder;"⟩
abbrev cJ5_append_c97b9 : ByteArray := prog_11_method_32_code
def yJ5_append_c97b9 : MethodName := ⟨RJ5, "append", "(I)Ljava/lang/AbstractStringBuilder;"⟩
abbrev cJ5_getValue_6d5f1 : ByteArray := prog_11_method_64_code
def yJ5_getValue_6d5f1 : MethodName := ⟨RJ5, "getValue", "()[B"⟩
abbrev cJ5_isLatin1_aae02 : ByteArray := prog_11_method_68_code
def yJ5_isLatin1_aae02 : MethodName := ⟨RJ5, "isLatin1", "()Z"⟩
abbrev cJ5_inflateIfNeededFor_a7421 : ByteArray := prog_11_method_71_code
def yJ5_inflateIfNeededFor_a7421 : MethodName := ⟨RJ5, "inflateIfNeededFor", "(Ljava/lang/String;)V"⟩
abbrev cJ5_putStringAt_47b60 : ByteArray := prog_11_method_73_code
def yJ5_putStringAt_47b60 : MethodName := ⟨RJ5, "putStringAt", "(ILjava/lang/String;)V"⟩
def RJx2cfe8 : String := "java/lang/Appendable"
def TJx2cfe8 : u_T := fun k => match k with
  | _ => ("", "", "", false)
def tyJx2cfe8 : Nat → FieldType := fun k => match k with
  | _ => .int
abbrev wsJx2cfe80 : List Cond := u_ws RJx2cfe8 TJx2cfe8 0
theorem nmJx2cfe8 : ∀ a, a < 0 → ∀ b, b < 0 → a ≠ b → (TJx2cfe8 a).2.1 ≠ (TJx2cfe8 b).2.1 := by decide +kernel
theorem tyJx2cfe8_ok : ∀ k, k < 0 → parseFieldDescriptor (TJx2cfe8 k).2.2.1 = some (tyJx2cfe8 k) := by decide +kernel
def RJx9f9b0 : String := "java/lang/CharSequence"
def TJx9f9b0 : u_T := fun k => match k with
  | _ => ("", "", "", false)
def tyJx9f9b0 : Nat → FieldType := fun k => match k with
  | _ => .int
abbrev wsJx9f9b00 : List Cond := u_ws RJx9f9b0 TJx9f9b0 0
theorem nmJx9f9b0 : ∀ a, a < 0 → ∀ b, b < 0 → a ≠ b → (TJx9f9b0 a).2.1 ≠ (TJx9f9b0 b).2.1 := by decide +kernel
theorem tyJx9f9b0_ok : ∀ k, k < 0 → parseFieldDescriptor (TJx9f9b0 k).2.2.1 = some (tyJx9f9b0 k) := by decide +kernel
def RJx8e188 : String := "java/lang/Cloneable"
def TJx8e188 : u_T := fun k => match k with
  | _ => ("", "", "", false)
def tyJx8e188 : Nat → FieldType := fun k => match k with
  | _ => .int
abbrev wsJx8e1880 : List Cond := u_ws RJx8e188 TJx8e188 0
theorem nmJx8e188 : ∀ a, a < 0 → ∀ b, b < 0 → a ≠ b → (TJx8e188 a).2.1 ≠ (TJx8e188 b).2.1 := by decide +kernel
theorem tyJx8e188_ok : ∀ k, k < 0 → parseFieldDescriptor (TJx8e188 k).2.2.1 = some (tyJx8e188 k) := by decide +kernel
def RJxb160c : String := "java/lang/Comparable"
def TJxb160c : u_T := fun k => match k with
  | _ => ("", "", "", false)
def tyJxb160c : Nat → FieldType := fun k => match k with
  | _ => .int
abbrev wsJxb160c0 : List Cond := u_ws RJxb160c TJxb160c 0
theorem nmJxb160c : ∀ a, a < 0 → ∀ b, b < 0 → a ≠ b → (TJxb160c a).2.1 ≠ (TJxb160c b).2.1 := by decide +kernel
theorem tyJxb160c_ok : ∀ k, k < 0 → parseFieldDescriptor (TJxb160c k).2.2.1 = some (tyJxb160c k) := by decide +kernel
def RJ6 : String := "java/lang/Integer"
def TJ6 : u_T := fun k => match k with
  | _ => ("", "", "", false)
def tyJ6 : Nat → FieldType := fun k => match k with
  | _ => .int
abbrev wsJ60 : List Cond := u_ws RJ6 TJ6 0
theorem nmJ6 : ∀ a, a < 0 → ∀ b, b < 0 → a ≠ b → (TJ6 a).2.1 ≠ (TJ6 b).2.1 := by decide +kernel
theorem tyJ6_ok : ∀ k, k < 0 → parseFieldDescriptor (TJ6 k).2.2.1 = some (tyJ6 k) := by decide +kernel
abbrev cJ6_getChars_ba4f3 : ByteArray := prog_20_method_12_code
def yJ6_getChars_ba4f3 : MethodName := ⟨RJ6, "getChars", "(II[B)I"⟩
abbrev cJ6_stringSize_0f7a4 : ByteArray := prog_20_method_13_code
def yJ6_stringSize_0f7a4 : MethodName := ⟨RJ6, "stringSize", "(I)I"⟩
def RJxab1ab : String := "java/lang/Iterable"
def TJxab1ab : u_T := fun k => match k with
  | _ => ("", "", "", false)
def tyJxab1ab : Nat → FieldType := fun k => match k with
  | _ => .int
abbrev wsJxab1ab0 : List Cond := u_ws RJxab1ab TJxab1ab 0
theorem nmJxab1ab : ∀ a, a < 0 → ∀ b, b < 0 → a ≠ b → (TJxab1ab a).2.1 ≠ (TJxab1ab b).2.1 := by decide +kernel
theorem tyJxab1ab_ok : ∀ k, k < 0 → parseFieldDescriptor (TJxab1ab k).2.2.1 = some (tyJxab1ab k) := by decide +kernel
def RJ9 : String := "java/lang/Math"
def TJ9 : u_T := fun k => match k with
  | _ => ("", "", "", false)
def tyJ9 : Nat → FieldType := fun k => match k with
  | _ => .int
abbrev wsJ90 : List Cond := u_ws RJ9 TJ9 0
theorem nmJ9 : ∀ a, a < 0 → ∀ b, b < 0 → a ≠ b → (TJ9 a).2.1 ≠ (TJ9 b).2.1 := by decide +kernel
theorem tyJ9_ok : ∀ k, k < 0 → parseFieldDescriptor (TJ9 k).2.2.1 = some (tyJ9 k) := by decide +kernel
abbrev cJ9_max_7cf53 : ByteArray := prog_22_method_65_code
def yJ9_max_7cf53 : MethodName := ⟨RJ9, "max", "(II)I"⟩
abbrev cJ9_min_7cf53 : ByteArray := prog_22_method_69_code
def yJ9_min_7cf53 : MethodName := ⟨RJ9, "min", "(II)I"⟩
def RJxd2413 : String := "java/lang/Number"
def TJxd2413 : u_T := fun k => match k with
  | _ => ("", "", "", false)
def tyJxd2413 : Nat → FieldType := fun k => match k with
  | _ => .int
abbrev wsJxd24130 : List Cond := u_ws RJxd2413 TJxd2413 0
theorem nmJxd2413 : ∀ a, a < 0 → ∀ b, b < 0 → a ≠ b → (TJxd2413 a).2.1 ≠ (TJxd2413 b).2.1 := by decide +kernel
theorem tyJxd2413_ok : ∀ k, k < 0 → parseFieldDescriptor (TJxd2413 k).2.2.1 = some (tyJxd2413 k) := by decide +kernel
def RJ0 : String := "java/lang/String"
def TJ0 : u_T := fun k => match k with
  | 0 => ("java/lang/String", "value", "[B", true)
  | 1 => ("java/lang/String", "coder", "B", true)
  | 2 => ("java/lang/String", "hash", "I", false)
  | _ => ("java/lang/String", "hashIsZero", "Z", false)
def tyJ0 : Nat → FieldType := fun k => match k with
  | 0 => .array .byte
  | 1 => .byte
  | 2 => .int
  | _ => .boolean
abbrev wsJ00 : List Cond := u_ws RJ0 TJ0 4
theorem nmJ0 : ∀ a, a < 4 → ∀ b, b < 4 → a ≠ b → (TJ0 a).2.1 ≠ (TJ0 b).2.1 := by decide +kernel
theorem tyJ0_ok : ∀ k, k < 4 → parseFieldDescriptor (TJ0 k).2.2.1 = some (tyJ0 k) := by decide +kernel
abbrev cJ0_init_81219 : ByteArray := prog_25_method_53_code
def yJ0_init_81219 : MethodName := ⟨RJ0, "<init>", "(Ljava/lang/StringBuilder;)V"⟩
abbrev cJ0_length_8abf5 : ByteArray := prog_25_method_54_code
def yJ0_length_8abf5 : MethodName := ⟨RJ0, "length", "()I"⟩
abbrev cJ0_getBytes_840e7 : ByteArray := prog_25_method_147_code
def yJ0_getBytes_840e7 : MethodName := ⟨RJ0, "getBytes", "([BIB)V"⟩
abbrev cJ0_init_db425 : ByteArray := prog_25_method_150_code
def yJ0_init_db425 : MethodName := ⟨RJ0, "<init>", "(Ljava/lang/AbstractStringBuilder;Ljava/lang/Void;)V"⟩
abbrev cJ0_coder_7d493 : ByteArray := prog_25_method_152_code
def yJ0_coder_7d493 : MethodName := ⟨RJ0, "coder", "()B"⟩
abbrev cJ0_checkIndex_df160 : ByteArray := prog_25_method_155_code
def yJ0_checkIndex_df160 : MethodName := ⟨RJ0, "checkIndex", "(II)V"⟩
abbrev cJ0_checkBoundsOffCount_cabcc : ByteArray := prog_25_method_157_code
def yJ0_checkBoundsOffCount_cabcc : MethodName := ⟨RJ0, "checkBoundsOffCount", "(III)I"⟩
abbrev cJ0_checkBoundsBeginEnd_23922 : ByteArray := prog_25_method_158_code
def yJ0_checkBoundsBeginEnd_23922 : MethodName := ⟨RJ0, "checkBoundsBeginEnd", "(III)V"⟩
def RJ4 : String := "java/lang/StringBuilder"
def TJ4 : u_T := fun k => match k with
  | 0 => ("java/lang/AbstractStringBuilder", "value", "[B", false)
  | 1 => ("java/lang/AbstractStringBuilder", "coder", "B", false)
  | 2 => ("java/lang/AbstractStringBuilder", "maybeLatin1", "Z", false)
  | _ => ("java/lang/AbstractStringBuilder", "count", "I", false)
def tyJ4 : Nat → FieldType := fun k => match k with
  | 0 => .array .byte
  | 1 => .byte
  | 2 => .boolean
  | _ => .int
abbrev wsJ40 : List Cond := u_ws RJ4 TJ4 4
theorem nmJ4 : ∀ a, a < 4 → ∀ b, b < 4 → a ≠ b → (TJ4 a).2.1 ≠ (TJ4 b).2.1 := by decide +kernel
theorem tyJ4_ok : ∀ k, k < 4 → parseFieldDescriptor (TJ4 k).2.2.1 = some (tyJ4 k) := by decide +kernel
abbrev cJ4_init_da8c8 : ByteArray := prog_26_method_1_code
def yJ4_init_da8c8 : MethodName := ⟨RJ4, "<init>", "()V"⟩
abbrev cJ4_append_15ec4 : ByteArray := prog_26_method_7_code
def yJ4_append_15ec4 : MethodName := ⟨RJ4, "append", "(Ljava/lang/String;)Ljava/lang/StringBuilder;"⟩
abbrev cJ4_append_cf468 : ByteArray := prog_26_method_14_code
def yJ4_append_cf468 : MethodName := ⟨RJ4, "append", "(C)Ljava/lang/StringBuilder;"⟩
abbrev cJ4_append_bf812 : ByteArray := prog_26_method_15_code
def yJ4_append_bf812 : MethodName := ⟨RJ4, "append", "(I)Ljava/lang/StringBuilder;"⟩
abbrev cJ4_toString_0e30d : ByteArray := prog_26_method_42_code
def yJ4_toString_0e30d : MethodName := ⟨RJ4, "toString", "()Ljava/lang/String;"⟩
abbrev cJ4_length_8abf5 : ByteArray := prog_26_method_93_code
def yJ4_length_8abf5 : MethodName := ⟨RJ4, "length", "()I"⟩
def RJ1 : String := "java/lang/StringLatin1"
def TJ1 : u_T := fun k => match k with
  | _ => ("", "", "", false)
def tyJ1 : Nat → FieldType := fun k => match k with
  | _ => .int
abbrev wsJ10 : List Cond := u_ws RJ1 TJ1 0
theorem nmJ1 : ∀ a, a < 0 → ∀ b, b < 0 → a ≠ b → (TJ1 a).2.1 ≠ (TJ1 b).2.1 := by decide +kernel
theorem tyJ1_ok : ∀ k, k < 0 → parseFieldDescriptor (TJ1 k).2.2.1 = some (tyJ1 k) := by decide +kernel
abbrev cJ1_canEncode_fc78d : ByteArray := prog_27_method_3_code
def yJ1_canEncode_fc78d : MethodName := ⟨RJ1, "canEncode", "(C)Z"⟩
abbrev cJ1_inflate_0e8fd : ByteArray := prog_27_method_50_code
def yJ1_inflate_0e8fd : MethodName := ⟨RJ1, "inflate", "([BI[BII)V"⟩
def RJ2 : String := "java/lang/StringUTF16"
def TJ2 : u_T := fun k => match k with
  | _ => ("", "", "", false)
def tyJ2 : Nat → FieldType := fun k => match k with
  | _ => .int
abbrev wsJ20 : List Cond := u_ws RJ2 TJ2 0
theorem nmJ2 : ∀ a, a < 0 → ∀ b, b < 0 → a ≠ b → (TJ2 a).2.1 ≠ (TJ2 b).2.1 := by decide +kernel
theorem tyJ2_ok : ∀ k, k < 0 → parseFieldDescriptor (TJ2 k).2.2.1 = some (tyJ2 k) := by decide +kernel
abbrev cJ2_newBytesFor_77867 : ByteArray := prog_28_method_2_code
def yJ2_newBytesFor_77867 : MethodName := ⟨RJ2, "newBytesFor", "(I)[B"⟩
abbrev cJ2_newBytesLength_0f7a4 : ByteArray := prog_28_method_3_code
def yJ2_newBytesLength_0f7a4 : MethodName := ⟨RJ2, "newBytesLength", "(I)I"⟩
abbrev cJ2_putChar_b72d1 : ByteArray := prog_28_method_4_code
def yJ2_putChar_b72d1 : MethodName := ⟨RJ2, "putChar", "([BII)V"⟩
abbrev cJ2_getChar_3b067 : ByteArray := prog_28_method_5_code
def yJ2_getChar_3b067 : MethodName := ⟨RJ2, "getChar", "([BI)C"⟩
abbrev cJ2_length_9d52b : ByteArray := prog_28_method_6_code
def yJ2_length_9d52b : MethodName := ⟨RJ2, "length", "([B)I"⟩
abbrev cJ2_coderFromArrayLen_85cad : ByteArray := prog_28_method_15_code
def yJ2_coderFromArrayLen_85cad : MethodName := ⟨RJ2, "coderFromArrayLen", "([BI)B"⟩
abbrev cJ2_compress_39247 : ByteArray := prog_28_method_17_code
def yJ2_compress_39247 : MethodName := ⟨RJ2, "compress", "([BII)[B"⟩
abbrev cJ2_compress_5af95 : ByteArray := prog_28_method_22_code
def yJ2_compress_5af95 : MethodName := ⟨RJ2, "compress", "([BI[BII)I"⟩
abbrev cJ2_putCharSB_b72d1 : ByteArray := prog_28_method_71_code
def yJ2_putCharSB_b72d1 : MethodName := ⟨RJ2, "putCharSB", "([BII)V"⟩
abbrev cJ2_getChars_46870 : ByteArray := prog_28_method_77_code
def yJ2_getChars_46870 : MethodName := ⟨RJ2, "getChars", "(III[B)I"⟩
abbrev cJ2_putCharsAt_cd4e5 : ByteArray := prog_28_method_81_code
def yJ2_putCharsAt_cd4e5 : MethodName := ⟨RJ2, "putCharsAt", "([BICCCC)I"⟩
abbrev cJ2_inflate_0e8fd : ByteArray := prog_28_method_86_code
def yJ2_inflate_0e8fd : MethodName := ⟨RJ2, "inflate", "([BI[BII)V"⟩
abbrev cJ2_getChars_ba4f3 : ByteArray := prog_28_method_89_code
def yJ2_getChars_ba4f3 : MethodName := ⟨RJ2, "getChars", "(II[B)I"⟩
abbrev cJ2_checkIndex_2214a : ByteArray := prog_28_method_91_code
def yJ2_checkIndex_2214a : MethodName := ⟨RJ2, "checkIndex", "(I[B)V"⟩
abbrev cJ2_checkBoundsBeginEnd_d044e : ByteArray := prog_28_method_93_code
def yJ2_checkBoundsBeginEnd_d044e : MethodName := ⟨RJ2, "checkBoundsBeginEnd", "(II[B)V"⟩
abbrev cJ2_checkBoundsOffCount_d044e : ByteArray := prog_28_method_94_code
def yJ2_checkBoundsOffCount_d044e : MethodName := ⟨RJ2, "checkBoundsOffCount", "(II[B)V"⟩
def RJ10 : String := "java/lang/System"
def TJ10 : u_T := fun k => match k with
  | _ => ("", "", "", false)
def tyJ10 : Nat → FieldType := fun k => match k with
  | _ => .int
abbrev wsJ100 : List Cond := u_ws RJ10 TJ10 0
theorem nmJ10 : ∀ a, a < 0 → ∀ b, b < 0 → a ≠ b → (TJ10 a).2.1 ≠ (TJ10 b).2.1 := by decide +kernel
theorem tyJ10_ok : ∀ k, k < 0 → parseFieldDescriptor (TJ10 k).2.2.1 = some (tyJ10 k) := by decide +kernel
def RJxfd54e : String := "java/lang/constant/Constable"
def TJxfd54e : u_T := fun k => match k with
  | _ => ("", "", "", false)
def tyJxfd54e : Nat → FieldType := fun k => match k with
  | _ => .int
abbrev wsJxfd54e0 : List Cond := u_ws RJxfd54e TJxfd54e 0
theorem nmJxfd54e : ∀ a, a < 0 → ∀ b, b < 0 → a ≠ b → (TJxfd54e a).2.1 ≠ (TJxfd54e b).2.1 := by decide +kernel
theorem tyJxfd54e_ok : ∀ k, k < 0 → parseFieldDescriptor (TJxfd54e k).2.2.1 = some (tyJxfd54e k) := by decide +kernel
def RJx3cf43 : String := "java/lang/constant/ConstantDesc"
def TJx3cf43 : u_T := fun k => match k with
  | _ => ("", "", "", false)
def tyJx3cf43 : Nat → FieldType := fun k => match k with
  | _ => .int
abbrev wsJx3cf430 : List Cond := u_ws RJx3cf43 TJx3cf43 0
theorem nmJx3cf43 : ∀ a, a < 0 → ∀ b, b < 0 → a ≠ b → (TJx3cf43 a).2.1 ≠ (TJx3cf43 b).2.1 := by decide +kernel
theorem tyJx3cf43_ok : ∀ k, k < 0 → parseFieldDescriptor (TJx3cf43 k).2.2.1 = some (tyJx3cf43 k) := by decide +kernel
def RJxa1e45 : String := "java/util/AbstractCollection"
def TJxa1e45 : u_T := fun k => match k with
  | _ => ("", "", "", false)
def tyJxa1e45 : Nat → FieldType := fun k => match k with
  | _ => .int
abbrev wsJxa1e450 : List Cond := u_ws RJxa1e45 TJxa1e45 0
theorem nmJxa1e45 : ∀ a, a < 0 → ∀ b, b < 0 → a ≠ b → (TJxa1e45 a).2.1 ≠ (TJxa1e45 b).2.1 := by decide +kernel
theorem tyJxa1e45_ok : ∀ k, k < 0 → parseFieldDescriptor (TJxa1e45 k).2.2.1 = some (tyJxa1e45 k) := by decide +kernel
abbrev cJxa1e45_init_da8c8 : ByteArray := prog_33_method_1_code
def yJxa1e45_init_da8c8 : MethodName := ⟨RJxa1e45, "<init>", "()V"⟩
def RJxc12de : String := "java/util/AbstractList"
def TJxc12de : u_T := fun k => match k with
  | _ => ("", "", "", false)
def tyJxc12de : Nat → FieldType := fun k => match k with
  | _ => .int
abbrev wsJxc12de0 : List Cond := u_ws RJxc12de TJxc12de 0
theorem nmJxc12de : ∀ a, a < 0 → ∀ b, b < 0 → a ≠ b → (TJxc12de a).2.1 ≠ (TJxc12de b).2.1 := by decide +kernel
theorem tyJxc12de_ok : ∀ k, k < 0 → parseFieldDescriptor (TJxc12de k).2.2.1 = some (tyJxc12de k) := by decide +kernel
abbrev cJxc12de_init_da8c8 : ByteArray := prog_34_method_1_code
def yJxc12de_init_da8c8 : MethodName := ⟨RJxc12de, "<init>", "()V"⟩
def RJx4a65c : String := "java/util/ArrayList"
def TJx4a65c : u_T := fun k => match k with
  | 0 => ("java/util/AbstractList", "modCount", "I", false)
  | 1 => ("java/util/ArrayList", "elementData", "[Ljava/lang/Object;", false)
  | _ => ("java/util/ArrayList", "size", "I", false)
def tyJx4a65c : Nat → FieldType := fun k => match k with
  | 0 => .int
  | 1 => .array (.object "java/lang/Object")
  | _ => .int
abbrev wsJx4a65c0 : List Cond := u_ws RJx4a65c TJx4a65c 3
theorem nmJx4a65c : ∀ a, a < 3 → ∀ b, b < 3 → a ≠ b → (TJx4a65c a).2.1 ≠ (TJx4a65c b).2.1 := by decide +kernel
theorem tyJx4a65c_ok : ∀ k, k < 3 → parseFieldDescriptor (TJx4a65c k).2.2.1 = some (tyJx4a65c k) := by decide +kernel
abbrev cJx4a65c_init_da8c8 : ByteArray := prog_35_method_2_code
def yJx4a65c_init_da8c8 : MethodName := ⟨RJx4a65c, "<init>", "()V"⟩
abbrev cJx4a65c_grow_92f84 : ByteArray := prog_35_method_6_code
def yJx4a65c_grow_92f84 : MethodName := ⟨RJx4a65c, "grow", "(I)[Ljava/lang/Object;"⟩
abbrev cJx4a65c_grow_d5877 : ByteArray := prog_35_method_7_code
def yJx4a65c_grow_d5877 : MethodName := ⟨RJx4a65c, "grow", "()[Ljava/lang/Object;"⟩
abbrev cJx4a65c_size_8abf5 : ByteArray := prog_35_method_8_code
def yJx4a65c_size_8abf5 : MethodName := ⟨RJx4a65c, "size", "()I"⟩
abbrev cJx4a65c_isEmpty_aae02 : ByteArray := prog_35_method_9_code
def yJx4a65c_isEmpty_aae02 : MethodName := ⟨RJx4a65c, "isEmpty", "()Z"⟩
abbrev cJx4a65c_elementData_915e3 : ByteArray := prog_35_method_18_code
def yJx4a65c_elementData_915e3 : MethodName := ⟨RJx4a65c, "elementData", "(I)Ljava/lang/Object;"⟩
abbrev cJx4a65c_get_915e3 : ByteArray := prog_35_method_20_code
def yJx4a65c_get_915e3 : MethodName := ⟨RJx4a65c, "get", "(I)Ljava/lang/Object;"⟩
abbrev cJx4a65c_add_72be8 : ByteArray := prog_35_method_24_code
def yJx4a65c_add_72be8 : MethodName := ⟨RJx4a65c, "add", "(Ljava/lang/Object;[Ljava/lang/Object;I)V"⟩
abbrev cJx4a65c_add_9ea2d : ByteArray := prog_35_method_25_code
def yJx4a65c_add_9ea2d : MethodName := ⟨RJx4a65c, "add", "(Ljava/lang/Object;)Z"⟩
abbrev cJx4a65c_remove_915e3 : ByteArray := prog_35_method_29_code
def yJx4a65c_remove_915e3 : MethodName := ⟨RJx4a65c, "remove", "(I)Ljava/lang/Object;"⟩
abbrev cJx4a65c_fastRemove_b59b0 : ByteArray := prog_35_method_39_code
def yJx4a65c_fastRemove_b59b0 : MethodName := ⟨RJx4a65c, "fastRemove", "([Ljava/lang/Object;I)V"⟩
def RJ7 : String := "java/util/Arrays"
def TJ7 : u_T := fun k => match k with
  | _ => ("", "", "", false)
def tyJ7 : Nat → FieldType := fun k => match k with
  | _ => .int
abbrev wsJ70 : List Cond := u_ws RJ7 TJ7 0
theorem nmJ7 : ∀ a, a < 0 → ∀ b, b < 0 → a ≠ b → (TJ7 a).2.1 ≠ (TJ7 b).2.1 := by decide +kernel
theorem tyJ7_ok : ∀ k, k < 0 → parseFieldDescriptor (TJ7 k).2.2.1 = some (tyJ7 k) := by decide +kernel
abbrev cJ7_copyOf_1904c : ByteArray := prog_36_method_119_code
def yJ7_copyOf_1904c : MethodName := ⟨RJ7, "copyOf", "([Ljava/lang/Object;I)[Ljava/lang/Object;"⟩
abbrev cJ7_copyOf_6403c : ByteArray := prog_36_method_120_code
def yJ7_copyOf_6403c : MethodName := ⟨RJ7, "copyOf", "([Ljava/lang/Object;ILjava/lang/Class;)[Ljava/lang/Object;"⟩
abbrev cJ7_copyOf_9075b : ByteArray := prog_36_method_121_code
def yJ7_copyOf_9075b : MethodName := ⟨RJ7, "copyOf", "([BI)[B"⟩
abbrev cJ7_checkLength_df160 : ByteArray := prog_36_method_131_code
def yJ7_checkLength_df160 : MethodName := ⟨RJ7, "checkLength", "(II)V"⟩
abbrev cJ7_copyOfRange_39247 : ByteArray := prog_36_method_132_code
def yJ7_copyOfRange_39247 : MethodName := ⟨RJ7, "copyOfRange", "([BII)[B"⟩
abbrev cJ7_copyOfRangeByte_39247 : ByteArray := prog_36_method_133_code
def yJ7_copyOfRangeByte_39247 : MethodName := ⟨RJ7, "copyOfRangeByte", "([BII)[B"⟩
def RJx5ef63 : String := "java/util/Collection"
def TJx5ef63 : u_T := fun k => match k with
  | _ => ("", "", "", false)
def tyJx5ef63 : Nat → FieldType := fun k => match k with
  | _ => .int
abbrev wsJx5ef630 : List Cond := u_ws RJx5ef63 TJx5ef63 0
theorem nmJx5ef63 : ∀ a, a < 0 → ∀ b, b < 0 → a ≠ b → (TJx5ef63 a).2.1 ≠ (TJx5ef63 b).2.1 := by decide +kernel
theorem tyJx5ef63_ok : ∀ k, k < 0 → parseFieldDescriptor (TJx5ef63 k).2.2.1 = some (tyJx5ef63 k) := by decide +kernel
def RJxbd725 : String := "java/util/List"
def TJxbd725 : u_T := fun k => match k with
  | _ => ("", "", "", false)
def tyJxbd725 : Nat → FieldType := fun k => match k with
  | _ => .int
abbrev wsJxbd7250 : List Cond := u_ws RJxbd725 TJxbd725 0
theorem nmJxbd725 : ∀ a, a < 0 → ∀ b, b < 0 → a ≠ b → (TJxbd725 a).2.1 ≠ (TJxbd725 b).2.1 := by decide +kernel
theorem tyJxbd725_ok : ∀ k, k < 0 → parseFieldDescriptor (TJxbd725 k).2.2.1 = some (tyJxbd725 k) := by decide +kernel
def RJ15 : String := "java/util/Objects"
def TJ15 : u_T := fun k => match k with
  | _ => ("", "", "", false)
def tyJ15 : Nat → FieldType := fun k => match k with
  | _ => .int
abbrev wsJ150 : List Cond := u_ws RJ15 TJ15 0
theorem nmJ15 : ∀ a, a < 0 → ∀ b, b < 0 → a ≠ b → (TJ15 a).2.1 ≠ (TJ15 b).2.1 := by decide +kernel
theorem tyJ15_ok : ∀ k, k < 0 → parseFieldDescriptor (TJ15 k).2.2.1 = some (tyJ15 k) := by decide +kernel
abbrev cJ15_checkIndex_7cf53 : ByteArray := prog_39_method_17_code
def yJ15_checkIndex_7cf53 : MethodName := ⟨RJ15, "checkIndex", "(II)I"⟩
def RJxf0a74 : String := "java/util/RandomAccess"
def TJxf0a74 : u_T := fun k => match k with
  | _ => ("", "", "", false)
def tyJxf0a74 : Nat → FieldType := fun k => match k with
  | _ => .int
abbrev wsJxf0a740 : List Cond := u_ws RJxf0a74 TJxf0a74 0
theorem nmJxf0a74 : ∀ a, a < 0 → ∀ b, b < 0 → a ≠ b → (TJxf0a74 a).2.1 ≠ (TJxf0a74 b).2.1 := by decide +kernel
theorem tyJxf0a74_ok : ∀ k, k < 0 → parseFieldDescriptor (TJxf0a74 k).2.2.1 = some (tyJxf0a74 k) := by decide +kernel
def RJxa66e6 : String := "java/util/SequencedCollection"
def TJxa66e6 : u_T := fun k => match k with
  | _ => ("", "", "", false)
def tyJxa66e6 : Nat → FieldType := fun k => match k with
  | _ => .int
abbrev wsJxa66e60 : List Cond := u_ws RJxa66e6 TJxa66e6 0
theorem nmJxa66e6 : ∀ a, a < 0 → ∀ b, b < 0 → a ≠ b → (TJxa66e6 a).2.1 ≠ (TJxa66e6 b).2.1 := by decide +kernel
theorem tyJxa66e6_ok : ∀ k, k < 0 → parseFieldDescriptor (TJxa66e6 k).2.2.1 = some (tyJxa66e6 k) := by decide +kernel
def RJ8 : String := "jdk/internal/util/ArraysSupport"
def TJ8 : u_T := fun k => match k with
  | _ => ("", "", "", false)
def tyJ8 : Nat → FieldType := fun k => match k with
  | _ => .int
abbrev wsJ80 : List Cond := u_ws RJ8 TJ8 0
theorem nmJ8 : ∀ a, a < 0 → ∀ b, b < 0 → a ≠ b → (TJ8 a).2.1 ≠ (TJ8 b).2.1 := by decide +kernel
theorem tyJ8_ok : ∀ k, k < 0 → parseFieldDescriptor (TJ8 k).2.2.1 = some (tyJ8 k) := by decide +kernel
abbrev cJ8_newLength_cabcc : ByteArray := prog_42_method_27_code
def yJ8_newLength_cabcc : MethodName := ⟨RJ8, "newLength", "(III)I"⟩
abbrev cJ8_hugeLength_7cf53 : ByteArray := prog_42_method_28_code
def yJ8_hugeLength_7cf53 : MethodName := ⟨RJ8, "hugeLength", "(II)I"⟩
def RJ3 : String := "jdk/internal/util/Preconditions"
def TJ3 : u_T := fun k => match k with
  | _ => ("", "", "", false)
def tyJ3 : Nat → FieldType := fun k => match k with
  | _ => .int
abbrev wsJ30 : List Cond := u_ws RJ3 TJ3 0
theorem nmJ3 : ∀ a, a < 0 → ∀ b, b < 0 → a ≠ b → (TJ3 a).2.1 ≠ (TJ3 b).2.1 := by decide +kernel
theorem tyJ3_ok : ∀ k, k < 0 → parseFieldDescriptor (TJ3 k).2.2.1 = some (tyJ3 k) := by decide +kernel
abbrev cJ3_checkIndex_8e157 : ByteArray := prog_43_method_11_code
def yJ3_checkIndex_8e157 : MethodName := ⟨RJ3, "checkIndex", "(IILjava/util/function/BiFunction;)I"⟩
abbrev cJ3_checkFromToIndex_8c36e : ByteArray := prog_43_method_12_code
def yJ3_checkFromToIndex_8c36e : MethodName := ⟨RJ3, "checkFromToIndex", "(IIILjava/util/function/BiFunction;)I"⟩
abbrev cJ3_checkFromIndexSize_8c36e : ByteArray := prog_43_method_13_code
def yJ3_checkFromIndexSize_8c36e : MethodName := ⟨RJ3, "checkFromIndexSize", "(IIILjava/util/function/BiFunction;)I"⟩
def RL : String := "SignkindsLaw"
abbrev cL_lay : ByteArray := method_2_code
def yL_lay : MethodName := ⟨RL, "lay", "(LSignkinds;IIIIILSignkindsLaw$Out;)I"⟩
abbrev cL_drop : ByteArray := method_3_code
def yL_drop : MethodName := ⟨RL, "drop", "(LSignkinds;IILSignkindsLaw$Out;)I"⟩
abbrev cL_copy : ByteArray := method_4_code
def yL_copy : MethodName := ⟨RL, "copy", "(LSignkinds;IILSignkindsLaw$Out;)I"⟩
abbrev cL_raise : ByteArray := method_5_code
def yL_raise : MethodName := ⟨RL, "raise", "(LSignkinds;ILSignkindsLaw$Out;)I"⟩
abbrev cL_sink : ByteArray := method_6_code
def yL_sink : MethodName := ⟨RL, "sink", "(LSignkinds;ILSignkindsLaw$Out;)I"⟩
abbrev cL_sieve : ByteArray := method_7_code
def yL_sieve : MethodName := ⟨RL, "sieve", "(LSignkinds;IIZLSignkindsLaw$Out;)I"⟩
abbrev cL_strip : ByteArray := method_8_code
def yL_strip : MethodName := ⟨RL, "strip", "(LSignkinds;ILSignkindsLaw$Out;)I"⟩
abbrev cL_turn : ByteArray := method_9_code
def yL_turn : MethodName := ⟨RL, "turn", "(LSignkinds;ILSignkindsLaw$Out;)I"⟩
abbrev cL_write : ByteArray := method_10_code
def yL_write : MethodName := ⟨RL, "write", "(LSignkinds;IIILSignkindsLaw$Out;)I"⟩
abbrev cL_spell : ByteArray := method_11_code
def yL_spell : MethodName := ⟨RL, "spell", "(LSignkinds;IILSignkindsLaw$Out;)I"⟩
abbrev cL_read : ByteArray := method_12_code
def yL_read : MethodName := ⟨RL, "read", "(LSignkinds;IILSignkindsLaw$Out;)I"⟩
abbrev cL_send : ByteArray := method_13_code
def yL_send : MethodName := ⟨RL, "send", "(LSignkinds;IILSignkindsLaw$Out;)I"⟩
abbrev cL_put : ByteArray := method_14_code
def yL_put : MethodName := ⟨RL, "put", "(LSignkinds;IILSignkindsLaw$Out;)I"⟩
abbrev cL_cut : ByteArray := method_15_code
def yL_cut : MethodName := ⟨RL, "cut", "(LSignkinds;IILSignkindsLaw$Out;)I"⟩
abbrev cL_flip : ByteArray := method_16_code
def yL_flip : MethodName := ⟨RL, "flip", "(LSignkinds;ILSignkindsLaw$Out;)I"⟩
abbrev cL_reverse : ByteArray := method_17_code
def yL_reverse : MethodName := ⟨RL, "reverse", "(LSignkinds;ILSignkindsLaw$Out;)I"⟩
abbrev cL_undo : ByteArray := method_18_code
def yL_undo : MethodName := ⟨RL, "undo", "(LSignkinds;LSignkindsLaw$Out;)I"⟩
abbrev cL_isDigit : ByteArray := method_19_code
def yL_isDigit : MethodName := ⟨RL, "isDigit", "(LSignkinds;ILSignkindsLaw$Out;)I"⟩
abbrev cL_isLetter : ByteArray := method_20_code
def yL_isLetter : MethodName := ⟨RL, "isLetter", "(LSignkinds;ILSignkindsLaw$Out;)I"⟩
abbrev cL_isLetterOrDigit : ByteArray := method_21_code
def yL_isLetterOrDigit : MethodName := ⟨RL, "isLetterOrDigit", "(LSignkinds;ILSignkindsLaw$Out;)I"⟩
abbrev cL_isWhite : ByteArray := method_22_code
def yL_isWhite : MethodName := ⟨RL, "isWhite", "(LSignkinds;ILSignkindsLaw$Out;)I"⟩
abbrev cL_isGreat : ByteArray := method_23_code
def yL_isGreat : MethodName := ⟨RL, "isGreat", "(LSignkinds;ILSignkindsLaw$Out;)I"⟩
abbrev cL_kinds : ByteArray := method_24_code
def yL_kinds : MethodName := ⟨RL, "kinds", "(LSignkinds;ILSignkindsLaw$Out;)I"⟩
abbrev cL_upper : ByteArray := method_25_code
def yL_upper : MethodName := ⟨RL, "upper", "(LSignkinds;IZLSignkindsLaw$Out;)I"⟩
abbrev cL_lower : ByteArray := method_26_code
def yL_lower : MethodName := ⟨RL, "lower", "(LSignkinds;IZLSignkindsLaw$Out;)I"⟩
abbrev cL_value : ByteArray := method_27_code
def yL_value : MethodName := ⟨RL, "value", "(LSignkinds;IZLSignkindsLaw$Out;)I"⟩
abbrev cL_number : ByteArray := method_28_code
def yL_number : MethodName := ⟨RL, "number", "(LSignkinds;IIZLSignkindsLaw$Out;)I"⟩
abbrev cL_length : ByteArray := method_29_code
def yL_length : MethodName := ⟨RL, "length", "(LSignkinds;ILSignkindsLaw$Out;)I"⟩
abbrev cL_at : ByteArray := method_30_code
def yL_at : MethodName := ⟨RL, "at", "(LSignkinds;IILSignkindsLaw$Out;)I"⟩
abbrev cL_count : ByteArray := method_31_code
def yL_count : MethodName := ⟨RL, "count", "(LSignkinds;IILSignkindsLaw$Out;)I"⟩
abbrev cL_first : ByteArray := method_32_code
def yL_first : MethodName := ⟨RL, "first", "(LSignkinds;IIILSignkindsLaw$Out;)I"⟩
abbrev cL_last : ByteArray := method_33_code
def yL_last : MethodName := ⟨RL, "last", "(LSignkinds;IILSignkindsLaw$Out;)I"⟩
abbrev cL_forms : ByteArray := method_34_code
def yL_forms : MethodName := ⟨RL, "forms", "(LSignkinds;ILSignkindsLaw$Out;)I"⟩
abbrev cL_spelled : ByteArray := method_35_code
def yL_spelled : MethodName := ⟨RL, "spelled", "(LSignkinds;ILSignkindsLaw$Out;)I"⟩
abbrev cL_told : ByteArray := method_36_code
def yL_told : MethodName := ⟨RL, "told", "(LSignkinds;IILSignkindsLaw$Out;)I"⟩
abbrev cL_sum : ByteArray := method_37_code
def yL_sum : MethodName := ⟨RL, "sum", "(LSignkinds;IILSignkindsLaw$Out;)I"⟩
abbrev cL_values : ByteArray := method_38_code
def yL_values : MethodName := ⟨RL, "values", "(LSignkinds;ILSignkindsLaw$Out;)I"⟩
abbrev cL_words : ByteArray := method_39_code
def yL_words : MethodName := ⟨RL, "words", "(LSignkinds;ILSignkindsLaw$Out;)I"⟩
abbrev cL_word : ByteArray := method_40_code
def yL_word : MethodName := ⟨RL, "word", "(LSignkinds;IIZLSignkindsLaw$Out;)I"⟩
abbrev cL_isAlike : ByteArray := method_41_code
def yL_isAlike : MethodName := ⟨RL, "isAlike", "(LSignkinds;IILSignkindsLaw$Out;)I"⟩
abbrev cL_order : ByteArray := method_42_code
def yL_order : MethodName := ⟨RL, "order", "(LSignkinds;IILSignkindsLaw$Out;)I"⟩
abbrev cL_half : ByteArray := method_43_code
def yL_half : MethodName := ⟨RL, "half", "(LSignkinds;IZLSignkindsLaw$Out;)I"⟩
abbrev cL_code : ByteArray := method_44_code
def yL_code : MethodName := ⟨RL, "code", "(LSignkinds;IILSignkindsLaw$Out;)I"⟩
abbrev cL_ofUnit : ByteArray := method_45_code
def yL_ofUnit : MethodName := ⟨RL, "ofUnit", "(LSignkinds;IILSignkindsLaw$Out;)I"⟩
abbrev cL_compare : ByteArray := method_46_code
def yL_compare : MethodName := ⟨RL, "compare", "(LSignkinds;IILSignkindsLaw$Out;)I"⟩
abbrev cL_ofTrack : ByteArray := method_47_code
def yL_ofTrack : MethodName := ⟨RL, "ofTrack", "(LSignkinds;IILSignkindsLaw$Out;)I"⟩
abbrev cL_unit : ByteArray := method_48_code
def yL_unit : MethodName := ⟨RL, "unit", "(LSignkinds;IILSignkindsLaw$Out;)I"⟩
abbrev cL_codeAt : ByteArray := method_49_code
def yL_codeAt : MethodName := ⟨RL, "codeAt", "(LSignkinds;IILSignkindsLaw$Out;)I"⟩
abbrev cL_nth : ByteArray := method_50_code
def yL_nth : MethodName := ⟨RL, "nth", "(LSignkinds;IILSignkindsLaw$Out;)I"⟩
abbrev cL_house : ByteArray := method_51_code
def yL_house : MethodName := ⟨RL, "house", "(LSignkinds;ILSignkindsLaw$Out;)I"⟩
abbrev cL_law : ByteArray := code
def yL_law : MethodName := ⟨RL, "law", "([I)Z"⟩
abbrev vwCl : List vw_C := [(RJ0, TJ0, 4), (RJ4, TJ4, 4), (RJx4a65c, TJx4a65c, 3), (RX0, TX0, 2), (RX1, TX1, 2), (RX3, TX3, 2), (RX5, TX5, 4), (RX6, TX6, 2), (RX7, TX7, 4)]
