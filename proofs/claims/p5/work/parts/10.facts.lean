theorem tm_1 {x : Cond} (h : x ∈ tables_1_1) : x ∈ lw_tbl := List.mem_append_right _ (show x ∈ tables_1 from (List.mem_append_left _ h))
theorem tm_2 {x : Cond} (h : x ∈ tables_1_2) : x ∈ lw_tbl := List.mem_append_right _ (show x ∈ tables_1 from (List.mem_append_right _ (List.mem_append_left _ h)))
theorem tm_3 {x : Cond} (h : x ∈ tables_1_3) : x ∈ lw_tbl := List.mem_append_right _ (show x ∈ tables_1 from (List.mem_append_right _ (List.mem_append_right _ (List.mem_append_left _ h))))
theorem tm_4 {x : Cond} (h : x ∈ tables_1_4) : x ∈ lw_tbl := List.mem_append_right _ (show x ∈ tables_1 from (List.mem_append_right _ (List.mem_append_right _ (List.mem_append_right _ (List.mem_append_left _ h)))))
theorem tm_5 {x : Cond} (h : x ∈ tables_1_5) : x ∈ lw_tbl := List.mem_append_right _ (show x ∈ tables_1 from (List.mem_append_right _ (List.mem_append_right _ (List.mem_append_right _ (List.mem_append_right _ (List.mem_append_left _ h))))))
theorem tm_6 {x : Cond} (h : x ∈ tables_1_6) : x ∈ lw_tbl := List.mem_append_right _ (show x ∈ tables_1 from (List.mem_append_right _ (List.mem_append_right _ (List.mem_append_right _ (List.mem_append_right _ (List.mem_append_right _ (List.mem_append_left _ h)))))))
theorem tm_7 {x : Cond} (h : x ∈ tables_1_7) : x ∈ lw_tbl := List.mem_append_right _ (show x ∈ tables_1 from (List.mem_append_right _ (List.mem_append_right _ (List.mem_append_right _ (List.mem_append_right _ (List.mem_append_right _ (List.mem_append_right _ (List.mem_append_left _ h))))))))
theorem tm_8 {x : Cond} (h : x ∈ tables_1_8) : x ∈ lw_tbl := List.mem_append_right _ (show x ∈ tables_1 from (List.mem_append_right _ (List.mem_append_right _ (List.mem_append_right _ (List.mem_append_right _ (List.mem_append_right _ (List.mem_append_right _ (List.mem_append_right _ h))))))))
theorem tl16 {x0 x1 x2 x3 x4 x5 x6 x7 x8 x9 x10 x11 x12 x13 x14 x15 : Cond} {t : List Cond} (h : ∀ x ∈ (x0 :: x1 :: x2 :: x3 :: x4 :: x5 :: x6 :: x7 :: x8 :: x9 :: x10 :: x11 :: x12 :: x13 :: x14 :: x15 :: t), x ∈ lw_tbl) : ((((x0 ∈ lw_tbl ∧ x1 ∈ lw_tbl) ∧ (x2 ∈ lw_tbl ∧ x3 ∈ lw_tbl)) ∧ ((x4 ∈ lw_tbl ∧ x5 ∈ lw_tbl) ∧ (x6 ∈ lw_tbl ∧ x7 ∈ lw_tbl))) ∧ (((x8 ∈ lw_tbl ∧ x9 ∈ lw_tbl) ∧ (x10 ∈ lw_tbl ∧ x11 ∈ lw_tbl)) ∧ ((x12 ∈ lw_tbl ∧ x13 ∈ lw_tbl) ∧ (x14 ∈ lw_tbl ∧ x15 ∈ lw_tbl)))) ∧ ∀ x ∈ t, x ∈ lw_tbl := by
  simp only [List.forall_mem_cons] at h
  obtain ⟨h0, h1, h2, h3, h4, h5, h6, h7, h8, h9, h10, h11, h12, h13, h14, h15, ht⟩ := h
  exact ⟨⟨⟨⟨⟨h0, h1⟩, ⟨h2, h3⟩⟩, ⟨⟨h4, h5⟩, ⟨h6, h7⟩⟩⟩, ⟨⟨⟨h8, h9⟩, ⟨h10, h11⟩⟩, ⟨⟨h12, h13⟩, ⟨h14, h15⟩⟩⟩⟩, ht⟩
def ts_1_0 := tl16 (show ∀ x ∈ tables_1_1, x ∈ lw_tbl from fun _ h => tm_1 h)
def ts_1_16 := tl16 ts_1_0.2
def ts_1_32 := tl16 ts_1_16.2
def ts_1_48 := tl16 ts_1_32.2
def ts_1_64 := tl16 ts_1_48.2
def ts_1_80 := tl16 ts_1_64.2
def ts_1_96 := tl16 ts_1_80.2
def ts_1_112 := tl16 ts_1_96.2
def ts_1_128 := tl16 ts_1_112.2
def ts_1_144 := tl16 ts_1_128.2
def ts_1_160 := tl16 ts_1_144.2
def ts_1_176 := tl16 ts_1_160.2
def ts_1_192 := tl16 ts_1_176.2
def ts_1_208 := tl16 ts_1_192.2
def ts_1_224 := tl16 ts_1_208.2
def ts_2_0 := tl16 (show ∀ x ∈ tables_1_2, x ∈ lw_tbl from fun _ h => tm_2 h)
def ts_2_16 := tl16 ts_2_0.2
def ts_2_32 := tl16 ts_2_16.2
def ts_2_48 := tl16 ts_2_32.2
def ts_2_64 := tl16 ts_2_48.2
def ts_2_80 := tl16 ts_2_64.2
def ts_2_96 := tl16 ts_2_80.2
def ts_2_112 := tl16 ts_2_96.2
def ts_2_128 := tl16 ts_2_112.2
def ts_2_144 := tl16 ts_2_128.2
def ts_2_160 := tl16 ts_2_144.2
def ts_2_176 := tl16 ts_2_160.2
def ts_2_192 := tl16 ts_2_176.2
def ts_2_208 := tl16 ts_2_192.2
def ts_2_224 := tl16 ts_2_208.2
def ts_3_0 := tl16 (show ∀ x ∈ tables_1_3, x ∈ lw_tbl from fun _ h => tm_3 h)
def ts_3_16 := tl16 ts_3_0.2
def ts_3_32 := tl16 ts_3_16.2
def ts_3_48 := tl16 ts_3_32.2
def ts_3_64 := tl16 ts_3_48.2
def ts_3_80 := tl16 ts_3_64.2
def ts_3_96 := tl16 ts_3_80.2
def ts_3_112 := tl16 ts_3_96.2
def ts_3_128 := tl16 ts_3_112.2
def ts_3_144 := tl16 ts_3_128.2
def ts_3_160 := tl16 ts_3_144.2
def ts_3_176 := tl16 ts_3_160.2
def ts_3_192 := tl16 ts_3_176.2
def ts_3_208 := tl16 ts_3_192.2
def ts_3_224 := tl16 ts_3_208.2
def ts_4_0 := tl16 (show ∀ x ∈ tables_1_4, x ∈ lw_tbl from fun _ h => tm_4 h)
def ts_4_16 := tl16 ts_4_0.2
def ts_4_32 := tl16 ts_4_16.2
def ts_4_48 := tl16 ts_4_32.2
def ts_4_64 := tl16 ts_4_48.2
def ts_4_80 := tl16 ts_4_64.2
def ts_4_96 := tl16 ts_4_80.2
def ts_4_112 := tl16 ts_4_96.2
def ts_4_128 := tl16 ts_4_112.2
def ts_4_144 := tl16 ts_4_128.2
def ts_4_160 := tl16 ts_4_144.2
def ts_4_176 := tl16 ts_4_160.2
def ts_4_192 := tl16 ts_4_176.2
def ts_4_208 := tl16 ts_4_192.2
def ts_5_0 := tl16 (show ∀ x ∈ tables_1_5, x ∈ lw_tbl from fun _ h => tm_5 h)
def ts_5_16 := tl16 ts_5_0.2
def ts_5_32 := tl16 ts_5_16.2
def ts_5_48 := tl16 ts_5_32.2
def ts_5_64 := tl16 ts_5_48.2
def ts_5_80 := tl16 ts_5_64.2
def ts_5_96 := tl16 ts_5_80.2
def ts_5_112 := tl16 ts_5_96.2
def ts_5_128 := tl16 ts_5_112.2
def ts_5_144 := tl16 ts_5_128.2
def ts_5_160 := tl16 ts_5_144.2
def ts_5_176 := tl16 ts_5_160.2
def ts_5_192 := tl16 ts_5_176.2
def ts_5_208 := tl16 ts_5_192.2
def ts_5_224 := tl16 ts_5_208.2
def ts_6_0 := tl16 (show ∀ x ∈ tables_1_6, x ∈ lw_tbl from fun _ h => tm_6 h)
def ts_6_16 := tl16 ts_6_0.2
def ts_6_32 := tl16 ts_6_16.2
def ts_6_48 := tl16 ts_6_32.2
def ts_6_64 := tl16 ts_6_48.2
def ts_6_80 := tl16 ts_6_64.2
def ts_6_96 := tl16 ts_6_80.2
def ts_6_112 := tl16 ts_6_96.2
def ts_6_128 := tl16 ts_6_112.2
def ts_6_144 := tl16 ts_6_128.2
def ts_6_160 := tl16 ts_6_144.2
def ts_6_176 := tl16 ts_6_160.2
def ts_6_192 := tl16 ts_6_176.2
def ts_6_208 := tl16 ts_6_192.2
def ts_6_224 := tl16 ts_6_208.2
def ts_7_0 := tl16 (show ∀ x ∈ tables_1_7, x ∈ lw_tbl from fun _ h => tm_7 h)
def ts_7_16 := tl16 ts_7_0.2
def ts_7_32 := tl16 ts_7_16.2
def ts_7_48 := tl16 ts_7_32.2
def ts_7_64 := tl16 ts_7_48.2
def ts_7_80 := tl16 ts_7_64.2
def ts_7_96 := tl16 ts_7_80.2
def ts_7_112 := tl16 ts_7_96.2
def ts_7_128 := tl16 ts_7_112.2
def ts_7_144 := tl16 ts_7_128.2
def ts_7_160 := tl16 ts_7_144.2
def ts_7_176 := tl16 ts_7_160.2
def ts_7_192 := tl16 ts_7_176.2
def ts_7_208 := tl16 ts_7_192.2
def ts_7_224 := tl16 ts_7_208.2
def ts_8_0 := tl16 (show ∀ x ∈ tables_1_8, x ∈ lw_tbl from fun _ h => tm_8 h)
def ts_8_16 := tl16 ts_8_0.2
def mi_X5_init : sg_M := (yX5_init, cX5_init, 1, (none : Option Jvm.ClassFile.FieldType))
def mi_X3_init : sg_M := (yX3_init, cX3_init, 2, (none : Option Jvm.ClassFile.FieldType))
def mi_X0_init : sg_M := (yX0_init, cX0_init, 2, (none : Option Jvm.ClassFile.FieldType))
def mi_X1_init : sg_M := (yX1_init, cX1_init, 2, (none : Option Jvm.ClassFile.FieldType))
def mi_X5_knock : sg_M := (yX5_knock, cX5_knock, 1, (some .int))
def mi_X5_digit : sg_M := (yX5_digit, cX5_digit, 3, (some .int))
def mi_X2_digitOf : sg_M := (yX2_digitOf, cX2_digitOf, 2, (some .int))
def mi_X2_isRadix : sg_M := (yX2_isRadix, cX2_isRadix, 1, (some .boolean))
def mi_X2_isBetween : sg_M := (yX2_isBetween, cX2_isBetween, 3, (some .boolean))
def mi_X5_isCode : sg_M := (yX5_isCode, cX5_isCode, 2, (some .boolean))
def mi_X4_isAnyCode : sg_M := (yX4_isAnyCode, cX4_isAnyCode, 1, (some .boolean))
def mi_X5_isPlain : sg_M := (yX5_isPlain, cX5_isPlain, 2, (some .boolean))
def mi_X4_isUnit : sg_M := (yX4_isUnit, cX4_isUnit, 1, (some .boolean))
def mi_X5_isWide : sg_M := (yX5_isWide, cX5_isWide, 2, (some .boolean))
def mi_X4_isWideCode : sg_M := (yX4_isWideCode, cX4_isWideCode, 1, (some .boolean))
def mi_X5_units : sg_M := (yX5_units, cX5_units, 2, (some .int))
def mi_X4_unitsOf : sg_M := (yX4_unitsOf, cX4_unitsOf, 1, (some .int))
def mi_X5_isSound : sg_M := (yX5_isSound, cX5_isSound, 2, (some .boolean))
def mi_X5_rowOf : sg_M := (yX5_rowOf, cX5_rowOf, 2, (some (.object "Signkinds$Line")))
def mi_X5_isSoundRow : sg_M := (yX5_isSoundRow, cX5_isSoundRow, 2, (some .boolean))
def mi_X0_size : sg_M := (yX0_size, cX0_size, 1, (some .int))
def mi_X0_get : sg_M := (yX0_get, cX0_get, 2, (some .int))
def mi_X0_hasPlace : sg_M := (yX0_hasPlace, cX0_hasPlace, 2, (some .boolean))
def mi_X2_isSoundSign : sg_M := (yX2_isSoundSign, cX2_isSoundSign, 4, (some .boolean))
def mi_X2_isOf : sg_M := (yX2_isOf, cX2_isOf, 2, (some .boolean))
def mi_X2_isPlainDigit : sg_M := (yX2_isPlainDigit, cX2_isPlainDigit, 1, (some .boolean))
def mi_X2_isAnyLetter : sg_M := (yX2_isAnyLetter, cX2_isAnyLetter, 1, (some .boolean))
def mi_X2_isGreatPlain : sg_M := (yX2_isGreatPlain, cX2_isGreatPlain, 1, (some .boolean))
def mi_X2_isSmallPlain : sg_M := (yX2_isSmallPlain, cX2_isSmallPlain, 1, (some .boolean))
def mi_X2_isAnyGreat : sg_M := (yX2_isAnyGreat, cX2_isAnyGreat, 1, (some .boolean))
def mi_X2_lowerOf : sg_M := (yX2_lowerOf, cX2_lowerOf, 1, (some .int))
def mi_X2_upperOf : sg_M := (yX2_upperOf, cX2_upperOf, 1, (some .int))
def mi_X2_numberOf : sg_M := (yX2_numberOf, cX2_numberOf, 3, (some .int))
def mi_X2_plainValueOf : sg_M := (yX2_plainValueOf, cX2_plainValueOf, 1, (some .int))
def mi_X5_trackOf : sg_M := (yX5_trackOf, cX5_trackOf, 2, (some (.object "Signkinds$Line")))
def mi_X5_isSoundTrack : sg_M := (yX5_isSoundTrack, cX5_isSoundTrack, 1, (some .boolean))
def mi_X4_areSentAgain : sg_M := (yX4_areSentAgain, cX4_areSentAgain, 4, (some .boolean))
def mi_X4_isCodeBegin : sg_M := (yX4_isCodeBegin, cX4_isCodeBegin, 2, (some .boolean))
def mi_X4_isLow : sg_M := (yX4_isLow, cX4_isLow, 1, (some .boolean))
def mi_X4_isHigh : sg_M := (yX4_isHigh, cX4_isHigh, 1, (some .boolean))
def mi_X4_codeFrom : sg_M := (yX4_codeFrom, cX4_codeFrom, 3, (some .int))
def mi_X4_codeOf : sg_M := (yX4_codeOf, cX4_codeOf, 2, (some .int))
def mi_X4_standsAt : sg_M := (yX4_standsAt, cX4_standsAt, 3, (some .boolean))
def mi_X4_highOf : sg_M := (yX4_highOf, cX4_highOf, 1, (some .int))
def mi_X4_lowOf : sg_M := (yX4_lowOf, cX4_lowOf, 1, (some .int))
def mi_X5_digest : sg_M := (yX5_digest, cX5_digest, 4, (some .long))
def mi_X5_withRow : sg_M := (yX5_withRow, cX5_withRow, 9, (some .long))
def mi_X5_with : sg_M := (yX5_with, cX5_with, 4, (some .long))
def mi_X2_kindsOf : sg_M := (yX2_kindsOf, cX2_kindsOf, 3, (some .int))
def mi_X2_signValue : sg_M := (yX2_signValue, cX2_signValue, 1, (some .int))
def mi_X5_count : sg_M := (yX5_count, cX5_count, 6, (some .int))
def mi_X5_checkKind : sg_M := (yX5_checkKind, cX5_checkKind, 1, (none : Option Jvm.ClassFile.FieldType))
def mi_X5_told : sg_M := (yX5_told, cX5_told, 7, (some .int))
def mi_X5_checkRadix : sg_M := (yX5_checkRadix, cX5_checkRadix, 1, (none : Option Jvm.ClassFile.FieldType))
def mi_X5_values : sg_M := (yX5_values, cX5_values, 6, (some .int))
def mi_X5_words : sg_M := (yX5_words, cX5_words, 5, (some .int))
def mi_X5_isWordBegin : sg_M := (yX5_isWordBegin, cX5_isWordBegin, 2, (some .boolean))
def mi_X5_order : sg_M := (yX5_order, cX5_order, 6, (some .int))
def mi_X5_ahead : sg_M := (yX5_ahead, cX5_ahead, 2, (some .int))
def mi_X5_isAlike : sg_M := (yX5_isAlike, cX5_isAlike, 6, (some .boolean))
def mi_X5_withTrack : sg_M := (yX5_withTrack, cX5_withTrack, 10, (some .long))
def mi_X4_howMany : sg_M := (yX4_howMany, cX4_howMany, 4, (some .int))
def mi_X4_isCounted : sg_M := (yX4_isCounted, cX4_isCounted, 2, (some .boolean))
def mi_X4_isHalf : sg_M := (yX4_isHalf, cX4_isHalf, 1, (some .boolean))
def mi_X5_ofUnit : sg_M := (yX5_ofUnit, cX5_ofUnit, 3, (some .int))
def mi_X5_checkUnit : sg_M := (yX5_checkUnit, cX5_checkUnit, 1, (none : Option Jvm.ClassFile.FieldType))
def mi_X4_turned : sg_M := (yX4_turned, cX4_turned, 1, (some .int))
def mi_X5_house : sg_M := (yX5_house, cX5_house, 2, (some .int))
def mi_X3_howManySigns : sg_M := (yX3_howManySigns, cX3_howManySigns, 3, (some .int))
def mi_X3_howManyUnits : sg_M := (yX3_howManyUnits, cX3_howManyUnits, 3, (some .int))
def mi_X1_size : sg_M := (yX1_size, cX1_size, 1, (some .int))
def mi_X6_init : sg_M := (yX6_init, cX6_init, 1, (none : Option Jvm.ClassFile.FieldType))
def mi_L_lay : sg_M := (yL_lay, cL_lay, 8, (some .int))
def hh_L_lay : List (Nat × Nat × Nat × Nat) := [((0), (17), (20), (19)), ((0), (17), (24), (21)), ((0), (17), (28), (23))]
def mi_X5_lay : sg_M := (yX5_lay, cX5_lay, 8, (some .int))
def mi_X5_laid : sg_M := (yX5_laid, cX5_laid, 1, (some .int))
def mi_X5_checkSign : sg_M := (yX5_checkSign, cX5_checkSign, 1, (none : Option Jvm.ClassFile.FieldType))
def mi_X2_isSign : sg_M := (yX2_isSign, cX2_isSign, 1, (some .boolean))
def mi_X0_hasRoomFor : sg_M := (yX0_hasRoomFor, cX0_hasRoomFor, 2, (some .boolean))
def mi_X1_keep : sg_M := (yX1_keep, cX1_keep, 4, (none : Option Jvm.ClassFile.FieldType))
def mi_X3_become : sg_M := (yX3_become, cX3_become, 3, (none : Option Jvm.ClassFile.FieldType))
def mi_X0_become : sg_M := (yX0_become, cX0_become, 3, (none : Option Jvm.ClassFile.FieldType))
def mi_X0_add : sg_M := (yX0_add, cX0_add, 2, (none : Option Jvm.ClassFile.FieldType))
def mi_X5_addLaid : sg_M := (yX5_addLaid, cX5_addLaid, 2, (none : Option Jvm.ClassFile.FieldType))
def mi_L_drop : sg_M := (yL_drop, cL_drop, 5, (some .int))
def hh_L_drop : List (Nat × Nat × Nat × Nat) := [((0), (11), (14), (19)), ((0), (11), (18), (21))]
def mi_X5_drop : sg_M := (yX5_drop, cX5_drop, 3, (some .int))
def mi_X5_shorten : sg_M := (yX5_shorten, cX5_shorten, 3, (some .int))
def mi_X0_takeAway : sg_M := (yX0_takeAway, cX0_takeAway, 2, (none : Option Jvm.ClassFile.FieldType))
def mi_L_copy : sg_M := (yL_copy, cL_copy, 5, (some .int))
def hh_L_copy : List (Nat × Nat × Nat × Nat) := [((0), (11), (14), (19))]
def mi_X5_copy : sg_M := (yX5_copy, cX5_copy, 6, (some .int))
def mi_L_raise : sg_M := (yL_raise, cL_raise, 4, (some .int))
def hh_L_raise : List (Nat × Nat × Nat × Nat) := [((0), (10), (13), (19))]
def mi_X5_raise : sg_M := (yX5_raise, cX5_raise, 6, (some .int))
def mi_X0_set : sg_M := (yX0_set, cX0_set, 3, (none : Option Jvm.ClassFile.FieldType))
def mi_L_sink : sg_M := (yL_sink, cL_sink, 4, (some .int))
def hh_L_sink : List (Nat × Nat × Nat × Nat) := [((0), (10), (13), (19))]
def mi_X5_sink : sg_M := (yX5_sink, cX5_sink, 6, (some .int))
def mi_L_sieve : sg_M := (yL_sieve, cL_sieve, 6, (some .int))
def hh_L_sieve : List (Nat × Nat × Nat × Nat) := [((0), (13), (16), (19)), ((0), (13), (20), (21))]
def mi_X5_sieve : sg_M := (yX5_sieve, cX5_sieve, 8, (some .int))
def mi_L_strip : sg_M := (yL_strip, cL_strip, 4, (some .int))
def hh_L_strip : List (Nat × Nat × Nat × Nat) := [((0), (10), (13), (19))]
def mi_X5_strip : sg_M := (yX5_strip, cX5_strip, 6, (some .int))
def mi_X0_narrow : sg_M := (yX0_narrow, cX0_narrow, 4, (none : Option Jvm.ClassFile.FieldType))
def mi_L_turn : sg_M := (yL_turn, cL_turn, 4, (some .int))
def hh_L_turn : List (Nat × Nat × Nat × Nat) := [((0), (10), (13), (19))]
def mi_X5_turn : sg_M := (yX5_turn, cX5_turn, 3, (some .int))
def mi_X0_turnRound : sg_M := (yX0_turnRound, cX0_turnRound, 4, (none : Option Jvm.ClassFile.FieldType))
def mi_L_write : sg_M := (yL_write, cL_write, 6, (some .int))
def hh_L_write : List (Nat × Nat × Nat × Nat) := [((0), (13), (16), (19)), ((0), (13), (20), (21))]
def mi_X5_write : sg_M := (yX5_write, cX5_write, 7, (some .int))
def mi_X2_digitsOf : sg_M := (yX2_digitsOf, cX2_digitsOf, 3, (some .int))
def mi_X2_shifted : sg_M := (yX2_shifted, cX2_shifted, 5, (some .int))
def mi_X2_digitNumber : sg_M := (yX2_digitNumber, cX2_digitNumber, 3, (some .int))
def mi_L_spell : sg_M := (yL_spell, cL_spell, 5, (some .int))
def hh_L_spell : List (Nat × Nat × Nat × Nat) := [((0), (11), (14), (19)), ((0), (11), (18), (21))]
def mi_X5_spell : sg_M := (yX5_spell, cX5_spell, 6, (some .int))
def mi_X5_checkAreTwo : sg_M := (yX5_checkAreTwo, cX5_checkAreTwo, 2, (none : Option Jvm.ClassFile.FieldType))
def mi_X0_clear : sg_M := (yX0_clear, cX0_clear, 1, (none : Option Jvm.ClassFile.FieldType))
def mi_X2_firstSpelled : sg_M := (yX2_firstSpelled, cX2_firstSpelled, 1, (some .int))
def mi_X2_secondSpelled : sg_M := (yX2_secondSpelled, cX2_secondSpelled, 1, (some .int))
def mi_L_read : sg_M := (yL_read, cL_read, 5, (some .int))
def hh_L_read : List (Nat × Nat × Nat × Nat) := [((0), (11), (14), (19)), ((0), (11), (18), (21))]
def mi_X5_read : sg_M := (yX5_read, cX5_read, 8, (some .int))
def mi_X5_canBeRead : sg_M := (yX5_canBeRead, cX5_canBeRead, 2, (some .boolean))
def mi_L_send : sg_M := (yL_send, cL_send, 5, (some .int))
def hh_L_send : List (Nat × Nat × Nat × Nat) := [((0), (11), (14), (19)), ((0), (11), (18), (21))]
def mi_X5_send : sg_M := (yX5_send, cX5_send, 4, (some .int))
def mi_X4_addCode : sg_M := (yX4_addCode, cX4_addCode, 2, (none : Option Jvm.ClassFile.FieldType))
def mi_L_put : sg_M := (yL_put, cL_put, 5, (some .int))
def hh_L_put : List (Nat × Nat × Nat × Nat) := [((0), (11), (14), (19)), ((0), (11), (18), (21))]
def mi_X5_put : sg_M := (yX5_put, cX5_put, 4, (some .int))
def mi_L_cut : sg_M := (yL_cut, cL_cut, 5, (some .int))
def hh_L_cut : List (Nat × Nat × Nat × Nat) := [((0), (11), (14), (19)), ((0), (11), (18), (21))]
def mi_X5_cut : sg_M := (yX5_cut, cX5_cut, 3, (some .int))
def mi_L_flip : sg_M := (yL_flip, cL_flip, 4, (some .int))
def hh_L_flip : List (Nat × Nat × Nat × Nat) := [((0), (10), (13), (19))]
def mi_X5_flip : sg_M := (yX5_flip, cX5_flip, 6, (some .int))
def mi_L_reverse : sg_M := (yL_reverse, cL_reverse, 4, (some .int))
def hh_L_reverse : List (Nat × Nat × Nat × Nat) := [((0), (10), (13), (19))]
def mi_X5_reverse : sg_M := (yX5_reverse, cX5_reverse, 4, (some .int))
def mi_X4_listCodes : sg_M := (yX4_listCodes, cX4_listCodes, 3, (none : Option Jvm.ClassFile.FieldType))
def mi_L_undo : sg_M := (yL_undo, cL_undo, 3, (some .int))
def hh_L_undo : List (Nat × Nat × Nat × Nat) := [((0), (9), (12), (23))]
def mi_X5_undo : sg_M := (yX5_undo, cX5_undo, 1, (some .int))
def mi_X1_bringBack : sg_M := (yX1_bringBack, cX1_bringBack, 4, (none : Option Jvm.ClassFile.FieldType))
def mi_L_isDigit : sg_M := (yL_isDigit, cL_isDigit, 4, (some .int))
def hh_L_isDigit : List (Nat × Nat × Nat × Nat) := [((0), (17), (20), (21))]
def mi_X5_isDigit : sg_M := (yX5_isDigit, cX5_isDigit, 2, (some .boolean))
def mi_L_isLetter : sg_M := (yL_isLetter, cL_isLetter, 4, (some .int))
def hh_L_isLetter : List (Nat × Nat × Nat × Nat) := [((0), (17), (20), (21))]
def mi_X5_isLetter : sg_M := (yX5_isLetter, cX5_isLetter, 2, (some .boolean))
def mi_L_isLetterOrDigit : sg_M := (yL_isLetterOrDigit, cL_isLetterOrDigit, 4, (some .int))
def hh_L_isLetterOrDigit : List (Nat × Nat × Nat × Nat) := [((0), (17), (20), (21))]
def mi_X5_isLetterOrDigit : sg_M := (yX5_isLetterOrDigit, cX5_isLetterOrDigit, 2, (some .boolean))
def mi_L_isWhite : sg_M := (yL_isWhite, cL_isWhite, 4, (some .int))
def hh_L_isWhite : List (Nat × Nat × Nat × Nat) := [((0), (17), (20), (21))]
def mi_X5_isWhite : sg_M := (yX5_isWhite, cX5_isWhite, 2, (some .boolean))
def mi_L_isGreat : sg_M := (yL_isGreat, cL_isGreat, 4, (some .int))
def hh_L_isGreat : List (Nat × Nat × Nat × Nat) := [((0), (17), (20), (21))]
def mi_X5_isGreat : sg_M := (yX5_isGreat, cX5_isGreat, 2, (some .boolean))
def mi_L_kinds : sg_M := (yL_kinds, cL_kinds, 4, (some .int))
def hh_L_kinds : List (Nat × Nat × Nat × Nat) := [((0), (10), (13), (21))]
def mi_X5_kinds : sg_M := (yX5_kinds, cX5_kinds, 2, (some .int))
def mi_L_upper : sg_M := (yL_upper, cL_upper, 5, (some .int))
def hh_L_upper : List (Nat × Nat × Nat × Nat) := [((0), (11), (14), (21))]
def mi_X5_upper : sg_M := (yX5_upper, cX5_upper, 3, (some .int))
def mi_L_lower : sg_M := (yL_lower, cL_lower, 5, (some .int))
def hh_L_lower : List (Nat × Nat × Nat × Nat) := [((0), (11), (14), (21))]
def mi_X5_lower : sg_M := (yX5_lower, cX5_lower, 3, (some .int))
def mi_L_value : sg_M := (yL_value, cL_value, 5, (some .int))
def hh_L_value : List (Nat × Nat × Nat × Nat) := [((0), (11), (14), (21))]
def mi_X5_value : sg_M := (yX5_value, cX5_value, 3, (some .int))
def mi_L_number : sg_M := (yL_number, cL_number, 6, (some .int))
def hh_L_number : List (Nat × Nat × Nat × Nat) := [((0), (13), (16), (21))]
def mi_X5_number : sg_M := (yX5_number, cX5_number, 4, (some .int))
def mi_L_length : sg_M := (yL_length, cL_length, 4, (some .int))
def hh_L_length : List (Nat × Nat × Nat × Nat) := [((0), (10), (13), (19))]
def mi_X5_length : sg_M := (yX5_length, cX5_length, 2, (some .int))
def mi_L_at : sg_M := (yL_at, cL_at, 5, (some .int))
def hh_L_at : List (Nat × Nat × Nat × Nat) := [((0), (11), (14), (19))]
def mi_X5_at : sg_M := (yX5_at, cX5_at, 3, (some .int))
def mi_X5_numberAt : sg_M := (yX5_numberAt, cX5_numberAt, 2, (some .int))
def mi_L_count : sg_M := (yL_count, cL_count, 5, (some .int))
def hh_L_count : List (Nat × Nat × Nat × Nat) := [((0), (11), (14), (19)), ((0), (11), (18), (21))]
def mi_L_first : sg_M := (yL_first, cL_first, 6, (some .int))
def hh_L_first : List (Nat × Nat × Nat × Nat) := [((0), (13), (16), (19)), ((0), (13), (20), (21))]
def mi_X5_first : sg_M := (yX5_first, cX5_first, 6, (some .int))
def mi_L_last : sg_M := (yL_last, cL_last, 5, (some .int))
def hh_L_last : List (Nat × Nat × Nat × Nat) := [((0), (11), (14), (19)), ((0), (11), (18), (21))]
def mi_X5_last : sg_M := (yX5_last, cX5_last, 5, (some .int))
def mi_L_forms : sg_M := (yL_forms, cL_forms, 4, (some .int))
def hh_L_forms : List (Nat × Nat × Nat × Nat) := [((0), (9), (12), (19))]
def mi_X5_forms : sg_M := (yX5_forms, cX5_forms, 5, (some (.object "java/lang/String")))
def mi_X2_formOf : sg_M := (yX2_formOf, cX2_formOf, 1, (some .char))
def mi_L_spelled : sg_M := (yL_spelled, cL_spelled, 4, (some .int))
def hh_L_spelled : List (Nat × Nat × Nat × Nat) := [((0), (9), (12), (19))]
def mi_X5_spelled : sg_M := (yX5_spelled, cX5_spelled, 5, (some (.object "java/lang/String")))
def mi_L_told : sg_M := (yL_told, cL_told, 5, (some .int))
def hh_L_told : List (Nat × Nat × Nat × Nat) := [((0), (11), (14), (19)), ((0), (11), (18), (21))]
def mi_L_sum : sg_M := (yL_sum, cL_sum, 5, (some .int))
def hh_L_sum : List (Nat × Nat × Nat × Nat) := [((0), (11), (14), (19))]
def mi_X5_sum : sg_M := (yX5_sum, cX5_sum, 7, (some .int))
def mi_L_values : sg_M := (yL_values, cL_values, 4, (some .int))
def hh_L_values : List (Nat × Nat × Nat × Nat) := [((0), (10), (13), (19))]
def mi_L_words : sg_M := (yL_words, cL_words, 4, (some .int))
def hh_L_words : List (Nat × Nat × Nat × Nat) := [((0), (10), (13), (19))]
def mi_L_word : sg_M := (yL_word, cL_word, 6, (some .int))
def hh_L_word : List (Nat × Nat × Nat × Nat) := [((0), (13), (16), (19))]
def mi_X5_word : sg_M := (yX5_word, cX5_word, 7, (some .int))
def mi_X5_wordBegin : sg_M := (yX5_wordBegin, cX5_wordBegin, 4, (some .int))
def mi_L_isAlike : sg_M := (yL_isAlike, cL_isAlike, 5, (some .int))
def hh_L_isAlike : List (Nat × Nat × Nat × Nat) := [((0), (18), (21), (19))]
def mi_L_order : sg_M := (yL_order, cL_order, 5, (some .int))
def hh_L_order : List (Nat × Nat × Nat × Nat) := [((0), (11), (14), (19))]
def mi_L_half : sg_M := (yL_half, cL_half, 5, (some .int))
def hh_L_half : List (Nat × Nat × Nat × Nat) := [((0), (11), (14), (21))]
def mi_X5_half : sg_M := (yX5_half, cX5_half, 3, (some .int))
def mi_L_code : sg_M := (yL_code, cL_code, 5, (some .int))
def hh_L_code : List (Nat × Nat × Nat × Nat) := [((0), (11), (14), (21))]
def mi_X5_code : sg_M := (yX5_code, cX5_code, 3, (some .int))
def mi_L_ofUnit : sg_M := (yL_ofUnit, cL_ofUnit, 5, (some .int))
def hh_L_ofUnit : List (Nat × Nat × Nat × Nat) := [((0), (11), (14), (21))]
def mi_L_compare : sg_M := (yL_compare, cL_compare, 5, (some .int))
def hh_L_compare : List (Nat × Nat × Nat × Nat) := [((0), (11), (14), (21))]
def mi_X5_compare : sg_M := (yX5_compare, cX5_compare, 3, (some .int))
def mi_L_ofTrack : sg_M := (yL_ofTrack, cL_ofTrack, 5, (some .int))
def hh_L_ofTrack : List (Nat × Nat × Nat × Nat) := [((0), (11), (14), (19)), ((0), (11), (18), (21))]
def mi_X5_ofTrack : sg_M := (yX5_ofTrack, cX5_ofTrack, 4, (some .int))
def mi_L_unit : sg_M := (yL_unit, cL_unit, 5, (some .int))
def hh_L_unit : List (Nat × Nat × Nat × Nat) := [((0), (11), (14), (19))]
def mi_X5_unit : sg_M := (yX5_unit, cX5_unit, 3, (some .int))
def mi_L_codeAt : sg_M := (yL_codeAt, cL_codeAt, 5, (some .int))
def hh_L_codeAt : List (Nat × Nat × Nat × Nat) := [((0), (11), (14), (19))]
def mi_X5_codeAt : sg_M := (yX5_codeAt, cX5_codeAt, 4, (some .int))
def mi_L_nth : sg_M := (yL_nth, cL_nth, 5, (some .int))
def hh_L_nth : List (Nat × Nat × Nat × Nat) := [((0), (11), (14), (19))]
def mi_X5_nth : sg_M := (yX5_nth, cX5_nth, 5, (some .int))
def mi_X4_codeBegin : sg_M := (yX4_codeBegin, cX4_codeBegin, 4, (some .int))
def mi_L_house : sg_M := (yL_house, cL_house, 4, (some .int))
def hh_L_house : List (Nat × Nat × Nat × Nat) := [((0), (10), (13), (21))]
def mi_X7_init : sg_M := (yX7_init, cX7_init, 1, (none : Option Jvm.ClassFile.FieldType))
def mi_X7_thrown : sg_M := (yX7_thrown, cX7_thrown, 1, (some .int))
def mi_X7_lay : sg_M := (yX7_lay, cX7_lay, 12, (some .int))
def mi_X7_isSign : sg_M := (yX7_isSign, cX7_isSign, 1, (some .boolean))
def mi_X7_isOf : sg_M := (yX7_isOf, cX7_isOf, 3, (some .boolean))
def mi_X7_isNoRow : sg_M := (yX7_isNoRow, cX7_isNoRow, 1, (some .boolean))
def mi_X7_start : sg_M := (yX7_start, cX7_start, 3, (some .boolean))
def mi_X7_refuse : sg_M := (yX7_refuse, cX7_refuse, 3, (some .boolean))
def mi_X7_only : sg_M := (yX7_only, cX7_only, 4, (some (.array .int)))
def mi_X7_joined : sg_M := (yX7_joined, cX7_joined, 4, (some (.array .int)))
def mi_X7_set : sg_M := (yX7_set, cX7_set, 5, (some .int))
def mi_X7_drop : sg_M := (yX7_drop, cX7_drop, 3, (some .int))
def mi_X7_part : sg_M := (yX7_part, cX7_part, 5, (some (.array .int)))
def mi_X7_copy : sg_M := (yX7_copy, cX7_copy, 4, (some .int))
def mi_X7_raise : sg_M := (yX7_raise, cX7_raise, 2, (some .int))
def mi_X7_cased : sg_M := (yX7_cased, cX7_cased, 8, (some .int))
def mi_X7_upperOf : sg_M := (yX7_upperOf, cX7_upperOf, 1, (some .int))
def mi_X7_lowerOf : sg_M := (yX7_lowerOf, cX7_lowerOf, 1, (some .int))
def mi_X7_isKind : sg_M := (yX7_isKind, cX7_isKind, 3, (some .boolean))
def mi_X7_one : sg_M := (yX7_one, cX7_one, 1, (some .int))
def mi_X7_sink : sg_M := (yX7_sink, cX7_sink, 2, (some .int))
def mi_X7_sieve : sg_M := (yX7_sieve, cX7_sieve, 6, (some .int))
def mi_X7_isNoKind : sg_M := (yX7_isNoKind, cX7_isNoKind, 1, (some .boolean))
def mi_X7_strip : sg_M := (yX7_strip, cX7_strip, 5, (some .int))
def mi_X7_turn : sg_M := (yX7_turn, cX7_turn, 2, (some .int))
def mi_X7_turned : sg_M := (yX7_turned, cX7_turned, 3, (some (.array .int)))
def mi_X7_write : sg_M := (yX7_write, cX7_write, 6, (some .int))
def mi_X7_isRadix : sg_M := (yX7_isRadix, cX7_isRadix, 1, (some .boolean))
def mi_X7_digitOf : sg_M := (yX7_digitOf, cX7_digitOf, 2, (some .int))
def mi_X7_spell : sg_M := (yX7_spell, cX7_spell, 3, (some .int))
def mi_X7_spelledOf : sg_M := (yX7_spelledOf, cX7_spelledOf, 3, (some (.array .int)))
def mi_X7_read : sg_M := (yX7_read, cX7_read, 8, (some .int))
def mi_X7_numberOf : sg_M := (yX7_numberOf, cX7_numberOf, 3, (some .int))
def mi_X7_valueOf : sg_M := (yX7_valueOf, cX7_valueOf, 1, (some .int))
def mi_X7_send : sg_M := (yX7_send, cX7_send, 3, (some .int))
def mi_X7_isNoTrack : sg_M := (yX7_isNoTrack, cX7_isNoTrack, 1, (some .boolean))
def mi_X7_sent : sg_M := (yX7_sent, cX7_sent, 1, (some (.array .int)))
def mi_X7_behind : sg_M := (yX7_behind, cX7_behind, 3, (some .int))
def mi_X7_put : sg_M := (yX7_put, cX7_put, 3, (some .int))
def mi_X7_cut : sg_M := (yX7_cut, cX7_cut, 3, (some .int))
def mi_X7_flip : sg_M := (yX7_flip, cX7_flip, 5, (some .int))
def mi_X7_turnedUnit : sg_M := (yX7_turnedUnit, cX7_turnedUnit, 1, (some .int))
def mi_X7_isHalf : sg_M := (yX7_isHalf, cX7_isHalf, 1, (some .boolean))
def mi_X7_isHigh : sg_M := (yX7_isHigh, cX7_isHigh, 1, (some .boolean))
def mi_X7_isLow : sg_M := (yX7_isLow, cX7_isLow, 1, (some .boolean))
def mi_X7_reverse : sg_M := (yX7_reverse, cX7_reverse, 7, (some .int))
def mi_X7_codes : sg_M := (yX7_codes, cX7_codes, 4, (some (.array .int)))
def mi_X7_codeOf : sg_M := (yX7_codeOf, cX7_codeOf, 4, (some .int))
def mi_X7_both : sg_M := (yX7_both, cX7_both, 2, (some .int))
def mi_X7_undo : sg_M := (yX7_undo, cX7_undo, 1, (some .int))
def mi_X7_knock : sg_M := (yX7_knock, cX7_knock, 1, (some .int))
def mi_X7_isDigit : sg_M := (yX7_isDigit, cX7_isDigit, 2, (some .boolean))
def mi_X7_kindTold : sg_M := (yX7_kindTold, cX7_kindTold, 3, (some .boolean))
def mi_X7_isLetter : sg_M := (yX7_isLetter, cX7_isLetter, 2, (some .boolean))
def mi_X7_isLetterOrDigit : sg_M := (yX7_isLetterOrDigit, cX7_isLetterOrDigit, 2, (some .boolean))
def mi_X7_isWhite : sg_M := (yX7_isWhite, cX7_isWhite, 2, (some .boolean))
def mi_X7_isGreat : sg_M := (yX7_isGreat, cX7_isGreat, 2, (some .boolean))
def mi_X7_kinds : sg_M := (yX7_kinds, cX7_kinds, 2, (some .int))
def mi_X7_kindsOf : sg_M := (yX7_kindsOf, cX7_kindsOf, 3, (some .int))
def mi_X7_upper : sg_M := (yX7_upper, cX7_upper, 3, (some .int))
def mi_X7_lower : sg_M := (yX7_lower, cX7_lower, 3, (some .int))
def mi_X7_value : sg_M := (yX7_value, cX7_value, 3, (some .int))
def mi_X7_number : sg_M := (yX7_number, cX7_number, 4, (some .int))
def mi_X7_digit : sg_M := (yX7_digit, cX7_digit, 3, (some .int))
def mi_X7_length : sg_M := (yX7_length, cX7_length, 2, (some .int))
def mi_X7_at : sg_M := (yX7_at, cX7_at, 3, (some .int))
def mi_X7_count : sg_M := (yX7_count, cX7_count, 3, (some .int))
def mi_X7_countOf : sg_M := (yX7_countOf, cX7_countOf, 8, (some .int))
def mi_X7_first : sg_M := (yX7_first, cX7_first, 5, (some .int))
def mi_X7_last : sg_M := (yX7_last, cX7_last, 5, (some .int))
def mi_X7_forms : sg_M := (yX7_forms, cX7_forms, 7, (some (.object "java/lang/String")))
def mi_X7_spelled : sg_M := (yX7_spelled, cX7_spelled, 7, (some (.object "java/lang/String")))
def mi_X7_told : sg_M := (yX7_told, cX7_told, 3, (some .int))
def mi_X7_toldOf : sg_M := (yX7_toldOf, cX7_toldOf, 9, (some .int))
def mi_X7_sum : sg_M := (yX7_sum, cX7_sum, 8, (some .int))
def mi_X7_values : sg_M := (yX7_values, cX7_values, 2, (some .int))
def mi_X7_valuesOf : sg_M := (yX7_valuesOf, cX7_valuesOf, 7, (some .int))
def mi_X7_words : sg_M := (yX7_words, cX7_words, 2, (some .int))
def mi_X7_wordsOf : sg_M := (yX7_wordsOf, cX7_wordsOf, 4, (some (.object "java/util/ArrayList")))
def mi_X7_word : sg_M := (yX7_word, cX7_word, 4, (some .int))
def mi_X7_isAlike : sg_M := (yX7_isAlike, cX7_isAlike, 3, (some .boolean))
def mi_X7_areAlike : sg_M := (yX7_areAlike, cX7_areAlike, 5, (some .boolean))
def mi_X7_order : sg_M := (yX7_order, cX7_order, 3, (some .int))
def mi_X7_orderOf : sg_M := (yX7_orderOf, cX7_orderOf, 4, (some .int))
def mi_X7_isCode : sg_M := (yX7_isCode, cX7_isCode, 2, (some .boolean))
def mi_X7_isPlain : sg_M := (yX7_isPlain, cX7_isPlain, 2, (some .boolean))
def mi_X7_isWide : sg_M := (yX7_isWide, cX7_isWide, 2, (some .boolean))
def mi_X7_units : sg_M := (yX7_units, cX7_units, 2, (some .int))
def mi_X7_half : sg_M := (yX7_half, cX7_half, 3, (some .int))
def mi_X7_code : sg_M := (yX7_code, cX7_code, 3, (some .int))
def mi_X7_ofUnit : sg_M := (yX7_ofUnit, cX7_ofUnit, 3, (some .int))
def mi_X7_ofUnitTold : sg_M := (yX7_ofUnitTold, cX7_ofUnitTold, 2, (some .int))
def mi_X7_compare : sg_M := (yX7_compare, cX7_compare, 3, (some .int))
def mi_X7_ofTrack : sg_M := (yX7_ofTrack, cX7_ofTrack, 3, (some .int))
def mi_X7_trackTold : sg_M := (yX7_trackTold, cX7_trackTold, 9, (some .int))
def mi_X7_unit : sg_M := (yX7_unit, cX7_unit, 3, (some .int))
def mi_X7_isNoPlace : sg_M := (yX7_isNoPlace, cX7_isNoPlace, 3, (some .boolean))
def mi_X7_codeAt : sg_M := (yX7_codeAt, cX7_codeAt, 3, (some .int))
def mi_X7_nth : sg_M := (yX7_nth, cX7_nth, 3, (some .int))
def mi_X7_house : sg_M := (yX7_house, cX7_house, 2, (some .int))
def mi_X7_houseOf : sg_M := (yX7_houseOf, cX7_houseOf, 4, (some .int))
def mi_X7_isSound : sg_M := (yX7_isSound, cX7_isSound, 3, (some .boolean))
def mi_X7_digest : sg_M := (yX7_digest, cX7_digest, 13, (some .long))
def mi_J4_init_da8c8 : sg_M := (yJ4_init_da8c8, cJ4_init_da8c8, 1, (none : Option Jvm.ClassFile.FieldType))
def mi_J4_append_cf468 : sg_M := (yJ4_append_cf468, cJ4_append_cf468, 2, (some (.object "java/lang/StringBuilder")))
def mi_J4_append_15ec4 : sg_M := (yJ4_append_15ec4, cJ4_append_15ec4, 2, (some (.object "java/lang/StringBuilder")))
def mi_J4_toString_0e30d : sg_M := (yJ4_toString_0e30d, cJ4_toString_0e30d, 1, (some (.object "java/lang/String")))
def mi_Jx4a65c_init_da8c8 : sg_M := (yJx4a65c_init_da8c8, cJx4a65c_init_da8c8, 1, (none : Option Jvm.ClassFile.FieldType))
def mi_Jx4a65c_add_9ea2d : sg_M := (yJx4a65c_add_9ea2d, cJx4a65c_add_9ea2d, 2, (some .boolean))
def mi_Jx4a65c_get_915e3 : sg_M := (yJx4a65c_get_915e3, cJx4a65c_get_915e3, 2, (some (.object "java/lang/Object")))
def mi_Jx4a65c_isEmpty_aae02 : sg_M := (yJx4a65c_isEmpty_aae02, cJx4a65c_isEmpty_aae02, 1, (some .boolean))
def mi_Jx4a65c_remove_915e3 : sg_M := (yJx4a65c_remove_915e3, cJx4a65c_remove_915e3, 4, (some (.object "java/lang/Object")))
def mi_Jx4a65c_size_8abf5 : sg_M := (yJx4a65c_size_8abf5, cJx4a65c_size_8abf5, 1, (some .int))
set_option maxRecDepth 100000 in
theorem iz_0 : sg_ok (.initialized RX5) := ⟨ts_1_0.1.1.1.1.2, rfl⟩
set_option maxRecDepth 100000 in
theorem ci_X5_init : sg_ok (.code yX5_init cX5_init 1 (none : Option Jvm.ClassFile.FieldType)) := ⟨ts_1_32.1.1.1.2.2, rfl⟩
theorem nh_0 : RX5 ≠ "java/lang/invoke/MethodHandle" ∧ RX5 ≠ "java/lang/invoke/VarHandle" := ⟨by decide +kernel, by decide +kernel⟩
theorem pd_0 : (parseMethodDescriptor "()V").map (fun d => d.parameters.length) = some 0 := by decide +kernel
theorem cb_X5_init : sg_cb mi_X5_init 0 := ⟨ci_X5_init, iz_0, nh_0, pd_0, Nat.le_of_ble_eq_true rfl⟩
set_option maxRecDepth 100000 in
theorem mn_X5_init : sg_ok (.instanceMethod yX5_init) := ⟨ts_1_32.1.1.1.2.1, rfl⟩
set_option maxRecDepth 100000 in
theorem iz_1 : sg_ok (.initialized RX3) := ⟨ts_1_0.1.1.1.2.1, rfl⟩
set_option maxRecDepth 100000 in
theorem ci_X3_init : sg_ok (.code yX3_init cX3_init 2 (none : Option Jvm.ClassFile.FieldType)) := ⟨ts_1_32.1.2.1.2.2, rfl⟩
theorem nh_1 : RX3 ≠ "java/lang/invoke/MethodHandle" ∧ RX3 ≠ "java/lang/invoke/VarHandle" := ⟨by decide +kernel, by decide +kernel⟩
theorem cb_X3_init : sg_cb mi_X3_init 0 := ⟨ci_X3_init, iz_1, nh_1, pd_0, Nat.le_of_ble_eq_true rfl⟩
set_option maxRecDepth 100000 in
theorem mn_X3_init : sg_ok (.instanceMethod yX3_init) := ⟨ts_1_32.1.2.1.2.1, rfl⟩
set_option maxRecDepth 100000 in
theorem iz_2 : sg_ok (.initialized RX0) := ⟨ts_1_0.1.1.1.2.2, rfl⟩
set_option maxRecDepth 100000 in
theorem ci_X0_init : sg_ok (.code yX0_init cX0_init 2 (none : Option Jvm.ClassFile.FieldType)) := ⟨ts_1_48.1.1.1.2.1, rfl⟩
theorem nh_2 : RX0 ≠ "java/lang/invoke/MethodHandle" ∧ RX0 ≠ "java/lang/invoke/VarHandle" := ⟨by decide +kernel, by decide +kernel⟩
theorem pd_1 : (parseMethodDescriptor "(I)V").map (fun d => d.parameters.length) = some 1 := by decide +kernel
theorem cb_X0_init : sg_cb mi_X0_init 1 := ⟨ci_X0_init, iz_2, nh_2, pd_1, Nat.le_of_ble_eq_true rfl⟩
set_option maxRecDepth 100000 in
theorem mn_X0_init : sg_ok (.instanceMethod yX0_init) := ⟨ts_1_48.1.1.1.1.2, rfl⟩
set_option maxRecDepth 100000 in
theorem iz_3 : sg_ok (.initialized RX1) := ⟨ts_1_0.1.1.2.1.1, rfl⟩
set_option maxRecDepth 100000 in
theorem ci_X1_init : sg_ok (.code yX1_init cX1_init 2 (none : Option Jvm.ClassFile.FieldType)) := ⟨ts_1_64.1.2.1.1.2, rfl⟩
theorem nh_3 : RX1 ≠ "java/lang/invoke/MethodHandle" ∧ RX1 ≠ "java/lang/invoke/VarHandle" := ⟨by decide +kernel, by decide +kernel⟩
theorem cb_X1_init : sg_cb mi_X1_init 0 := ⟨ci_X1_init, iz_3, nh_3, pd_0, Nat.le_of_ble_eq_true rfl⟩
set_option maxRecDepth 100000 in
theorem mn_X1_init : sg_ok (.instanceMethod yX1_init) := ⟨ts_1_64.1.2.1.1.1, rfl⟩
set_option maxRecDepth 100000 in
theorem ci_X5_knock : sg_ok (.code yX5_knock cX5_knock 1 (some .int)) := ⟨ts_1_96.1.1.2.2.2, rfl⟩
theorem pd_2 : (parseMethodDescriptor "()I").map (fun d => d.parameters.length) = some 0 := by decide +kernel
theorem cb_X5_knock : sg_cb mi_X5_knock 0 := ⟨ci_X5_knock, iz_0, nh_0, pd_2, Nat.le_of_ble_eq_true rfl⟩
set_option maxRecDepth 100000 in
theorem mn_X5_knock : sg_ok (.instanceMethod yX5_knock) := ⟨ts_1_96.1.1.2.1.2, rfl⟩
set_option maxRecDepth 100000 in
theorem mv_X5_knock : sg_ok (.selects RX5 yX5_knock yX5_knock) := ⟨ts_1_96.1.1.2.2.1, rfl⟩
set_option maxRecDepth 100000 in
theorem ci_X5_digit : sg_ok (.code yX5_digit cX5_digit 3 (some .int)) := ⟨ts_1_96.1.2.1.2.2, rfl⟩
theorem pd_3 : (parseMethodDescriptor "(II)I").map (fun d => d.parameters.length) = some 2 := by decide +kernel
theorem cb_X5_digit : sg_cb mi_X5_digit 2 := ⟨ci_X5_digit, iz_0, nh_0, pd_3, Nat.le_of_ble_eq_true rfl⟩
set_option maxRecDepth 100000 in
theorem mn_X5_digit : sg_ok (.instanceMethod yX5_digit) := ⟨ts_1_96.1.2.1.1.2, rfl⟩
set_option maxRecDepth 100000 in
theorem mv_X5_digit : sg_ok (.selects RX5 yX5_digit yX5_digit) := ⟨ts_1_96.1.2.1.2.1, rfl⟩
set_option maxRecDepth 100000 in
theorem iz_4 : sg_ok (.initialized RX2) := ⟨ts_1_0.1.2.2.2.1, rfl⟩
set_option maxRecDepth 100000 in
theorem ci_X2_digitOf : sg_ok (.code yX2_digitOf cX2_digitOf 2 (some .int)) := ⟨ts_1_96.1.2.2.2.1, rfl⟩
theorem nh_4 : RX2 ≠ "java/lang/invoke/MethodHandle" ∧ RX2 ≠ "java/lang/invoke/VarHandle" := ⟨by decide +kernel, by decide +kernel⟩
theorem cb_X2_digitOf : sg_cb mi_X2_digitOf 2 := ⟨ci_X2_digitOf, iz_4, nh_4, pd_3, Nat.le_of_ble_eq_true rfl⟩
set_option maxRecDepth 100000 in
theorem ms_X2_digitOf : sg_ok (.static yX2_digitOf) := ⟨ts_1_96.1.2.2.1.2, rfl⟩
set_option maxRecDepth 100000 in
theorem ci_X2_isRadix : sg_ok (.code yX2_isRadix cX2_isRadix 1 (some .boolean)) := ⟨ts_1_112.1.1.1.1.2, rfl⟩
theorem pd_4 : (parseMethodDescriptor "(I)Z").map (fun d => d.parameters.length) = some 1 := by decide +kernel
theorem cb_X2_isRadix : sg_cb mi_X2_isRadix 1 := ⟨ci_X2_isRadix, iz_4, nh_4, pd_4, Nat.le_of_ble_eq_true rfl⟩
set_option maxRecDepth 100000 in
theorem ms_X2_isRadix : sg_ok (.static yX2_isRadix) := ⟨ts_1_112.1.1.1.1.1, rfl⟩
set_option maxRecDepth 100000 in
theorem ci_X2_isBetween : sg_ok (.code yX2_isBetween cX2_isBetween 3 (some .boolean)) := ⟨ts_1_112.1.1.2.1.1, rfl⟩
theorem pd_5 : (parseMethodDescriptor "(III)Z").map (fun d => d.parameters.length) = some 3 := by decide +kernel
theorem cb_X2_isBetween : sg_cb mi_X2_isBetween 3 := ⟨ci_X2_isBetween, iz_4, nh_4, pd_5, Nat.le_of_ble_eq_true rfl⟩
set_option maxRecDepth 100000 in
theorem ms_X2_isBetween : sg_ok (.static yX2_isBetween) := ⟨ts_1_112.1.1.1.2.2, rfl⟩
set_option maxRecDepth 100000 in
theorem ci_X5_isCode : sg_ok (.code yX5_isCode cX5_isCode 2 (some .boolean)) := ⟨ts_1_112.1.2.1.1.1, rfl⟩
theorem cb_X5_isCode : sg_cb mi_X5_isCode 1 := ⟨ci_X5_isCode, iz_0, nh_0, pd_4, Nat.le_of_ble_eq_true rfl⟩
set_option maxRecDepth 100000 in
theorem mn_X5_isCode : sg_ok (.instanceMethod yX5_isCode) := ⟨ts_1_112.1.1.2.2.1, rfl⟩
set_option maxRecDepth 100000 in
theorem mv_X5_isCode : sg_ok (.selects RX5 yX5_isCode yX5_isCode) := ⟨ts_1_112.1.1.2.2.2, rfl⟩
set_option maxRecDepth 100000 in
theorem iz_5 : sg_ok (.initialized RX4) := ⟨ts_1_16.1.1.2.2.2, rfl⟩
set_option maxRecDepth 100000 in
theorem ci_X4_isAnyCode : sg_ok (.code yX4_isAnyCode cX4_isAnyCode 1 (some .boolean)) := ⟨ts_1_112.1.2.1.2.2, rfl⟩
theorem nh_5 : RX4 ≠ "java/lang/invoke/MethodHandle" ∧ RX4 ≠ "java/lang/invoke/VarHandle" := ⟨by decide +kernel, by decide +kernel⟩
theorem cb_X4_isAnyCode : sg_cb mi_X4_isAnyCode 1 := ⟨ci_X4_isAnyCode, iz_5, nh_5, pd_4, Nat.le_of_ble_eq_true rfl⟩
set_option maxRecDepth 100000 in
theorem ms_X4_isAnyCode : sg_ok (.static yX4_isAnyCode) := ⟨ts_1_112.1.2.1.2.1, rfl⟩
set_option maxRecDepth 100000 in
theorem ci_X5_isPlain : sg_ok (.code yX5_isPlain cX5_isPlain 2 (some .boolean)) := ⟨ts_1_128.1.1.1.1.1, rfl⟩
theorem cb_X5_isPlain : sg_cb mi_X5_isPlain 1 := ⟨ci_X5_isPlain, iz_0, nh_0, pd_4, Nat.le_of_ble_eq_true rfl⟩
set_option maxRecDepth 100000 in
theorem mn_X5_isPlain : sg_ok (.instanceMethod yX5_isPlain) := ⟨ts_1_112.1.2.2.2.1, rfl⟩
set_option maxRecDepth 100000 in
theorem mv_X5_isPlain : sg_ok (.selects RX5 yX5_isPlain yX5_isPlain) := ⟨ts_1_112.1.2.2.2.2, rfl⟩
set_option maxRecDepth 100000 in
theorem ci_X4_isUnit : sg_ok (.code yX4_isUnit cX4_isUnit 1 (some .boolean)) := ⟨ts_1_128.1.1.1.2.2, rfl⟩
theorem cb_X4_isUnit : sg_cb mi_X4_isUnit 1 := ⟨ci_X4_isUnit, iz_5, nh_5, pd_4, Nat.le_of_ble_eq_true rfl⟩
set_option maxRecDepth 100000 in
theorem ms_X4_isUnit : sg_ok (.static yX4_isUnit) := ⟨ts_1_128.1.1.1.2.1, rfl⟩
set_option maxRecDepth 100000 in
theorem ci_X5_isWide : sg_ok (.code yX5_isWide cX5_isWide 2 (some .boolean)) := ⟨ts_1_128.1.2.1.1.1, rfl⟩
theorem cb_X5_isWide : sg_cb mi_X5_isWide 1 := ⟨ci_X5_isWide, iz_0, nh_0, pd_4, Nat.le_of_ble_eq_true rfl⟩
set_option maxRecDepth 100000 in
theorem mn_X5_isWide : sg_ok (.instanceMethod yX5_isWide) := ⟨ts_1_128.1.1.2.2.1, rfl⟩
set_option maxRecDepth 100000 in
theorem mv_X5_isWide : sg_ok (.selects RX5 yX5_isWide yX5_isWide) := ⟨ts_1_128.1.1.2.2.2, rfl⟩
set_option maxRecDepth 100000 in
theorem ci_X4_isWideCode : sg_ok (.code yX4_isWideCode cX4_isWideCode 1 (some .boolean)) := ⟨ts_1_128.1.2.1.2.2, rfl⟩
theorem cb_X4_isWideCode : sg_cb mi_X4_isWideCode 1 := ⟨ci_X4_isWideCode, iz_5, nh_5, pd_4, Nat.le_of_ble_eq_true rfl⟩
set_option maxRecDepth 100000 in
theorem ms_X4_isWideCode : sg_ok (.static yX4_isWideCode) := ⟨ts_1_128.1.2.1.2.1, rfl⟩
set_option maxRecDepth 100000 in
theorem ci_X5_units : sg_ok (.code yX5_units cX5_units 2 (some .int)) := ⟨ts_1_128.1.2.2.2.2, rfl⟩
theorem pd_6 : (parseMethodDescriptor "(I)I").map (fun d => d.parameters.length) = some 1 := by decide +kernel
theorem cb_X5_units : sg_cb mi_X5_units 1 := ⟨ci_X5_units, iz_0, nh_0, pd_6, Nat.le_of_ble_eq_true rfl⟩
set_option maxRecDepth 100000 in
theorem mn_X5_units : sg_ok (.instanceMethod yX5_units) := ⟨ts_1_128.1.2.2.1.2, rfl⟩
set_option maxRecDepth 100000 in
theorem mv_X5_units : sg_ok (.selects RX5 yX5_units yX5_units) := ⟨ts_1_128.1.2.2.2.1, rfl⟩
set_option maxRecDepth 100000 in
theorem ci_X4_unitsOf : sg_ok (.code yX4_unitsOf cX4_unitsOf 1 (some .int)) := ⟨ts_1_144.1.1.1.2.1, rfl⟩
theorem cb_X4_unitsOf : sg_cb mi_X4_unitsOf 1 := ⟨ci_X4_unitsOf, iz_5, nh_5, pd_6, Nat.le_of_ble_eq_true rfl⟩
set_option maxRecDepth 100000 in
theorem ms_X4_unitsOf : sg_ok (.static yX4_unitsOf) := ⟨ts_1_144.1.1.1.1.2, rfl⟩
set_option maxRecDepth 100000 in
theorem ci_X5_isSound : sg_ok (.code yX5_isSound cX5_isSound 2 (some .boolean)) := ⟨ts_1_144.1.1.2.2.1, rfl⟩
theorem pd_7 : (parseMethodDescriptor "()Z").map (fun d => d.parameters.length) = some 0 := by decide +kernel
theorem cb_X5_isSound : sg_cb mi_X5_isSound 0 := ⟨ci_X5_isSound, iz_0, nh_0, pd_7, Nat.le_of_ble_eq_true rfl⟩
set_option maxRecDepth 100000 in
theorem mn_X5_isSound : sg_ok (.instanceMethod yX5_isSound) := ⟨ts_1_144.1.1.2.1.1, rfl⟩
set_option maxRecDepth 100000 in
theorem mv_X5_isSound : sg_ok (.selects RX5 yX5_isSound yX5_isSound) := ⟨ts_1_144.1.1.2.1.2, rfl⟩
set_option maxRecDepth 100000 in
theorem ci_X5_rowOf : sg_ok (.code yX5_rowOf cX5_rowOf 2 (some (.object "Signkinds$Line"))) := ⟨ts_1_144.1.2.1.2.1, rfl⟩
theorem pd_8 : (parseMethodDescriptor "(I)LSignkinds$Line;").map (fun d => d.parameters.length) = some 1 := by decide +kernel
theorem cb_X5_rowOf : sg_cb mi_X5_rowOf 1 := ⟨ci_X5_rowOf, iz_0, nh_0, pd_8, Nat.le_of_ble_eq_true rfl⟩
set_option maxRecDepth 100000 in
theorem mn_X5_rowOf : sg_ok (.instanceMethod yX5_rowOf) := ⟨ts_1_144.1.2.1.1.2, rfl⟩
theorem mv_X5_rowOf : sg_ok (.selects RX5 yX5_rowOf yX5_rowOf) := sg_oks 0 (by decide +kernel)
set_option maxRecDepth 100000 in
theorem ci_X5_isSoundRow : sg_ok (.code yX5_isSoundRow cX5_isSoundRow 2 (some .boolean)) := ⟨ts_1_224.1.1.1.1.2, rfl⟩
theorem pd_9 : (parseMethodDescriptor "(LSignkinds$Line;)Z").map (fun d => d.parameters.length) = some 1 := by decide +kernel
theorem cb_X5_isSoundRow : sg_cb mi_X5_isSoundRow 1 := ⟨ci_X5_isSoundRow, iz_0, nh_0, pd_9, Nat.le_of_ble_eq_true rfl⟩
set_option maxRecDepth 100000 in
theorem ms_X5_isSoundRow : sg_ok (.static yX5_isSoundRow) := ⟨ts_1_224.1.1.1.1.1, rfl⟩
set_option maxRecDepth 100000 in
theorem ci_X0_size : sg_ok (.code yX0_size cX0_size 1 (some .int)) := ⟨ts_1_224.1.1.2.1.2, rfl⟩
theorem cb_X0_size : sg_cb mi_X0_size 0 := ⟨ci_X0_size, iz_2, nh_2, pd_2, Nat.le_of_ble_eq_true rfl⟩
set_option maxRecDepth 100000 in
theorem mn_X0_size : sg_ok (.instanceMethod yX0_size) := ⟨ts_1_224.1.1.1.2.2, rfl⟩
set_option maxRecDepth 100000 in
theorem mv_X0_size : sg_ok (.selects RX0 yX0_size yX0_size) := ⟨ts_1_224.1.1.2.1.1, rfl⟩
set_option maxRecDepth 100000 in
theorem ci_X0_get : sg_ok (.code yX0_get cX0_get 2 (some .int)) := ⟨ts_1_224.1.2.1.1.2, rfl⟩
theorem cb_X0_get : sg_cb mi_X0_get 1 := ⟨ci_X0_get, iz_2, nh_2, pd_6, Nat.le_of_ble_eq_true rfl⟩
set_option maxRecDepth 100000 in
theorem mn_X0_get : sg_ok (.instanceMethod yX0_get) := ⟨ts_1_224.1.1.2.2.2, rfl⟩
set_option maxRecDepth 100000 in
theorem mv_X0_get : sg_ok (.selects RX0 yX0_get yX0_get) := ⟨ts_1_224.1.2.1.1.1, rfl⟩
set_option maxRecDepth 100000 in
theorem ci_X0_hasPlace : sg_ok (.code yX0_hasPlace cX0_hasPlace 2 (some .boolean)) := ⟨ts_1_224.1.2.2.1.2, rfl⟩
theorem cb_X0_hasPlace : sg_cb mi_X0_hasPlace 1 := ⟨ci_X0_hasPlace, iz_2, nh_2, pd_4, Nat.le_of_ble_eq_true rfl⟩
set_option maxRecDepth 100000 in
theorem mn_X0_hasPlace : sg_ok (.instanceMethod yX0_hasPlace) := ⟨ts_1_224.1.2.1.2.2, rfl⟩
set_option maxRecDepth 100000 in
theorem mv_X0_hasPlace : sg_ok (.selects RX0 yX0_hasPlace yX0_hasPlace) := ⟨ts_1_224.1.2.2.1.1, rfl⟩
set_option maxRecDepth 100000 in
theorem ci_X2_isSoundSign : sg_ok (.code yX2_isSoundSign cX2_isSoundSign 4 (some .boolean)) := ⟨ts_2_0.1.1.1.1.1, rfl⟩
theorem cb_X2_isSoundSign : sg_cb mi_X2_isSoundSign 1 := ⟨ci_X2_isSoundSign, iz_4, nh_4, pd_4, Nat.le_of_ble_eq_true rfl⟩
set_option maxRecDepth 100000 in
theorem ms_X2_isSoundSign : sg_ok (.static yX2_isSoundSign) := ⟨ts_1_224.1.2.2.2.2, rfl⟩
set_option maxRecDepth 100000 in
theorem ci_X2_isOf : sg_ok (.code yX2_isOf cX2_isOf 2 (some .boolean)) := ⟨ts_2_0.1.1.1.2.2, rfl⟩
theorem pd_10 : (parseMethodDescriptor "(II)Z").map (fun d => d.parameters.length) = some 2 := by decide +kernel
theorem cb_X2_isOf : sg_cb mi_X2_isOf 2 := ⟨ci_X2_isOf, iz_4, nh_4, pd_10, Nat.le_of_ble_eq_true rfl⟩
set_option maxRecDepth 100000 in
theorem ms_X2_isOf : sg_ok (.static yX2_isOf) := ⟨ts_2_0.1.1.1.2.1, rfl⟩
set_option maxRecDepth 100000 in
theorem ci_X2_isPlainDigit : sg_ok (.code yX2_isPlainDigit cX2_isPlainDigit 1 (some .boolean)) := ⟨ts_2_0.1.1.2.2.1, rfl⟩
theorem cb_X2_isPlainDigit : sg_cb mi_X2_isPlainDigit 1 := ⟨ci_X2_isPlainDigit, iz_4, nh_4, pd_4, Nat.le_of_ble_eq_true rfl⟩
set_option maxRecDepth 100000 in
theorem ms_X2_isPlainDigit : sg_ok (.static yX2_isPlainDigit) := ⟨ts_2_0.1.1.2.1.2, rfl⟩
set_option maxRecDepth 100000 in
theorem ci_X2_isAnyLetter : sg_ok (.code yX2_isAnyLetter cX2_isAnyLetter 1 (some .boolean)) := ⟨ts_2_0.1.2.1.1.2, rfl⟩
theorem cb_X2_isAnyLetter : sg_cb mi_X2_isAnyLetter 1 := ⟨ci_X2_isAnyLetter, iz_4, nh_4, pd_4, Nat.le_of_ble_eq_true rfl⟩
set_option maxRecDepth 100000 in
theorem ms_X2_isAnyLetter : sg_ok (.static yX2_isAnyLetter) := ⟨ts_2_0.1.2.1.1.1, rfl⟩
set_option maxRecDepth 100000 in
theorem ci_X2_isGreatPlain : sg_ok (.code yX2_isGreatPlain cX2_isGreatPlain 1 (some .boolean)) := ⟨ts_2_0.1.2.2.1.1, rfl⟩
theorem cb_X2_isGreatPlain : sg_cb mi_X2_isGreatPlain 1 := ⟨ci_X2_isGreatPlain, iz_4, nh_4, pd_4, Nat.le_of_ble_eq_true rfl⟩
set_option maxRecDepth 100000 in
theorem ms_X2_isGreatPlain : sg_ok (.static yX2_isGreatPlain) := ⟨ts_2_0.1.2.1.2.2, rfl⟩
set_option maxRecDepth 100000 in
theorem ci_X2_isSmallPlain : sg_ok (.code yX2_isSmallPlain cX2_isSmallPlain 1 (some .boolean)) := ⟨ts_2_0.1.2.2.2.2, rfl⟩
theorem cb_X2_isSmallPlain : sg_cb mi_X2_isSmallPlain 1 := ⟨ci_X2_isSmallPlain, iz_4, nh_4, pd_4, Nat.le_of_ble_eq_true rfl⟩
set_option maxRecDepth 100000 in
theorem ms_X2_isSmallPlain : sg_ok (.static yX2_isSmallPlain) := ⟨ts_2_0.1.2.2.2.1, rfl⟩
set_option maxRecDepth 100000 in
theorem ci_X2_isAnyGreat : sg_ok (.code yX2_isAnyGreat cX2_isAnyGreat 1 (some .boolean)) := ⟨ts_2_16.1.1.1.2.1, rfl⟩
theorem cb_X2_isAnyGreat : sg_cb mi_X2_isAnyGreat 1 := ⟨ci_X2_isAnyGreat, iz_4, nh_4, pd_4, Nat.le_of_ble_eq_true rfl⟩
set_option maxRecDepth 100000 in
theorem ms_X2_isAnyGreat : sg_ok (.static yX2_isAnyGreat) := ⟨ts_2_16.1.1.1.1.2, rfl⟩
set_option maxRecDepth 100000 in
theorem ci_X2_lowerOf : sg_ok (.code yX2_lowerOf cX2_lowerOf 1 (some .int)) := ⟨ts_2_16.1.1.2.1.2, rfl⟩
theorem cb_X2_lowerOf : sg_cb mi_X2_lowerOf 1 := ⟨ci_X2_lowerOf, iz_4, nh_4, pd_6, Nat.le_of_ble_eq_true rfl⟩
set_option maxRecDepth 100000 in
theorem ms_X2_lowerOf : sg_ok (.static yX2_lowerOf) := ⟨ts_2_16.1.1.2.1.1, rfl⟩
set_option maxRecDepth 100000 in
theorem ci_X2_upperOf : sg_ok (.code yX2_upperOf cX2_upperOf 1 (some .int)) := ⟨ts_2_16.1.2.1.1.1, rfl⟩
theorem cb_X2_upperOf : sg_cb mi_X2_upperOf 1 := ⟨ci_X2_upperOf, iz_4, nh_4, pd_6, Nat.le_of_ble_eq_true rfl⟩
set_option maxRecDepth 100000 in
theorem ms_X2_upperOf : sg_ok (.static yX2_upperOf) := ⟨ts_2_16.1.1.2.2.2, rfl⟩
set_option maxRecDepth 100000 in
theorem ci_X2_numberOf : sg_ok (.code yX2_numberOf cX2_numberOf 3 (some .int)) := ⟨ts_2_16.1.2.1.2.2, rfl⟩
theorem cb_X2_numberOf : sg_cb mi_X2_numberOf 2 := ⟨ci_X2_numberOf, iz_4, nh_4, pd_3, Nat.le_of_ble_eq_true rfl⟩
set_option maxRecDepth 100000 in
theorem ms_X2_numberOf : sg_ok (.static yX2_numberOf) := ⟨ts_2_16.1.2.1.2.1, rfl⟩
set_option maxRecDepth 100000 in
theorem ci_X2_plainValueOf : sg_ok (.code yX2_plainValueOf cX2_plainValueOf 1 (some .int)) := ⟨ts_2_16.1.2.2.2.1, rfl⟩
theorem cb_X2_plainValueOf : sg_cb mi_X2_plainValueOf 1 := ⟨ci_X2_plainValueOf, iz_4, nh_4, pd_6, Nat.le_of_ble_eq_true rfl⟩
set_option maxRecDepth 100000 in
theorem ms_X2_plainValueOf : sg_ok (.static yX2_plainValueOf) := ⟨ts_2_16.1.2.2.1.2, rfl⟩
set_option maxRecDepth 100000 in
theorem ci_X5_trackOf : sg_ok (.code yX5_trackOf cX5_trackOf 2 (some (.object "Signkinds$Line"))) := ⟨ts_2_32.1.1.1.2.2, rfl⟩
theorem cb_X5_trackOf : sg_cb mi_X5_trackOf 1 := ⟨ci_X5_trackOf, iz_0, nh_0, pd_8, Nat.le_of_ble_eq_true rfl⟩
set_option maxRecDepth 100000 in
theorem mn_X5_trackOf : sg_ok (.instanceMethod yX5_trackOf) := ⟨ts_2_32.1.1.1.2.1, rfl⟩
theorem mv_X5_trackOf : sg_ok (.selects RX5 yX5_trackOf yX5_trackOf) := sg_oks 2 (by decide +kernel)
set_option maxRecDepth 100000 in
theorem ci_X5_isSoundTrack : sg_ok (.code yX5_isSoundTrack cX5_isSoundTrack 1 (some .boolean)) := ⟨ts_2_32.1.1.2.2.2, rfl⟩
theorem cb_X5_isSoundTrack : sg_cb mi_X5_isSoundTrack 1 := ⟨ci_X5_isSoundTrack, iz_0, nh_0, pd_9, Nat.le_of_ble_eq_true rfl⟩
set_option maxRecDepth 100000 in
theorem ms_X5_isSoundTrack : sg_ok (.static yX5_isSoundTrack) := ⟨ts_2_32.1.1.2.2.1, rfl⟩
set_option maxRecDepth 100000 in
theorem ci_X4_areSentAgain : sg_ok (.code yX4_areSentAgain cX4_areSentAgain 4 (some .boolean)) := ⟨ts_2_32.1.2.1.2.1, rfl⟩
theorem cb_X4_areSentAgain : sg_cb mi_X4_areSentAgain 1 := ⟨ci_X4_areSentAgain, iz_5, nh_5, pd_9, Nat.le_of_ble_eq_true rfl⟩
set_option maxRecDepth 100000 in
theorem ms_X4_areSentAgain : sg_ok (.static yX4_areSentAgain) := ⟨ts_2_32.1.2.1.1.2, rfl⟩
set_option maxRecDepth 100000 in
theorem ci_X4_isCodeBegin : sg_ok (.code yX4_isCodeBegin cX4_isCodeBegin 2 (some .boolean)) := ⟨ts_2_32.1.2.2.2.1, rfl⟩
theorem pd_11 : (parseMethodDescriptor "(LSignkinds$Line;I)Z").map (fun d => d.parameters.length) = some 2 := by decide +kernel
theorem cb_X4_isCodeBegin : sg_cb mi_X4_isCodeBegin 2 := ⟨ci_X4_isCodeBegin, iz_5, nh_5, pd_11, Nat.le_of_ble_eq_true rfl⟩
set_option maxRecDepth 100000 in
theorem ms_X4_isCodeBegin : sg_ok (.static yX4_isCodeBegin) := ⟨ts_2_32.1.2.2.1.2, rfl⟩
set_option maxRecDepth 100000 in
theorem ci_X4_isLow : sg_ok (.code yX4_isLow cX4_isLow 1 (some .boolean)) := ⟨ts_2_48.1.1.1.2.1, rfl⟩
theorem cb_X4_isLow : sg_cb mi_X4_isLow 1 := ⟨ci_X4_isLow, iz_5, nh_5, pd_4, Nat.le_of_ble_eq_true rfl⟩
set_option maxRecDepth 100000 in
theorem ms_X4_isLow : sg_ok (.static yX4_isLow) := ⟨ts_2_48.1.1.1.1.2, rfl⟩
set_option maxRecDepth 100000 in
theorem ci_X4_isHigh : sg_ok (.code yX4_isHigh cX4_isHigh 1 (some .boolean)) := ⟨ts_2_48.1.1.2.2.2, rfl⟩
theorem cb_X4_isHigh : sg_cb mi_X4_isHigh 1 := ⟨ci_X4_isHigh, iz_5, nh_5, pd_4, Nat.le_of_ble_eq_true rfl⟩
set_option maxRecDepth 100000 in
theorem ms_X4_isHigh : sg_ok (.static yX4_isHigh) := ⟨ts_2_48.1.1.2.2.1, rfl⟩
set_option maxRecDepth 100000 in
theorem ci_X4_codeFrom : sg_ok (.code yX4_codeFrom cX4_codeFrom 3 (some .int)) := ⟨ts_2_48.1.2.1.2.2, rfl⟩
theorem pd_12 : (parseMethodDescriptor "(LSignkinds$Line;I)I").map (fun d => d.parameters.length) = some 2 := by decide +kernel
theorem cb_X4_codeFrom : sg_cb mi_X4_codeFrom 2 := ⟨ci_X4_codeFrom, iz_5, nh_5, pd_12, Nat.le_of_ble_eq_true rfl⟩
set_option maxRecDepth 100000 in
theorem ms_X4_codeFrom : sg_ok (.static yX4_codeFrom) := ⟨ts_2_48.1.2.1.2.1, rfl⟩
set_option maxRecDepth 100000 in
theorem ci_X4_codeOf : sg_ok (.code yX4_codeOf cX4_codeOf 2 (some .int)) := ⟨ts_2_48.1.2.2.2.1, rfl⟩
theorem cb_X4_codeOf : sg_cb mi_X4_codeOf 2 := ⟨ci_X4_codeOf, iz_5, nh_5, pd_3, Nat.le_of_ble_eq_true rfl⟩
set_option maxRecDepth 100000 in
theorem ms_X4_codeOf : sg_ok (.static yX4_codeOf) := ⟨ts_2_48.1.2.2.1.2, rfl⟩
set_option maxRecDepth 100000 in
theorem ci_X4_standsAt : sg_ok (.code yX4_standsAt cX4_standsAt 3 (some .boolean)) := ⟨ts_2_64.1.1.1.1.2, rfl⟩
theorem pd_13 : (parseMethodDescriptor "(LSignkinds$Line;II)Z").map (fun d => d.parameters.length) = some 3 := by decide +kernel
theorem cb_X4_standsAt : sg_cb mi_X4_standsAt 3 := ⟨ci_X4_standsAt, iz_5, nh_5, pd_13, Nat.le_of_ble_eq_true rfl⟩
set_option maxRecDepth 100000 in
theorem ms_X4_standsAt : sg_ok (.static yX4_standsAt) := ⟨ts_2_64.1.1.1.1.1, rfl⟩
set_option maxRecDepth 100000 in
theorem ci_X4_highOf : sg_ok (.code yX4_highOf cX4_highOf 1 (some .int)) := ⟨ts_2_64.1.1.2.1.2, rfl⟩
theorem cb_X4_highOf : sg_cb mi_X4_highOf 1 := ⟨ci_X4_highOf, iz_5, nh_5, pd_6, Nat.le_of_ble_eq_true rfl⟩
set_option maxRecDepth 100000 in
theorem ms_X4_highOf : sg_ok (.static yX4_highOf) := ⟨ts_2_64.1.1.2.1.1, rfl⟩
set_option maxRecDepth 100000 in
theorem ci_X4_lowOf : sg_ok (.code yX4_lowOf cX4_lowOf 1 (some .int)) := ⟨ts_2_64.1.2.1.1.1, rfl⟩
theorem cb_X4_lowOf : sg_cb mi_X4_lowOf 1 := ⟨ci_X4_lowOf, iz_5, nh_5, pd_6, Nat.le_of_ble_eq_true rfl⟩
set_option maxRecDepth 100000 in
theorem ms_X4_lowOf : sg_ok (.static yX4_lowOf) := ⟨ts_2_64.1.1.2.2.2, rfl⟩
set_option maxRecDepth 100000 in
theorem ci_X5_digest : sg_ok (.code yX5_digest cX5_digest 4 (some .long)) := ⟨ts_2_64.1.2.2.1.2, rfl⟩
theorem pd_14 : (parseMethodDescriptor "()J").map (fun d => d.parameters.length) = some 0 := by decide +kernel
theorem cb_X5_digest : sg_cb mi_X5_digest 0 := ⟨ci_X5_digest, iz_0, nh_0, pd_14, Nat.le_of_ble_eq_true rfl⟩
set_option maxRecDepth 100000 in
theorem mn_X5_digest : sg_ok (.instanceMethod yX5_digest) := ⟨ts_2_64.1.2.1.2.2, rfl⟩
set_option maxRecDepth 100000 in
theorem mv_X5_digest : sg_ok (.selects RX5 yX5_digest yX5_digest) := ⟨ts_2_64.1.2.2.1.1, rfl⟩
set_option maxRecDepth 100000 in
theorem ci_X5_withRow : sg_ok (.code yX5_withRow cX5_withRow 9 (some .long)) := ⟨ts_2_80.1.1.1.2.1, rfl⟩
theorem pd_15 : (parseMethodDescriptor "(JI)J").map (fun d => d.parameters.length) = some 2 := by decide +kernel
theorem cb_X5_withRow : sg_cb mi_X5_withRow 2 := ⟨ci_X5_withRow, iz_0, nh_0, pd_15, Nat.le_of_ble_eq_true rfl⟩
set_option maxRecDepth 100000 in
theorem mn_X5_withRow : sg_ok (.instanceMethod yX5_withRow) := ⟨ts_2_80.1.1.1.1.2, rfl⟩
theorem mv_X5_withRow : sg_ok (.selects RX5 yX5_withRow yX5_withRow) := sg_oks 3 (by decide +kernel)
set_option maxRecDepth 100000 in
theorem ci_X5_with : sg_ok (.code yX5_with cX5_with 4 (some .long)) := ⟨ts_2_80.1.1.2.1.2, rfl⟩
theorem pd_16 : (parseMethodDescriptor "(JJ)J").map (fun d => d.parameters.length) = some 2 := by decide +kernel
theorem cb_X5_with : sg_cb mi_X5_with 2 := ⟨ci_X5_with, iz_0, nh_0, pd_16, Nat.le_of_ble_eq_true rfl⟩
set_option maxRecDepth 100000 in
theorem ms_X5_with : sg_ok (.static yX5_with) := ⟨ts_2_80.1.1.2.1.1, rfl⟩
set_option maxRecDepth 100000 in
theorem ci_X2_kindsOf : sg_ok (.code yX2_kindsOf cX2_kindsOf 3 (some .int)) := ⟨ts_2_80.1.2.1.1.2, rfl⟩
theorem cb_X2_kindsOf : sg_cb mi_X2_kindsOf 1 := ⟨ci_X2_kindsOf, iz_4, nh_4, pd_6, Nat.le_of_ble_eq_true rfl⟩
set_option maxRecDepth 100000 in
theorem ms_X2_kindsOf : sg_ok (.static yX2_kindsOf) := ⟨ts_2_80.1.2.1.1.1, rfl⟩
set_option maxRecDepth 100000 in
theorem ci_X2_signValue : sg_ok (.code yX2_signValue cX2_signValue 1 (some .int)) := ⟨ts_2_80.1.2.2.2.1, rfl⟩
theorem cb_X2_signValue : sg_cb mi_X2_signValue 1 := ⟨ci_X2_signValue, iz_4, nh_4, pd_6, Nat.le_of_ble_eq_true rfl⟩
set_option maxRecDepth 100000 in
theorem ms_X2_signValue : sg_ok (.static yX2_signValue) := ⟨ts_2_80.1.2.2.1.2, rfl⟩
set_option maxRecDepth 100000 in
theorem ci_X5_count : sg_ok (.code yX5_count cX5_count 6 (some .int)) := ⟨ts_2_96.1.1.1.2.2, rfl⟩
theorem cb_X5_count : sg_cb mi_X5_count 2 := ⟨ci_X5_count, iz_0, nh_0, pd_3, Nat.le_of_ble_eq_true rfl⟩
set_option maxRecDepth 100000 in
theorem mn_X5_count : sg_ok (.instanceMethod yX5_count) := ⟨ts_2_96.1.1.1.1.2, rfl⟩
set_option maxRecDepth 100000 in
theorem mv_X5_count : sg_ok (.selects RX5 yX5_count yX5_count) := ⟨ts_2_96.1.1.1.2.1, rfl⟩
set_option maxRecDepth 100000 in
theorem ci_X5_checkKind : sg_ok (.code yX5_checkKind cX5_checkKind 1 (none : Option Jvm.ClassFile.FieldType)) := ⟨ts_2_96.1.1.2.2.1, rfl⟩
theorem cb_X5_checkKind : sg_cb mi_X5_checkKind 1 := ⟨ci_X5_checkKind, iz_0, nh_0, pd_1, Nat.le_of_ble_eq_true rfl⟩
set_option maxRecDepth 100000 in
theorem ms_X5_checkKind : sg_ok (.static yX5_checkKind) := ⟨ts_2_96.1.1.2.1.2, rfl⟩
set_option maxRecDepth 100000 in
theorem ci_X5_told : sg_ok (.code yX5_told cX5_told 7 (some .int)) := ⟨ts_2_112.1.2.1.2.2, rfl⟩
theorem cb_X5_told : sg_cb mi_X5_told 2 := ⟨ci_X5_told, iz_0, nh_0, pd_3, Nat.le_of_ble_eq_true rfl⟩
set_option maxRecDepth 100000 in
theorem mn_X5_told : sg_ok (.instanceMethod yX5_told) := ⟨ts_2_112.1.2.1.1.2, rfl⟩
set_option maxRecDepth 100000 in
theorem mv_X5_told : sg_ok (.selects RX5 yX5_told yX5_told) := ⟨ts_2_112.1.2.1.2.1, rfl⟩
set_option maxRecDepth 100000 in
theorem ci_X5_checkRadix : sg_ok (.code yX5_checkRadix cX5_checkRadix 1 (none : Option Jvm.ClassFile.FieldType)) := ⟨ts_2_112.1.2.2.2.1, rfl⟩
theorem cb_X5_checkRadix : sg_cb mi_X5_checkRadix 1 := ⟨ci_X5_checkRadix, iz_0, nh_0, pd_1, Nat.le_of_ble_eq_true rfl⟩
set_option maxRecDepth 100000 in
theorem ms_X5_checkRadix : sg_ok (.static yX5_checkRadix) := ⟨ts_2_112.1.2.2.1.2, rfl⟩
set_option maxRecDepth 100000 in
theorem ci_X5_values : sg_ok (.code yX5_values cX5_values 6 (some .int)) := ⟨ts_2_128.1.1.2.1.2, rfl⟩
theorem cb_X5_values : sg_cb mi_X5_values 1 := ⟨ci_X5_values, iz_0, nh_0, pd_6, Nat.le_of_ble_eq_true rfl⟩
set_option maxRecDepth 100000 in
theorem mn_X5_values : sg_ok (.instanceMethod yX5_values) := ⟨ts_2_128.1.1.1.2.2, rfl⟩
set_option maxRecDepth 100000 in
theorem mv_X5_values : sg_ok (.selects RX5 yX5_values yX5_values) := ⟨ts_2_128.1.1.2.1.1, rfl⟩
set_option maxRecDepth 100000 in
theorem ci_X5_words : sg_ok (.code yX5_words cX5_words 5 (some .int)) := ⟨ts_2_128.1.2.1.1.2, rfl⟩
theorem cb_X5_words : sg_cb mi_X5_words 1 := ⟨ci_X5_words, iz_0, nh_0, pd_6, Nat.le_of_ble_eq_true rfl⟩
set_option maxRecDepth 100000 in
theorem mn_X5_words : sg_ok (.instanceMethod yX5_words) := ⟨ts_2_128.1.1.2.2.2, rfl⟩
set_option maxRecDepth 100000 in
theorem mv_X5_words : sg_ok (.selects RX5 yX5_words yX5_words) := ⟨ts_2_128.1.2.1.1.1, rfl⟩
set_option maxRecDepth 100000 in
theorem ci_X5_isWordBegin : sg_ok (.code yX5_isWordBegin cX5_isWordBegin 2 (some .boolean)) := ⟨ts_2_128.1.2.2.1.1, rfl⟩
theorem cb_X5_isWordBegin : sg_cb mi_X5_isWordBegin 2 := ⟨ci_X5_isWordBegin, iz_0, nh_0, pd_11, Nat.le_of_ble_eq_true rfl⟩
set_option maxRecDepth 100000 in
theorem ms_X5_isWordBegin : sg_ok (.static yX5_isWordBegin) := ⟨ts_2_128.1.2.1.2.2, rfl⟩
set_option maxRecDepth 100000 in
theorem ci_X5_order : sg_ok (.code yX5_order cX5_order 6 (some .int)) := ⟨ts_2_144.1.1.1.1.1, rfl⟩
theorem cb_X5_order : sg_cb mi_X5_order 2 := ⟨ci_X5_order, iz_0, nh_0, pd_3, Nat.le_of_ble_eq_true rfl⟩
set_option maxRecDepth 100000 in
theorem mn_X5_order : sg_ok (.instanceMethod yX5_order) := ⟨ts_2_128.1.2.2.2.1, rfl⟩
set_option maxRecDepth 100000 in
theorem mv_X5_order : sg_ok (.selects RX5 yX5_order yX5_order) := ⟨ts_2_128.1.2.2.2.2, rfl⟩
set_option maxRecDepth 100000 in
theorem ci_X5_ahead : sg_ok (.code yX5_ahead cX5_ahead 2 (some .int)) := ⟨ts_2_144.1.1.1.2.2, rfl⟩
theorem cb_X5_ahead : sg_cb mi_X5_ahead 2 := ⟨ci_X5_ahead, iz_0, nh_0, pd_3, Nat.le_of_ble_eq_true rfl⟩
set_option maxRecDepth 100000 in
theorem ms_X5_ahead : sg_ok (.static yX5_ahead) := ⟨ts_2_144.1.1.1.2.1, rfl⟩
set_option maxRecDepth 100000 in
theorem ci_X5_isAlike : sg_ok (.code yX5_isAlike cX5_isAlike 6 (some .boolean)) := ⟨ts_2_144.1.1.2.2.2, rfl⟩
theorem cb_X5_isAlike : sg_cb mi_X5_isAlike 2 := ⟨ci_X5_isAlike, iz_0, nh_0, pd_10, Nat.le_of_ble_eq_true rfl⟩
set_option maxRecDepth 100000 in
theorem mn_X5_isAlike : sg_ok (.instanceMethod yX5_isAlike) := ⟨ts_2_144.1.1.2.1.2, rfl⟩
set_option maxRecDepth 100000 in
theorem mv_X5_isAlike : sg_ok (.selects RX5 yX5_isAlike yX5_isAlike) := ⟨ts_2_144.1.1.2.2.1, rfl⟩
set_option maxRecDepth 100000 in
theorem ci_X5_withTrack : sg_ok (.code yX5_withTrack cX5_withTrack 10 (some .long)) := ⟨ts_2_144.1.2.1.2.2, rfl⟩
theorem cb_X5_withTrack : sg_cb mi_X5_withTrack 2 := ⟨ci_X5_withTrack, iz_0, nh_0, pd_15, Nat.le_of_ble_eq_true rfl⟩
set_option maxRecDepth 100000 in
theorem mn_X5_withTrack : sg_ok (.instanceMethod yX5_withTrack) := ⟨ts_2_144.1.2.1.2.1, rfl⟩
theorem mv_X5_withTrack : sg_ok (.selects RX5 yX5_withTrack yX5_withTrack) := sg_oks 4 (by decide +kernel)
set_option maxRecDepth 100000 in
theorem ci_X4_howMany : sg_ok (.code yX4_howMany cX4_howMany 4 (some .int)) := ⟨ts_2_144.1.2.2.2.1, rfl⟩
theorem cb_X4_howMany : sg_cb mi_X4_howMany 2 := ⟨ci_X4_howMany, iz_5, nh_5, pd_12, Nat.le_of_ble_eq_true rfl⟩
set_option maxRecDepth 100000 in
theorem ms_X4_howMany : sg_ok (.static yX4_howMany) := ⟨ts_2_144.1.2.2.1.2, rfl⟩
set_option maxRecDepth 100000 in
theorem ci_X4_isCounted : sg_ok (.code yX4_isCounted cX4_isCounted 2 (some .boolean)) := ⟨ts_2_160.1.1.1.1.2, rfl⟩
theorem cb_X4_isCounted : sg_cb mi_X4_isCounted 2 := ⟨ci_X4_isCounted, iz_5, nh_5, pd_10, Nat.le_of_ble_eq_true rfl⟩
set_option maxRecDepth 100000 in
theorem ms_X4_isCounted : sg_ok (.static yX4_isCounted) := ⟨ts_2_160.1.1.1.1.1, rfl⟩
set_option maxRecDepth 100000 in
theorem ci_X4_isHalf : sg_ok (.code yX4_isHalf cX4_isHalf 1 (some .boolean)) := ⟨ts_2_160.1.1.2.1.1, rfl⟩
theorem cb_X4_isHalf : sg_cb mi_X4_isHalf 1 := ⟨ci_X4_isHalf, iz_5, nh_5, pd_4, Nat.le_of_ble_eq_true rfl⟩
set_option maxRecDepth 100000 in
theorem ms_X4_isHalf : sg_ok (.static yX4_isHalf) := ⟨ts_2_160.1.1.1.2.2, rfl⟩
set_option maxRecDepth 100000 in
theorem ci_X5_ofUnit : sg_ok (.code yX5_ofUnit cX5_ofUnit 3 (some .int)) := ⟨ts_2_160.1.2.1.1.1, rfl⟩
theorem cb_X5_ofUnit : sg_cb mi_X5_ofUnit 2 := ⟨ci_X5_ofUnit, iz_0, nh_0, pd_3, Nat.le_of_ble_eq_true rfl⟩
set_option maxRecDepth 100000 in
theorem mn_X5_ofUnit : sg_ok (.instanceMethod yX5_ofUnit) := ⟨ts_2_160.1.1.2.2.1, rfl⟩
set_option maxRecDepth 100000 in
theorem mv_X5_ofUnit : sg_ok (.selects RX5 yX5_ofUnit yX5_ofUnit) := ⟨ts_2_160.1.1.2.2.2, rfl⟩
set_option maxRecDepth 100000 in
theorem ci_X5_checkUnit : sg_ok (.code yX5_checkUnit cX5_checkUnit 1 (none : Option Jvm.ClassFile.FieldType)) := ⟨ts_2_160.1.2.1.2.2, rfl⟩
theorem cb_X5_checkUnit : sg_cb mi_X5_checkUnit 1 := ⟨ci_X5_checkUnit, iz_0, nh_0, pd_1, Nat.le_of_ble_eq_true rfl⟩
set_option maxRecDepth 100000 in
theorem ms_X5_checkUnit : sg_ok (.static yX5_checkUnit) := ⟨ts_2_160.1.2.1.2.1, rfl⟩
set_option maxRecDepth 100000 in
theorem ci_X4_turned : sg_ok (.code yX4_turned cX4_turned 1 (some .int)) := ⟨ts_2_176.1.1.1.2.1, rfl⟩
theorem cb_X4_turned : sg_cb mi_X4_turned 1 := ⟨ci_X4_turned, iz_5, nh_5, pd_6, Nat.le_of_ble_eq_true rfl⟩
set_option maxRecDepth 100000 in
theorem ms_X4_turned : sg_ok (.static yX4_turned) := ⟨ts_2_176.1.1.1.1.2, rfl⟩
set_option maxRecDepth 100000 in
theorem ci_X5_house : sg_ok (.code yX5_house cX5_house 2 (some .int)) := ⟨ts_2_176.1.2.1.1.1, rfl⟩
theorem cb_X5_house : sg_cb mi_X5_house 1 := ⟨ci_X5_house, iz_0, nh_0, pd_6, Nat.le_of_ble_eq_true rfl⟩
set_option maxRecDepth 100000 in
theorem mn_X5_house : sg_ok (.instanceMethod yX5_house) := ⟨ts_2_176.1.1.2.2.1, rfl⟩
set_option maxRecDepth 100000 in
theorem mv_X5_house : sg_ok (.selects RX5 yX5_house yX5_house) := ⟨ts_2_176.1.1.2.2.2, rfl⟩
set_option maxRecDepth 100000 in
theorem ci_X3_howManySigns : sg_ok (.code yX3_howManySigns cX3_howManySigns 3 (some .int)) := ⟨ts_2_176.1.2.2.1.1, rfl⟩
theorem cb_X3_howManySigns : sg_cb mi_X3_howManySigns 0 := ⟨ci_X3_howManySigns, iz_1, nh_1, pd_2, Nat.le_of_ble_eq_true rfl⟩
set_option maxRecDepth 100000 in
theorem mn_X3_howManySigns : sg_ok (.instanceMethod yX3_howManySigns) := ⟨ts_2_176.1.2.1.2.1, rfl⟩
set_option maxRecDepth 100000 in
theorem mv_X3_howManySigns : sg_ok (.selects RX3 yX3_howManySigns yX3_howManySigns) := ⟨ts_2_176.1.2.1.2.2, rfl⟩
set_option maxRecDepth 100000 in
theorem ci_X3_howManyUnits : sg_ok (.code yX3_howManyUnits cX3_howManyUnits 3 (some .int)) := ⟨ts_2_192.1.1.1.1.2, rfl⟩
theorem cb_X3_howManyUnits : sg_cb mi_X3_howManyUnits 0 := ⟨ci_X3_howManyUnits, iz_1, nh_1, pd_2, Nat.le_of_ble_eq_true rfl⟩
set_option maxRecDepth 100000 in
theorem mn_X3_howManyUnits : sg_ok (.instanceMethod yX3_howManyUnits) := ⟨ts_2_176.1.2.2.2.2, rfl⟩
set_option maxRecDepth 100000 in
theorem mv_X3_howManyUnits : sg_ok (.selects RX3 yX3_howManyUnits yX3_howManyUnits) := ⟨ts_2_192.1.1.1.1.1, rfl⟩
set_option maxRecDepth 100000 in
theorem ci_X1_size : sg_ok (.code yX1_size cX1_size 1 (some .int)) := ⟨ts_2_192.1.1.2.1.2, rfl⟩
theorem cb_X1_size : sg_cb mi_X1_size 0 := ⟨ci_X1_size, iz_3, nh_3, pd_2, Nat.le_of_ble_eq_true rfl⟩
set_option maxRecDepth 100000 in
theorem mn_X1_size : sg_ok (.instanceMethod yX1_size) := ⟨ts_2_192.1.1.1.2.2, rfl⟩
set_option maxRecDepth 100000 in
theorem mv_X1_size : sg_ok (.selects RX1 yX1_size yX1_size) := ⟨ts_2_192.1.1.2.1.1, rfl⟩
set_option maxRecDepth 100000 in
theorem iz_6 : sg_ok (.initialized RX6) := ⟨ts_1_0.1.2.1.1.2, rfl⟩
set_option maxRecDepth 100000 in
theorem ci_X6_init : sg_ok (.code yX6_init cX6_init 1 (none : Option Jvm.ClassFile.FieldType)) := ⟨ts_2_192.1.2.1.2.2, rfl⟩
theorem nh_6 : RX6 ≠ "java/lang/invoke/MethodHandle" ∧ RX6 ≠ "java/lang/invoke/VarHandle" := ⟨by decide +kernel, by decide +kernel⟩
theorem cb_X6_init : sg_cb mi_X6_init 0 := ⟨ci_X6_init, iz_6, nh_6, pd_0, Nat.le_of_ble_eq_true rfl⟩
set_option maxRecDepth 100000 in
theorem mn_X6_init : sg_ok (.instanceMethod yX6_init) := ⟨ts_2_192.1.2.1.2.1, rfl⟩
set_option maxRecDepth 100000 in
theorem ms_L_lay : sg_ok (.static yL_lay) := ⟨ts_2_208.1.1.2.1.2, rfl⟩
set_option maxRecDepth 100000 in
theorem ci_X5_lay : sg_ok (.code yX5_lay cX5_lay 8 (some .int)) := ⟨ts_2_208.1.2.2.1.2, rfl⟩
theorem pd_17 : (parseMethodDescriptor "(IIIII)I").map (fun d => d.parameters.length) = some 5 := by decide +kernel
theorem cb_X5_lay : sg_cb mi_X5_lay 5 := ⟨ci_X5_lay, iz_0, nh_0, pd_17, Nat.le_of_ble_eq_true rfl⟩
set_option maxRecDepth 100000 in
theorem mn_X5_lay : sg_ok (.instanceMethod yX5_lay) := ⟨ts_2_208.1.2.1.2.2, rfl⟩
set_option maxRecDepth 100000 in
theorem mv_X5_lay : sg_ok (.selects RX5 yX5_lay yX5_lay) := ⟨ts_2_208.1.2.2.1.1, rfl⟩
set_option maxRecDepth 100000 in
theorem ci_X5_laid : sg_ok (.code yX5_laid cX5_laid 1 (some .int)) := ⟨ts_2_224.1.1.1.1.1, rfl⟩
theorem cb_X5_laid : sg_cb mi_X5_laid 1 := ⟨ci_X5_laid, iz_0, nh_0, pd_6, Nat.le_of_ble_eq_true rfl⟩
set_option maxRecDepth 100000 in
theorem ms_X5_laid : sg_ok (.static yX5_laid) := ⟨ts_2_208.1.2.2.2.2, rfl⟩
set_option maxRecDepth 100000 in
theorem ci_X5_checkSign : sg_ok (.code yX5_checkSign cX5_checkSign 1 (none : Option Jvm.ClassFile.FieldType)) := ⟨ts_2_224.1.1.1.2.2, rfl⟩
theorem cb_X5_checkSign : sg_cb mi_X5_checkSign 1 := ⟨ci_X5_checkSign, iz_0, nh_0, pd_1, Nat.le_of_ble_eq_true rfl⟩
set_option maxRecDepth 100000 in
theorem ms_X5_checkSign : sg_ok (.static yX5_checkSign) := ⟨ts_2_224.1.1.1.2.1, rfl⟩
set_option maxRecDepth 100000 in
theorem ci_X2_isSign : sg_ok (.code yX2_isSign cX2_isSign 1 (some .boolean)) := ⟨ts_2_224.1.1.2.2.1, rfl⟩
theorem cb_X2_isSign : sg_cb mi_X2_isSign 1 := ⟨ci_X2_isSign, iz_4, nh_4, pd_4, Nat.le_of_ble_eq_true rfl⟩
set_option maxRecDepth 100000 in
theorem ms_X2_isSign : sg_ok (.static yX2_isSign) := ⟨ts_2_224.1.1.2.1.2, rfl⟩
set_option maxRecDepth 100000 in
theorem ci_X0_hasRoomFor : sg_ok (.code yX0_hasRoomFor cX0_hasRoomFor 2 (some .boolean)) := ⟨ts_2_224.1.2.1.2.2, rfl⟩
theorem cb_X0_hasRoomFor : sg_cb mi_X0_hasRoomFor 1 := ⟨ci_X0_hasRoomFor, iz_2, nh_2, pd_4, Nat.le_of_ble_eq_true rfl⟩
set_option maxRecDepth 100000 in
theorem mn_X0_hasRoomFor : sg_ok (.instanceMethod yX0_hasRoomFor) := ⟨ts_2_224.1.2.1.1.2, rfl⟩
set_option maxRecDepth 100000 in
theorem mv_X0_hasRoomFor : sg_ok (.selects RX0 yX0_hasRoomFor yX0_hasRoomFor) := ⟨ts_2_224.1.2.1.2.1, rfl⟩
set_option maxRecDepth 100000 in
theorem ci_X1_keep : sg_ok (.code yX1_keep cX1_keep 4 (none : Option Jvm.ClassFile.FieldType)) := ⟨ts_3_0.1.2.2.2.2, rfl⟩
theorem pd_18 : (parseMethodDescriptor "(LSignkinds$State;)V").map (fun d => d.parameters.length) = some 1 := by decide +kernel
theorem cb_X1_keep : sg_cb mi_X1_keep 1 := ⟨ci_X1_keep, iz_3, nh_3, pd_18, Nat.le_of_ble_eq_true rfl⟩
set_option maxRecDepth 100000 in
theorem mn_X1_keep : sg_ok (.instanceMethod yX1_keep) := ⟨ts_3_0.1.2.2.1.2, rfl⟩
set_option maxRecDepth 100000 in
theorem mv_X1_keep : sg_ok (.selects RX1 yX1_keep yX1_keep) := ⟨ts_3_0.1.2.2.2.1, rfl⟩
set_option maxRecDepth 100000 in
theorem ci_X3_become : sg_ok (.code yX3_become cX3_become 3 (none : Option Jvm.ClassFile.FieldType)) := ⟨ts_3_16.1.1.1.2.2, rfl⟩
theorem cb_X3_become : sg_cb mi_X3_become 1 := ⟨ci_X3_become, iz_1, nh_1, pd_18, Nat.le_of_ble_eq_true rfl⟩
set_option maxRecDepth 100000 in
theorem mn_X3_become : sg_ok (.instanceMethod yX3_become) := ⟨ts_3_16.1.1.1.1.2, rfl⟩
set_option maxRecDepth 100000 in
theorem mv_X3_become : sg_ok (.selects RX3 yX3_become yX3_become) := ⟨ts_3_16.1.1.1.2.1, rfl⟩
set_option maxRecDepth 100000 in
theorem ci_X0_become : sg_ok (.code yX0_become cX0_become 3 (none : Option Jvm.ClassFile.FieldType)) := ⟨ts_3_16.1.1.2.2.2, rfl⟩
theorem pd_19 : (parseMethodDescriptor "(LSignkinds$Line;)V").map (fun d => d.parameters.length) = some 1 := by decide +kernel
theorem cb_X0_become : sg_cb mi_X0_become 1 := ⟨ci_X0_become, iz_2, nh_2, pd_19, Nat.le_of_ble_eq_true rfl⟩
set_option maxRecDepth 100000 in
theorem mn_X0_become : sg_ok (.instanceMethod yX0_become) := ⟨ts_3_16.1.1.2.1.2, rfl⟩
set_option maxRecDepth 100000 in
theorem mv_X0_become : sg_ok (.selects RX0 yX0_become yX0_become) := ⟨ts_3_16.1.1.2.2.1, rfl⟩
set_option maxRecDepth 100000 in
theorem ci_X0_add : sg_ok (.code yX0_add cX0_add 2 (none : Option Jvm.ClassFile.FieldType)) := ⟨ts_3_16.1.2.2.1.1, rfl⟩
theorem cb_X0_add : sg_cb mi_X0_add 1 := ⟨ci_X0_add, iz_2, nh_2, pd_1, Nat.le_of_ble_eq_true rfl⟩
set_option maxRecDepth 100000 in
theorem mn_X0_add : sg_ok (.instanceMethod yX0_add) := ⟨ts_3_16.1.2.1.2.1, rfl⟩
set_option maxRecDepth 100000 in
theorem mv_X0_add : sg_ok (.selects RX0 yX0_add yX0_add) := ⟨ts_3_16.1.2.1.2.2, rfl⟩
set_option maxRecDepth 100000 in
theorem ci_X5_addLaid : sg_ok (.code yX5_addLaid cX5_addLaid 2 (none : Option Jvm.ClassFile.FieldType)) := ⟨ts_3_16.1.2.2.2.2, rfl⟩
theorem pd_20 : (parseMethodDescriptor "(LSignkinds$Line;I)V").map (fun d => d.parameters.length) = some 2 := by decide +kernel
theorem cb_X5_addLaid : sg_cb mi_X5_addLaid 2 := ⟨ci_X5_addLaid, iz_0, nh_0, pd_20, Nat.le_of_ble_eq_true rfl⟩
set_option maxRecDepth 100000 in
theorem ms_X5_addLaid : sg_ok (.static yX5_addLaid) := ⟨ts_3_16.1.2.2.2.1, rfl⟩
set_option maxRecDepth 100000 in
theorem ms_L_drop : sg_ok (.static yL_drop) := ⟨ts_3_32.1.1.1.2.1, rfl⟩
set_option maxRecDepth 100000 in
theorem ci_X5_drop : sg_ok (.code yX5_drop cX5_drop 3 (some .int)) := ⟨ts_3_32.1.1.2.2.2, rfl⟩
theorem cb_X5_drop : sg_cb mi_X5_drop 2 := ⟨ci_X5_drop, iz_0, nh_0, pd_3, Nat.le_of_ble_eq_true rfl⟩
set_option maxRecDepth 100000 in
theorem mn_X5_drop : sg_ok (.instanceMethod yX5_drop) := ⟨ts_3_32.1.1.2.1.2, rfl⟩
set_option maxRecDepth 100000 in
theorem mv_X5_drop : sg_ok (.selects RX5 yX5_drop yX5_drop) := ⟨ts_3_32.1.1.2.2.1, rfl⟩
set_option maxRecDepth 100000 in
theorem ci_X5_shorten : sg_ok (.code yX5_shorten cX5_shorten 3 (some .int)) := ⟨ts_3_32.1.2.1.2.2, rfl⟩
theorem cb_X5_shorten : sg_cb mi_X5_shorten 2 := ⟨ci_X5_shorten, iz_0, nh_0, pd_12, Nat.le_of_ble_eq_true rfl⟩
set_option maxRecDepth 100000 in
theorem mn_X5_shorten : sg_ok (.instanceMethod yX5_shorten) := ⟨ts_3_32.1.2.1.2.1, rfl⟩
theorem mv_X5_shorten : sg_ok (.selects RX5 yX5_shorten yX5_shorten) := sg_oks 5 (by decide +kernel)
set_option maxRecDepth 100000 in
theorem ci_X0_takeAway : sg_ok (.code yX0_takeAway cX0_takeAway 2 (none : Option Jvm.ClassFile.FieldType)) := ⟨ts_3_48.1.1.1.1.1, rfl⟩
theorem cb_X0_takeAway : sg_cb mi_X0_takeAway 1 := ⟨ci_X0_takeAway, iz_2, nh_2, pd_1, Nat.le_of_ble_eq_true rfl⟩
set_option maxRecDepth 100000 in
theorem mn_X0_takeAway : sg_ok (.instanceMethod yX0_takeAway) := ⟨ts_3_32.1.2.2.2.1, rfl⟩
set_option maxRecDepth 100000 in
theorem mv_X0_takeAway : sg_ok (.selects RX0 yX0_takeAway yX0_takeAway) := ⟨ts_3_32.1.2.2.2.2, rfl⟩
set_option maxRecDepth 100000 in
theorem ms_L_copy : sg_ok (.static yL_copy) := ⟨ts_3_48.1.1.1.2.1, rfl⟩
set_option maxRecDepth 100000 in
theorem ci_X5_copy : sg_ok (.code yX5_copy cX5_copy 6 (some .int)) := ⟨ts_3_48.1.1.2.2.2, rfl⟩
theorem cb_X5_copy : sg_cb mi_X5_copy 2 := ⟨ci_X5_copy, iz_0, nh_0, pd_3, Nat.le_of_ble_eq_true rfl⟩
set_option maxRecDepth 100000 in
theorem mn_X5_copy : sg_ok (.instanceMethod yX5_copy) := ⟨ts_3_48.1.1.2.1.2, rfl⟩
set_option maxRecDepth 100000 in
theorem mv_X5_copy : sg_ok (.selects RX5 yX5_copy yX5_copy) := ⟨ts_3_48.1.1.2.2.1, rfl⟩
set_option maxRecDepth 100000 in
theorem ms_L_raise : sg_ok (.static yL_raise) := ⟨ts_3_48.1.2.1.2.1, rfl⟩
set_option maxRecDepth 100000 in
theorem ci_X5_raise : sg_ok (.code yX5_raise cX5_raise 6 (some .int)) := ⟨ts_3_48.1.2.2.2.2, rfl⟩
theorem cb_X5_raise : sg_cb mi_X5_raise 1 := ⟨ci_X5_raise, iz_0, nh_0, pd_6, Nat.le_of_ble_eq_true rfl⟩
set_option maxRecDepth 100000 in
theorem mn_X5_raise : sg_ok (.instanceMethod yX5_raise) := ⟨ts_3_48.1.2.2.1.2, rfl⟩
set_option maxRecDepth 100000 in
theorem mv_X5_raise : sg_ok (.selects RX5 yX5_raise yX5_raise) := ⟨ts_3_48.1.2.2.2.1, rfl⟩
set_option maxRecDepth 100000 in
theorem ci_X0_set : sg_ok (.code yX0_set cX0_set 3 (none : Option Jvm.ClassFile.FieldType)) := ⟨ts_3_64.1.1.1.2.2, rfl⟩
theorem pd_21 : (parseMethodDescriptor "(II)V").map (fun d => d.parameters.length) = some 2 := by decide +kernel
theorem cb_X0_set : sg_cb mi_X0_set 2 := ⟨ci_X0_set, iz_2, nh_2, pd_21, Nat.le_of_ble_eq_true rfl⟩
set_option maxRecDepth 100000 in
theorem mn_X0_set : sg_ok (.instanceMethod yX0_set) := ⟨ts_3_64.1.1.1.1.2, rfl⟩
set_option maxRecDepth 100000 in
theorem mv_X0_set : sg_ok (.selects RX0 yX0_set yX0_set) := ⟨ts_3_64.1.1.1.2.1, rfl⟩
set_option maxRecDepth 100000 in
theorem ms_L_sink : sg_ok (.static yL_sink) := ⟨ts_3_64.1.1.2.1.2, rfl⟩
set_option maxRecDepth 100000 in
theorem ci_X5_sink : sg_ok (.code yX5_sink cX5_sink 6 (some .int)) := ⟨ts_3_64.1.2.1.2.1, rfl⟩
theorem cb_X5_sink : sg_cb mi_X5_sink 1 := ⟨ci_X5_sink, iz_0, nh_0, pd_6, Nat.le_of_ble_eq_true rfl⟩
set_option maxRecDepth 100000 in
theorem mn_X5_sink : sg_ok (.instanceMethod yX5_sink) := ⟨ts_3_64.1.2.1.1.1, rfl⟩
set_option maxRecDepth 100000 in
theorem mv_X5_sink : sg_ok (.selects RX5 yX5_sink yX5_sink) := ⟨ts_3_64.1.2.1.1.2, rfl⟩
set_option maxRecDepth 100000 in
theorem ms_L_sieve : sg_ok (.static yL_sieve) := ⟨ts_3_64.1.2.2.1.1, rfl⟩
set_option maxRecDepth 100000 in
theorem ci_X5_sieve : sg_ok (.code yX5_sieve cX5_sieve 8 (some .int)) := ⟨ts_3_80.1.1.1.1.2, rfl⟩
theorem pd_22 : (parseMethodDescriptor "(IIZ)I").map (fun d => d.parameters.length) = some 3 := by decide +kernel
theorem cb_X5_sieve : sg_cb mi_X5_sieve 3 := ⟨ci_X5_sieve, iz_0, nh_0, pd_22, Nat.le_of_ble_eq_true rfl⟩
set_option maxRecDepth 100000 in
theorem mn_X5_sieve : sg_ok (.instanceMethod yX5_sieve) := ⟨ts_3_64.1.2.2.2.2, rfl⟩
set_option maxRecDepth 100000 in
theorem mv_X5_sieve : sg_ok (.selects RX5 yX5_sieve yX5_sieve) := ⟨ts_3_80.1.1.1.1.1, rfl⟩
set_option maxRecDepth 100000 in
theorem ms_L_strip : sg_ok (.static yL_strip) := ⟨ts_3_80.1.1.1.2.2, rfl⟩
set_option maxRecDepth 100000 in
theorem ci_X5_strip : sg_ok (.code yX5_strip cX5_strip 6 (some .int)) := ⟨ts_3_80.1.2.1.1.1, rfl⟩
theorem cb_X5_strip : sg_cb mi_X5_strip 1 := ⟨ci_X5_strip, iz_0, nh_0, pd_6, Nat.le_of_ble_eq_true rfl⟩
set_option maxRecDepth 100000 in
theorem mn_X5_strip : sg_ok (.instanceMethod yX5_strip) := ⟨ts_3_80.1.1.2.2.1, rfl⟩
set_option maxRecDepth 100000 in
theorem mv_X5_strip : sg_ok (.selects RX5 yX5_strip yX5_strip) := ⟨ts_3_80.1.1.2.2.2, rfl⟩
set_option maxRecDepth 100000 in
theorem ci_X0_narrow : sg_ok (.code yX0_narrow cX0_narrow 4 (none : Option Jvm.ClassFile.FieldType)) := ⟨ts_3_80.1.2.2.1.1, rfl⟩
theorem cb_X0_narrow : sg_cb mi_X0_narrow 2 := ⟨ci_X0_narrow, iz_2, nh_2, pd_21, Nat.le_of_ble_eq_true rfl⟩
set_option maxRecDepth 100000 in
theorem mn_X0_narrow : sg_ok (.instanceMethod yX0_narrow) := ⟨ts_3_80.1.2.1.2.1, rfl⟩
set_option maxRecDepth 100000 in
theorem mv_X0_narrow : sg_ok (.selects RX0 yX0_narrow yX0_narrow) := ⟨ts_3_80.1.2.1.2.2, rfl⟩
set_option maxRecDepth 100000 in
theorem ms_L_turn : sg_ok (.static yL_turn) := ⟨ts_3_80.1.2.2.2.1, rfl⟩
set_option maxRecDepth 100000 in
theorem ci_X5_turn : sg_ok (.code yX5_turn cX5_turn 3 (some .int)) := ⟨ts_3_96.1.1.1.2.2, rfl⟩
theorem cb_X5_turn : sg_cb mi_X5_turn 1 := ⟨ci_X5_turn, iz_0, nh_0, pd_6, Nat.le_of_ble_eq_true rfl⟩
set_option maxRecDepth 100000 in
theorem mn_X5_turn : sg_ok (.instanceMethod yX5_turn) := ⟨ts_3_96.1.1.1.1.2, rfl⟩
set_option maxRecDepth 100000 in
theorem mv_X5_turn : sg_ok (.selects RX5 yX5_turn yX5_turn) := ⟨ts_3_96.1.1.1.2.1, rfl⟩
set_option maxRecDepth 100000 in
theorem ci_X0_turnRound : sg_ok (.code yX0_turnRound cX0_turnRound 4 (none : Option Jvm.ClassFile.FieldType)) := ⟨ts_3_96.1.1.2.2.2, rfl⟩
theorem cb_X0_turnRound : sg_cb mi_X0_turnRound 0 := ⟨ci_X0_turnRound, iz_2, nh_2, pd_0, Nat.le_of_ble_eq_true rfl⟩
set_option maxRecDepth 100000 in
theorem mn_X0_turnRound : sg_ok (.instanceMethod yX0_turnRound) := ⟨ts_3_96.1.1.2.1.2, rfl⟩
set_option maxRecDepth 100000 in
theorem mv_X0_turnRound : sg_ok (.selects RX0 yX0_turnRound yX0_turnRound) := ⟨ts_3_96.1.1.2.2.1, rfl⟩
set_option maxRecDepth 100000 in
theorem ms_L_write : sg_ok (.static yL_write) := ⟨ts_3_96.1.2.1.2.1, rfl⟩
set_option maxRecDepth 100000 in
theorem ci_X5_write : sg_ok (.code yX5_write cX5_write 7 (some .int)) := ⟨ts_3_96.1.2.2.2.2, rfl⟩
theorem pd_23 : (parseMethodDescriptor "(III)I").map (fun d => d.parameters.length) = some 3 := by decide +kernel
theorem cb_X5_write : sg_cb mi_X5_write 3 := ⟨ci_X5_write, iz_0, nh_0, pd_23, Nat.le_of_ble_eq_true rfl⟩
set_option maxRecDepth 100000 in
theorem mn_X5_write : sg_ok (.instanceMethod yX5_write) := ⟨ts_3_96.1.2.2.1.2, rfl⟩
set_option maxRecDepth 100000 in
theorem mv_X5_write : sg_ok (.selects RX5 yX5_write yX5_write) := ⟨ts_3_96.1.2.2.2.1, rfl⟩
set_option maxRecDepth 100000 in
theorem ci_X2_digitsOf : sg_ok (.code yX2_digitsOf cX2_digitsOf 3 (some .int)) := ⟨ts_3_112.1.1.2.1.1, rfl⟩
theorem cb_X2_digitsOf : sg_cb mi_X2_digitsOf 2 := ⟨ci_X2_digitsOf, iz_4, nh_4, pd_3, Nat.le_of_ble_eq_true rfl⟩
set_option maxRecDepth 100000 in
theorem ms_X2_digitsOf : sg_ok (.static yX2_digitsOf) := ⟨ts_3_112.1.1.1.2.2, rfl⟩
set_option maxRecDepth 100000 in
theorem ci_X2_shifted : sg_ok (.code yX2_shifted cX2_shifted 5 (some .int)) := ⟨ts_3_112.1.1.2.2.2, rfl⟩
theorem cb_X2_shifted : sg_cb mi_X2_shifted 3 := ⟨ci_X2_shifted, iz_4, nh_4, pd_23, Nat.le_of_ble_eq_true rfl⟩
set_option maxRecDepth 100000 in
theorem ms_X2_shifted : sg_ok (.static yX2_shifted) := ⟨ts_3_112.1.1.2.2.1, rfl⟩
set_option maxRecDepth 100000 in
theorem ci_X2_digitNumber : sg_ok (.code yX2_digitNumber cX2_digitNumber 3 (some .int)) := ⟨ts_3_112.1.2.1.2.1, rfl⟩
theorem cb_X2_digitNumber : sg_cb mi_X2_digitNumber 3 := ⟨ci_X2_digitNumber, iz_4, nh_4, pd_23, Nat.le_of_ble_eq_true rfl⟩
set_option maxRecDepth 100000 in
theorem ms_X2_digitNumber : sg_ok (.static yX2_digitNumber) := ⟨ts_3_112.1.2.1.1.2, rfl⟩
set_option maxRecDepth 100000 in
theorem ms_L_spell : sg_ok (.static yL_spell) := ⟨ts_3_112.1.2.2.1.1, rfl⟩
set_option maxRecDepth 100000 in
theorem ci_X5_spell : sg_ok (.code yX5_spell cX5_spell 6 (some .int)) := ⟨ts_3_128.1.1.1.1.2, rfl⟩
theorem cb_X5_spell : sg_cb mi_X5_spell 2 := ⟨ci_X5_spell, iz_0, nh_0, pd_3, Nat.le_of_ble_eq_true rfl⟩
set_option maxRecDepth 100000 in
theorem mn_X5_spell : sg_ok (.instanceMethod yX5_spell) := ⟨ts_3_112.1.2.2.2.2, rfl⟩
set_option maxRecDepth 100000 in
theorem mv_X5_spell : sg_ok (.selects RX5 yX5_spell yX5_spell) := ⟨ts_3_128.1.1.1.1.1, rfl⟩
set_option maxRecDepth 100000 in
theorem ci_X5_checkAreTwo : sg_ok (.code yX5_checkAreTwo cX5_checkAreTwo 2 (none : Option Jvm.ClassFile.FieldType)) := ⟨ts_3_128.1.1.2.1.1, rfl⟩
theorem cb_X5_checkAreTwo : sg_cb mi_X5_checkAreTwo 2 := ⟨ci_X5_checkAreTwo, iz_0, nh_0, pd_21, Nat.le_of_ble_eq_true rfl⟩
set_option maxRecDepth 100000 in
theorem ms_X5_checkAreTwo : sg_ok (.static yX5_checkAreTwo) := ⟨ts_3_128.1.1.1.2.2, rfl⟩
set_option maxRecDepth 100000 in
theorem ci_X0_clear : sg_ok (.code yX0_clear cX0_clear 1 (none : Option Jvm.ClassFile.FieldType)) := ⟨ts_3_128.1.2.1.1.2, rfl⟩
theorem cb_X0_clear : sg_cb mi_X0_clear 0 := ⟨ci_X0_clear, iz_2, nh_2, pd_0, Nat.le_of_ble_eq_true rfl⟩
set_option maxRecDepth 100000 in
theorem mn_X0_clear : sg_ok (.instanceMethod yX0_clear) := ⟨ts_3_128.1.1.2.2.2, rfl⟩
set_option maxRecDepth 100000 in
theorem mv_X0_clear : sg_ok (.selects RX0 yX0_clear yX0_clear) := ⟨ts_3_128.1.2.1.1.1, rfl⟩
set_option maxRecDepth 100000 in
theorem ci_X2_firstSpelled : sg_ok (.code yX2_firstSpelled cX2_firstSpelled 1 (some .int)) := ⟨ts_3_128.1.2.2.1.1, rfl⟩
theorem cb_X2_firstSpelled : sg_cb mi_X2_firstSpelled 1 := ⟨ci_X2_firstSpelled, iz_4, nh_4, pd_6, Nat.le_of_ble_eq_true rfl⟩
set_option maxRecDepth 100000 in
theorem ms_X2_firstSpelled : sg_ok (.static yX2_firstSpelled) := ⟨ts_3_128.1.2.1.2.2, rfl⟩
set_option maxRecDepth 100000 in
theorem ci_X2_secondSpelled : sg_ok (.code yX2_secondSpelled cX2_secondSpelled 1 (some .int)) := ⟨ts_3_128.1.2.2.2.2, rfl⟩
theorem cb_X2_secondSpelled : sg_cb mi_X2_secondSpelled 1 := ⟨ci_X2_secondSpelled, iz_4, nh_4, pd_6, Nat.le_of_ble_eq_true rfl⟩
set_option maxRecDepth 100000 in
theorem ms_X2_secondSpelled : sg_ok (.static yX2_secondSpelled) := ⟨ts_3_128.1.2.2.2.1, rfl⟩
set_option maxRecDepth 100000 in
theorem ms_L_read : sg_ok (.static yL_read) := ⟨ts_3_144.1.1.1.1.2, rfl⟩
set_option maxRecDepth 100000 in
theorem ci_X5_read : sg_ok (.code yX5_read cX5_read 8 (some .int)) := ⟨ts_3_144.1.1.2.2.1, rfl⟩
theorem cb_X5_read : sg_cb mi_X5_read 2 := ⟨ci_X5_read, iz_0, nh_0, pd_3, Nat.le_of_ble_eq_true rfl⟩
set_option maxRecDepth 100000 in
theorem mn_X5_read : sg_ok (.instanceMethod yX5_read) := ⟨ts_3_144.1.1.2.1.1, rfl⟩
set_option maxRecDepth 100000 in
theorem mv_X5_read : sg_ok (.selects RX5 yX5_read yX5_read) := ⟨ts_3_144.1.1.2.1.2, rfl⟩
set_option maxRecDepth 100000 in
theorem ci_X5_canBeRead : sg_ok (.code yX5_canBeRead cX5_canBeRead 2 (some .boolean)) := ⟨ts_3_144.1.2.1.1.2, rfl⟩
theorem cb_X5_canBeRead : sg_cb mi_X5_canBeRead 1 := ⟨ci_X5_canBeRead, iz_0, nh_0, pd_9, Nat.le_of_ble_eq_true rfl⟩
set_option maxRecDepth 100000 in
theorem ms_X5_canBeRead : sg_ok (.static yX5_canBeRead) := ⟨ts_3_144.1.2.1.1.1, rfl⟩
set_option maxRecDepth 100000 in
theorem ms_L_send : sg_ok (.static yL_send) := ⟨ts_3_144.1.2.1.2.2, rfl⟩
set_option maxRecDepth 100000 in
theorem ci_X5_send : sg_ok (.code yX5_send cX5_send 4 (some .int)) := ⟨ts_3_160.1.1.1.1.1, rfl⟩
theorem cb_X5_send : sg_cb mi_X5_send 2 := ⟨ci_X5_send, iz_0, nh_0, pd_3, Nat.le_of_ble_eq_true rfl⟩
set_option maxRecDepth 100000 in
theorem mn_X5_send : sg_ok (.instanceMethod yX5_send) := ⟨ts_3_144.1.2.2.2.1, rfl⟩
set_option maxRecDepth 100000 in
theorem mv_X5_send : sg_ok (.selects RX5 yX5_send yX5_send) := ⟨ts_3_144.1.2.2.2.2, rfl⟩
set_option maxRecDepth 100000 in
theorem ci_X4_addCode : sg_ok (.code yX4_addCode cX4_addCode 2 (none : Option Jvm.ClassFile.FieldType)) := ⟨ts_3_160.1.1.2.1.1, rfl⟩
theorem cb_X4_addCode : sg_cb mi_X4_addCode 2 := ⟨ci_X4_addCode, iz_5, nh_5, pd_20, Nat.le_of_ble_eq_true rfl⟩
set_option maxRecDepth 100000 in
theorem ms_X4_addCode : sg_ok (.static yX4_addCode) := ⟨ts_3_160.1.1.1.2.2, rfl⟩
set_option maxRecDepth 100000 in
theorem ms_L_put : sg_ok (.static yL_put) := ⟨ts_3_160.1.1.2.2.2, rfl⟩
set_option maxRecDepth 100000 in
theorem ci_X5_put : sg_ok (.code yX5_put cX5_put 4 (some .int)) := ⟨ts_3_160.1.2.2.1.1, rfl⟩
theorem cb_X5_put : sg_cb mi_X5_put 2 := ⟨ci_X5_put, iz_0, nh_0, pd_3, Nat.le_of_ble_eq_true rfl⟩
set_option maxRecDepth 100000 in
theorem mn_X5_put : sg_ok (.instanceMethod yX5_put) := ⟨ts_3_160.1.2.1.2.1, rfl⟩
set_option maxRecDepth 100000 in
theorem mv_X5_put : sg_ok (.selects RX5 yX5_put yX5_put) := ⟨ts_3_160.1.2.1.2.2, rfl⟩
set_option maxRecDepth 100000 in
theorem ms_L_cut : sg_ok (.static yL_cut) := ⟨ts_3_160.1.2.2.2.1, rfl⟩
set_option maxRecDepth 100000 in
theorem ci_X5_cut : sg_ok (.code yX5_cut cX5_cut 3 (some .int)) := ⟨ts_3_176.1.1.1.2.2, rfl⟩
theorem cb_X5_cut : sg_cb mi_X5_cut 2 := ⟨ci_X5_cut, iz_0, nh_0, pd_3, Nat.le_of_ble_eq_true rfl⟩
set_option maxRecDepth 100000 in
theorem mn_X5_cut : sg_ok (.instanceMethod yX5_cut) := ⟨ts_3_176.1.1.1.1.2, rfl⟩
set_option maxRecDepth 100000 in
theorem mv_X5_cut : sg_ok (.selects RX5 yX5_cut yX5_cut) := ⟨ts_3_176.1.1.1.2.1, rfl⟩
set_option maxRecDepth 100000 in
theorem ms_L_flip : sg_ok (.static yL_flip) := ⟨ts_3_176.1.1.2.1.2, rfl⟩
set_option maxRecDepth 100000 in
theorem ci_X5_flip : sg_ok (.code yX5_flip cX5_flip 6 (some .int)) := ⟨ts_3_176.1.2.1.2.1, rfl⟩
theorem cb_X5_flip : sg_cb mi_X5_flip 1 := ⟨ci_X5_flip, iz_0, nh_0, pd_6, Nat.le_of_ble_eq_true rfl⟩
set_option maxRecDepth 100000 in
theorem mn_X5_flip : sg_ok (.instanceMethod yX5_flip) := ⟨ts_3_176.1.2.1.1.1, rfl⟩
set_option maxRecDepth 100000 in
theorem mv_X5_flip : sg_ok (.selects RX5 yX5_flip yX5_flip) := ⟨ts_3_176.1.2.1.1.2, rfl⟩
set_option maxRecDepth 100000 in
theorem ms_L_reverse : sg_ok (.static yL_reverse) := ⟨ts_3_176.1.2.2.1.1, rfl⟩
set_option maxRecDepth 100000 in
theorem ci_X5_reverse : sg_ok (.code yX5_reverse cX5_reverse 4 (some .int)) := ⟨ts_3_192.1.1.1.1.2, rfl⟩
theorem cb_X5_reverse : sg_cb mi_X5_reverse 1 := ⟨ci_X5_reverse, iz_0, nh_0, pd_6, Nat.le_of_ble_eq_true rfl⟩
set_option maxRecDepth 100000 in
theorem mn_X5_reverse : sg_ok (.instanceMethod yX5_reverse) := ⟨ts_3_176.1.2.2.2.2, rfl⟩
set_option maxRecDepth 100000 in
theorem mv_X5_reverse : sg_ok (.selects RX5 yX5_reverse yX5_reverse) := ⟨ts_3_192.1.1.1.1.1, rfl⟩
set_option maxRecDepth 100000 in
theorem ci_X4_listCodes : sg_ok (.code yX4_listCodes cX4_listCodes 3 (none : Option Jvm.ClassFile.FieldType)) := ⟨ts_3_192.1.1.2.1.1, rfl⟩
theorem pd_24 : (parseMethodDescriptor "(LSignkinds$Line;LSignkinds$Line;)V").map (fun d => d.parameters.length) = some 2 := by decide +kernel
theorem cb_X4_listCodes : sg_cb mi_X4_listCodes 2 := ⟨ci_X4_listCodes, iz_5, nh_5, pd_24, Nat.le_of_ble_eq_true rfl⟩
set_option maxRecDepth 100000 in
theorem ms_X4_listCodes : sg_ok (.static yX4_listCodes) := ⟨ts_3_192.1.1.1.2.2, rfl⟩
set_option maxRecDepth 100000 in
theorem ms_L_undo : sg_ok (.static yL_undo) := ⟨ts_3_192.1.1.2.2.2, rfl⟩
set_option maxRecDepth 100000 in
theorem ci_X5_undo : sg_ok (.code yX5_undo cX5_undo 1 (some .int)) := ⟨ts_3_192.1.2.2.1.1, rfl⟩
theorem cb_X5_undo : sg_cb mi_X5_undo 0 := ⟨ci_X5_undo, iz_0, nh_0, pd_2, Nat.le_of_ble_eq_true rfl⟩
set_option maxRecDepth 100000 in
theorem mn_X5_undo : sg_ok (.instanceMethod yX5_undo) := ⟨ts_3_192.1.2.1.2.1, rfl⟩
set_option maxRecDepth 100000 in
theorem mv_X5_undo : sg_ok (.selects RX5 yX5_undo yX5_undo) := ⟨ts_3_192.1.2.1.2.2, rfl⟩
set_option maxRecDepth 100000 in
theorem ci_X1_bringBack : sg_ok (.code yX1_bringBack cX1_bringBack 4 (none : Option Jvm.ClassFile.FieldType)) := ⟨ts_3_208.1.1.1.1.2, rfl⟩
theorem cb_X1_bringBack : sg_cb mi_X1_bringBack 1 := ⟨ci_X1_bringBack, iz_3, nh_3, pd_18, Nat.le_of_ble_eq_true rfl⟩
set_option maxRecDepth 100000 in
theorem mn_X1_bringBack : sg_ok (.instanceMethod yX1_bringBack) := ⟨ts_3_192.1.2.2.2.2, rfl⟩
set_option maxRecDepth 100000 in
theorem mv_X1_bringBack : sg_ok (.selects RX1 yX1_bringBack yX1_bringBack) := ⟨ts_3_208.1.1.1.1.1, rfl⟩
set_option maxRecDepth 100000 in
theorem ms_L_isDigit : sg_ok (.static yL_isDigit) := ⟨ts_3_208.1.1.1.2.2, rfl⟩
set_option maxRecDepth 100000 in
theorem ci_X5_isDigit : sg_ok (.code yX5_isDigit cX5_isDigit 2 (some .boolean)) := ⟨ts_3_208.1.2.1.1.1, rfl⟩
theorem cb_X5_isDigit : sg_cb mi_X5_isDigit 1 := ⟨ci_X5_isDigit, iz_0, nh_0, pd_4, Nat.le_of_ble_eq_true rfl⟩
set_option maxRecDepth 100000 in
theorem mn_X5_isDigit : sg_ok (.instanceMethod yX5_isDigit) := ⟨ts_3_208.1.1.2.2.1, rfl⟩
set_option maxRecDepth 100000 in
theorem mv_X5_isDigit : sg_ok (.selects RX5 yX5_isDigit yX5_isDigit) := ⟨ts_3_208.1.1.2.2.2, rfl⟩
set_option maxRecDepth 100000 in
theorem ms_L_isLetter : sg_ok (.static yL_isLetter) := ⟨ts_3_208.1.2.1.2.1, rfl⟩
set_option maxRecDepth 100000 in
theorem ci_X5_isLetter : sg_ok (.code yX5_isLetter cX5_isLetter 2 (some .boolean)) := ⟨ts_3_208.1.2.2.2.2, rfl⟩
theorem cb_X5_isLetter : sg_cb mi_X5_isLetter 1 := ⟨ci_X5_isLetter, iz_0, nh_0, pd_4, Nat.le_of_ble_eq_true rfl⟩
set_option maxRecDepth 100000 in
theorem mn_X5_isLetter : sg_ok (.instanceMethod yX5_isLetter) := ⟨ts_3_208.1.2.2.1.2, rfl⟩
set_option maxRecDepth 100000 in
theorem mv_X5_isLetter : sg_ok (.selects RX5 yX5_isLetter yX5_isLetter) := ⟨ts_3_208.1.2.2.2.1, rfl⟩
set_option maxRecDepth 100000 in
theorem ms_L_isLetterOrDigit : sg_ok (.static yL_isLetterOrDigit) := ⟨ts_3_224.1.1.1.1.2, rfl⟩
set_option maxRecDepth 100000 in
theorem ci_X5_isLetterOrDigit : sg_ok (.code yX5_isLetterOrDigit cX5_isLetterOrDigit 2 (some .boolean)) := ⟨ts_3_224.1.1.2.2.1, rfl⟩
theorem cb_X5_isLetterOrDigit : sg_cb mi_X5_isLetterOrDigit 1 := ⟨ci_X5_isLetterOrDigit, iz_0, nh_0, pd_4, Nat.le_of_ble_eq_true rfl⟩
set_option maxRecDepth 100000 in
theorem mn_X5_isLetterOrDigit : sg_ok (.instanceMethod yX5_isLetterOrDigit) := ⟨ts_3_224.1.1.2.1.1, rfl⟩
set_option maxRecDepth 100000 in
theorem mv_X5_isLetterOrDigit : sg_ok (.selects RX5 yX5_isLetterOrDigit yX5_isLetterOrDigit) := ⟨ts_3_224.1.1.2.1.2, rfl⟩
set_option maxRecDepth 100000 in
theorem ms_L_isWhite : sg_ok (.static yL_isWhite) := ⟨ts_3_224.1.2.1.1.1, rfl⟩
set_option maxRecDepth 100000 in
theorem ci_X5_isWhite : sg_ok (.code yX5_isWhite cX5_isWhite 2 (some .boolean)) := ⟨ts_3_224.1.2.2.1.2, rfl⟩
theorem cb_X5_isWhite : sg_cb mi_X5_isWhite 1 := ⟨ci_X5_isWhite, iz_0, nh_0, pd_4, Nat.le_of_ble_eq_true rfl⟩
set_option maxRecDepth 100000 in
theorem mn_X5_isWhite : sg_ok (.instanceMethod yX5_isWhite) := ⟨ts_3_224.1.2.1.2.2, rfl⟩
set_option maxRecDepth 100000 in
theorem mv_X5_isWhite : sg_ok (.selects RX5 yX5_isWhite yX5_isWhite) := ⟨ts_3_224.1.2.2.1.1, rfl⟩
set_option maxRecDepth 100000 in
theorem ms_L_isGreat : sg_ok (.static yL_isGreat) := ⟨ts_3_224.1.2.2.2.2, rfl⟩
set_option maxRecDepth 100000 in
theorem ci_X5_isGreat : sg_ok (.code yX5_isGreat cX5_isGreat 2 (some .boolean)) := ⟨ts_4_0.1.1.2.1.1, rfl⟩
theorem cb_X5_isGreat : sg_cb mi_X5_isGreat 1 := ⟨ci_X5_isGreat, iz_0, nh_0, pd_4, Nat.le_of_ble_eq_true rfl⟩
set_option maxRecDepth 100000 in
theorem mn_X5_isGreat : sg_ok (.instanceMethod yX5_isGreat) := ⟨ts_4_0.1.1.1.2.1, rfl⟩
set_option maxRecDepth 100000 in
theorem mv_X5_isGreat : sg_ok (.selects RX5 yX5_isGreat yX5_isGreat) := ⟨ts_4_0.1.1.1.2.2, rfl⟩
set_option maxRecDepth 100000 in
theorem ms_L_kinds : sg_ok (.static yL_kinds) := ⟨ts_4_0.1.1.2.2.1, rfl⟩
set_option maxRecDepth 100000 in
theorem ci_X5_kinds : sg_ok (.code yX5_kinds cX5_kinds 2 (some .int)) := ⟨ts_4_0.1.2.1.2.2, rfl⟩
theorem cb_X5_kinds : sg_cb mi_X5_kinds 1 := ⟨ci_X5_kinds, iz_0, nh_0, pd_6, Nat.le_of_ble_eq_true rfl⟩
set_option maxRecDepth 100000 in
theorem mn_X5_kinds : sg_ok (.instanceMethod yX5_kinds) := ⟨ts_4_0.1.2.1.1.2, rfl⟩
set_option maxRecDepth 100000 in
theorem mv_X5_kinds : sg_ok (.selects RX5 yX5_kinds yX5_kinds) := ⟨ts_4_0.1.2.1.2.1, rfl⟩
set_option maxRecDepth 100000 in
theorem ms_L_upper : sg_ok (.static yL_upper) := ⟨ts_4_0.1.2.2.1.2, rfl⟩
set_option maxRecDepth 100000 in
theorem ci_X5_upper : sg_ok (.code yX5_upper cX5_upper 3 (some .int)) := ⟨ts_4_16.1.1.1.2.1, rfl⟩
theorem pd_25 : (parseMethodDescriptor "(IZ)I").map (fun d => d.parameters.length) = some 2 := by decide +kernel
theorem cb_X5_upper : sg_cb mi_X5_upper 2 := ⟨ci_X5_upper, iz_0, nh_0, pd_25, Nat.le_of_ble_eq_true rfl⟩
set_option maxRecDepth 100000 in
theorem mn_X5_upper : sg_ok (.instanceMethod yX5_upper) := ⟨ts_4_16.1.1.1.1.1, rfl⟩
set_option maxRecDepth 100000 in
theorem mv_X5_upper : sg_ok (.selects RX5 yX5_upper yX5_upper) := ⟨ts_4_16.1.1.1.1.2, rfl⟩
set_option maxRecDepth 100000 in
theorem ms_L_lower : sg_ok (.static yL_lower) := ⟨ts_4_16.1.1.2.1.1, rfl⟩
set_option maxRecDepth 100000 in
theorem ci_X5_lower : sg_ok (.code yX5_lower cX5_lower 3 (some .int)) := ⟨ts_4_16.1.2.1.1.2, rfl⟩
theorem cb_X5_lower : sg_cb mi_X5_lower 2 := ⟨ci_X5_lower, iz_0, nh_0, pd_25, Nat.le_of_ble_eq_true rfl⟩
set_option maxRecDepth 100000 in
theorem mn_X5_lower : sg_ok (.instanceMethod yX5_lower) := ⟨ts_4_16.1.1.2.2.2, rfl⟩
set_option maxRecDepth 100000 in
theorem mv_X5_lower : sg_ok (.selects RX5 yX5_lower yX5_lower) := ⟨ts_4_16.1.2.1.1.1, rfl⟩
set_option maxRecDepth 100000 in
theorem ms_L_value : sg_ok (.static yL_value) := ⟨ts_4_16.1.2.1.2.2, rfl⟩
set_option maxRecDepth 100000 in
theorem ci_X5_value : sg_ok (.code yX5_value cX5_value 3 (some .int)) := ⟨ts_4_32.1.1.1.1.1, rfl⟩
theorem cb_X5_value : sg_cb mi_X5_value 2 := ⟨ci_X5_value, iz_0, nh_0, pd_25, Nat.le_of_ble_eq_true rfl⟩
set_option maxRecDepth 100000 in
theorem mn_X5_value : sg_ok (.instanceMethod yX5_value) := ⟨ts_4_16.1.2.2.2.1, rfl⟩
set_option maxRecDepth 100000 in
theorem mv_X5_value : sg_ok (.selects RX5 yX5_value yX5_value) := ⟨ts_4_16.1.2.2.2.2, rfl⟩
set_option maxRecDepth 100000 in
theorem ms_L_number : sg_ok (.static yL_number) := ⟨ts_4_32.1.1.1.2.1, rfl⟩
set_option maxRecDepth 100000 in
theorem ci_X5_number : sg_ok (.code yX5_number cX5_number 4 (some .int)) := ⟨ts_4_32.1.1.2.2.2, rfl⟩
theorem cb_X5_number : sg_cb mi_X5_number 3 := ⟨ci_X5_number, iz_0, nh_0, pd_22, Nat.le_of_ble_eq_true rfl⟩
set_option maxRecDepth 100000 in
theorem mn_X5_number : sg_ok (.instanceMethod yX5_number) := ⟨ts_4_32.1.1.2.1.2, rfl⟩
set_option maxRecDepth 100000 in
theorem mv_X5_number : sg_ok (.selects RX5 yX5_number yX5_number) := ⟨ts_4_32.1.1.2.2.1, rfl⟩
set_option maxRecDepth 100000 in
theorem ms_L_length : sg_ok (.static yL_length) := ⟨ts_4_32.1.2.1.1.2, rfl⟩
set_option maxRecDepth 100000 in
theorem ci_X5_length : sg_ok (.code yX5_length cX5_length 2 (some .int)) := ⟨ts_4_32.1.2.2.2.1, rfl⟩
theorem cb_X5_length : sg_cb mi_X5_length 1 := ⟨ci_X5_length, iz_0, nh_0, pd_6, Nat.le_of_ble_eq_true rfl⟩
set_option maxRecDepth 100000 in
theorem mn_X5_length : sg_ok (.instanceMethod yX5_length) := ⟨ts_4_32.1.2.2.1.1, rfl⟩
set_option maxRecDepth 100000 in
theorem mv_X5_length : sg_ok (.selects RX5 yX5_length yX5_length) := ⟨ts_4_32.1.2.2.1.2, rfl⟩
set_option maxRecDepth 100000 in
theorem ms_L_at : sg_ok (.static yL_at) := ⟨ts_4_48.1.1.1.1.1, rfl⟩
set_option maxRecDepth 100000 in
theorem ci_X5_at : sg_ok (.code yX5_at cX5_at 3 (some .int)) := ⟨ts_4_48.1.1.2.1.2, rfl⟩
theorem cb_X5_at : sg_cb mi_X5_at 2 := ⟨ci_X5_at, iz_0, nh_0, pd_3, Nat.le_of_ble_eq_true rfl⟩
set_option maxRecDepth 100000 in
theorem mn_X5_at : sg_ok (.instanceMethod yX5_at) := ⟨ts_4_48.1.1.1.2.2, rfl⟩
set_option maxRecDepth 100000 in
theorem mv_X5_at : sg_ok (.selects RX5 yX5_at yX5_at) := ⟨ts_4_48.1.1.2.1.1, rfl⟩
set_option maxRecDepth 100000 in
theorem ci_X5_numberAt : sg_ok (.code yX5_numberAt cX5_numberAt 2 (some .int)) := ⟨ts_4_48.1.2.1.1.1, rfl⟩
theorem cb_X5_numberAt : sg_cb mi_X5_numberAt 2 := ⟨ci_X5_numberAt, iz_0, nh_0, pd_12, Nat.le_of_ble_eq_true rfl⟩
set_option maxRecDepth 100000 in
theorem ms_X5_numberAt : sg_ok (.static yX5_numberAt) := ⟨ts_4_48.1.1.2.2.2, rfl⟩
set_option maxRecDepth 100000 in
theorem ms_L_count : sg_ok (.static yL_count) := ⟨ts_4_48.1.2.2.1.1, rfl⟩
set_option maxRecDepth 100000 in
theorem ms_L_first : sg_ok (.static yL_first) := ⟨ts_4_64.1.1.1.1.1, rfl⟩
set_option maxRecDepth 100000 in
theorem ci_X5_first : sg_ok (.code yX5_first cX5_first 6 (some .int)) := ⟨ts_4_64.1.1.2.1.2, rfl⟩
theorem cb_X5_first : sg_cb mi_X5_first 3 := ⟨ci_X5_first, iz_0, nh_0, pd_23, Nat.le_of_ble_eq_true rfl⟩
set_option maxRecDepth 100000 in
theorem mn_X5_first : sg_ok (.instanceMethod yX5_first) := ⟨ts_4_64.1.1.1.2.2, rfl⟩
set_option maxRecDepth 100000 in
theorem mv_X5_first : sg_ok (.selects RX5 yX5_first yX5_first) := ⟨ts_4_64.1.1.2.1.1, rfl⟩
set_option maxRecDepth 100000 in
theorem ms_L_last : sg_ok (.static yL_last) := ⟨ts_4_64.1.2.1.1.1, rfl⟩
set_option maxRecDepth 100000 in
theorem ci_X5_last : sg_ok (.code yX5_last cX5_last 5 (some .int)) := ⟨ts_4_64.1.2.2.1.2, rfl⟩
theorem cb_X5_last : sg_cb mi_X5_last 2 := ⟨ci_X5_last, iz_0, nh_0, pd_3, Nat.le_of_ble_eq_true rfl⟩
set_option maxRecDepth 100000 in
theorem mn_X5_last : sg_ok (.instanceMethod yX5_last) := ⟨ts_4_64.1.2.1.2.2, rfl⟩
set_option maxRecDepth 100000 in
theorem mv_X5_last : sg_ok (.selects RX5 yX5_last yX5_last) := ⟨ts_4_64.1.2.2.1.1, rfl⟩
set_option maxRecDepth 100000 in
theorem ms_L_forms : sg_ok (.static yL_forms) := ⟨ts_4_64.1.2.2.2.2, rfl⟩
set_option maxRecDepth 100000 in
theorem ci_X5_forms : sg_ok (.code yX5_forms cX5_forms 5 (some (.object "java/lang/String"))) := ⟨ts_4_80.1.1.2.1.1, rfl⟩
theorem pd_26 : (parseMethodDescriptor "(I)Ljava/lang/String;").map (fun d => d.parameters.length) = some 1 := by decide +kernel
theorem cb_X5_forms : sg_cb mi_X5_forms 1 := ⟨ci_X5_forms, iz_0, nh_0, pd_26, Nat.le_of_ble_eq_true rfl⟩
set_option maxRecDepth 100000 in
theorem mn_X5_forms : sg_ok (.instanceMethod yX5_forms) := ⟨ts_4_80.1.1.1.2.1, rfl⟩
set_option maxRecDepth 100000 in
theorem mv_X5_forms : sg_ok (.selects RX5 yX5_forms yX5_forms) := ⟨ts_4_80.1.1.1.2.2, rfl⟩
set_option maxRecDepth 100000 in
theorem ci_X2_formOf : sg_ok (.code yX2_formOf cX2_formOf 1 (some .char)) := ⟨ts_4_112.1.1.2.2.1, rfl⟩
theorem pd_27 : (parseMethodDescriptor "(I)C").map (fun d => d.parameters.length) = some 1 := by decide +kernel
theorem cb_X2_formOf : sg_cb mi_X2_formOf 1 := ⟨ci_X2_formOf, iz_4, nh_4, pd_27, Nat.le_of_ble_eq_true rfl⟩
set_option maxRecDepth 100000 in
theorem ms_X2_formOf : sg_ok (.static yX2_formOf) := ⟨ts_4_112.1.1.2.1.2, rfl⟩
set_option maxRecDepth 100000 in
theorem ms_L_spelled : sg_ok (.static yL_spelled) := ⟨ts_5_112.1.1.1.1.2, rfl⟩
set_option maxRecDepth 100000 in
theorem ci_X5_spelled : sg_ok (.code yX5_spelled cX5_spelled 5 (some (.object "java/lang/String"))) := ⟨ts_5_112.1.1.2.2.1, rfl⟩
theorem cb_X5_spelled : sg_cb mi_X5_spelled 1 := ⟨ci_X5_spelled, iz_0, nh_0, pd_26, Nat.le_of_ble_eq_true rfl⟩
set_option maxRecDepth 100000 in
theorem mn_X5_spelled : sg_ok (.instanceMethod yX5_spelled) := ⟨ts_5_112.1.1.2.1.1, rfl⟩
set_option maxRecDepth 100000 in
theorem mv_X5_spelled : sg_ok (.selects RX5 yX5_spelled yX5_spelled) := ⟨ts_5_112.1.1.2.1.2, rfl⟩
set_option maxRecDepth 100000 in
theorem ms_L_told : sg_ok (.static yL_told) := ⟨ts_5_112.1.2.1.1.1, rfl⟩
set_option maxRecDepth 100000 in
theorem ms_L_sum : sg_ok (.static yL_sum) := ⟨ts_5_112.1.2.2.1.1, rfl⟩
set_option maxRecDepth 100000 in
theorem ci_X5_sum : sg_ok (.code yX5_sum cX5_sum 7 (some .int)) := ⟨ts_5_128.1.1.1.1.2, rfl⟩
theorem cb_X5_sum : sg_cb mi_X5_sum 2 := ⟨ci_X5_sum, iz_0, nh_0, pd_3, Nat.le_of_ble_eq_true rfl⟩
set_option maxRecDepth 100000 in
theorem mn_X5_sum : sg_ok (.instanceMethod yX5_sum) := ⟨ts_5_112.1.2.2.2.2, rfl⟩
set_option maxRecDepth 100000 in
theorem mv_X5_sum : sg_ok (.selects RX5 yX5_sum yX5_sum) := ⟨ts_5_128.1.1.1.1.1, rfl⟩
set_option maxRecDepth 100000 in
theorem ms_L_values : sg_ok (.static yL_values) := ⟨ts_5_128.1.1.1.2.2, rfl⟩
set_option maxRecDepth 100000 in
theorem ms_L_words : sg_ok (.static yL_words) := ⟨ts_5_128.1.1.2.2.2, rfl⟩
set_option maxRecDepth 100000 in
theorem ms_L_word : sg_ok (.static yL_word) := ⟨ts_5_128.1.2.1.2.2, rfl⟩
set_option maxRecDepth 100000 in
theorem ci_X5_word : sg_ok (.code yX5_word cX5_word 7 (some .int)) := ⟨ts_5_144.1.1.1.1.1, rfl⟩
theorem cb_X5_word : sg_cb mi_X5_word 3 := ⟨ci_X5_word, iz_0, nh_0, pd_22, Nat.le_of_ble_eq_true rfl⟩
set_option maxRecDepth 100000 in
theorem mn_X5_word : sg_ok (.instanceMethod yX5_word) := ⟨ts_5_128.1.2.2.2.1, rfl⟩
set_option maxRecDepth 100000 in
theorem mv_X5_word : sg_ok (.selects RX5 yX5_word yX5_word) := ⟨ts_5_128.1.2.2.2.2, rfl⟩
set_option maxRecDepth 100000 in
theorem ci_X5_wordBegin : sg_ok (.code yX5_wordBegin cX5_wordBegin 4 (some .int)) := ⟨ts_5_144.1.1.1.2.2, rfl⟩
theorem cb_X5_wordBegin : sg_cb mi_X5_wordBegin 2 := ⟨ci_X5_wordBegin, iz_0, nh_0, pd_12, Nat.le_of_ble_eq_true rfl⟩
set_option maxRecDepth 100000 in
theorem ms_X5_wordBegin : sg_ok (.static yX5_wordBegin) := ⟨ts_5_144.1.1.1.2.1, rfl⟩
set_option maxRecDepth 100000 in
theorem ms_L_isAlike : sg_ok (.static yL_isAlike) := ⟨ts_5_144.1.1.2.2.1, rfl⟩
set_option maxRecDepth 100000 in
theorem ms_L_order : sg_ok (.static yL_order) := ⟨ts_5_144.1.2.1.2.1, rfl⟩
set_option maxRecDepth 100000 in
theorem ms_L_half : sg_ok (.static yL_half) := ⟨ts_5_144.1.2.2.2.1, rfl⟩
set_option maxRecDepth 100000 in
theorem ci_X5_half : sg_ok (.code yX5_half cX5_half 3 (some .int)) := ⟨ts_5_160.1.1.1.2.2, rfl⟩
theorem cb_X5_half : sg_cb mi_X5_half 2 := ⟨ci_X5_half, iz_0, nh_0, pd_25, Nat.le_of_ble_eq_true rfl⟩
set_option maxRecDepth 100000 in
theorem mn_X5_half : sg_ok (.instanceMethod yX5_half) := ⟨ts_5_160.1.1.1.1.2, rfl⟩
set_option maxRecDepth 100000 in
theorem mv_X5_half : sg_ok (.selects RX5 yX5_half yX5_half) := ⟨ts_5_160.1.1.1.2.1, rfl⟩
set_option maxRecDepth 100000 in
theorem ms_L_code : sg_ok (.static yL_code) := ⟨ts_5_160.1.2.1.1.1, rfl⟩
set_option maxRecDepth 100000 in
theorem ci_X5_code : sg_ok (.code yX5_code cX5_code 3 (some .int)) := ⟨ts_5_160.1.2.2.1.2, rfl⟩
theorem cb_X5_code : sg_cb mi_X5_code 2 := ⟨ci_X5_code, iz_0, nh_0, pd_3, Nat.le_of_ble_eq_true rfl⟩
set_option maxRecDepth 100000 in
theorem mn_X5_code : sg_ok (.instanceMethod yX5_code) := ⟨ts_5_160.1.2.1.2.2, rfl⟩
set_option maxRecDepth 100000 in
theorem mv_X5_code : sg_ok (.selects RX5 yX5_code yX5_code) := ⟨ts_5_160.1.2.2.1.1, rfl⟩
set_option maxRecDepth 100000 in
theorem ms_L_ofUnit : sg_ok (.static yL_ofUnit) := ⟨ts_5_176.1.1.1.1.2, rfl⟩
set_option maxRecDepth 100000 in
theorem ms_L_compare : sg_ok (.static yL_compare) := ⟨ts_5_176.1.1.2.1.2, rfl⟩
set_option maxRecDepth 100000 in
theorem ci_X5_compare : sg_ok (.code yX5_compare cX5_compare 3 (some .int)) := ⟨ts_5_176.1.2.1.2.1, rfl⟩
theorem cb_X5_compare : sg_cb mi_X5_compare 2 := ⟨ci_X5_compare, iz_0, nh_0, pd_3, Nat.le_of_ble_eq_true rfl⟩
set_option maxRecDepth 100000 in
theorem mn_X5_compare : sg_ok (.instanceMethod yX5_compare) := ⟨ts_5_176.1.2.1.1.1, rfl⟩
set_option maxRecDepth 100000 in
theorem mv_X5_compare : sg_ok (.selects RX5 yX5_compare yX5_compare) := ⟨ts_5_176.1.2.1.1.2, rfl⟩
set_option maxRecDepth 100000 in
theorem ms_L_ofTrack : sg_ok (.static yL_ofTrack) := ⟨ts_5_176.1.2.2.1.1, rfl⟩
set_option maxRecDepth 100000 in
theorem ci_X5_ofTrack : sg_ok (.code yX5_ofTrack cX5_ofTrack 4 (some .int)) := ⟨ts_5_192.1.1.1.1.2, rfl⟩
theorem cb_X5_ofTrack : sg_cb mi_X5_ofTrack 2 := ⟨ci_X5_ofTrack, iz_0, nh_0, pd_3, Nat.le_of_ble_eq_true rfl⟩
set_option maxRecDepth 100000 in
theorem mn_X5_ofTrack : sg_ok (.instanceMethod yX5_ofTrack) := ⟨ts_5_176.1.2.2.2.2, rfl⟩
set_option maxRecDepth 100000 in
theorem mv_X5_ofTrack : sg_ok (.selects RX5 yX5_ofTrack yX5_ofTrack) := ⟨ts_5_192.1.1.1.1.1, rfl⟩
set_option maxRecDepth 100000 in
theorem ms_L_unit : sg_ok (.static yL_unit) := ⟨ts_5_192.1.1.1.2.2, rfl⟩
set_option maxRecDepth 100000 in
theorem ci_X5_unit : sg_ok (.code yX5_unit cX5_unit 3 (some .int)) := ⟨ts_5_192.1.2.1.1.1, rfl⟩
theorem cb_X5_unit : sg_cb mi_X5_unit 2 := ⟨ci_X5_unit, iz_0, nh_0, pd_3, Nat.le_of_ble_eq_true rfl⟩
set_option maxRecDepth 100000 in
theorem mn_X5_unit : sg_ok (.instanceMethod yX5_unit) := ⟨ts_5_192.1.1.2.2.1, rfl⟩
set_option maxRecDepth 100000 in
theorem mv_X5_unit : sg_ok (.selects RX5 yX5_unit yX5_unit) := ⟨ts_5_192.1.1.2.2.2, rfl⟩
set_option maxRecDepth 100000 in
theorem ms_L_codeAt : sg_ok (.static yL_codeAt) := ⟨ts_5_192.1.2.1.2.1, rfl⟩
set_option maxRecDepth 100000 in
theorem ci_X5_codeAt : sg_ok (.code yX5_codeAt cX5_codeAt 4 (some .int)) := ⟨ts_5_192.1.2.2.2.2, rfl⟩
theorem cb_X5_codeAt : sg_cb mi_X5_codeAt 2 := ⟨ci_X5_codeAt, iz_0, nh_0, pd_3, Nat.le_of_ble_eq_true rfl⟩
set_option maxRecDepth 100000 in
theorem mn_X5_codeAt : sg_ok (.instanceMethod yX5_codeAt) := ⟨ts_5_192.1.2.2.1.2, rfl⟩
set_option maxRecDepth 100000 in
theorem mv_X5_codeAt : sg_ok (.selects RX5 yX5_codeAt yX5_codeAt) := ⟨ts_5_192.1.2.2.2.1, rfl⟩
set_option maxRecDepth 100000 in
theorem ms_L_nth : sg_ok (.static yL_nth) := ⟨ts_5_208.1.1.1.1.2, rfl⟩
set_option maxRecDepth 100000 in
theorem ci_X5_nth : sg_ok (.code yX5_nth cX5_nth 5 (some .int)) := ⟨ts_5_208.1.1.2.2.1, rfl⟩
theorem cb_X5_nth : sg_cb mi_X5_nth 2 := ⟨ci_X5_nth, iz_0, nh_0, pd_3, Nat.le_of_ble_eq_true rfl⟩
set_option maxRecDepth 100000 in
theorem mn_X5_nth : sg_ok (.instanceMethod yX5_nth) := ⟨ts_5_208.1.1.2.1.1, rfl⟩
set_option maxRecDepth 100000 in
theorem mv_X5_nth : sg_ok (.selects RX5 yX5_nth yX5_nth) := ⟨ts_5_208.1.1.2.1.2, rfl⟩
set_option maxRecDepth 100000 in
theorem ci_X4_codeBegin : sg_ok (.code yX4_codeBegin cX4_codeBegin 4 (some .int)) := ⟨ts_5_208.1.2.1.1.2, rfl⟩
theorem cb_X4_codeBegin : sg_cb mi_X4_codeBegin 2 := ⟨ci_X4_codeBegin, iz_5, nh_5, pd_12, Nat.le_of_ble_eq_true rfl⟩
set_option maxRecDepth 100000 in
theorem ms_X4_codeBegin : sg_ok (.static yX4_codeBegin) := ⟨ts_5_208.1.2.1.1.1, rfl⟩
set_option maxRecDepth 100000 in
theorem ms_L_house : sg_ok (.static yL_house) := ⟨ts_5_208.1.2.1.2.2, rfl⟩
set_option maxRecDepth 100000 in
theorem iz_7 : sg_ok (.initialized RX7) := ⟨ts_1_0.1.1.2.1.2, rfl⟩
set_option maxRecDepth 100000 in
theorem ci_X7_init : sg_ok (.code yX7_init cX7_init 1 (none : Option Jvm.ClassFile.FieldType)) := ⟨ts_5_224.1.1.1.2.1, rfl⟩
theorem nh_7 : RX7 ≠ "java/lang/invoke/MethodHandle" ∧ RX7 ≠ "java/lang/invoke/VarHandle" := ⟨by decide +kernel, by decide +kernel⟩
theorem cb_X7_init : sg_cb mi_X7_init 0 := ⟨ci_X7_init, iz_7, nh_7, pd_0, Nat.le_of_ble_eq_true rfl⟩
set_option maxRecDepth 100000 in
theorem mn_X7_init : sg_ok (.instanceMethod yX7_init) := ⟨ts_5_224.1.1.1.1.2, rfl⟩
set_option maxRecDepth 100000 in
theorem ci_X7_thrown : sg_ok (.code yX7_thrown cX7_thrown 1 (some .int)) := ⟨ts_6_32.1.1.1.1.1, rfl⟩
theorem cb_X7_thrown : sg_cb mi_X7_thrown 0 := ⟨ci_X7_thrown, iz_7, nh_7, pd_2, Nat.le_of_ble_eq_true rfl⟩
set_option maxRecDepth 100000 in
theorem mn_X7_thrown : sg_ok (.instanceMethod yX7_thrown) := ⟨ts_6_16.1.2.2.2.1, rfl⟩
set_option maxRecDepth 100000 in
theorem mv_X7_thrown : sg_ok (.selects RX7 yX7_thrown yX7_thrown) := ⟨ts_6_16.1.2.2.2.2, rfl⟩
set_option maxRecDepth 100000 in
theorem ci_X7_lay : sg_ok (.code yX7_lay cX7_lay 12 (some .int)) := ⟨ts_6_32.1.1.2.1.1, rfl⟩
theorem cb_X7_lay : sg_cb mi_X7_lay 5 := ⟨ci_X7_lay, iz_7, nh_7, pd_17, Nat.le_of_ble_eq_true rfl⟩
set_option maxRecDepth 100000 in
theorem mn_X7_lay : sg_ok (.instanceMethod yX7_lay) := ⟨ts_6_32.1.1.1.2.1, rfl⟩
set_option maxRecDepth 100000 in
theorem mv_X7_lay : sg_ok (.selects RX7 yX7_lay yX7_lay) := ⟨ts_6_32.1.1.1.2.2, rfl⟩
set_option maxRecDepth 100000 in
theorem ci_X7_isSign : sg_ok (.code yX7_isSign cX7_isSign 1 (some .boolean)) := ⟨ts_6_32.1.1.2.2.2, rfl⟩
theorem cb_X7_isSign : sg_cb mi_X7_isSign 1 := ⟨ci_X7_isSign, iz_7, nh_7, pd_4, Nat.le_of_ble_eq_true rfl⟩
set_option maxRecDepth 100000 in
theorem ms_X7_isSign : sg_ok (.static yX7_isSign) := ⟨ts_6_32.1.1.2.2.1, rfl⟩
set_option maxRecDepth 100000 in
theorem ci_X7_isOf : sg_ok (.code yX7_isOf cX7_isOf 3 (some .boolean)) := ⟨ts_6_32.1.2.1.2.1, rfl⟩
theorem cb_X7_isOf : sg_cb mi_X7_isOf 3 := ⟨ci_X7_isOf, iz_7, nh_7, pd_5, Nat.le_of_ble_eq_true rfl⟩
set_option maxRecDepth 100000 in
theorem ms_X7_isOf : sg_ok (.static yX7_isOf) := ⟨ts_6_32.1.2.1.1.2, rfl⟩
set_option maxRecDepth 100000 in
theorem ci_X7_isNoRow : sg_ok (.code yX7_isNoRow cX7_isNoRow 1 (some .boolean)) := ⟨ts_6_32.1.2.2.1.2, rfl⟩
theorem cb_X7_isNoRow : sg_cb mi_X7_isNoRow 1 := ⟨ci_X7_isNoRow, iz_7, nh_7, pd_4, Nat.le_of_ble_eq_true rfl⟩
set_option maxRecDepth 100000 in
theorem ms_X7_isNoRow : sg_ok (.static yX7_isNoRow) := ⟨ts_6_32.1.2.2.1.1, rfl⟩
set_option maxRecDepth 100000 in
theorem ci_X7_start : sg_ok (.code yX7_start cX7_start 3 (some .boolean)) := ⟨ts_6_48.1.1.1.1.2, rfl⟩
theorem pd_28 : (parseMethodDescriptor "(ZI)Z").map (fun d => d.parameters.length) = some 2 := by decide +kernel
theorem cb_X7_start : sg_cb mi_X7_start 2 := ⟨ci_X7_start, iz_7, nh_7, pd_28, Nat.le_of_ble_eq_true rfl⟩
set_option maxRecDepth 100000 in
theorem mn_X7_start : sg_ok (.instanceMethod yX7_start) := ⟨ts_6_48.1.1.1.1.1, rfl⟩
theorem mv_X7_start : sg_ok (.selects RX7 yX7_start yX7_start) := sg_oks 6 (by decide +kernel)
set_option maxRecDepth 100000 in
theorem ci_X7_refuse : sg_ok (.code yX7_refuse cX7_refuse 3 (some .boolean)) := ⟨ts_6_48.1.1.2.1.2, rfl⟩
theorem cb_X7_refuse : sg_cb mi_X7_refuse 2 := ⟨ci_X7_refuse, iz_7, nh_7, pd_28, Nat.le_of_ble_eq_true rfl⟩
set_option maxRecDepth 100000 in
theorem mn_X7_refuse : sg_ok (.instanceMethod yX7_refuse) := ⟨ts_6_48.1.1.2.1.1, rfl⟩
theorem mv_X7_refuse : sg_ok (.selects RX7 yX7_refuse yX7_refuse) := sg_oks 7 (by decide +kernel)
set_option maxRecDepth 100000 in
theorem ci_X7_only : sg_ok (.code yX7_only cX7_only 4 (some (.array .int))) := ⟨ts_6_48.1.2.1.1.1, rfl⟩
theorem pd_29 : (parseMethodDescriptor "([I[Z)[I").map (fun d => d.parameters.length) = some 2 := by decide +kernel
theorem cb_X7_only : sg_cb mi_X7_only 2 := ⟨ci_X7_only, iz_7, nh_7, pd_29, Nat.le_of_ble_eq_true rfl⟩
set_option maxRecDepth 100000 in
theorem ms_X7_only : sg_ok (.static yX7_only) := ⟨ts_6_48.1.1.2.2.2, rfl⟩
set_option maxRecDepth 100000 in
theorem ci_X7_joined : sg_ok (.code yX7_joined cX7_joined 4 (some (.array .int))) := ⟨ts_6_48.1.2.1.2.2, rfl⟩
theorem pd_30 : (parseMethodDescriptor "([I[I)[I").map (fun d => d.parameters.length) = some 2 := by decide +kernel
theorem cb_X7_joined : sg_cb mi_X7_joined 2 := ⟨ci_X7_joined, iz_7, nh_7, pd_30, Nat.le_of_ble_eq_true rfl⟩
set_option maxRecDepth 100000 in
theorem ms_X7_joined : sg_ok (.static yX7_joined) := ⟨ts_6_48.1.2.1.2.1, rfl⟩
set_option maxRecDepth 100000 in
theorem ci_X7_set : sg_ok (.code yX7_set cX7_set 5 (some .int)) := ⟨ts_6_48.1.2.2.2.2, rfl⟩
theorem pd_31 : (parseMethodDescriptor "(I[I)I").map (fun d => d.parameters.length) = some 2 := by decide +kernel
theorem cb_X7_set : sg_cb mi_X7_set 2 := ⟨ci_X7_set, iz_7, nh_7, pd_31, Nat.le_of_ble_eq_true rfl⟩
set_option maxRecDepth 100000 in
theorem mn_X7_set : sg_ok (.instanceMethod yX7_set) := ⟨ts_6_48.1.2.2.2.1, rfl⟩
theorem mv_X7_set : sg_ok (.selects RX7 yX7_set yX7_set) := sg_oks 8 (by decide +kernel)
set_option maxRecDepth 100000 in
theorem ci_X7_drop : sg_ok (.code yX7_drop cX7_drop 3 (some .int)) := ⟨ts_6_128.1.1.1.1.2, rfl⟩
theorem cb_X7_drop : sg_cb mi_X7_drop 2 := ⟨ci_X7_drop, iz_7, nh_7, pd_3, Nat.le_of_ble_eq_true rfl⟩
set_option maxRecDepth 100000 in
theorem mn_X7_drop : sg_ok (.instanceMethod yX7_drop) := ⟨ts_6_112.1.2.2.2.2, rfl⟩
set_option maxRecDepth 100000 in
theorem mv_X7_drop : sg_ok (.selects RX7 yX7_drop yX7_drop) := ⟨ts_6_128.1.1.1.1.1, rfl⟩
set_option maxRecDepth 100000 in
theorem ci_X7_part : sg_ok (.code yX7_part cX7_part 5 (some (.array .int))) := ⟨ts_6_128.1.1.2.1.1, rfl⟩
theorem pd_32 : (parseMethodDescriptor "([III)[I").map (fun d => d.parameters.length) = some 3 := by decide +kernel
theorem cb_X7_part : sg_cb mi_X7_part 3 := ⟨ci_X7_part, iz_7, nh_7, pd_32, Nat.le_of_ble_eq_true rfl⟩
set_option maxRecDepth 100000 in
theorem ms_X7_part : sg_ok (.static yX7_part) := ⟨ts_6_128.1.1.1.2.2, rfl⟩
set_option maxRecDepth 100000 in
theorem ci_X7_copy : sg_ok (.code yX7_copy cX7_copy 4 (some .int)) := ⟨ts_6_128.1.2.1.1.1, rfl⟩
theorem cb_X7_copy : sg_cb mi_X7_copy 2 := ⟨ci_X7_copy, iz_7, nh_7, pd_3, Nat.le_of_ble_eq_true rfl⟩
set_option maxRecDepth 100000 in
theorem mn_X7_copy : sg_ok (.instanceMethod yX7_copy) := ⟨ts_6_128.1.1.2.2.1, rfl⟩
set_option maxRecDepth 100000 in
theorem mv_X7_copy : sg_ok (.selects RX7 yX7_copy yX7_copy) := ⟨ts_6_128.1.1.2.2.2, rfl⟩
set_option maxRecDepth 100000 in
theorem ci_X7_raise : sg_ok (.code yX7_raise cX7_raise 2 (some .int)) := ⟨ts_6_128.1.2.2.1.1, rfl⟩
theorem cb_X7_raise : sg_cb mi_X7_raise 1 := ⟨ci_X7_raise, iz_7, nh_7, pd_6, Nat.le_of_ble_eq_true rfl⟩
set_option maxRecDepth 100000 in
theorem mn_X7_raise : sg_ok (.instanceMethod yX7_raise) := ⟨ts_6_128.1.2.1.2.1, rfl⟩
set_option maxRecDepth 100000 in
theorem mv_X7_raise : sg_ok (.selects RX7 yX7_raise yX7_raise) := ⟨ts_6_128.1.2.1.2.2, rfl⟩
set_option maxRecDepth 100000 in
theorem ci_X7_cased : sg_ok (.code yX7_cased cX7_cased 8 (some .int)) := ⟨ts_6_144.1.1.1.1.1, rfl⟩
theorem cb_X7_cased : sg_cb mi_X7_cased 2 := ⟨ci_X7_cased, iz_7, nh_7, pd_25, Nat.le_of_ble_eq_true rfl⟩
set_option maxRecDepth 100000 in
theorem mn_X7_cased : sg_ok (.instanceMethod yX7_cased) := ⟨ts_6_128.1.2.2.2.2, rfl⟩
theorem mv_X7_cased : sg_ok (.selects RX7 yX7_cased yX7_cased) := sg_oks 13 (by decide +kernel)
set_option maxRecDepth 100000 in
theorem ci_X7_upperOf : sg_ok (.code yX7_upperOf cX7_upperOf 1 (some .int)) := ⟨ts_6_144.1.1.1.2.2, rfl⟩
theorem cb_X7_upperOf : sg_cb mi_X7_upperOf 1 := ⟨ci_X7_upperOf, iz_7, nh_7, pd_6, Nat.le_of_ble_eq_true rfl⟩
set_option maxRecDepth 100000 in
theorem ms_X7_upperOf : sg_ok (.static yX7_upperOf) := ⟨ts_6_144.1.1.1.2.1, rfl⟩
set_option maxRecDepth 100000 in
theorem ci_X7_lowerOf : sg_ok (.code yX7_lowerOf cX7_lowerOf 1 (some .int)) := ⟨ts_6_144.1.1.2.2.1, rfl⟩
theorem cb_X7_lowerOf : sg_cb mi_X7_lowerOf 1 := ⟨ci_X7_lowerOf, iz_7, nh_7, pd_6, Nat.le_of_ble_eq_true rfl⟩
set_option maxRecDepth 100000 in
theorem ms_X7_lowerOf : sg_ok (.static yX7_lowerOf) := ⟨ts_6_144.1.1.2.1.2, rfl⟩
set_option maxRecDepth 100000 in
theorem ci_X7_isKind : sg_ok (.code yX7_isKind cX7_isKind 3 (some .boolean)) := ⟨ts_6_144.1.2.1.1.2, rfl⟩
theorem cb_X7_isKind : sg_cb mi_X7_isKind 2 := ⟨ci_X7_isKind, iz_7, nh_7, pd_10, Nat.le_of_ble_eq_true rfl⟩
set_option maxRecDepth 100000 in
theorem ms_X7_isKind : sg_ok (.static yX7_isKind) := ⟨ts_6_144.1.2.1.1.1, rfl⟩
set_option maxRecDepth 100000 in
theorem ci_X7_one : sg_ok (.code yX7_one cX7_one 1 (some .int)) := ⟨ts_6_144.1.2.2.2.1, rfl⟩
theorem pd_33 : (parseMethodDescriptor "(Z)I").map (fun d => d.parameters.length) = some 1 := by decide +kernel
theorem cb_X7_one : sg_cb mi_X7_one 1 := ⟨ci_X7_one, iz_7, nh_7, pd_33, Nat.le_of_ble_eq_true rfl⟩
set_option maxRecDepth 100000 in
theorem ms_X7_one : sg_ok (.static yX7_one) := ⟨ts_6_144.1.2.2.1.2, rfl⟩
set_option maxRecDepth 100000 in
theorem ci_X7_sink : sg_ok (.code yX7_sink cX7_sink 2 (some .int)) := ⟨ts_6_160.1.1.1.2.1, rfl⟩
theorem cb_X7_sink : sg_cb mi_X7_sink 1 := ⟨ci_X7_sink, iz_7, nh_7, pd_6, Nat.le_of_ble_eq_true rfl⟩
set_option maxRecDepth 100000 in
theorem mn_X7_sink : sg_ok (.instanceMethod yX7_sink) := ⟨ts_6_160.1.1.1.1.1, rfl⟩
set_option maxRecDepth 100000 in
theorem mv_X7_sink : sg_ok (.selects RX7 yX7_sink yX7_sink) := ⟨ts_6_160.1.1.1.1.2, rfl⟩
set_option maxRecDepth 100000 in
theorem ci_X7_sieve : sg_ok (.code yX7_sieve cX7_sieve 6 (some .int)) := ⟨ts_6_160.1.1.2.2.1, rfl⟩
theorem cb_X7_sieve : sg_cb mi_X7_sieve 3 := ⟨ci_X7_sieve, iz_7, nh_7, pd_22, Nat.le_of_ble_eq_true rfl⟩
set_option maxRecDepth 100000 in
theorem mn_X7_sieve : sg_ok (.instanceMethod yX7_sieve) := ⟨ts_6_160.1.1.2.1.1, rfl⟩
set_option maxRecDepth 100000 in
theorem mv_X7_sieve : sg_ok (.selects RX7 yX7_sieve yX7_sieve) := ⟨ts_6_160.1.1.2.1.2, rfl⟩
set_option maxRecDepth 100000 in
theorem ci_X7_isNoKind : sg_ok (.code yX7_isNoKind cX7_isNoKind 1 (some .boolean)) := ⟨ts_6_160.1.2.1.1.2, rfl⟩
theorem cb_X7_isNoKind : sg_cb mi_X7_isNoKind 1 := ⟨ci_X7_isNoKind, iz_7, nh_7, pd_4, Nat.le_of_ble_eq_true rfl⟩
set_option maxRecDepth 100000 in
theorem ms_X7_isNoKind : sg_ok (.static yX7_isNoKind) := ⟨ts_6_160.1.2.1.1.1, rfl⟩
set_option maxRecDepth 100000 in
theorem ci_X7_strip : sg_ok (.code yX7_strip cX7_strip 5 (some .int)) := ⟨ts_6_160.1.2.2.1.2, rfl⟩
theorem cb_X7_strip : sg_cb mi_X7_strip 1 := ⟨ci_X7_strip, iz_7, nh_7, pd_6, Nat.le_of_ble_eq_true rfl⟩
set_option maxRecDepth 100000 in
theorem mn_X7_strip : sg_ok (.instanceMethod yX7_strip) := ⟨ts_6_160.1.2.1.2.2, rfl⟩
set_option maxRecDepth 100000 in
theorem mv_X7_strip : sg_ok (.selects RX7 yX7_strip yX7_strip) := ⟨ts_6_160.1.2.2.1.1, rfl⟩
set_option maxRecDepth 100000 in
theorem ci_X7_turn : sg_ok (.code yX7_turn cX7_turn 2 (some .int)) := ⟨ts_6_176.1.1.1.1.2, rfl⟩
theorem cb_X7_turn : sg_cb mi_X7_turn 1 := ⟨ci_X7_turn, iz_7, nh_7, pd_6, Nat.le_of_ble_eq_true rfl⟩
set_option maxRecDepth 100000 in
theorem mn_X7_turn : sg_ok (.instanceMethod yX7_turn) := ⟨ts_6_160.1.2.2.2.2, rfl⟩
set_option maxRecDepth 100000 in
theorem mv_X7_turn : sg_ok (.selects RX7 yX7_turn yX7_turn) := ⟨ts_6_176.1.1.1.1.1, rfl⟩
set_option maxRecDepth 100000 in
theorem ci_X7_turned : sg_ok (.code yX7_turned cX7_turned 3 (some (.array .int))) := ⟨ts_6_176.1.1.2.1.1, rfl⟩
theorem pd_34 : (parseMethodDescriptor "([I)[I").map (fun d => d.parameters.length) = some 1 := by decide +kernel
theorem cb_X7_turned : sg_cb mi_X7_turned 1 := ⟨ci_X7_turned, iz_7, nh_7, pd_34, Nat.le_of_ble_eq_true rfl⟩
set_option maxRecDepth 100000 in
theorem ms_X7_turned : sg_ok (.static yX7_turned) := ⟨ts_6_176.1.1.1.2.2, rfl⟩
set_option maxRecDepth 100000 in
theorem ci_X7_write : sg_ok (.code yX7_write cX7_write 6 (some .int)) := ⟨ts_6_176.1.2.1.1.1, rfl⟩
theorem cb_X7_write : sg_cb mi_X7_write 3 := ⟨ci_X7_write, iz_7, nh_7, pd_23, Nat.le_of_ble_eq_true rfl⟩
set_option maxRecDepth 100000 in
theorem mn_X7_write : sg_ok (.instanceMethod yX7_write) := ⟨ts_6_176.1.1.2.2.1, rfl⟩
set_option maxRecDepth 100000 in
theorem mv_X7_write : sg_ok (.selects RX7 yX7_write yX7_write) := ⟨ts_6_176.1.1.2.2.2, rfl⟩
set_option maxRecDepth 100000 in
theorem ci_X7_isRadix : sg_ok (.code yX7_isRadix cX7_isRadix 1 (some .boolean)) := ⟨ts_6_176.1.2.2.1.1, rfl⟩
theorem cb_X7_isRadix : sg_cb mi_X7_isRadix 1 := ⟨ci_X7_isRadix, iz_7, nh_7, pd_4, Nat.le_of_ble_eq_true rfl⟩
set_option maxRecDepth 100000 in
theorem ms_X7_isRadix : sg_ok (.static yX7_isRadix) := ⟨ts_6_176.1.2.1.2.2, rfl⟩
set_option maxRecDepth 100000 in
theorem ci_X7_digitOf : sg_ok (.code yX7_digitOf cX7_digitOf 2 (some .int)) := ⟨ts_6_176.1.2.2.2.2, rfl⟩
theorem cb_X7_digitOf : sg_cb mi_X7_digitOf 2 := ⟨ci_X7_digitOf, iz_7, nh_7, pd_3, Nat.le_of_ble_eq_true rfl⟩
set_option maxRecDepth 100000 in
theorem ms_X7_digitOf : sg_ok (.static yX7_digitOf) := ⟨ts_6_176.1.2.2.2.1, rfl⟩
set_option maxRecDepth 100000 in
theorem ci_X7_spell : sg_ok (.code yX7_spell cX7_spell 3 (some .int)) := ⟨ts_6_192.1.1.1.2.2, rfl⟩
theorem cb_X7_spell : sg_cb mi_X7_spell 2 := ⟨ci_X7_spell, iz_7, nh_7, pd_3, Nat.le_of_ble_eq_true rfl⟩
set_option maxRecDepth 100000 in
theorem mn_X7_spell : sg_ok (.instanceMethod yX7_spell) := ⟨ts_6_192.1.1.1.1.2, rfl⟩
set_option maxRecDepth 100000 in
theorem mv_X7_spell : sg_ok (.selects RX7 yX7_spell yX7_spell) := ⟨ts_6_192.1.1.1.2.1, rfl⟩
set_option maxRecDepth 100000 in
theorem ci_X7_spelledOf : sg_ok (.code yX7_spelledOf cX7_spelledOf 3 (some (.array .int))) := ⟨ts_6_192.1.1.2.2.1, rfl⟩
theorem cb_X7_spelledOf : sg_cb mi_X7_spelledOf 1 := ⟨ci_X7_spelledOf, iz_7, nh_7, pd_34, Nat.le_of_ble_eq_true rfl⟩
set_option maxRecDepth 100000 in
theorem ms_X7_spelledOf : sg_ok (.static yX7_spelledOf) := ⟨ts_6_192.1.1.2.1.2, rfl⟩
set_option maxRecDepth 100000 in
theorem ci_X7_read : sg_ok (.code yX7_read cX7_read 8 (some .int)) := ⟨ts_6_192.1.2.1.2.1, rfl⟩
theorem cb_X7_read : sg_cb mi_X7_read 2 := ⟨ci_X7_read, iz_7, nh_7, pd_3, Nat.le_of_ble_eq_true rfl⟩
set_option maxRecDepth 100000 in
theorem mn_X7_read : sg_ok (.instanceMethod yX7_read) := ⟨ts_6_192.1.2.1.1.1, rfl⟩
set_option maxRecDepth 100000 in
theorem mv_X7_read : sg_ok (.selects RX7 yX7_read yX7_read) := ⟨ts_6_192.1.2.1.1.2, rfl⟩
set_option maxRecDepth 100000 in
theorem ci_X7_numberOf : sg_ok (.code yX7_numberOf cX7_numberOf 3 (some .int)) := ⟨ts_6_192.1.2.2.1.2, rfl⟩
theorem cb_X7_numberOf : sg_cb mi_X7_numberOf 2 := ⟨ci_X7_numberOf, iz_7, nh_7, pd_3, Nat.le_of_ble_eq_true rfl⟩
set_option maxRecDepth 100000 in
theorem ms_X7_numberOf : sg_ok (.static yX7_numberOf) := ⟨ts_6_192.1.2.2.1.1, rfl⟩
set_option maxRecDepth 100000 in
theorem ci_X7_valueOf : sg_ok (.code yX7_valueOf cX7_valueOf 1 (some .int)) := ⟨ts_6_208.1.1.1.1.1, rfl⟩
theorem cb_X7_valueOf : sg_cb mi_X7_valueOf 1 := ⟨ci_X7_valueOf, iz_7, nh_7, pd_6, Nat.le_of_ble_eq_true rfl⟩
set_option maxRecDepth 100000 in
theorem ms_X7_valueOf : sg_ok (.static yX7_valueOf) := ⟨ts_6_192.1.2.2.2.2, rfl⟩
set_option maxRecDepth 100000 in
theorem ci_X7_send : sg_ok (.code yX7_send cX7_send 3 (some .int)) := ⟨ts_6_208.1.1.2.1.1, rfl⟩
theorem cb_X7_send : sg_cb mi_X7_send 2 := ⟨ci_X7_send, iz_7, nh_7, pd_3, Nat.le_of_ble_eq_true rfl⟩
set_option maxRecDepth 100000 in
theorem mn_X7_send : sg_ok (.instanceMethod yX7_send) := ⟨ts_6_208.1.1.1.2.1, rfl⟩
set_option maxRecDepth 100000 in
theorem mv_X7_send : sg_ok (.selects RX7 yX7_send yX7_send) := ⟨ts_6_208.1.1.1.2.2, rfl⟩
set_option maxRecDepth 100000 in
theorem ci_X7_isNoTrack : sg_ok (.code yX7_isNoTrack cX7_isNoTrack 1 (some .boolean)) := ⟨ts_6_208.1.1.2.2.2, rfl⟩
theorem cb_X7_isNoTrack : sg_cb mi_X7_isNoTrack 1 := ⟨ci_X7_isNoTrack, iz_7, nh_7, pd_4, Nat.le_of_ble_eq_true rfl⟩
set_option maxRecDepth 100000 in
theorem ms_X7_isNoTrack : sg_ok (.static yX7_isNoTrack) := ⟨ts_6_208.1.1.2.2.1, rfl⟩
set_option maxRecDepth 100000 in
theorem ci_X7_sent : sg_ok (.code yX7_sent cX7_sent 1 (some (.array .int))) := ⟨ts_6_208.1.2.1.2.2, rfl⟩
theorem pd_35 : (parseMethodDescriptor "(I)[I").map (fun d => d.parameters.length) = some 1 := by decide +kernel
theorem cb_X7_sent : sg_cb mi_X7_sent 1 := ⟨ci_X7_sent, iz_7, nh_7, pd_35, Nat.le_of_ble_eq_true rfl⟩
set_option maxRecDepth 100000 in
theorem ms_X7_sent : sg_ok (.static yX7_sent) := ⟨ts_6_208.1.2.1.2.1, rfl⟩
set_option maxRecDepth 100000 in
theorem ci_X7_behind : sg_ok (.code yX7_behind cX7_behind 3 (some .int)) := ⟨ts_6_224.1.1.1.2.1, rfl⟩
theorem cb_X7_behind : sg_cb mi_X7_behind 2 := ⟨ci_X7_behind, iz_7, nh_7, pd_31, Nat.le_of_ble_eq_true rfl⟩
set_option maxRecDepth 100000 in
theorem mn_X7_behind : sg_ok (.instanceMethod yX7_behind) := ⟨ts_6_224.1.1.1.1.2, rfl⟩
theorem mv_X7_behind : sg_ok (.selects RX7 yX7_behind yX7_behind) := sg_oks 14 (by decide +kernel)
set_option maxRecDepth 100000 in
theorem ci_X7_put : sg_ok (.code yX7_put cX7_put 3 (some .int)) := ⟨ts_6_224.1.1.2.2.1, rfl⟩
theorem cb_X7_put : sg_cb mi_X7_put 2 := ⟨ci_X7_put, iz_7, nh_7, pd_3, Nat.le_of_ble_eq_true rfl⟩
set_option maxRecDepth 100000 in
theorem mn_X7_put : sg_ok (.instanceMethod yX7_put) := ⟨ts_6_224.1.1.2.1.1, rfl⟩
set_option maxRecDepth 100000 in
theorem mv_X7_put : sg_ok (.selects RX7 yX7_put yX7_put) := ⟨ts_6_224.1.1.2.1.2, rfl⟩
set_option maxRecDepth 100000 in
theorem ci_X7_cut : sg_ok (.code yX7_cut cX7_cut 3 (some .int)) := ⟨ts_6_224.1.2.1.2.2, rfl⟩
theorem cb_X7_cut : sg_cb mi_X7_cut 2 := ⟨ci_X7_cut, iz_7, nh_7, pd_3, Nat.le_of_ble_eq_true rfl⟩
set_option maxRecDepth 100000 in
theorem mn_X7_cut : sg_ok (.instanceMethod yX7_cut) := ⟨ts_6_224.1.2.1.1.2, rfl⟩
set_option maxRecDepth 100000 in
theorem mv_X7_cut : sg_ok (.selects RX7 yX7_cut yX7_cut) := ⟨ts_6_224.1.2.1.2.1, rfl⟩
set_option maxRecDepth 100000 in
theorem ci_X7_flip : sg_ok (.code yX7_flip cX7_flip 5 (some .int)) := ⟨ts_6_224.1.2.2.2.2, rfl⟩
theorem cb_X7_flip : sg_cb mi_X7_flip 1 := ⟨ci_X7_flip, iz_7, nh_7, pd_6, Nat.le_of_ble_eq_true rfl⟩
set_option maxRecDepth 100000 in
theorem mn_X7_flip : sg_ok (.instanceMethod yX7_flip) := ⟨ts_6_224.1.2.2.1.2, rfl⟩
set_option maxRecDepth 100000 in
theorem mv_X7_flip : sg_ok (.selects RX7 yX7_flip yX7_flip) := ⟨ts_6_224.1.2.2.2.1, rfl⟩
set_option maxRecDepth 100000 in
theorem ci_X7_turnedUnit : sg_ok (.code yX7_turnedUnit cX7_turnedUnit 1 (some .int)) := ⟨ts_7_0.1.1.1.2.1, rfl⟩
theorem cb_X7_turnedUnit : sg_cb mi_X7_turnedUnit 1 := ⟨ci_X7_turnedUnit, iz_7, nh_7, pd_6, Nat.le_of_ble_eq_true rfl⟩
set_option maxRecDepth 100000 in
theorem ms_X7_turnedUnit : sg_ok (.static yX7_turnedUnit) := ⟨ts_7_0.1.1.1.1.2, rfl⟩
set_option maxRecDepth 100000 in
theorem ci_X7_isHalf : sg_ok (.code yX7_isHalf cX7_isHalf 1 (some .boolean)) := ⟨ts_7_0.1.1.2.1.2, rfl⟩
theorem cb_X7_isHalf : sg_cb mi_X7_isHalf 1 := ⟨ci_X7_isHalf, iz_7, nh_7, pd_4, Nat.le_of_ble_eq_true rfl⟩
set_option maxRecDepth 100000 in
theorem ms_X7_isHalf : sg_ok (.static yX7_isHalf) := ⟨ts_7_0.1.1.2.1.1, rfl⟩
set_option maxRecDepth 100000 in
theorem ci_X7_isHigh : sg_ok (.code yX7_isHigh cX7_isHigh 1 (some .boolean)) := ⟨ts_7_0.1.2.1.1.1, rfl⟩
theorem cb_X7_isHigh : sg_cb mi_X7_isHigh 1 := ⟨ci_X7_isHigh, iz_7, nh_7, pd_4, Nat.le_of_ble_eq_true rfl⟩
set_option maxRecDepth 100000 in
theorem ms_X7_isHigh : sg_ok (.static yX7_isHigh) := ⟨ts_7_0.1.1.2.2.2, rfl⟩
set_option maxRecDepth 100000 in
theorem ci_X7_isLow : sg_ok (.code yX7_isLow cX7_isLow 1 (some .boolean)) := ⟨ts_7_0.1.2.2.1.1, rfl⟩
theorem cb_X7_isLow : sg_cb mi_X7_isLow 1 := ⟨ci_X7_isLow, iz_7, nh_7, pd_4, Nat.le_of_ble_eq_true rfl⟩
set_option maxRecDepth 100000 in
theorem ms_X7_isLow : sg_ok (.static yX7_isLow) := ⟨ts_7_0.1.2.1.2.2, rfl⟩
set_option maxRecDepth 100000 in
theorem ci_X7_reverse : sg_ok (.code yX7_reverse cX7_reverse 7 (some .int)) := ⟨ts_7_16.1.1.1.1.2, rfl⟩
theorem cb_X7_reverse : sg_cb mi_X7_reverse 1 := ⟨ci_X7_reverse, iz_7, nh_7, pd_6, Nat.le_of_ble_eq_true rfl⟩
set_option maxRecDepth 100000 in
theorem mn_X7_reverse : sg_ok (.instanceMethod yX7_reverse) := ⟨ts_7_0.1.2.2.2.2, rfl⟩
set_option maxRecDepth 100000 in
theorem mv_X7_reverse : sg_ok (.selects RX7 yX7_reverse yX7_reverse) := ⟨ts_7_16.1.1.1.1.1, rfl⟩
set_option maxRecDepth 100000 in
theorem ci_X7_codes : sg_ok (.code yX7_codes cX7_codes 4 (some (.array .int))) := ⟨ts_7_16.1.1.2.1.2, rfl⟩
theorem cb_X7_codes : sg_cb mi_X7_codes 1 := ⟨ci_X7_codes, iz_7, nh_7, pd_35, Nat.le_of_ble_eq_true rfl⟩
set_option maxRecDepth 100000 in
theorem mn_X7_codes : sg_ok (.instanceMethod yX7_codes) := ⟨ts_7_16.1.1.2.1.1, rfl⟩
theorem mv_X7_codes : sg_ok (.selects RX7 yX7_codes yX7_codes) := sg_oks 15 (by decide +kernel)
set_option maxRecDepth 100000 in
theorem ci_X7_codeOf : sg_ok (.code yX7_codeOf cX7_codeOf 4 (some .int)) := ⟨ts_7_16.1.2.1.1.2, rfl⟩
theorem cb_X7_codeOf : sg_cb mi_X7_codeOf 2 := ⟨ci_X7_codeOf, iz_7, nh_7, pd_3, Nat.le_of_ble_eq_true rfl⟩
set_option maxRecDepth 100000 in
theorem mn_X7_codeOf : sg_ok (.instanceMethod yX7_codeOf) := ⟨ts_7_16.1.2.1.1.1, rfl⟩
theorem mv_X7_codeOf : sg_ok (.selects RX7 yX7_codeOf yX7_codeOf) := sg_oks 16 (by decide +kernel)
set_option maxRecDepth 100000 in
theorem ci_X7_both : sg_ok (.code yX7_both cX7_both 2 (some .int)) := ⟨ts_7_16.1.2.2.1.1, rfl⟩
theorem cb_X7_both : sg_cb mi_X7_both 2 := ⟨ci_X7_both, iz_7, nh_7, pd_3, Nat.le_of_ble_eq_true rfl⟩
set_option maxRecDepth 100000 in
theorem ms_X7_both : sg_ok (.static yX7_both) := ⟨ts_7_16.1.2.1.2.2, rfl⟩
set_option maxRecDepth 100000 in
theorem ci_X7_undo : sg_ok (.code yX7_undo cX7_undo 1 (some .int)) := ⟨ts_7_32.1.1.1.1.1, rfl⟩
theorem cb_X7_undo : sg_cb mi_X7_undo 0 := ⟨ci_X7_undo, iz_7, nh_7, pd_2, Nat.le_of_ble_eq_true rfl⟩
set_option maxRecDepth 100000 in
theorem mn_X7_undo : sg_ok (.instanceMethod yX7_undo) := ⟨ts_7_16.1.2.2.2.1, rfl⟩
set_option maxRecDepth 100000 in
theorem mv_X7_undo : sg_ok (.selects RX7 yX7_undo yX7_undo) := ⟨ts_7_16.1.2.2.2.2, rfl⟩
set_option maxRecDepth 100000 in
theorem ci_X7_knock : sg_ok (.code yX7_knock cX7_knock 1 (some .int)) := ⟨ts_7_32.1.2.1.1.2, rfl⟩
theorem cb_X7_knock : sg_cb mi_X7_knock 0 := ⟨ci_X7_knock, iz_7, nh_7, pd_2, Nat.le_of_ble_eq_true rfl⟩
set_option maxRecDepth 100000 in
theorem mn_X7_knock : sg_ok (.instanceMethod yX7_knock) := ⟨ts_7_32.1.1.2.2.2, rfl⟩
set_option maxRecDepth 100000 in
theorem mv_X7_knock : sg_ok (.selects RX7 yX7_knock yX7_knock) := ⟨ts_7_32.1.2.1.1.1, rfl⟩
set_option maxRecDepth 100000 in
theorem ci_X7_isDigit : sg_ok (.code yX7_isDigit cX7_isDigit 2 (some .boolean)) := ⟨ts_7_32.1.2.2.1.2, rfl⟩
theorem cb_X7_isDigit : sg_cb mi_X7_isDigit 1 := ⟨ci_X7_isDigit, iz_7, nh_7, pd_4, Nat.le_of_ble_eq_true rfl⟩
set_option maxRecDepth 100000 in
theorem mn_X7_isDigit : sg_ok (.instanceMethod yX7_isDigit) := ⟨ts_7_32.1.2.1.2.2, rfl⟩
set_option maxRecDepth 100000 in
theorem mv_X7_isDigit : sg_ok (.selects RX7 yX7_isDigit yX7_isDigit) := ⟨ts_7_32.1.2.2.1.1, rfl⟩
set_option maxRecDepth 100000 in
theorem ci_X7_kindTold : sg_ok (.code yX7_kindTold cX7_kindTold 3 (some .boolean)) := ⟨ts_7_48.1.1.1.1.2, rfl⟩
theorem cb_X7_kindTold : sg_cb mi_X7_kindTold 2 := ⟨ci_X7_kindTold, iz_7, nh_7, pd_10, Nat.le_of_ble_eq_true rfl⟩
set_option maxRecDepth 100000 in
theorem mn_X7_kindTold : sg_ok (.instanceMethod yX7_kindTold) := ⟨ts_7_48.1.1.1.1.1, rfl⟩
theorem mv_X7_kindTold : sg_ok (.selects RX7 yX7_kindTold yX7_kindTold) := sg_oks 17 (by decide +kernel)
set_option maxRecDepth 100000 in
theorem ci_X7_isLetter : sg_ok (.code yX7_isLetter cX7_isLetter 2 (some .boolean)) := ⟨ts_7_48.1.1.2.1.2, rfl⟩
theorem cb_X7_isLetter : sg_cb mi_X7_isLetter 1 := ⟨ci_X7_isLetter, iz_7, nh_7, pd_4, Nat.le_of_ble_eq_true rfl⟩
set_option maxRecDepth 100000 in
theorem mn_X7_isLetter : sg_ok (.instanceMethod yX7_isLetter) := ⟨ts_7_48.1.1.1.2.2, rfl⟩
set_option maxRecDepth 100000 in
theorem mv_X7_isLetter : sg_ok (.selects RX7 yX7_isLetter yX7_isLetter) := ⟨ts_7_48.1.1.2.1.1, rfl⟩
set_option maxRecDepth 100000 in
theorem ci_X7_isLetterOrDigit : sg_ok (.code yX7_isLetterOrDigit cX7_isLetterOrDigit 2 (some .boolean)) := ⟨ts_7_48.1.2.1.1.2, rfl⟩
theorem cb_X7_isLetterOrDigit : sg_cb mi_X7_isLetterOrDigit 1 := ⟨ci_X7_isLetterOrDigit, iz_7, nh_7, pd_4, Nat.le_of_ble_eq_true rfl⟩
set_option maxRecDepth 100000 in
theorem mn_X7_isLetterOrDigit : sg_ok (.instanceMethod yX7_isLetterOrDigit) := ⟨ts_7_48.1.1.2.2.2, rfl⟩
set_option maxRecDepth 100000 in
theorem mv_X7_isLetterOrDigit : sg_ok (.selects RX7 yX7_isLetterOrDigit yX7_isLetterOrDigit) := ⟨ts_7_48.1.2.1.1.1, rfl⟩
set_option maxRecDepth 100000 in
theorem ci_X7_isWhite : sg_ok (.code yX7_isWhite cX7_isWhite 2 (some .boolean)) := ⟨ts_7_48.1.2.2.1.2, rfl⟩
theorem cb_X7_isWhite : sg_cb mi_X7_isWhite 1 := ⟨ci_X7_isWhite, iz_7, nh_7, pd_4, Nat.le_of_ble_eq_true rfl⟩
set_option maxRecDepth 100000 in
theorem mn_X7_isWhite : sg_ok (.instanceMethod yX7_isWhite) := ⟨ts_7_48.1.2.1.2.2, rfl⟩
set_option maxRecDepth 100000 in
theorem mv_X7_isWhite : sg_ok (.selects RX7 yX7_isWhite yX7_isWhite) := ⟨ts_7_48.1.2.2.1.1, rfl⟩
set_option maxRecDepth 100000 in
theorem ci_X7_isGreat : sg_ok (.code yX7_isGreat cX7_isGreat 2 (some .boolean)) := ⟨ts_7_64.1.1.1.1.2, rfl⟩
theorem cb_X7_isGreat : sg_cb mi_X7_isGreat 1 := ⟨ci_X7_isGreat, iz_7, nh_7, pd_4, Nat.le_of_ble_eq_true rfl⟩
set_option maxRecDepth 100000 in
theorem mn_X7_isGreat : sg_ok (.instanceMethod yX7_isGreat) := ⟨ts_7_48.1.2.2.2.2, rfl⟩
set_option maxRecDepth 100000 in
theorem mv_X7_isGreat : sg_ok (.selects RX7 yX7_isGreat yX7_isGreat) := ⟨ts_7_64.1.1.1.1.1, rfl⟩
set_option maxRecDepth 100000 in
theorem ci_X7_kinds : sg_ok (.code yX7_kinds cX7_kinds 2 (some .int)) := ⟨ts_7_64.1.1.2.1.2, rfl⟩
theorem cb_X7_kinds : sg_cb mi_X7_kinds 1 := ⟨ci_X7_kinds, iz_7, nh_7, pd_6, Nat.le_of_ble_eq_true rfl⟩
set_option maxRecDepth 100000 in
theorem mn_X7_kinds : sg_ok (.instanceMethod yX7_kinds) := ⟨ts_7_64.1.1.1.2.2, rfl⟩
set_option maxRecDepth 100000 in
theorem mv_X7_kinds : sg_ok (.selects RX7 yX7_kinds yX7_kinds) := ⟨ts_7_64.1.1.2.1.1, rfl⟩
set_option maxRecDepth 100000 in
theorem ci_X7_kindsOf : sg_ok (.code yX7_kindsOf cX7_kindsOf 3 (some .int)) := ⟨ts_7_64.1.2.1.1.1, rfl⟩
theorem cb_X7_kindsOf : sg_cb mi_X7_kindsOf 1 := ⟨ci_X7_kindsOf, iz_7, nh_7, pd_6, Nat.le_of_ble_eq_true rfl⟩
set_option maxRecDepth 100000 in
theorem ms_X7_kindsOf : sg_ok (.static yX7_kindsOf) := ⟨ts_7_64.1.1.2.2.2, rfl⟩
set_option maxRecDepth 100000 in
theorem ci_X7_upper : sg_ok (.code yX7_upper cX7_upper 3 (some .int)) := ⟨ts_7_64.1.2.2.1.1, rfl⟩
theorem cb_X7_upper : sg_cb mi_X7_upper 2 := ⟨ci_X7_upper, iz_7, nh_7, pd_25, Nat.le_of_ble_eq_true rfl⟩
set_option maxRecDepth 100000 in
theorem mn_X7_upper : sg_ok (.instanceMethod yX7_upper) := ⟨ts_7_64.1.2.1.2.1, rfl⟩
set_option maxRecDepth 100000 in
theorem mv_X7_upper : sg_ok (.selects RX7 yX7_upper yX7_upper) := ⟨ts_7_64.1.2.1.2.2, rfl⟩
set_option maxRecDepth 100000 in
theorem ci_X7_lower : sg_ok (.code yX7_lower cX7_lower 3 (some .int)) := ⟨ts_7_80.1.1.1.1.1, rfl⟩
theorem cb_X7_lower : sg_cb mi_X7_lower 2 := ⟨ci_X7_lower, iz_7, nh_7, pd_25, Nat.le_of_ble_eq_true rfl⟩
set_option maxRecDepth 100000 in
theorem mn_X7_lower : sg_ok (.instanceMethod yX7_lower) := ⟨ts_7_64.1.2.2.2.1, rfl⟩
set_option maxRecDepth 100000 in
theorem mv_X7_lower : sg_ok (.selects RX7 yX7_lower yX7_lower) := ⟨ts_7_64.1.2.2.2.2, rfl⟩
set_option maxRecDepth 100000 in
theorem ci_X7_value : sg_ok (.code yX7_value cX7_value 3 (some .int)) := ⟨ts_7_80.1.1.2.1.1, rfl⟩
theorem cb_X7_value : sg_cb mi_X7_value 2 := ⟨ci_X7_value, iz_7, nh_7, pd_25, Nat.le_of_ble_eq_true rfl⟩
set_option maxRecDepth 100000 in
theorem mn_X7_value : sg_ok (.instanceMethod yX7_value) := ⟨ts_7_80.1.1.1.2.1, rfl⟩
set_option maxRecDepth 100000 in
theorem mv_X7_value : sg_ok (.selects RX7 yX7_value yX7_value) := ⟨ts_7_80.1.1.1.2.2, rfl⟩
set_option maxRecDepth 100000 in
theorem ci_X7_number : sg_ok (.code yX7_number cX7_number 4 (some .int)) := ⟨ts_7_80.1.2.1.1.1, rfl⟩
theorem cb_X7_number : sg_cb mi_X7_number 3 := ⟨ci_X7_number, iz_7, nh_7, pd_22, Nat.le_of_ble_eq_true rfl⟩
set_option maxRecDepth 100000 in
theorem mn_X7_number : sg_ok (.instanceMethod yX7_number) := ⟨ts_7_80.1.1.2.2.1, rfl⟩
set_option maxRecDepth 100000 in
theorem mv_X7_number : sg_ok (.selects RX7 yX7_number yX7_number) := ⟨ts_7_80.1.1.2.2.2, rfl⟩
set_option maxRecDepth 100000 in
theorem ci_X7_digit : sg_ok (.code yX7_digit cX7_digit 3 (some .int)) := ⟨ts_7_80.1.2.2.1.1, rfl⟩
theorem cb_X7_digit : sg_cb mi_X7_digit 2 := ⟨ci_X7_digit, iz_7, nh_7, pd_3, Nat.le_of_ble_eq_true rfl⟩
set_option maxRecDepth 100000 in
theorem mn_X7_digit : sg_ok (.instanceMethod yX7_digit) := ⟨ts_7_80.1.2.1.2.1, rfl⟩
set_option maxRecDepth 100000 in
theorem mv_X7_digit : sg_ok (.selects RX7 yX7_digit yX7_digit) := ⟨ts_7_80.1.2.1.2.2, rfl⟩
set_option maxRecDepth 100000 in
theorem ci_X7_length : sg_ok (.code yX7_length cX7_length 2 (some .int)) := ⟨ts_7_96.1.1.1.1.1, rfl⟩
theorem cb_X7_length : sg_cb mi_X7_length 1 := ⟨ci_X7_length, iz_7, nh_7, pd_6, Nat.le_of_ble_eq_true rfl⟩
set_option maxRecDepth 100000 in
theorem mn_X7_length : sg_ok (.instanceMethod yX7_length) := ⟨ts_7_80.1.2.2.2.1, rfl⟩
set_option maxRecDepth 100000 in
theorem mv_X7_length : sg_ok (.selects RX7 yX7_length yX7_length) := ⟨ts_7_80.1.2.2.2.2, rfl⟩
set_option maxRecDepth 100000 in
theorem ci_X7_at : sg_ok (.code yX7_at cX7_at 3 (some .int)) := ⟨ts_7_96.1.1.2.1.1, rfl⟩
theorem cb_X7_at : sg_cb mi_X7_at 2 := ⟨ci_X7_at, iz_7, nh_7, pd_3, Nat.le_of_ble_eq_true rfl⟩
set_option maxRecDepth 100000 in
theorem mn_X7_at : sg_ok (.instanceMethod yX7_at) := ⟨ts_7_96.1.1.1.2.1, rfl⟩
set_option maxRecDepth 100000 in
theorem mv_X7_at : sg_ok (.selects RX7 yX7_at yX7_at) := ⟨ts_7_96.1.1.1.2.2, rfl⟩
set_option maxRecDepth 100000 in
theorem ci_X7_count : sg_ok (.code yX7_count cX7_count 3 (some .int)) := ⟨ts_7_96.1.2.1.1.1, rfl⟩
theorem cb_X7_count : sg_cb mi_X7_count 2 := ⟨ci_X7_count, iz_7, nh_7, pd_3, Nat.le_of_ble_eq_true rfl⟩
set_option maxRecDepth 100000 in
theorem mn_X7_count : sg_ok (.instanceMethod yX7_count) := ⟨ts_7_96.1.1.2.2.1, rfl⟩
set_option maxRecDepth 100000 in
theorem mv_X7_count : sg_ok (.selects RX7 yX7_count yX7_count) := ⟨ts_7_96.1.1.2.2.2, rfl⟩
set_option maxRecDepth 100000 in
theorem ci_X7_countOf : sg_ok (.code yX7_countOf cX7_countOf 8 (some .int)) := ⟨ts_7_96.1.2.2.1.1, rfl⟩
theorem cb_X7_countOf : sg_cb mi_X7_countOf 2 := ⟨ci_X7_countOf, iz_7, nh_7, pd_3, Nat.le_of_ble_eq_true rfl⟩
set_option maxRecDepth 100000 in
theorem mn_X7_countOf : sg_ok (.instanceMethod yX7_countOf) := ⟨ts_7_96.1.2.1.2.2, rfl⟩
theorem mv_X7_countOf : sg_ok (.selects RX7 yX7_countOf yX7_countOf) := sg_oks 18 (by decide +kernel)
set_option maxRecDepth 100000 in
theorem ci_X7_first : sg_ok (.code yX7_first cX7_first 5 (some .int)) := ⟨ts_7_112.1.1.1.1.1, rfl⟩
theorem cb_X7_first : sg_cb mi_X7_first 3 := ⟨ci_X7_first, iz_7, nh_7, pd_23, Nat.le_of_ble_eq_true rfl⟩
set_option maxRecDepth 100000 in
theorem mn_X7_first : sg_ok (.instanceMethod yX7_first) := ⟨ts_7_96.1.2.2.2.1, rfl⟩
set_option maxRecDepth 100000 in
theorem mv_X7_first : sg_ok (.selects RX7 yX7_first yX7_first) := ⟨ts_7_96.1.2.2.2.2, rfl⟩
set_option maxRecDepth 100000 in
theorem ci_X7_last : sg_ok (.code yX7_last cX7_last 5 (some .int)) := ⟨ts_7_112.1.1.2.1.1, rfl⟩
theorem cb_X7_last : sg_cb mi_X7_last 2 := ⟨ci_X7_last, iz_7, nh_7, pd_3, Nat.le_of_ble_eq_true rfl⟩
set_option maxRecDepth 100000 in
theorem mn_X7_last : sg_ok (.instanceMethod yX7_last) := ⟨ts_7_112.1.1.1.2.1, rfl⟩
set_option maxRecDepth 100000 in
theorem mv_X7_last : sg_ok (.selects RX7 yX7_last yX7_last) := ⟨ts_7_112.1.1.1.2.2, rfl⟩
set_option maxRecDepth 100000 in
theorem ci_X7_forms : sg_ok (.code yX7_forms cX7_forms 7 (some (.object "java/lang/String"))) := ⟨ts_7_112.1.2.1.1.1, rfl⟩
theorem cb_X7_forms : sg_cb mi_X7_forms 1 := ⟨ci_X7_forms, iz_7, nh_7, pd_26, Nat.le_of_ble_eq_true rfl⟩
set_option maxRecDepth 100000 in
theorem mn_X7_forms : sg_ok (.instanceMethod yX7_forms) := ⟨ts_7_112.1.1.2.2.1, rfl⟩
set_option maxRecDepth 100000 in
theorem mv_X7_forms : sg_ok (.selects RX7 yX7_forms yX7_forms) := ⟨ts_7_112.1.1.2.2.2, rfl⟩
set_option maxRecDepth 100000 in
theorem ci_X7_spelled : sg_ok (.code yX7_spelled cX7_spelled 7 (some (.object "java/lang/String"))) := ⟨ts_7_128.1.1.2.2.1, rfl⟩
theorem cb_X7_spelled : sg_cb mi_X7_spelled 1 := ⟨ci_X7_spelled, iz_7, nh_7, pd_26, Nat.le_of_ble_eq_true rfl⟩
set_option maxRecDepth 100000 in
theorem mn_X7_spelled : sg_ok (.instanceMethod yX7_spelled) := ⟨ts_7_128.1.1.2.1.1, rfl⟩
set_option maxRecDepth 100000 in
theorem mv_X7_spelled : sg_ok (.selects RX7 yX7_spelled yX7_spelled) := ⟨ts_7_128.1.1.2.1.2, rfl⟩
set_option maxRecDepth 100000 in
theorem ci_X7_told : sg_ok (.code yX7_told cX7_told 3 (some .int)) := ⟨ts_7_128.1.2.1.2.2, rfl⟩
theorem cb_X7_told : sg_cb mi_X7_told 2 := ⟨ci_X7_told, iz_7, nh_7, pd_3, Nat.le_of_ble_eq_true rfl⟩
set_option maxRecDepth 100000 in
theorem mn_X7_told : sg_ok (.instanceMethod yX7_told) := ⟨ts_7_128.1.2.1.1.2, rfl⟩
set_option maxRecDepth 100000 in
theorem mv_X7_told : sg_ok (.selects RX7 yX7_told yX7_told) := ⟨ts_7_128.1.2.1.2.1, rfl⟩
set_option maxRecDepth 100000 in
theorem ci_X7_toldOf : sg_ok (.code yX7_toldOf cX7_toldOf 9 (some .int)) := ⟨ts_7_128.1.2.2.2.2, rfl⟩
theorem cb_X7_toldOf : sg_cb mi_X7_toldOf 2 := ⟨ci_X7_toldOf, iz_7, nh_7, pd_3, Nat.le_of_ble_eq_true rfl⟩
set_option maxRecDepth 100000 in
theorem mn_X7_toldOf : sg_ok (.instanceMethod yX7_toldOf) := ⟨ts_7_128.1.2.2.2.1, rfl⟩
theorem mv_X7_toldOf : sg_ok (.selects RX7 yX7_toldOf yX7_toldOf) := sg_oks 19 (by decide +kernel)
set_option maxRecDepth 100000 in
theorem ci_X7_sum : sg_ok (.code yX7_sum cX7_sum 8 (some .int)) := ⟨ts_7_144.1.1.2.1.1, rfl⟩
theorem cb_X7_sum : sg_cb mi_X7_sum 2 := ⟨ci_X7_sum, iz_7, nh_7, pd_3, Nat.le_of_ble_eq_true rfl⟩
set_option maxRecDepth 100000 in
theorem mn_X7_sum : sg_ok (.instanceMethod yX7_sum) := ⟨ts_7_144.1.1.1.2.1, rfl⟩
set_option maxRecDepth 100000 in
theorem mv_X7_sum : sg_ok (.selects RX7 yX7_sum yX7_sum) := ⟨ts_7_144.1.1.1.2.2, rfl⟩
set_option maxRecDepth 100000 in
theorem ci_X7_values : sg_ok (.code yX7_values cX7_values 2 (some .int)) := ⟨ts_7_144.1.2.1.1.2, rfl⟩
theorem cb_X7_values : sg_cb mi_X7_values 1 := ⟨ci_X7_values, iz_7, nh_7, pd_6, Nat.le_of_ble_eq_true rfl⟩
set_option maxRecDepth 100000 in
theorem mn_X7_values : sg_ok (.instanceMethod yX7_values) := ⟨ts_7_144.1.1.2.2.2, rfl⟩
set_option maxRecDepth 100000 in
theorem mv_X7_values : sg_ok (.selects RX7 yX7_values yX7_values) := ⟨ts_7_144.1.2.1.1.1, rfl⟩
set_option maxRecDepth 100000 in
theorem ci_X7_valuesOf : sg_ok (.code yX7_valuesOf cX7_valuesOf 7 (some .int)) := ⟨ts_7_144.1.2.2.1.2, rfl⟩
theorem cb_X7_valuesOf : sg_cb mi_X7_valuesOf 1 := ⟨ci_X7_valuesOf, iz_7, nh_7, pd_6, Nat.le_of_ble_eq_true rfl⟩
set_option maxRecDepth 100000 in
theorem mn_X7_valuesOf : sg_ok (.instanceMethod yX7_valuesOf) := ⟨ts_7_144.1.2.2.1.1, rfl⟩
theorem mv_X7_valuesOf : sg_ok (.selects RX7 yX7_valuesOf yX7_valuesOf) := sg_oks 20 (by decide +kernel)
set_option maxRecDepth 100000 in
theorem ci_X7_words : sg_ok (.code yX7_words cX7_words 2 (some .int)) := ⟨ts_7_160.1.1.1.1.2, rfl⟩
theorem cb_X7_words : sg_cb mi_X7_words 1 := ⟨ci_X7_words, iz_7, nh_7, pd_6, Nat.le_of_ble_eq_true rfl⟩
set_option maxRecDepth 100000 in
theorem mn_X7_words : sg_ok (.instanceMethod yX7_words) := ⟨ts_7_144.1.2.2.2.2, rfl⟩
set_option maxRecDepth 100000 in
theorem mv_X7_words : sg_ok (.selects RX7 yX7_words yX7_words) := ⟨ts_7_160.1.1.1.1.1, rfl⟩
set_option maxRecDepth 100000 in
theorem ci_X7_wordsOf : sg_ok (.code yX7_wordsOf cX7_wordsOf 4 (some (.object "java/util/ArrayList"))) := ⟨ts_7_160.1.1.2.1.2, rfl⟩
theorem pd_36 : (parseMethodDescriptor "(I)Ljava/util/ArrayList;").map (fun d => d.parameters.length) = some 1 := by decide +kernel
theorem cb_X7_wordsOf : sg_cb mi_X7_wordsOf 1 := ⟨ci_X7_wordsOf, iz_7, nh_7, pd_36, Nat.le_of_ble_eq_true rfl⟩
set_option maxRecDepth 100000 in
theorem mn_X7_wordsOf : sg_ok (.instanceMethod yX7_wordsOf) := ⟨ts_7_160.1.1.2.1.1, rfl⟩
theorem mv_X7_wordsOf : sg_ok (.selects RX7 yX7_wordsOf yX7_wordsOf) := sg_oks 21 (by decide +kernel)
set_option maxRecDepth 100000 in
theorem ci_X7_word : sg_ok (.code yX7_word cX7_word 4 (some .int)) := ⟨ts_7_176.1.1.1.1.2, rfl⟩
theorem cb_X7_word : sg_cb mi_X7_word 3 := ⟨ci_X7_word, iz_7, nh_7, pd_22, Nat.le_of_ble_eq_true rfl⟩
set_option maxRecDepth 100000 in
theorem mn_X7_word : sg_ok (.instanceMethod yX7_word) := ⟨ts_7_160.1.2.2.2.2, rfl⟩
set_option maxRecDepth 100000 in
theorem mv_X7_word : sg_ok (.selects RX7 yX7_word yX7_word) := ⟨ts_7_176.1.1.1.1.1, rfl⟩
set_option maxRecDepth 100000 in
theorem ci_X7_isAlike : sg_ok (.code yX7_isAlike cX7_isAlike 3 (some .boolean)) := ⟨ts_7_176.1.1.2.1.2, rfl⟩
theorem cb_X7_isAlike : sg_cb mi_X7_isAlike 2 := ⟨ci_X7_isAlike, iz_7, nh_7, pd_10, Nat.le_of_ble_eq_true rfl⟩
set_option maxRecDepth 100000 in
theorem mn_X7_isAlike : sg_ok (.instanceMethod yX7_isAlike) := ⟨ts_7_176.1.1.1.2.2, rfl⟩
set_option maxRecDepth 100000 in
theorem mv_X7_isAlike : sg_ok (.selects RX7 yX7_isAlike yX7_isAlike) := ⟨ts_7_176.1.1.2.1.1, rfl⟩
set_option maxRecDepth 100000 in
theorem ci_X7_areAlike : sg_ok (.code yX7_areAlike cX7_areAlike 5 (some .boolean)) := ⟨ts_7_176.1.2.1.1.2, rfl⟩
theorem cb_X7_areAlike : sg_cb mi_X7_areAlike 2 := ⟨ci_X7_areAlike, iz_7, nh_7, pd_10, Nat.le_of_ble_eq_true rfl⟩
set_option maxRecDepth 100000 in
theorem mn_X7_areAlike : sg_ok (.instanceMethod yX7_areAlike) := ⟨ts_7_176.1.2.1.1.1, rfl⟩
theorem mv_X7_areAlike : sg_ok (.selects RX7 yX7_areAlike yX7_areAlike) := sg_oks 22 (by decide +kernel)
set_option maxRecDepth 100000 in
theorem ci_X7_order : sg_ok (.code yX7_order cX7_order 3 (some .int)) := ⟨ts_7_176.1.2.2.1.2, rfl⟩
theorem cb_X7_order : sg_cb mi_X7_order 2 := ⟨ci_X7_order, iz_7, nh_7, pd_3, Nat.le_of_ble_eq_true rfl⟩
set_option maxRecDepth 100000 in
theorem mn_X7_order : sg_ok (.instanceMethod yX7_order) := ⟨ts_7_176.1.2.1.2.2, rfl⟩
set_option maxRecDepth 100000 in
theorem mv_X7_order : sg_ok (.selects RX7 yX7_order yX7_order) := ⟨ts_7_176.1.2.2.1.1, rfl⟩
set_option maxRecDepth 100000 in
theorem ci_X7_orderOf : sg_ok (.code yX7_orderOf cX7_orderOf 4 (some .int)) := ⟨ts_7_192.1.1.1.1.2, rfl⟩
theorem pd_37 : (parseMethodDescriptor "([I[I)I").map (fun d => d.parameters.length) = some 2 := by decide +kernel
theorem cb_X7_orderOf : sg_cb mi_X7_orderOf 2 := ⟨ci_X7_orderOf, iz_7, nh_7, pd_37, Nat.le_of_ble_eq_true rfl⟩
set_option maxRecDepth 100000 in
theorem mn_X7_orderOf : sg_ok (.instanceMethod yX7_orderOf) := ⟨ts_7_192.1.1.1.1.1, rfl⟩
theorem mv_X7_orderOf : sg_ok (.selects RX7 yX7_orderOf yX7_orderOf) := sg_oks 23 (by decide +kernel)
set_option maxRecDepth 100000 in
theorem ci_X7_isCode : sg_ok (.code yX7_isCode cX7_isCode 2 (some .boolean)) := ⟨ts_7_192.1.1.2.1.2, rfl⟩
theorem cb_X7_isCode : sg_cb mi_X7_isCode 1 := ⟨ci_X7_isCode, iz_7, nh_7, pd_4, Nat.le_of_ble_eq_true rfl⟩
set_option maxRecDepth 100000 in
theorem mn_X7_isCode : sg_ok (.instanceMethod yX7_isCode) := ⟨ts_7_192.1.1.1.2.2, rfl⟩
set_option maxRecDepth 100000 in
theorem mv_X7_isCode : sg_ok (.selects RX7 yX7_isCode yX7_isCode) := ⟨ts_7_192.1.1.2.1.1, rfl⟩
set_option maxRecDepth 100000 in
theorem ci_X7_isPlain : sg_ok (.code yX7_isPlain cX7_isPlain 2 (some .boolean)) := ⟨ts_7_192.1.2.1.1.2, rfl⟩
theorem cb_X7_isPlain : sg_cb mi_X7_isPlain 1 := ⟨ci_X7_isPlain, iz_7, nh_7, pd_4, Nat.le_of_ble_eq_true rfl⟩
set_option maxRecDepth 100000 in
theorem mn_X7_isPlain : sg_ok (.instanceMethod yX7_isPlain) := ⟨ts_7_192.1.1.2.2.2, rfl⟩
set_option maxRecDepth 100000 in
theorem mv_X7_isPlain : sg_ok (.selects RX7 yX7_isPlain yX7_isPlain) := ⟨ts_7_192.1.2.1.1.1, rfl⟩
set_option maxRecDepth 100000 in
theorem ci_X7_isWide : sg_ok (.code yX7_isWide cX7_isWide 2 (some .boolean)) := ⟨ts_7_192.1.2.2.1.2, rfl⟩
theorem cb_X7_isWide : sg_cb mi_X7_isWide 1 := ⟨ci_X7_isWide, iz_7, nh_7, pd_4, Nat.le_of_ble_eq_true rfl⟩
set_option maxRecDepth 100000 in
theorem mn_X7_isWide : sg_ok (.instanceMethod yX7_isWide) := ⟨ts_7_192.1.2.1.2.2, rfl⟩
set_option maxRecDepth 100000 in
theorem mv_X7_isWide : sg_ok (.selects RX7 yX7_isWide yX7_isWide) := ⟨ts_7_192.1.2.2.1.1, rfl⟩
set_option maxRecDepth 100000 in
theorem ci_X7_units : sg_ok (.code yX7_units cX7_units 2 (some .int)) := ⟨ts_7_208.1.1.1.1.2, rfl⟩
theorem cb_X7_units : sg_cb mi_X7_units 1 := ⟨ci_X7_units, iz_7, nh_7, pd_6, Nat.le_of_ble_eq_true rfl⟩
set_option maxRecDepth 100000 in
theorem mn_X7_units : sg_ok (.instanceMethod yX7_units) := ⟨ts_7_192.1.2.2.2.2, rfl⟩
set_option maxRecDepth 100000 in
theorem mv_X7_units : sg_ok (.selects RX7 yX7_units yX7_units) := ⟨ts_7_208.1.1.1.1.1, rfl⟩
set_option maxRecDepth 100000 in
theorem ci_X7_half : sg_ok (.code yX7_half cX7_half 3 (some .int)) := ⟨ts_7_208.1.1.2.1.2, rfl⟩
theorem cb_X7_half : sg_cb mi_X7_half 2 := ⟨ci_X7_half, iz_7, nh_7, pd_25, Nat.le_of_ble_eq_true rfl⟩
set_option maxRecDepth 100000 in
theorem mn_X7_half : sg_ok (.instanceMethod yX7_half) := ⟨ts_7_208.1.1.1.2.2, rfl⟩
set_option maxRecDepth 100000 in
theorem mv_X7_half : sg_ok (.selects RX7 yX7_half yX7_half) := ⟨ts_7_208.1.1.2.1.1, rfl⟩
set_option maxRecDepth 100000 in
theorem ci_X7_code : sg_ok (.code yX7_code cX7_code 3 (some .int)) := ⟨ts_7_208.1.2.1.1.2, rfl⟩
theorem cb_X7_code : sg_cb mi_X7_code 2 := ⟨ci_X7_code, iz_7, nh_7, pd_3, Nat.le_of_ble_eq_true rfl⟩
set_option maxRecDepth 100000 in
theorem mn_X7_code : sg_ok (.instanceMethod yX7_code) := ⟨ts_7_208.1.1.2.2.2, rfl⟩
set_option maxRecDepth 100000 in
theorem mv_X7_code : sg_ok (.selects RX7 yX7_code yX7_code) := ⟨ts_7_208.1.2.1.1.1, rfl⟩
set_option maxRecDepth 100000 in
theorem ci_X7_ofUnit : sg_ok (.code yX7_ofUnit cX7_ofUnit 3 (some .int)) := ⟨ts_7_208.1.2.2.1.2, rfl⟩
theorem cb_X7_ofUnit : sg_cb mi_X7_ofUnit 2 := ⟨ci_X7_ofUnit, iz_7, nh_7, pd_3, Nat.le_of_ble_eq_true rfl⟩
set_option maxRecDepth 100000 in
theorem mn_X7_ofUnit : sg_ok (.instanceMethod yX7_ofUnit) := ⟨ts_7_208.1.2.1.2.2, rfl⟩
set_option maxRecDepth 100000 in
theorem mv_X7_ofUnit : sg_ok (.selects RX7 yX7_ofUnit yX7_ofUnit) := ⟨ts_7_208.1.2.2.1.1, rfl⟩
set_option maxRecDepth 100000 in
theorem ci_X7_ofUnitTold : sg_ok (.code yX7_ofUnitTold cX7_ofUnitTold 2 (some .int)) := ⟨ts_7_224.1.1.1.1.1, rfl⟩
theorem cb_X7_ofUnitTold : sg_cb mi_X7_ofUnitTold 2 := ⟨ci_X7_ofUnitTold, iz_7, nh_7, pd_3, Nat.le_of_ble_eq_true rfl⟩
set_option maxRecDepth 100000 in
theorem ms_X7_ofUnitTold : sg_ok (.static yX7_ofUnitTold) := ⟨ts_7_208.1.2.2.2.2, rfl⟩
set_option maxRecDepth 100000 in
theorem ci_X7_compare : sg_ok (.code yX7_compare cX7_compare 3 (some .int)) := ⟨ts_7_224.1.1.2.1.1, rfl⟩
theorem cb_X7_compare : sg_cb mi_X7_compare 2 := ⟨ci_X7_compare, iz_7, nh_7, pd_3, Nat.le_of_ble_eq_true rfl⟩
set_option maxRecDepth 100000 in
theorem mn_X7_compare : sg_ok (.instanceMethod yX7_compare) := ⟨ts_7_224.1.1.1.2.1, rfl⟩
set_option maxRecDepth 100000 in
theorem mv_X7_compare : sg_ok (.selects RX7 yX7_compare yX7_compare) := ⟨ts_7_224.1.1.1.2.2, rfl⟩
set_option maxRecDepth 100000 in
theorem ci_X7_ofTrack : sg_ok (.code yX7_ofTrack cX7_ofTrack 3 (some .int)) := ⟨ts_7_224.1.2.1.1.1, rfl⟩
theorem cb_X7_ofTrack : sg_cb mi_X7_ofTrack 2 := ⟨ci_X7_ofTrack, iz_7, nh_7, pd_3, Nat.le_of_ble_eq_true rfl⟩
set_option maxRecDepth 100000 in
theorem mn_X7_ofTrack : sg_ok (.instanceMethod yX7_ofTrack) := ⟨ts_7_224.1.1.2.2.1, rfl⟩
set_option maxRecDepth 100000 in
theorem mv_X7_ofTrack : sg_ok (.selects RX7 yX7_ofTrack yX7_ofTrack) := ⟨ts_7_224.1.1.2.2.2, rfl⟩
set_option maxRecDepth 100000 in
theorem ci_X7_trackTold : sg_ok (.code yX7_trackTold cX7_trackTold 9 (some .int)) := ⟨ts_7_224.1.2.2.1.1, rfl⟩
theorem cb_X7_trackTold : sg_cb mi_X7_trackTold 2 := ⟨ci_X7_trackTold, iz_7, nh_7, pd_3, Nat.le_of_ble_eq_true rfl⟩
set_option maxRecDepth 100000 in
theorem mn_X7_trackTold : sg_ok (.instanceMethod yX7_trackTold) := ⟨ts_7_224.1.2.1.2.2, rfl⟩
theorem mv_X7_trackTold : sg_ok (.selects RX7 yX7_trackTold yX7_trackTold) := sg_oks 24 (by decide +kernel)
set_option maxRecDepth 100000 in
theorem ci_X7_unit : sg_ok (.code yX7_unit cX7_unit 3 (some .int)) := ⟨ts_8_0.1.1.1.1.1, rfl⟩
theorem cb_X7_unit : sg_cb mi_X7_unit 2 := ⟨ci_X7_unit, iz_7, nh_7, pd_3, Nat.le_of_ble_eq_true rfl⟩
set_option maxRecDepth 100000 in
theorem mn_X7_unit : sg_ok (.instanceMethod yX7_unit) := ⟨ts_7_224.1.2.2.2.1, rfl⟩
set_option maxRecDepth 100000 in
theorem mv_X7_unit : sg_ok (.selects RX7 yX7_unit yX7_unit) := ⟨ts_7_224.1.2.2.2.2, rfl⟩
set_option maxRecDepth 100000 in
theorem ci_X7_isNoPlace : sg_ok (.code yX7_isNoPlace cX7_isNoPlace 3 (some .boolean)) := ⟨ts_8_0.1.1.2.1.1, rfl⟩
theorem cb_X7_isNoPlace : sg_cb mi_X7_isNoPlace 2 := ⟨ci_X7_isNoPlace, iz_7, nh_7, pd_10, Nat.le_of_ble_eq_true rfl⟩
set_option maxRecDepth 100000 in
theorem mn_X7_isNoPlace : sg_ok (.instanceMethod yX7_isNoPlace) := ⟨ts_8_0.1.1.1.2.2, rfl⟩
theorem mv_X7_isNoPlace : sg_ok (.selects RX7 yX7_isNoPlace yX7_isNoPlace) := sg_oks 25 (by decide +kernel)
set_option maxRecDepth 100000 in
theorem ci_X7_codeAt : sg_ok (.code yX7_codeAt cX7_codeAt 3 (some .int)) := ⟨ts_8_0.1.2.1.1.1, rfl⟩
theorem cb_X7_codeAt : sg_cb mi_X7_codeAt 2 := ⟨ci_X7_codeAt, iz_7, nh_7, pd_3, Nat.le_of_ble_eq_true rfl⟩
set_option maxRecDepth 100000 in
theorem mn_X7_codeAt : sg_ok (.instanceMethod yX7_codeAt) := ⟨ts_8_0.1.1.2.2.1, rfl⟩
set_option maxRecDepth 100000 in
theorem mv_X7_codeAt : sg_ok (.selects RX7 yX7_codeAt yX7_codeAt) := ⟨ts_8_0.1.1.2.2.2, rfl⟩
set_option maxRecDepth 100000 in
theorem ci_X7_nth : sg_ok (.code yX7_nth cX7_nth 3 (some .int)) := ⟨ts_8_0.1.2.2.1.1, rfl⟩
theorem cb_X7_nth : sg_cb mi_X7_nth 2 := ⟨ci_X7_nth, iz_7, nh_7, pd_3, Nat.le_of_ble_eq_true rfl⟩
set_option maxRecDepth 100000 in
theorem mn_X7_nth : sg_ok (.instanceMethod yX7_nth) := ⟨ts_8_0.1.2.1.2.1, rfl⟩
set_option maxRecDepth 100000 in
theorem mv_X7_nth : sg_ok (.selects RX7 yX7_nth yX7_nth) := ⟨ts_8_0.1.2.1.2.2, rfl⟩
set_option maxRecDepth 100000 in
theorem ci_X7_house : sg_ok (.code yX7_house cX7_house 2 (some .int)) := ⟨ts_8_16.1.1.1.1.1, rfl⟩
theorem cb_X7_house : sg_cb mi_X7_house 1 := ⟨ci_X7_house, iz_7, nh_7, pd_6, Nat.le_of_ble_eq_true rfl⟩
set_option maxRecDepth 100000 in
theorem mn_X7_house : sg_ok (.instanceMethod yX7_house) := ⟨ts_8_0.1.2.2.2.1, rfl⟩
set_option maxRecDepth 100000 in
theorem mv_X7_house : sg_ok (.selects RX7 yX7_house yX7_house) := ⟨ts_8_0.1.2.2.2.2, rfl⟩
set_option maxRecDepth 100000 in
theorem ci_X7_houseOf : sg_ok (.code yX7_houseOf cX7_houseOf 4 (some .int)) := ⟨ts_8_16.1.1.2.1.1, rfl⟩
theorem cb_X7_houseOf : sg_cb mi_X7_houseOf 1 := ⟨ci_X7_houseOf, iz_7, nh_7, pd_6, Nat.le_of_ble_eq_true rfl⟩
set_option maxRecDepth 100000 in
theorem mn_X7_houseOf : sg_ok (.instanceMethod yX7_houseOf) := ⟨ts_8_16.1.1.1.2.2, rfl⟩
theorem mv_X7_houseOf : sg_ok (.selects RX7 yX7_houseOf yX7_houseOf) := sg_oks 26 (by decide +kernel)
set_option maxRecDepth 100000 in
theorem ci_X7_isSound : sg_ok (.code yX7_isSound cX7_isSound 3 (some .boolean)) := ⟨ts_8_16.1.2.1.1.1, rfl⟩
theorem cb_X7_isSound : sg_cb mi_X7_isSound 0 := ⟨ci_X7_isSound, iz_7, nh_7, pd_7, Nat.le_of_ble_eq_true rfl⟩
set_option maxRecDepth 100000 in
theorem mn_X7_isSound : sg_ok (.instanceMethod yX7_isSound) := ⟨ts_8_16.1.1.2.2.1, rfl⟩
set_option maxRecDepth 100000 in
theorem mv_X7_isSound : sg_ok (.selects RX7 yX7_isSound yX7_isSound) := ⟨ts_8_16.1.1.2.2.2, rfl⟩
set_option maxRecDepth 100000 in
theorem ci_X7_digest : sg_ok (.code yX7_digest cX7_digest 13 (some .long)) := ⟨ts_8_16.1.2.2.1.1, rfl⟩
theorem cb_X7_digest : sg_cb mi_X7_digest 0 := ⟨ci_X7_digest, iz_7, nh_7, pd_14, Nat.le_of_ble_eq_true rfl⟩
set_option maxRecDepth 100000 in
theorem mn_X7_digest : sg_ok (.instanceMethod yX7_digest) := ⟨ts_8_16.1.2.1.2.1, rfl⟩
set_option maxRecDepth 100000 in
theorem mv_X7_digest : sg_ok (.selects RX7 yX7_digest yX7_digest) := ⟨ts_8_16.1.2.1.2.2, rfl⟩
set_option maxRecDepth 100000 in
theorem iz_9 : sg_ok (.initialized RJ4) := ⟨ts_1_16.1.2.1.1.2, rfl⟩
set_option maxRecDepth 100000 in
theorem ci_J4_init_da8c8 : sg_ok (.code yJ4_init_da8c8 cJ4_init_da8c8 1 (none : Option Jvm.ClassFile.FieldType)) := ⟨ts_4_80.1.2.1.1.2, rfl⟩
theorem nh_9 : RJ4 ≠ "java/lang/invoke/MethodHandle" ∧ RJ4 ≠ "java/lang/invoke/VarHandle" := ⟨by decide +kernel, by decide +kernel⟩
theorem cb_J4_init_da8c8 : sg_cb mi_J4_init_da8c8 0 := ⟨ci_J4_init_da8c8, iz_9, nh_9, pd_0, Nat.le_of_ble_eq_true rfl⟩
set_option maxRecDepth 100000 in
theorem mn_J4_init_da8c8 : sg_ok (.instanceMethod yJ4_init_da8c8) := ⟨ts_4_80.1.2.1.1.1, rfl⟩
set_option maxRecDepth 100000 in
theorem ci_J4_append_cf468 : sg_ok (.code yJ4_append_cf468 cJ4_append_cf468 2 (some (.object "java/lang/StringBuilder"))) := ⟨ts_4_112.1.2.1.2.1, rfl⟩
theorem pd_38 : (parseMethodDescriptor "(C)Ljava/lang/StringBuilder;").map (fun d => d.parameters.length) = some 1 := by decide +kernel
theorem cb_J4_append_cf468 : sg_cb mi_J4_append_cf468 1 := ⟨ci_J4_append_cf468, iz_9, nh_9, pd_38, Nat.le_of_ble_eq_true rfl⟩
set_option maxRecDepth 100000 in
theorem mn_J4_append_cf468 : sg_ok (.instanceMethod yJ4_append_cf468) := ⟨ts_4_112.1.2.1.1.1, rfl⟩
set_option maxRecDepth 100000 in
theorem mv_J4_append_cf468 : sg_ok (.selects RJ4 yJ4_append_cf468 yJ4_append_cf468) := ⟨ts_4_112.1.2.1.1.2, rfl⟩
set_option maxRecDepth 100000 in
theorem ci_J4_append_15ec4 : sg_ok (.code yJ4_append_15ec4 cJ4_append_15ec4 2 (some (.object "java/lang/StringBuilder"))) := ⟨ts_5_48.1.1.1.2.2, rfl⟩
theorem pd_39 : (parseMethodDescriptor "(Ljava/lang/String;)Ljava/lang/StringBuilder;").map (fun d => d.parameters.length) = some 1 := by decide +kernel
theorem cb_J4_append_15ec4 : sg_cb mi_J4_append_15ec4 1 := ⟨ci_J4_append_15ec4, iz_9, nh_9, pd_39, Nat.le_of_ble_eq_true rfl⟩
set_option maxRecDepth 100000 in
theorem mn_J4_append_15ec4 : sg_ok (.instanceMethod yJ4_append_15ec4) := ⟨ts_5_48.1.1.1.1.2, rfl⟩
set_option maxRecDepth 100000 in
theorem mv_J4_append_15ec4 : sg_ok (.selects RJ4 yJ4_append_15ec4 yJ4_append_15ec4) := ⟨ts_5_48.1.1.1.2.1, rfl⟩
set_option maxRecDepth 100000 in
theorem ci_J4_toString_0e30d : sg_ok (.code yJ4_toString_0e30d cJ4_toString_0e30d 1 (some (.object "java/lang/String"))) := ⟨ts_4_208.1.2.1.1.2, rfl⟩
theorem pd_40 : (parseMethodDescriptor "()Ljava/lang/String;").map (fun d => d.parameters.length) = some 0 := by decide +kernel
theorem cb_J4_toString_0e30d : sg_cb mi_J4_toString_0e30d 0 := ⟨ci_J4_toString_0e30d, iz_9, nh_9, pd_40, Nat.le_of_ble_eq_true rfl⟩
set_option maxRecDepth 100000 in
theorem mn_J4_toString_0e30d : sg_ok (.instanceMethod yJ4_toString_0e30d) := ⟨ts_4_208.1.1.2.2.2, rfl⟩
set_option maxRecDepth 100000 in
theorem mv_J4_toString_0e30d : sg_ok (.selects RJ4 yJ4_toString_0e30d yJ4_toString_0e30d) := ⟨ts_4_208.1.2.1.1.1, rfl⟩
set_option maxRecDepth 100000 in
theorem iz_10 : sg_ok (.initialized RJx4a65c) := ⟨ts_1_0.1.2.1.1.1, rfl⟩
set_option maxRecDepth 100000 in
theorem ci_Jx4a65c_init_da8c8 : sg_ok (.code yJx4a65c_init_da8c8 cJx4a65c_init_da8c8 1 (none : Option Jvm.ClassFile.FieldType)) := ⟨ts_5_224.1.2.1.2.1, rfl⟩
theorem nh_10 : RJx4a65c ≠ "java/lang/invoke/MethodHandle" ∧ RJx4a65c ≠ "java/lang/invoke/VarHandle" := ⟨by decide +kernel, by decide +kernel⟩
theorem cb_Jx4a65c_init_da8c8 : sg_cb mi_Jx4a65c_init_da8c8 0 := ⟨ci_Jx4a65c_init_da8c8, iz_10, nh_10, pd_0, Nat.le_of_ble_eq_true rfl⟩
set_option maxRecDepth 100000 in
theorem mn_Jx4a65c_init_da8c8 : sg_ok (.instanceMethod yJx4a65c_init_da8c8) := ⟨ts_5_224.1.2.1.1.2, rfl⟩
set_option maxRecDepth 100000 in
theorem ci_Jx4a65c_add_9ea2d : sg_ok (.code yJx4a65c_add_9ea2d cJx4a65c_add_9ea2d 2 (some .boolean)) := ⟨ts_6_64.1.1.1.2.2, rfl⟩
theorem pd_41 : (parseMethodDescriptor "(Ljava/lang/Object;)Z").map (fun d => d.parameters.length) = some 1 := by decide +kernel
theorem cb_Jx4a65c_add_9ea2d : sg_cb mi_Jx4a65c_add_9ea2d 1 := ⟨ci_Jx4a65c_add_9ea2d, iz_10, nh_10, pd_41, Nat.le_of_ble_eq_true rfl⟩
set_option maxRecDepth 100000 in
theorem mn_Jx4a65c_add_9ea2d : sg_ok (.instanceMethod yJx4a65c_add_9ea2d) := ⟨ts_6_64.1.1.1.1.2, rfl⟩
set_option maxRecDepth 100000 in
theorem mv_Jx4a65c_add_9ea2d : sg_ok (.selects RJx4a65c yJx4a65c_add_9ea2d yJx4a65c_add_9ea2d) := ⟨ts_6_64.1.1.1.2.1, rfl⟩
set_option maxRecDepth 100000 in
theorem ci_Jx4a65c_get_915e3 : sg_ok (.code yJx4a65c_get_915e3 cJx4a65c_get_915e3 2 (some (.object "java/lang/Object"))) := ⟨ts_7_160.1.2.1.1.2, rfl⟩
theorem pd_42 : (parseMethodDescriptor "(I)Ljava/lang/Object;").map (fun d => d.parameters.length) = some 1 := by decide +kernel
theorem cb_Jx4a65c_get_915e3 : sg_cb mi_Jx4a65c_get_915e3 1 := ⟨ci_Jx4a65c_get_915e3, iz_10, nh_10, pd_42, Nat.le_of_ble_eq_true rfl⟩
set_option maxRecDepth 100000 in
theorem mn_Jx4a65c_get_915e3 : sg_ok (.instanceMethod yJx4a65c_get_915e3) := ⟨ts_7_160.1.1.2.2.2, rfl⟩
set_option maxRecDepth 100000 in
theorem mv_Jx4a65c_get_915e3 : sg_ok (.selects RJx4a65c yJx4a65c_get_915e3 yJx4a65c_get_915e3) := ⟨ts_7_160.1.2.1.1.1, rfl⟩
set_option maxRecDepth 100000 in
theorem ci_Jx4a65c_isEmpty_aae02 : sg_ok (.code yJx4a65c_isEmpty_aae02 cJx4a65c_isEmpty_aae02 1 (some .boolean)) := ⟨ts_7_32.1.1.2.1.1, rfl⟩
theorem cb_Jx4a65c_isEmpty_aae02 : sg_cb mi_Jx4a65c_isEmpty_aae02 0 := ⟨ci_Jx4a65c_isEmpty_aae02, iz_10, nh_10, pd_7, Nat.le_of_ble_eq_true rfl⟩
set_option maxRecDepth 100000 in
theorem mn_Jx4a65c_isEmpty_aae02 : sg_ok (.instanceMethod yJx4a65c_isEmpty_aae02) := ⟨ts_7_32.1.1.1.2.1, rfl⟩
set_option maxRecDepth 100000 in
theorem mv_Jx4a65c_isEmpty_aae02 : sg_ok (.selects RJx4a65c yJx4a65c_isEmpty_aae02 yJx4a65c_isEmpty_aae02) := ⟨ts_7_32.1.1.1.2.2, rfl⟩
set_option maxRecDepth 100000 in
theorem ci_Jx4a65c_remove_915e3 : sg_ok (.code yJx4a65c_remove_915e3 cJx4a65c_remove_915e3 4 (some (.object "java/lang/Object"))) := ⟨ts_6_112.1.1.1.2.2, rfl⟩
theorem cb_Jx4a65c_remove_915e3 : sg_cb mi_Jx4a65c_remove_915e3 1 := ⟨ci_Jx4a65c_remove_915e3, iz_10, nh_10, pd_42, Nat.le_of_ble_eq_true rfl⟩
set_option maxRecDepth 100000 in
theorem mn_Jx4a65c_remove_915e3 : sg_ok (.instanceMethod yJx4a65c_remove_915e3) := ⟨ts_6_112.1.1.1.1.2, rfl⟩
set_option maxRecDepth 100000 in
theorem mv_Jx4a65c_remove_915e3 : sg_ok (.selects RJx4a65c yJx4a65c_remove_915e3 yJx4a65c_remove_915e3) := ⟨ts_6_112.1.1.1.2.1, rfl⟩
set_option maxRecDepth 100000 in
theorem ci_Jx4a65c_size_8abf5 : sg_ok (.code yJx4a65c_size_8abf5 cJx4a65c_size_8abf5 1 (some .int)) := ⟨ts_6_96.1.2.2.2.2, rfl⟩
theorem cb_Jx4a65c_size_8abf5 : sg_cb mi_Jx4a65c_size_8abf5 0 := ⟨ci_Jx4a65c_size_8abf5, iz_10, nh_10, pd_2, Nat.le_of_ble_eq_true rfl⟩
set_option maxRecDepth 100000 in
theorem mn_Jx4a65c_size_8abf5 : sg_ok (.instanceMethod yJx4a65c_size_8abf5) := ⟨ts_6_96.1.2.2.1.2, rfl⟩
set_option maxRecDepth 100000 in
theorem mv_Jx4a65c_size_8abf5 : sg_ok (.selects RJx4a65c yJx4a65c_size_8abf5 yJx4a65c_size_8abf5) := ⟨ts_6_96.1.2.2.2.1, rfl⟩
set_option maxRecDepth 100000 in
theorem cb_L_lay : sg_ok (.codeWith yL_lay cL_lay 8 (some .int) hh_L_lay) := ⟨ts_2_208.1.1.2.2.1, rfl⟩
set_option maxRecDepth 100000 in
theorem cb_L_drop : sg_ok (.codeWith yL_drop cL_drop 5 (some .int) hh_L_drop) := ⟨ts_3_32.1.1.1.2.2, rfl⟩
set_option maxRecDepth 100000 in
theorem cb_L_copy : sg_ok (.codeWith yL_copy cL_copy 5 (some .int) hh_L_copy) := ⟨ts_3_48.1.1.1.2.2, rfl⟩
set_option maxRecDepth 100000 in
theorem cb_L_raise : sg_ok (.codeWith yL_raise cL_raise 4 (some .int) hh_L_raise) := ⟨ts_3_48.1.2.1.2.2, rfl⟩
set_option maxRecDepth 100000 in
theorem cb_L_sink : sg_ok (.codeWith yL_sink cL_sink 4 (some .int) hh_L_sink) := ⟨ts_3_64.1.1.2.2.1, rfl⟩
set_option maxRecDepth 100000 in
theorem cb_L_sieve : sg_ok (.codeWith yL_sieve cL_sieve 6 (some .int) hh_L_sieve) := ⟨ts_3_64.1.2.2.1.2, rfl⟩
set_option maxRecDepth 100000 in
theorem cb_L_strip : sg_ok (.codeWith yL_strip cL_strip 4 (some .int) hh_L_strip) := ⟨ts_3_80.1.1.2.1.1, rfl⟩
set_option maxRecDepth 100000 in
theorem cb_L_turn : sg_ok (.codeWith yL_turn cL_turn 4 (some .int) hh_L_turn) := ⟨ts_3_80.1.2.2.2.2, rfl⟩
set_option maxRecDepth 100000 in
theorem cb_L_write : sg_ok (.codeWith yL_write cL_write 6 (some .int) hh_L_write) := ⟨ts_3_96.1.2.1.2.2, rfl⟩
set_option maxRecDepth 100000 in
theorem cb_L_spell : sg_ok (.codeWith yL_spell cL_spell 5 (some .int) hh_L_spell) := ⟨ts_3_112.1.2.2.1.2, rfl⟩
set_option maxRecDepth 100000 in
theorem cb_L_read : sg_ok (.codeWith yL_read cL_read 5 (some .int) hh_L_read) := ⟨ts_3_144.1.1.1.2.1, rfl⟩
set_option maxRecDepth 100000 in
theorem cb_L_send : sg_ok (.codeWith yL_send cL_send 5 (some .int) hh_L_send) := ⟨ts_3_144.1.2.2.1.1, rfl⟩
set_option maxRecDepth 100000 in
theorem cb_L_put : sg_ok (.codeWith yL_put cL_put 5 (some .int) hh_L_put) := ⟨ts_3_160.1.2.1.1.1, rfl⟩
set_option maxRecDepth 100000 in
theorem cb_L_cut : sg_ok (.codeWith yL_cut cL_cut 5 (some .int) hh_L_cut) := ⟨ts_3_160.1.2.2.2.2, rfl⟩
set_option maxRecDepth 100000 in
theorem cb_L_flip : sg_ok (.codeWith yL_flip cL_flip 4 (some .int) hh_L_flip) := ⟨ts_3_176.1.1.2.2.1, rfl⟩
set_option maxRecDepth 100000 in
theorem cb_L_reverse : sg_ok (.codeWith yL_reverse cL_reverse 4 (some .int) hh_L_reverse) := ⟨ts_3_176.1.2.2.1.2, rfl⟩
set_option maxRecDepth 100000 in
theorem cb_L_undo : sg_ok (.codeWith yL_undo cL_undo 3 (some .int) hh_L_undo) := ⟨ts_3_192.1.2.1.1.1, rfl⟩
set_option maxRecDepth 100000 in
theorem cb_L_isDigit : sg_ok (.codeWith yL_isDigit cL_isDigit 4 (some .int) hh_L_isDigit) := ⟨ts_3_208.1.1.2.1.1, rfl⟩
set_option maxRecDepth 100000 in
theorem cb_L_isLetter : sg_ok (.codeWith yL_isLetter cL_isLetter 4 (some .int) hh_L_isLetter) := ⟨ts_3_208.1.2.1.2.2, rfl⟩
set_option maxRecDepth 100000 in
theorem cb_L_isLetterOrDigit : sg_ok (.codeWith yL_isLetterOrDigit cL_isLetterOrDigit 4 (some .int) hh_L_isLetterOrDigit) := ⟨ts_3_224.1.1.1.2.1, rfl⟩
set_option maxRecDepth 100000 in
theorem cb_L_isWhite : sg_ok (.codeWith yL_isWhite cL_isWhite 4 (some .int) hh_L_isWhite) := ⟨ts_3_224.1.2.1.1.2, rfl⟩
set_option maxRecDepth 100000 in
theorem cb_L_isGreat : sg_ok (.codeWith yL_isGreat cL_isGreat 4 (some .int) hh_L_isGreat) := ⟨ts_4_0.1.1.1.1.1, rfl⟩
set_option maxRecDepth 100000 in
theorem cb_L_kinds : sg_ok (.codeWith yL_kinds cL_kinds 4 (some .int) hh_L_kinds) := ⟨ts_4_0.1.1.2.2.2, rfl⟩
set_option maxRecDepth 100000 in
theorem cb_L_upper : sg_ok (.codeWith yL_upper cL_upper 5 (some .int) hh_L_upper) := ⟨ts_4_0.1.2.2.2.1, rfl⟩
set_option maxRecDepth 100000 in
theorem cb_L_lower : sg_ok (.codeWith yL_lower cL_lower 5 (some .int) hh_L_lower) := ⟨ts_4_16.1.1.2.1.2, rfl⟩
set_option maxRecDepth 100000 in
theorem cb_L_value : sg_ok (.codeWith yL_value cL_value 5 (some .int) hh_L_value) := ⟨ts_4_16.1.2.2.1.1, rfl⟩
set_option maxRecDepth 100000 in
theorem cb_L_number : sg_ok (.codeWith yL_number cL_number 6 (some .int) hh_L_number) := ⟨ts_4_32.1.1.1.2.2, rfl⟩
set_option maxRecDepth 100000 in
theorem cb_L_length : sg_ok (.codeWith yL_length cL_length 4 (some .int) hh_L_length) := ⟨ts_4_32.1.2.1.2.1, rfl⟩
set_option maxRecDepth 100000 in
theorem cb_L_at : sg_ok (.codeWith yL_at cL_at 5 (some .int) hh_L_at) := ⟨ts_4_48.1.1.1.1.2, rfl⟩
set_option maxRecDepth 100000 in
theorem cb_L_count : sg_ok (.codeWith yL_count cL_count 5 (some .int) hh_L_count) := ⟨ts_4_48.1.2.2.1.2, rfl⟩
set_option maxRecDepth 100000 in
theorem cb_L_first : sg_ok (.codeWith yL_first cL_first 6 (some .int) hh_L_first) := ⟨ts_4_64.1.1.1.1.2, rfl⟩
set_option maxRecDepth 100000 in
theorem cb_L_last : sg_ok (.codeWith yL_last cL_last 5 (some .int) hh_L_last) := ⟨ts_4_64.1.2.1.1.2, rfl⟩
set_option maxRecDepth 100000 in
theorem cb_L_forms : sg_ok (.codeWith yL_forms cL_forms 4 (some .int) hh_L_forms) := ⟨ts_4_80.1.1.1.1.1, rfl⟩
set_option maxRecDepth 100000 in
theorem cb_L_spelled : sg_ok (.codeWith yL_spelled cL_spelled 4 (some .int) hh_L_spelled) := ⟨ts_5_112.1.1.1.2.1, rfl⟩
set_option maxRecDepth 100000 in
theorem cb_L_told : sg_ok (.codeWith yL_told cL_told 5 (some .int) hh_L_told) := ⟨ts_5_112.1.2.1.1.2, rfl⟩
set_option maxRecDepth 100000 in
theorem cb_L_sum : sg_ok (.codeWith yL_sum cL_sum 5 (some .int) hh_L_sum) := ⟨ts_5_112.1.2.2.1.2, rfl⟩
set_option maxRecDepth 100000 in
theorem cb_L_values : sg_ok (.codeWith yL_values cL_values 4 (some .int) hh_L_values) := ⟨ts_5_128.1.1.2.1.1, rfl⟩
set_option maxRecDepth 100000 in
theorem cb_L_words : sg_ok (.codeWith yL_words cL_words 4 (some .int) hh_L_words) := ⟨ts_5_128.1.2.1.1.1, rfl⟩
set_option maxRecDepth 100000 in
theorem cb_L_word : sg_ok (.codeWith yL_word cL_word 6 (some .int) hh_L_word) := ⟨ts_5_128.1.2.2.1.1, rfl⟩
set_option maxRecDepth 100000 in
theorem cb_L_isAlike : sg_ok (.codeWith yL_isAlike cL_isAlike 5 (some .int) hh_L_isAlike) := ⟨ts_5_144.1.1.2.2.2, rfl⟩
set_option maxRecDepth 100000 in
theorem cb_L_order : sg_ok (.codeWith yL_order cL_order 5 (some .int) hh_L_order) := ⟨ts_5_144.1.2.1.2.2, rfl⟩
set_option maxRecDepth 100000 in
theorem cb_L_half : sg_ok (.codeWith yL_half cL_half 5 (some .int) hh_L_half) := ⟨ts_5_144.1.2.2.2.2, rfl⟩
set_option maxRecDepth 100000 in
theorem cb_L_code : sg_ok (.codeWith yL_code cL_code 5 (some .int) hh_L_code) := ⟨ts_5_160.1.2.1.1.2, rfl⟩
set_option maxRecDepth 100000 in
theorem cb_L_ofUnit : sg_ok (.codeWith yL_ofUnit cL_ofUnit 5 (some .int) hh_L_ofUnit) := ⟨ts_5_176.1.1.1.2.1, rfl⟩
set_option maxRecDepth 100000 in
theorem cb_L_compare : sg_ok (.codeWith yL_compare cL_compare 5 (some .int) hh_L_compare) := ⟨ts_5_176.1.1.2.2.1, rfl⟩
set_option maxRecDepth 100000 in
theorem cb_L_ofTrack : sg_ok (.codeWith yL_ofTrack cL_ofTrack 5 (some .int) hh_L_ofTrack) := ⟨ts_5_176.1.2.2.1.2, rfl⟩
set_option maxRecDepth 100000 in
theorem cb_L_unit : sg_ok (.codeWith yL_unit cL_unit 5 (some .int) hh_L_unit) := ⟨ts_5_192.1.1.2.1.1, rfl⟩
set_option maxRecDepth 100000 in
theorem cb_L_codeAt : sg_ok (.codeWith yL_codeAt cL_codeAt 5 (some .int) hh_L_codeAt) := ⟨ts_5_192.1.2.1.2.2, rfl⟩
set_option maxRecDepth 100000 in
theorem cb_L_nth : sg_ok (.codeWith yL_nth cL_nth 5 (some .int) hh_L_nth) := ⟨ts_5_208.1.1.1.2.1, rfl⟩
set_option maxRecDepth 100000 in
theorem cb_L_house : sg_ok (.codeWith yL_house cL_house 4 (some .int) hh_L_house) := ⟨ts_5_208.1.2.2.1.1, rfl⟩
set_option maxRecDepth 100000 in
theorem ml_L_185 : sg_ok (.methodLink RL 185 yX5_init) := ⟨ts_1_32.1.1.1.1.2, rfl⟩
set_option maxRecDepth 100000 in
theorem ml_X5_9 : sg_ok (.methodLink RX5 9 yX3_init) := ⟨ts_1_32.1.2.1.1.2, rfl⟩
set_option maxRecDepth 100000 in
theorem ml_X3_20 : sg_ok (.methodLink RX3 20 yX0_init) := ⟨ts_1_48.1.1.1.1.1, rfl⟩
set_option maxRecDepth 100000 in
theorem ml_X5_18 : sg_ok (.methodLink RX5 18 yX1_init) := ⟨ts_1_64.1.1.2.2.2, rfl⟩
set_option maxRecDepth 100000 in
theorem ml_X1_17 : sg_ok (.methodLink RX1 17 yX3_init) := ⟨ts_1_64.1.2.2.1.2, rfl⟩
set_option maxRecDepth 100000 in
theorem ml_X5_25 : sg_ok (.methodLink RX5 25 yX0_init) := ⟨ts_1_80.1.1.2.2.1, rfl⟩
set_option maxRecDepth 100000 in
theorem ml_L_252 : sg_ok (.methodLink RL 252 yX5_knock) := ⟨ts_1_96.1.1.2.1.1, rfl⟩
set_option maxRecDepth 100000 in
theorem ml_L_287 : sg_ok (.methodLink RL 287 yX5_digit) := ⟨ts_1_96.1.2.1.1.1, rfl⟩
set_option maxRecDepth 100000 in
theorem ml_X5_126 : sg_ok (.methodLink RX5 126 yX2_digitOf) := ⟨ts_1_96.1.2.2.1.1, rfl⟩
set_option maxRecDepth 100000 in
theorem ml_X2_36 : sg_ok (.methodLink RX2 36 yX2_isRadix) := ⟨ts_1_96.1.2.2.2.2, rfl⟩
set_option maxRecDepth 100000 in
theorem ml_X2_9 : sg_ok (.methodLink RX2 9 yX2_isBetween) := ⟨ts_1_112.1.1.1.2.1, rfl⟩
set_option maxRecDepth 100000 in
theorem ml_L_333 : sg_ok (.methodLink RL 333 yX5_isCode) := ⟨ts_1_112.1.1.2.1.2, rfl⟩
set_option maxRecDepth 100000 in
theorem ml_X5_154 : sg_ok (.methodLink RX5 154 yX4_isAnyCode) := ⟨ts_1_112.1.2.1.1.2, rfl⟩
set_option maxRecDepth 100000 in
theorem ml_L_337 : sg_ok (.methodLink RL 337 yX5_isPlain) := ⟨ts_1_112.1.2.2.1.2, rfl⟩
set_option maxRecDepth 100000 in
theorem ml_X5_234 : sg_ok (.methodLink RX5 234 yX4_isUnit) := ⟨ts_1_128.1.1.1.1.2, rfl⟩
set_option maxRecDepth 100000 in
theorem ml_L_341 : sg_ok (.methodLink RL 341 yX5_isWide) := ⟨ts_1_128.1.1.2.1.2, rfl⟩
set_option maxRecDepth 100000 in
theorem ml_X5_237 : sg_ok (.methodLink RX5 237 yX4_isWideCode) := ⟨ts_1_128.1.2.1.1.2, rfl⟩
set_option maxRecDepth 100000 in
theorem ml_L_345 : sg_ok (.methodLink RL 345 yX5_units) := ⟨ts_1_128.1.2.2.1.1, rfl⟩
set_option maxRecDepth 100000 in
theorem ml_X5_161 : sg_ok (.methodLink RX5 161 yX4_unitsOf) := ⟨ts_1_144.1.1.1.1.1, rfl⟩
set_option maxRecDepth 100000 in
theorem ml_L_376 : sg_ok (.methodLink RL 376 yX5_isSound) := ⟨ts_1_144.1.1.1.2.2, rfl⟩
set_option maxRecDepth 100000 in
theorem ml_X5_36 : sg_ok (.methodLink RX5 36 yX5_rowOf) := ⟨ts_1_144.1.1.2.2.2, rfl⟩
set_option maxRecDepth 100000 in
theorem ml_X5_278 : sg_ok (.methodLink RX5 278 yX5_isSoundRow) := ⟨ts_1_208.1.2.2.2.2, rfl⟩
set_option maxRecDepth 100000 in
theorem ml_X5_63 : sg_ok (.methodLink RX5 63 yX0_size) := ⟨ts_1_224.1.1.1.2.1, rfl⟩
set_option maxRecDepth 100000 in
theorem ml_X5_75 : sg_ok (.methodLink RX5 75 yX0_get) := ⟨ts_1_224.1.1.2.2.1, rfl⟩
set_option maxRecDepth 100000 in
theorem ml_X0_19 : sg_ok (.methodLink RX0 19 yX0_hasPlace) := ⟨ts_1_224.1.2.1.2.1, rfl⟩
set_option maxRecDepth 100000 in
theorem ml_X5_336 : sg_ok (.methodLink RX5 336 yX2_isSoundSign) := ⟨ts_1_224.1.2.2.2.1, rfl⟩
set_option maxRecDepth 100000 in
theorem ml_X2_25 : sg_ok (.methodLink RX2 25 yX2_isOf) := ⟨ts_2_0.1.1.1.1.2, rfl⟩
set_option maxRecDepth 100000 in
theorem ml_X2_15 : sg_ok (.methodLink RX2 15 yX2_isPlainDigit) := ⟨ts_2_0.1.1.2.1.1, rfl⟩
set_option maxRecDepth 100000 in
theorem ml_X2_19 : sg_ok (.methodLink RX2 19 yX2_isAnyLetter) := ⟨ts_2_0.1.1.2.2.2, rfl⟩
set_option maxRecDepth 100000 in
theorem ml_X2_56 : sg_ok (.methodLink RX2 56 yX2_isGreatPlain) := ⟨ts_2_0.1.2.1.2.1, rfl⟩
set_option maxRecDepth 100000 in
theorem ml_X2_29 : sg_ok (.methodLink RX2 29 yX2_isSmallPlain) := ⟨ts_2_0.1.2.2.1.2, rfl⟩
set_option maxRecDepth 100000 in
theorem ml_X2_22 : sg_ok (.methodLink RX2 22 yX2_isAnyGreat) := ⟨ts_2_16.1.1.1.1.1, rfl⟩
set_option maxRecDepth 100000 in
theorem ml_X2_47 : sg_ok (.methodLink RX2 47 yX2_lowerOf) := ⟨ts_2_16.1.1.1.2.2, rfl⟩
set_option maxRecDepth 100000 in
theorem ml_X2_50 : sg_ok (.methodLink RX2 50 yX2_upperOf) := ⟨ts_2_16.1.1.2.2.1, rfl⟩
set_option maxRecDepth 100000 in
theorem ml_X2_53 : sg_ok (.methodLink RX2 53 yX2_numberOf) := ⟨ts_2_16.1.2.1.1.2, rfl⟩
set_option maxRecDepth 100000 in
theorem ml_X2_32 : sg_ok (.methodLink RX2 32 yX2_plainValueOf) := ⟨ts_2_16.1.2.2.1.1, rfl⟩
set_option maxRecDepth 100000 in
theorem ml_X2_43 : sg_ok (.methodLink RX2 43 yX2_digitOf) := ⟨ts_2_16.1.2.2.2.2, rfl⟩
set_option maxRecDepth 100000 in
theorem ml_X5_151 : sg_ok (.methodLink RX5 151 yX5_trackOf) := ⟨ts_2_32.1.1.1.1.1, rfl⟩
set_option maxRecDepth 100000 in
theorem ml_X5_281 : sg_ok (.methodLink RX5 281 yX5_isSoundTrack) := ⟨ts_2_32.1.1.2.1.2, rfl⟩
set_option maxRecDepth 100000 in
theorem ml_X5_339 : sg_ok (.methodLink RX5 339 yX4_areSentAgain) := ⟨ts_2_32.1.2.1.1.1, rfl⟩
set_option maxRecDepth 100000 in
theorem ml_X4_46 : sg_ok (.methodLink RX4 46 yX0_size) := ⟨ts_2_32.1.2.1.2.2, rfl⟩
set_option maxRecDepth 100000 in
theorem ml_X4_50 : sg_ok (.methodLink RX4 50 yX4_isCodeBegin) := ⟨ts_2_32.1.2.2.1.1, rfl⟩
set_option maxRecDepth 100000 in
theorem ml_X4_39 : sg_ok (.methodLink RX4 39 yX0_get) := ⟨ts_2_32.1.2.2.2.2, rfl⟩
set_option maxRecDepth 100000 in
theorem ml_X4_19 : sg_ok (.methodLink RX4 19 yX4_isLow) := ⟨ts_2_48.1.1.1.1.1, rfl⟩
set_option maxRecDepth 100000 in
theorem ml_X4_15 : sg_ok (.methodLink RX4 15 yX4_isHigh) := ⟨ts_2_48.1.1.2.1.2, rfl⟩
set_option maxRecDepth 100000 in
theorem ml_X4_57 : sg_ok (.methodLink RX4 57 yX4_codeFrom) := ⟨ts_2_48.1.2.1.1.2, rfl⟩
set_option maxRecDepth 100000 in
theorem ml_X4_42 : sg_ok (.methodLink RX4 42 yX4_codeOf) := ⟨ts_2_48.1.2.2.1.1, rfl⟩
set_option maxRecDepth 100000 in
theorem ml_X4_68 : sg_ok (.methodLink RX4 68 yX4_standsAt) := ⟨ts_2_48.1.2.2.2.2, rfl⟩
set_option maxRecDepth 100000 in
theorem ml_X4_23 : sg_ok (.methodLink RX4 23 yX4_isWideCode) := ⟨ts_2_64.1.1.1.2.1, rfl⟩
set_option maxRecDepth 100000 in
theorem ml_X4_26 : sg_ok (.methodLink RX4 26 yX4_highOf) := ⟨ts_2_64.1.1.1.2.2, rfl⟩
set_option maxRecDepth 100000 in
theorem ml_X4_36 : sg_ok (.methodLink RX4 36 yX4_lowOf) := ⟨ts_2_64.1.1.2.2.1, rfl⟩
set_option maxRecDepth 100000 in
theorem ml_X4_72 : sg_ok (.methodLink RX4 72 yX4_unitsOf) := ⟨ts_2_64.1.2.1.1.2, rfl⟩
set_option maxRecDepth 100000 in
theorem ml_L_381 : sg_ok (.methodLink RL 381 yX5_digest) := ⟨ts_2_64.1.2.1.2.1, rfl⟩
set_option maxRecDepth 100000 in
theorem ml_X5_286 : sg_ok (.methodLink RX5 286 yX5_withRow) := ⟨ts_2_64.1.2.2.2.2, rfl⟩
set_option maxRecDepth 100000 in
theorem ml_X5_293 : sg_ok (.methodLink RX5 293 yX5_with) := ⟨ts_2_80.1.1.1.2.2, rfl⟩
set_option maxRecDepth 100000 in
theorem ml_X5_192 : sg_ok (.methodLink RX5 192 yX2_kindsOf) := ⟨ts_2_80.1.1.2.2.2, rfl⟩
set_option maxRecDepth 100000 in
theorem ml_X5_78 : sg_ok (.methodLink RX5 78 yX2_upperOf) := ⟨ts_2_80.1.2.1.2.1, rfl⟩
set_option maxRecDepth 100000 in
theorem ml_X5_90 : sg_ok (.methodLink RX5 90 yX2_lowerOf) := ⟨ts_2_80.1.2.1.2.2, rfl⟩
set_option maxRecDepth 100000 in
theorem ml_X5_195 : sg_ok (.methodLink RX5 195 yX2_signValue) := ⟨ts_2_80.1.2.2.1.1, rfl⟩
set_option maxRecDepth 100000 in
theorem ml_X5_148 : sg_ok (.methodLink RX5 148 yX2_numberOf) := ⟨ts_2_80.1.2.2.2.2, rfl⟩
set_option maxRecDepth 100000 in
theorem ml_X5_344 : sg_ok (.methodLink RX5 344 yX5_count) := ⟨ts_2_96.1.1.1.1.1, rfl⟩
set_option maxRecDepth 100000 in
theorem ml_X5_93 : sg_ok (.methodLink RX5 93 yX5_checkKind) := ⟨ts_2_96.1.1.2.1.1, rfl⟩
set_option maxRecDepth 100000 in
theorem ml_X5_96 : sg_ok (.methodLink RX5 96 yX2_isOf) := ⟨ts_2_112.1.1.2.2.2, rfl⟩
set_option maxRecDepth 100000 in
theorem ml_X5_347 : sg_ok (.methodLink RX5 347 yX5_told) := ⟨ts_2_112.1.2.1.1.1, rfl⟩
set_option maxRecDepth 100000 in
theorem ml_X5_115 : sg_ok (.methodLink RX5 115 yX5_checkRadix) := ⟨ts_2_112.1.2.2.1.1, rfl⟩
set_option maxRecDepth 100000 in
theorem ml_X5_325 : sg_ok (.methodLink RX5 325 yX2_isRadix) := ⟨ts_2_112.1.2.2.2.2, rfl⟩
set_option maxRecDepth 100000 in
theorem ml_X5_350 : sg_ok (.methodLink RX5 350 yX5_values) := ⟨ts_2_128.1.1.1.2.1, rfl⟩
set_option maxRecDepth 100000 in
theorem ml_X5_353 : sg_ok (.methodLink RX5 353 yX5_words) := ⟨ts_2_128.1.1.2.2.1, rfl⟩
set_option maxRecDepth 100000 in
theorem ml_X5_219 : sg_ok (.methodLink RX5 219 yX5_isWordBegin) := ⟨ts_2_128.1.2.1.2.1, rfl⟩
set_option maxRecDepth 100000 in
theorem ml_X5_290 : sg_ok (.methodLink RX5 290 yX5_order) := ⟨ts_2_128.1.2.2.1.2, rfl⟩
set_option maxRecDepth 100000 in
theorem ml_X5_231 : sg_ok (.methodLink RX5 231 yX5_ahead) := ⟨ts_2_144.1.1.1.1.2, rfl⟩
set_option maxRecDepth 100000 in
theorem ml_X5_297 : sg_ok (.methodLink RX5 297 yX5_isAlike) := ⟨ts_2_144.1.1.2.1.1, rfl⟩
set_option maxRecDepth 100000 in
theorem ml_X5_300 : sg_ok (.methodLink RX5 300 yX5_withTrack) := ⟨ts_2_144.1.2.1.1.1, rfl⟩
set_option maxRecDepth 100000 in
theorem ml_X5_180 : sg_ok (.methodLink RX5 180 yX4_howMany) := ⟨ts_2_144.1.2.2.1.1, rfl⟩
set_option maxRecDepth 100000 in
theorem ml_X4_61 : sg_ok (.methodLink RX4 61 yX4_isCounted) := ⟨ts_2_144.1.2.2.2.2, rfl⟩
set_option maxRecDepth 100000 in
theorem ml_X4_65 : sg_ok (.methodLink RX4 65 yX4_isHalf) := ⟨ts_2_160.1.1.1.2.1, rfl⟩
set_option maxRecDepth 100000 in
theorem ml_X5_356 : sg_ok (.methodLink RX5 356 yX5_ofUnit) := ⟨ts_2_160.1.1.2.1.2, rfl⟩
set_option maxRecDepth 100000 in
theorem ml_X5_167 : sg_ok (.methodLink RX5 167 yX5_checkUnit) := ⟨ts_2_160.1.2.1.1.2, rfl⟩
set_option maxRecDepth 100000 in
theorem ml_X5_173 : sg_ok (.methodLink RX5 173 yX4_isHalf) := ⟨ts_2_160.1.2.2.1.2, rfl⟩
set_option maxRecDepth 100000 in
theorem ml_X5_248 : sg_ok (.methodLink RX5 248 yX4_isHigh) := ⟨ts_2_160.1.2.2.2.1, rfl⟩
set_option maxRecDepth 100000 in
theorem ml_X5_251 : sg_ok (.methodLink RX5 251 yX4_isLow) := ⟨ts_2_160.1.2.2.2.2, rfl⟩
set_option maxRecDepth 100000 in
theorem ml_X5_170 : sg_ok (.methodLink RX5 170 yX4_turned) := ⟨ts_2_176.1.1.1.1.1, rfl⟩
set_option maxRecDepth 100000 in
theorem ml_X5_266 : sg_ok (.methodLink RX5 266 yX4_codeFrom) := ⟨ts_2_176.1.1.2.1.1, rfl⟩
set_option maxRecDepth 100000 in
theorem ml_X5_303 : sg_ok (.methodLink RX5 303 yX5_house) := ⟨ts_2_176.1.1.2.1.2, rfl⟩
set_option maxRecDepth 100000 in
theorem ml_X5_272 : sg_ok (.methodLink RX5 272 yX3_howManySigns) := ⟨ts_2_176.1.2.1.1.2, rfl⟩
set_option maxRecDepth 100000 in
theorem ml_X3_23 : sg_ok (.methodLink RX3 23 yX0_size) := ⟨ts_2_176.1.2.2.1.2, rfl⟩
set_option maxRecDepth 100000 in
theorem ml_X5_275 : sg_ok (.methodLink RX5 275 yX3_howManyUnits) := ⟨ts_2_176.1.2.2.2.1, rfl⟩
set_option maxRecDepth 100000 in
theorem ml_X5_183 : sg_ok (.methodLink RX5 183 yX1_size) := ⟨ts_2_192.1.1.1.2.1, rfl⟩
set_option maxRecDepth 100000 in
theorem ml_X5_306 : sg_ok (.methodLink RX5 306 yX5_isSound) := ⟨ts_2_192.1.1.2.2.1, rfl⟩
set_option maxRecDepth 100000 in
theorem ml_L_190 : sg_ok (.methodLink RL 190 yL_lay) := ⟨ts_2_208.1.1.2.1.1, rfl⟩
set_option maxRecDepth 100000 in
theorem ml_L_7 : sg_ok (.methodLink RL 7 yX5_lay) := ⟨ts_2_208.1.2.1.2.1, rfl⟩
set_option maxRecDepth 100000 in
theorem ml_X5_40 : sg_ok (.methodLink RX5 40 yX5_laid) := ⟨ts_2_208.1.2.2.2.1, rfl⟩
set_option maxRecDepth 100000 in
theorem ml_X5_189 : sg_ok (.methodLink RX5 189 yX5_checkSign) := ⟨ts_2_224.1.1.1.1.2, rfl⟩
set_option maxRecDepth 100000 in
theorem ml_X5_83 : sg_ok (.methodLink RX5 83 yX2_isSign) := ⟨ts_2_224.1.1.2.1.1, rfl⟩
set_option maxRecDepth 100000 in
theorem ml_X5_44 : sg_ok (.methodLink RX5 44 yX0_hasRoomFor) := ⟨ts_2_224.1.2.1.1.1, rfl⟩
set_option maxRecDepth 100000 in
theorem ml_X5_55 : sg_ok (.methodLink RX5 55 yX1_keep) := ⟨ts_3_0.1.2.2.1.1, rfl⟩
set_option maxRecDepth 100000 in
theorem ml_X1_22 : sg_ok (.methodLink RX1 22 yX3_become) := ⟨ts_3_16.1.1.1.1.1, rfl⟩
set_option maxRecDepth 100000 in
theorem ml_X3_27 : sg_ok (.methodLink RX3 27 yX0_become) := ⟨ts_3_16.1.1.2.1.1, rfl⟩
set_option maxRecDepth 100000 in
theorem ml_X0_27 : sg_ok (.methodLink RX0 27 yX0_get) := ⟨ts_3_16.1.2.1.1.1, rfl⟩
set_option maxRecDepth 100000 in
theorem ml_X0_23 : sg_ok (.methodLink RX0 23 yX0_add) := ⟨ts_3_16.1.2.1.1.2, rfl⟩
set_option maxRecDepth 100000 in
theorem ml_X5_59 : sg_ok (.methodLink RX5 59 yX5_addLaid) := ⟨ts_3_16.1.2.2.1.2, rfl⟩
set_option maxRecDepth 100000 in
theorem ml_X5_129 : sg_ok (.methodLink RX5 129 yX0_add) := ⟨ts_3_32.1.1.1.1.1, rfl⟩
set_option maxRecDepth 100000 in
theorem ml_L_196 : sg_ok (.methodLink RL 196 yL_drop) := ⟨ts_3_32.1.1.1.1.2, rfl⟩
set_option maxRecDepth 100000 in
theorem ml_L_25 : sg_ok (.methodLink RL 25 yX5_drop) := ⟨ts_3_32.1.1.2.1.1, rfl⟩
set_option maxRecDepth 100000 in
theorem ml_X5_67 : sg_ok (.methodLink RX5 67 yX5_shorten) := ⟨ts_3_32.1.2.1.1.1, rfl⟩
set_option maxRecDepth 100000 in
theorem ml_X5_100 : sg_ok (.methodLink RX5 100 yX0_takeAway) := ⟨ts_3_32.1.2.2.1.2, rfl⟩
set_option maxRecDepth 100000 in
theorem ml_L_200 : sg_ok (.methodLink RL 200 yL_copy) := ⟨ts_3_48.1.1.1.1.2, rfl⟩
set_option maxRecDepth 100000 in
theorem ml_L_29 : sg_ok (.methodLink RL 29 yX5_copy) := ⟨ts_3_48.1.1.2.1.1, rfl⟩
set_option maxRecDepth 100000 in
theorem ml_X5_71 : sg_ok (.methodLink RX5 71 yX0_become) := ⟨ts_3_48.1.2.1.1.1, rfl⟩
set_option maxRecDepth 100000 in
theorem ml_L_203 : sg_ok (.methodLink RL 203 yL_raise) := ⟨ts_3_48.1.2.1.1.2, rfl⟩
set_option maxRecDepth 100000 in
theorem ml_L_32 : sg_ok (.methodLink RL 32 yX5_raise) := ⟨ts_3_48.1.2.2.1.1, rfl⟩
set_option maxRecDepth 100000 in
theorem ml_X5_86 : sg_ok (.methodLink RX5 86 yX0_set) := ⟨ts_3_64.1.1.1.1.1, rfl⟩
set_option maxRecDepth 100000 in
theorem ml_L_210 : sg_ok (.methodLink RL 210 yL_sink) := ⟨ts_3_64.1.1.2.1.1, rfl⟩
set_option maxRecDepth 100000 in
theorem ml_L_36 : sg_ok (.methodLink RL 36 yX5_sink) := ⟨ts_3_64.1.1.2.2.2, rfl⟩
set_option maxRecDepth 100000 in
theorem ml_L_213 : sg_ok (.methodLink RL 213 yL_sieve) := ⟨ts_3_64.1.2.1.2.2, rfl⟩
set_option maxRecDepth 100000 in
theorem ml_L_39 : sg_ok (.methodLink RL 39 yX5_sieve) := ⟨ts_3_64.1.2.2.2.1, rfl⟩
set_option maxRecDepth 100000 in
theorem ml_L_217 : sg_ok (.methodLink RL 217 yL_strip) := ⟨ts_3_80.1.1.1.2.1, rfl⟩
set_option maxRecDepth 100000 in
theorem ml_L_43 : sg_ok (.methodLink RL 43 yX5_strip) := ⟨ts_3_80.1.1.2.1.2, rfl⟩
set_option maxRecDepth 100000 in
theorem ml_X5_103 : sg_ok (.methodLink RX5 103 yX0_narrow) := ⟨ts_3_80.1.2.1.1.2, rfl⟩
set_option maxRecDepth 100000 in
theorem ml_L_220 : sg_ok (.methodLink RL 220 yL_turn) := ⟨ts_3_80.1.2.2.1.2, rfl⟩
set_option maxRecDepth 100000 in
theorem ml_L_46 : sg_ok (.methodLink RL 46 yX5_turn) := ⟨ts_3_96.1.1.1.1.1, rfl⟩
set_option maxRecDepth 100000 in
theorem ml_X5_106 : sg_ok (.methodLink RX5 106 yX0_turnRound) := ⟨ts_3_96.1.1.2.1.1, rfl⟩
set_option maxRecDepth 100000 in
theorem ml_X0_31 : sg_ok (.methodLink RX0 31 yX0_set) := ⟨ts_3_96.1.2.1.1.1, rfl⟩
set_option maxRecDepth 100000 in
theorem ml_L_223 : sg_ok (.methodLink RL 223 yL_write) := ⟨ts_3_96.1.2.1.1.2, rfl⟩
set_option maxRecDepth 100000 in
theorem ml_L_49 : sg_ok (.methodLink RL 49 yX5_write) := ⟨ts_3_96.1.2.2.1.1, rfl⟩
set_option maxRecDepth 100000 in
theorem ml_X5_118 : sg_ok (.methodLink RX5 118 yX2_digitsOf) := ⟨ts_3_112.1.1.1.2.1, rfl⟩
set_option maxRecDepth 100000 in
theorem ml_X2_39 : sg_ok (.methodLink RX2 39 yX2_shifted) := ⟨ts_3_112.1.1.2.1.2, rfl⟩
set_option maxRecDepth 100000 in
theorem ml_X5_122 : sg_ok (.methodLink RX5 122 yX2_digitNumber) := ⟨ts_3_112.1.2.1.1.1, rfl⟩
set_option maxRecDepth 100000 in
theorem ml_L_227 : sg_ok (.methodLink RL 227 yL_spell) := ⟨ts_3_112.1.2.1.2.2, rfl⟩
set_option maxRecDepth 100000 in
theorem ml_L_53 : sg_ok (.methodLink RL 53 yX5_spell) := ⟨ts_3_112.1.2.2.2.1, rfl⟩
set_option maxRecDepth 100000 in
theorem ml_X5_132 : sg_ok (.methodLink RX5 132 yX5_checkAreTwo) := ⟨ts_3_128.1.1.1.2.1, rfl⟩
set_option maxRecDepth 100000 in
theorem ml_X5_135 : sg_ok (.methodLink RX5 135 yX0_clear) := ⟨ts_3_128.1.1.2.2.1, rfl⟩
set_option maxRecDepth 100000 in
theorem ml_X5_138 : sg_ok (.methodLink RX5 138 yX2_firstSpelled) := ⟨ts_3_128.1.2.1.2.1, rfl⟩
set_option maxRecDepth 100000 in
theorem ml_X5_141 : sg_ok (.methodLink RX5 141 yX2_secondSpelled) := ⟨ts_3_128.1.2.2.1.2, rfl⟩
set_option maxRecDepth 100000 in
theorem ml_L_230 : sg_ok (.methodLink RL 230 yL_read) := ⟨ts_3_144.1.1.1.1.1, rfl⟩
set_option maxRecDepth 100000 in
theorem ml_L_56 : sg_ok (.methodLink RL 56 yX5_read) := ⟨ts_3_144.1.1.1.2.2, rfl⟩
set_option maxRecDepth 100000 in
theorem ml_X5_144 : sg_ok (.methodLink RX5 144 yX5_canBeRead) := ⟨ts_3_144.1.1.2.2.2, rfl⟩
set_option maxRecDepth 100000 in
theorem ml_L_233 : sg_ok (.methodLink RL 233 yL_send) := ⟨ts_3_144.1.2.1.2.1, rfl⟩
set_option maxRecDepth 100000 in
theorem ml_L_59 : sg_ok (.methodLink RL 59 yX5_send) := ⟨ts_3_144.1.2.2.1.2, rfl⟩
set_option maxRecDepth 100000 in
theorem ml_X5_164 : sg_ok (.methodLink RX5 164 yX4_addCode) := ⟨ts_3_160.1.1.1.2.1, rfl⟩
set_option maxRecDepth 100000 in
theorem ml_X4_30 : sg_ok (.methodLink RX4 30 yX0_add) := ⟨ts_3_160.1.1.2.1.2, rfl⟩
set_option maxRecDepth 100000 in
theorem ml_L_236 : sg_ok (.methodLink RL 236 yL_put) := ⟨ts_3_160.1.1.2.2.1, rfl⟩
set_option maxRecDepth 100000 in
theorem ml_L_62 : sg_ok (.methodLink RL 62 yX5_put) := ⟨ts_3_160.1.2.1.1.2, rfl⟩
set_option maxRecDepth 100000 in
theorem ml_L_239 : sg_ok (.methodLink RL 239 yL_cut) := ⟨ts_3_160.1.2.2.1.2, rfl⟩
set_option maxRecDepth 100000 in
theorem ml_L_65 : sg_ok (.methodLink RL 65 yX5_cut) := ⟨ts_3_176.1.1.1.1.1, rfl⟩
set_option maxRecDepth 100000 in
theorem ml_L_242 : sg_ok (.methodLink RL 242 yL_flip) := ⟨ts_3_176.1.1.2.1.1, rfl⟩
set_option maxRecDepth 100000 in
theorem ml_L_68 : sg_ok (.methodLink RL 68 yX5_flip) := ⟨ts_3_176.1.1.2.2.2, rfl⟩
set_option maxRecDepth 100000 in
theorem ml_L_245 : sg_ok (.methodLink RL 245 yL_reverse) := ⟨ts_3_176.1.2.1.2.2, rfl⟩
set_option maxRecDepth 100000 in
theorem ml_L_71 : sg_ok (.methodLink RL 71 yX5_reverse) := ⟨ts_3_176.1.2.2.2.1, rfl⟩
set_option maxRecDepth 100000 in
theorem ml_X5_176 : sg_ok (.methodLink RX5 176 yX4_listCodes) := ⟨ts_3_192.1.1.1.2.1, rfl⟩
set_option maxRecDepth 100000 in
theorem ml_X4_54 : sg_ok (.methodLink RX4 54 yX0_clear) := ⟨ts_3_192.1.1.2.1.2, rfl⟩
set_option maxRecDepth 100000 in
theorem ml_L_248 : sg_ok (.methodLink RL 248 yL_undo) := ⟨ts_3_192.1.1.2.2.1, rfl⟩
set_option maxRecDepth 100000 in
theorem ml_L_74 : sg_ok (.methodLink RL 74 yX5_undo) := ⟨ts_3_192.1.2.1.1.2, rfl⟩
set_option maxRecDepth 100000 in
theorem ml_X5_186 : sg_ok (.methodLink RX5 186 yX1_bringBack) := ⟨ts_3_192.1.2.2.2.1, rfl⟩
set_option maxRecDepth 100000 in
theorem ml_L_256 : sg_ok (.methodLink RL 256 yL_isDigit) := ⟨ts_3_208.1.1.1.2.1, rfl⟩
set_option maxRecDepth 100000 in
theorem ml_L_78 : sg_ok (.methodLink RL 78 yX5_isDigit) := ⟨ts_3_208.1.1.2.1.2, rfl⟩
set_option maxRecDepth 100000 in
theorem ml_L_259 : sg_ok (.methodLink RL 259 yL_isLetter) := ⟨ts_3_208.1.2.1.1.2, rfl⟩
set_option maxRecDepth 100000 in
theorem ml_L_82 : sg_ok (.methodLink RL 82 yX5_isLetter) := ⟨ts_3_208.1.2.2.1.1, rfl⟩
set_option maxRecDepth 100000 in
theorem ml_L_262 : sg_ok (.methodLink RL 262 yL_isLetterOrDigit) := ⟨ts_3_224.1.1.1.1.1, rfl⟩
set_option maxRecDepth 100000 in
theorem ml_L_85 : sg_ok (.methodLink RL 85 yX5_isLetterOrDigit) := ⟨ts_3_224.1.1.1.2.2, rfl⟩
set_option maxRecDepth 100000 in
theorem ml_L_265 : sg_ok (.methodLink RL 265 yL_isWhite) := ⟨ts_3_224.1.1.2.2.2, rfl⟩
set_option maxRecDepth 100000 in
theorem ml_L_88 : sg_ok (.methodLink RL 88 yX5_isWhite) := ⟨ts_3_224.1.2.1.2.1, rfl⟩
set_option maxRecDepth 100000 in
theorem ml_L_268 : sg_ok (.methodLink RL 268 yL_isGreat) := ⟨ts_3_224.1.2.2.2.1, rfl⟩
set_option maxRecDepth 100000 in
theorem ml_L_91 : sg_ok (.methodLink RL 91 yX5_isGreat) := ⟨ts_4_0.1.1.1.1.2, rfl⟩
set_option maxRecDepth 100000 in
theorem ml_L_271 : sg_ok (.methodLink RL 271 yL_kinds) := ⟨ts_4_0.1.1.2.1.2, rfl⟩
set_option maxRecDepth 100000 in
theorem ml_L_94 : sg_ok (.methodLink RL 94 yX5_kinds) := ⟨ts_4_0.1.2.1.1.1, rfl⟩
set_option maxRecDepth 100000 in
theorem ml_L_274 : sg_ok (.methodLink RL 274 yL_upper) := ⟨ts_4_0.1.2.2.1.1, rfl⟩
set_option maxRecDepth 100000 in
theorem ml_L_97 : sg_ok (.methodLink RL 97 yX5_upper) := ⟨ts_4_0.1.2.2.2.2, rfl⟩
set_option maxRecDepth 100000 in
theorem ml_L_278 : sg_ok (.methodLink RL 278 yL_lower) := ⟨ts_4_16.1.1.1.2.2, rfl⟩
set_option maxRecDepth 100000 in
theorem ml_L_101 : sg_ok (.methodLink RL 101 yX5_lower) := ⟨ts_4_16.1.1.2.2.1, rfl⟩
set_option maxRecDepth 100000 in
theorem ml_L_281 : sg_ok (.methodLink RL 281 yL_value) := ⟨ts_4_16.1.2.1.2.1, rfl⟩
set_option maxRecDepth 100000 in
theorem ml_L_104 : sg_ok (.methodLink RL 104 yX5_value) := ⟨ts_4_16.1.2.2.1.2, rfl⟩
set_option maxRecDepth 100000 in
theorem ml_L_284 : sg_ok (.methodLink RL 284 yL_number) := ⟨ts_4_32.1.1.1.1.2, rfl⟩
set_option maxRecDepth 100000 in
theorem ml_L_107 : sg_ok (.methodLink RL 107 yX5_number) := ⟨ts_4_32.1.1.2.1.1, rfl⟩
set_option maxRecDepth 100000 in
theorem ml_L_291 : sg_ok (.methodLink RL 291 yL_length) := ⟨ts_4_32.1.2.1.1.1, rfl⟩
set_option maxRecDepth 100000 in
theorem ml_L_110 : sg_ok (.methodLink RL 110 yX5_length) := ⟨ts_4_32.1.2.1.2.2, rfl⟩
set_option maxRecDepth 100000 in
theorem ml_L_294 : sg_ok (.methodLink RL 294 yL_at) := ⟨ts_4_32.1.2.2.2.2, rfl⟩
set_option maxRecDepth 100000 in
theorem ml_L_113 : sg_ok (.methodLink RL 113 yX5_at) := ⟨ts_4_48.1.1.1.2.1, rfl⟩
set_option maxRecDepth 100000 in
theorem ml_X5_198 : sg_ok (.methodLink RX5 198 yX5_numberAt) := ⟨ts_4_48.1.1.2.2.1, rfl⟩
set_option maxRecDepth 100000 in
theorem ml_X5_261 : sg_ok (.methodLink RX5 261 yX0_hasPlace) := ⟨ts_4_48.1.2.1.1.2, rfl⟩
set_option maxRecDepth 100000 in
theorem ml_L_297 : sg_ok (.methodLink RL 297 yL_count) := ⟨ts_4_48.1.2.1.2.2, rfl⟩
set_option maxRecDepth 100000 in
theorem ml_L_116 : sg_ok (.methodLink RL 116 yX5_count) := ⟨ts_4_48.1.2.2.2.1, rfl⟩
set_option maxRecDepth 100000 in
theorem ml_L_300 : sg_ok (.methodLink RL 300 yL_first) := ⟨ts_4_48.1.2.2.2.2, rfl⟩
set_option maxRecDepth 100000 in
theorem ml_L_119 : sg_ok (.methodLink RL 119 yX5_first) := ⟨ts_4_64.1.1.1.2.1, rfl⟩
set_option maxRecDepth 100000 in
theorem ml_L_303 : sg_ok (.methodLink RL 303 yL_last) := ⟨ts_4_64.1.1.2.2.2, rfl⟩
set_option maxRecDepth 100000 in
theorem ml_L_122 : sg_ok (.methodLink RL 122 yX5_last) := ⟨ts_4_64.1.2.1.2.1, rfl⟩
set_option maxRecDepth 100000 in
theorem ml_L_306 : sg_ok (.methodLink RL 306 yL_forms) := ⟨ts_4_64.1.2.2.2.1, rfl⟩
set_option maxRecDepth 100000 in
theorem ml_L_125 : sg_ok (.methodLink RL 125 yX5_forms) := ⟨ts_4_80.1.1.1.1.2, rfl⟩
set_option maxRecDepth 100000 in
theorem ml_X5_205 : sg_ok (.methodLink RX5 205 yJ4_init_da8c8) := ⟨ts_4_80.1.1.2.2.2, rfl⟩
set_option maxRecDepth 100000 in
theorem ml_X5_206 : sg_ok (.methodLink RX5 206 yX2_formOf) := ⟨ts_4_112.1.1.2.1.1, rfl⟩
set_option maxRecDepth 100000 in
theorem ml_X5_210 : sg_ok (.methodLink RX5 210 yJ4_append_cf468) := ⟨ts_4_112.1.1.2.2.2, rfl⟩
set_option maxRecDepth 100000 in
theorem ml_X5_214 : sg_ok (.methodLink RX5 214 yJ4_toString_0e30d) := ⟨ts_4_208.1.1.2.2.1, rfl⟩
set_option maxRecDepth 100000 in
theorem ml_L_309 : sg_ok (.methodLink RL 309 yL_spelled) := ⟨ts_5_112.1.1.1.1.1, rfl⟩
set_option maxRecDepth 100000 in
theorem ml_L_133 : sg_ok (.methodLink RL 133 yX5_spelled) := ⟨ts_5_112.1.1.1.2.2, rfl⟩
set_option maxRecDepth 100000 in
theorem ml_L_312 : sg_ok (.methodLink RL 312 yL_told) := ⟨ts_5_112.1.1.2.2.2, rfl⟩
set_option maxRecDepth 100000 in
theorem ml_L_136 : sg_ok (.methodLink RL 136 yX5_told) := ⟨ts_5_112.1.2.1.2.1, rfl⟩
set_option maxRecDepth 100000 in
theorem ml_L_315 : sg_ok (.methodLink RL 315 yL_sum) := ⟨ts_5_112.1.2.1.2.2, rfl⟩
set_option maxRecDepth 100000 in
theorem ml_L_139 : sg_ok (.methodLink RL 139 yX5_sum) := ⟨ts_5_112.1.2.2.2.1, rfl⟩
set_option maxRecDepth 100000 in
theorem ml_L_318 : sg_ok (.methodLink RL 318 yL_values) := ⟨ts_5_128.1.1.1.2.1, rfl⟩
set_option maxRecDepth 100000 in
theorem ml_L_142 : sg_ok (.methodLink RL 142 yX5_values) := ⟨ts_5_128.1.1.2.1.2, rfl⟩
set_option maxRecDepth 100000 in
theorem ml_L_321 : sg_ok (.methodLink RL 321 yL_words) := ⟨ts_5_128.1.1.2.2.1, rfl⟩
set_option maxRecDepth 100000 in
theorem ml_L_145 : sg_ok (.methodLink RL 145 yX5_words) := ⟨ts_5_128.1.2.1.1.2, rfl⟩
set_option maxRecDepth 100000 in
theorem ml_L_324 : sg_ok (.methodLink RL 324 yL_word) := ⟨ts_5_128.1.2.1.2.1, rfl⟩
set_option maxRecDepth 100000 in
theorem ml_L_148 : sg_ok (.methodLink RL 148 yX5_word) := ⟨ts_5_128.1.2.2.1.2, rfl⟩
set_option maxRecDepth 100000 in
theorem ml_X5_223 : sg_ok (.methodLink RX5 223 yX5_wordBegin) := ⟨ts_5_144.1.1.1.1.2, rfl⟩
set_option maxRecDepth 100000 in
theorem ml_L_327 : sg_ok (.methodLink RL 327 yL_isAlike) := ⟨ts_5_144.1.1.2.1.2, rfl⟩
set_option maxRecDepth 100000 in
theorem ml_L_151 : sg_ok (.methodLink RL 151 yX5_isAlike) := ⟨ts_5_144.1.2.1.1.1, rfl⟩
set_option maxRecDepth 100000 in
theorem ml_L_330 : sg_ok (.methodLink RL 330 yL_order) := ⟨ts_5_144.1.2.1.1.2, rfl⟩
set_option maxRecDepth 100000 in
theorem ml_L_155 : sg_ok (.methodLink RL 155 yX5_order) := ⟨ts_5_144.1.2.2.1.1, rfl⟩
set_option maxRecDepth 100000 in
theorem ml_L_349 : sg_ok (.methodLink RL 349 yL_half) := ⟨ts_5_144.1.2.2.1.2, rfl⟩
set_option maxRecDepth 100000 in
theorem ml_L_158 : sg_ok (.methodLink RL 158 yX5_half) := ⟨ts_5_160.1.1.1.1.1, rfl⟩
set_option maxRecDepth 100000 in
theorem ml_X5_242 : sg_ok (.methodLink RX5 242 yX4_highOf) := ⟨ts_5_160.1.1.2.1.2, rfl⟩
set_option maxRecDepth 100000 in
theorem ml_X5_245 : sg_ok (.methodLink RX5 245 yX4_lowOf) := ⟨ts_5_160.1.1.2.2.1, rfl⟩
set_option maxRecDepth 100000 in
theorem ml_L_352 : sg_ok (.methodLink RL 352 yL_code) := ⟨ts_5_160.1.1.2.2.2, rfl⟩
set_option maxRecDepth 100000 in
theorem ml_L_161 : sg_ok (.methodLink RL 161 yX5_code) := ⟨ts_5_160.1.2.1.2.1, rfl⟩
set_option maxRecDepth 100000 in
theorem ml_X5_256 : sg_ok (.methodLink RX5 256 yX4_codeOf) := ⟨ts_5_160.1.2.2.2.2, rfl⟩
set_option maxRecDepth 100000 in
theorem ml_L_355 : sg_ok (.methodLink RL 355 yL_ofUnit) := ⟨ts_5_176.1.1.1.1.1, rfl⟩
set_option maxRecDepth 100000 in
theorem ml_L_164 : sg_ok (.methodLink RL 164 yX5_ofUnit) := ⟨ts_5_176.1.1.1.2.2, rfl⟩
set_option maxRecDepth 100000 in
theorem ml_L_358 : sg_ok (.methodLink RL 358 yL_compare) := ⟨ts_5_176.1.1.2.1.1, rfl⟩
set_option maxRecDepth 100000 in
theorem ml_L_167 : sg_ok (.methodLink RL 167 yX5_compare) := ⟨ts_5_176.1.1.2.2.2, rfl⟩
set_option maxRecDepth 100000 in
theorem ml_L_361 : sg_ok (.methodLink RL 361 yL_ofTrack) := ⟨ts_5_176.1.2.1.2.2, rfl⟩
set_option maxRecDepth 100000 in
theorem ml_L_170 : sg_ok (.methodLink RL 170 yX5_ofTrack) := ⟨ts_5_176.1.2.2.2.1, rfl⟩
set_option maxRecDepth 100000 in
theorem ml_L_364 : sg_ok (.methodLink RL 364 yL_unit) := ⟨ts_5_192.1.1.1.2.1, rfl⟩
set_option maxRecDepth 100000 in
theorem ml_L_173 : sg_ok (.methodLink RL 173 yX5_unit) := ⟨ts_5_192.1.1.2.1.2, rfl⟩
set_option maxRecDepth 100000 in
theorem ml_L_367 : sg_ok (.methodLink RL 367 yL_codeAt) := ⟨ts_5_192.1.2.1.1.2, rfl⟩
set_option maxRecDepth 100000 in
theorem ml_L_176 : sg_ok (.methodLink RL 176 yX5_codeAt) := ⟨ts_5_192.1.2.2.1.1, rfl⟩
set_option maxRecDepth 100000 in
theorem ml_L_370 : sg_ok (.methodLink RL 370 yL_nth) := ⟨ts_5_208.1.1.1.1.1, rfl⟩
set_option maxRecDepth 100000 in
theorem ml_L_179 : sg_ok (.methodLink RL 179 yX5_nth) := ⟨ts_5_208.1.1.1.2.2, rfl⟩
set_option maxRecDepth 100000 in
theorem ml_X5_269 : sg_ok (.methodLink RX5 269 yX4_codeBegin) := ⟨ts_5_208.1.1.2.2.2, rfl⟩
set_option maxRecDepth 100000 in
theorem ml_L_373 : sg_ok (.methodLink RL 373 yL_house) := ⟨ts_5_208.1.2.1.2.1, rfl⟩
set_option maxRecDepth 100000 in
theorem ml_L_182 : sg_ok (.methodLink RL 182 yX5_house) := ⟨ts_5_208.1.2.2.1.2, rfl⟩
set_option maxRecDepth 100000 in
theorem ml_L_188 : sg_ok (.methodLink RL 188 yX7_init) := ⟨ts_5_224.1.1.1.1.1, rfl⟩
set_option maxRecDepth 100000 in
theorem ml_X7_17 : sg_ok (.methodLink RX7 17 yJx4a65c_init_da8c8) := ⟨ts_5_224.1.2.1.1.1, rfl⟩
set_option maxRecDepth 100000 in
theorem ml_L_207 : sg_ok (.methodLink RL 207 yX7_thrown) := ⟨ts_6_16.1.2.2.1.2, rfl⟩
set_option maxRecDepth 100000 in
theorem ml_L_195 : sg_ok (.methodLink RL 195 yX7_lay) := ⟨ts_6_32.1.1.1.1.2, rfl⟩
set_option maxRecDepth 100000 in
theorem ml_X7_65 : sg_ok (.methodLink RX7 65 yX7_isSign) := ⟨ts_6_32.1.1.2.1.2, rfl⟩
set_option maxRecDepth 100000 in
theorem ml_X7_22 : sg_ok (.methodLink RX7 22 yX7_isOf) := ⟨ts_6_32.1.2.1.1.1, rfl⟩
set_option maxRecDepth 100000 in
theorem ml_X7_68 : sg_ok (.methodLink RX7 68 yX7_isNoRow) := ⟨ts_6_32.1.2.1.2.2, rfl⟩
set_option maxRecDepth 100000 in
theorem ml_X7_71 : sg_ok (.methodLink RX7 71 yX7_start) := ⟨ts_6_32.1.2.2.2.1, rfl⟩
set_option maxRecDepth 100000 in
theorem ml_X7_45 : sg_ok (.methodLink RX7 45 yX7_refuse) := ⟨ts_6_48.1.1.1.2.1, rfl⟩
set_option maxRecDepth 100000 in
theorem ml_X7_74 : sg_ok (.methodLink RX7 74 yX7_only) := ⟨ts_6_48.1.1.2.2.1, rfl⟩
set_option maxRecDepth 100000 in
theorem ml_X7_61 : sg_ok (.methodLink RX7 61 yX7_joined) := ⟨ts_6_48.1.2.1.1.2, rfl⟩
set_option maxRecDepth 100000 in
theorem ml_X7_78 : sg_ok (.methodLink RX7 78 yX7_set) := ⟨ts_6_48.1.2.2.1.1, rfl⟩
set_option maxRecDepth 100000 in
theorem ml_X7_49 : sg_ok (.methodLink RX7 49 yJx4a65c_add_9ea2d) := ⟨ts_6_64.1.1.1.1.1, rfl⟩
set_option maxRecDepth 100000 in
theorem ml_X7_53 : sg_ok (.methodLink RX7 53 yJx4a65c_size_8abf5) := ⟨ts_6_96.1.2.2.1.1, rfl⟩
set_option maxRecDepth 100000 in
theorem ml_X7_57 : sg_ok (.methodLink RX7 57 yJx4a65c_remove_915e3) := ⟨ts_6_112.1.1.1.1.1, rfl⟩
set_option maxRecDepth 100000 in
theorem ml_L_199 : sg_ok (.methodLink RL 199 yX7_drop) := ⟨ts_6_112.1.2.2.2.1, rfl⟩
set_option maxRecDepth 100000 in
theorem ml_X7_82 : sg_ok (.methodLink RX7 82 yX7_part) := ⟨ts_6_128.1.1.1.2.1, rfl⟩
set_option maxRecDepth 100000 in
theorem ml_L_202 : sg_ok (.methodLink RL 202 yX7_copy) := ⟨ts_6_128.1.1.2.1.2, rfl⟩
set_option maxRecDepth 100000 in
theorem ml_L_206 : sg_ok (.methodLink RL 206 yX7_raise) := ⟨ts_6_128.1.2.1.1.2, rfl⟩
set_option maxRecDepth 100000 in
theorem ml_X7_96 : sg_ok (.methodLink RX7 96 yX7_cased) := ⟨ts_6_128.1.2.2.1.2, rfl⟩
set_option maxRecDepth 100000 in
theorem ml_X7_86 : sg_ok (.methodLink RX7 86 yX7_upperOf) := ⟨ts_6_144.1.1.1.1.2, rfl⟩
set_option maxRecDepth 100000 in
theorem ml_X7_89 : sg_ok (.methodLink RX7 89 yX7_lowerOf) := ⟨ts_6_144.1.1.2.1.1, rfl⟩
set_option maxRecDepth 100000 in
theorem ml_X7_26 : sg_ok (.methodLink RX7 26 yX7_isKind) := ⟨ts_6_144.1.1.2.2.2, rfl⟩
set_option maxRecDepth 100000 in
theorem ml_X7_92 : sg_ok (.methodLink RX7 92 yX7_one) := ⟨ts_6_144.1.2.2.1.1, rfl⟩
set_option maxRecDepth 100000 in
theorem ml_L_212 : sg_ok (.methodLink RL 212 yX7_sink) := ⟨ts_6_144.1.2.2.2.2, rfl⟩
set_option maxRecDepth 100000 in
theorem ml_L_216 : sg_ok (.methodLink RL 216 yX7_sieve) := ⟨ts_6_160.1.1.1.2.2, rfl⟩
set_option maxRecDepth 100000 in
theorem ml_X7_100 : sg_ok (.methodLink RX7 100 yX7_isNoKind) := ⟨ts_6_160.1.1.2.2.2, rfl⟩
set_option maxRecDepth 100000 in
theorem ml_L_219 : sg_ok (.methodLink RL 219 yX7_strip) := ⟨ts_6_160.1.2.1.2.1, rfl⟩
set_option maxRecDepth 100000 in
theorem ml_L_222 : sg_ok (.methodLink RL 222 yX7_turn) := ⟨ts_6_160.1.2.2.2.1, rfl⟩
set_option maxRecDepth 100000 in
theorem ml_X7_103 : sg_ok (.methodLink RX7 103 yX7_turned) := ⟨ts_6_176.1.1.1.2.1, rfl⟩
set_option maxRecDepth 100000 in
theorem ml_L_226 : sg_ok (.methodLink RL 226 yX7_write) := ⟨ts_6_176.1.1.2.1.2, rfl⟩
set_option maxRecDepth 100000 in
theorem ml_X7_37 : sg_ok (.methodLink RX7 37 yX7_isRadix) := ⟨ts_6_176.1.2.1.2.1, rfl⟩
set_option maxRecDepth 100000 in
theorem ml_X7_108 : sg_ok (.methodLink RX7 108 yX7_digitOf) := ⟨ts_6_176.1.2.2.1.2, rfl⟩
set_option maxRecDepth 100000 in
theorem ml_L_229 : sg_ok (.methodLink RL 229 yX7_spell) := ⟨ts_6_192.1.1.1.1.1, rfl⟩
set_option maxRecDepth 100000 in
theorem ml_X7_112 : sg_ok (.methodLink RX7 112 yX7_spelledOf) := ⟨ts_6_192.1.1.2.1.1, rfl⟩
set_option maxRecDepth 100000 in
theorem ml_L_232 : sg_ok (.methodLink RL 232 yX7_read) := ⟨ts_6_192.1.1.2.2.2, rfl⟩
set_option maxRecDepth 100000 in
theorem ml_X7_115 : sg_ok (.methodLink RX7 115 yX7_numberOf) := ⟨ts_6_192.1.2.1.2.2, rfl⟩
set_option maxRecDepth 100000 in
theorem ml_X7_33 : sg_ok (.methodLink RX7 33 yX7_valueOf) := ⟨ts_6_192.1.2.2.2.1, rfl⟩
set_option maxRecDepth 100000 in
theorem ml_L_235 : sg_ok (.methodLink RL 235 yX7_send) := ⟨ts_6_208.1.1.1.1.2, rfl⟩
set_option maxRecDepth 100000 in
theorem ml_X7_129 : sg_ok (.methodLink RX7 129 yX7_isNoTrack) := ⟨ts_6_208.1.1.2.1.2, rfl⟩
set_option maxRecDepth 100000 in
theorem ml_X7_133 : sg_ok (.methodLink RX7 133 yX7_sent) := ⟨ts_6_208.1.2.1.1.2, rfl⟩
set_option maxRecDepth 100000 in
theorem ml_X7_137 : sg_ok (.methodLink RX7 137 yX7_behind) := ⟨ts_6_208.1.2.2.2.2, rfl⟩
set_option maxRecDepth 100000 in
theorem ml_L_238 : sg_ok (.methodLink RL 238 yX7_put) := ⟨ts_6_224.1.1.1.2.2, rfl⟩
set_option maxRecDepth 100000 in
theorem ml_L_241 : sg_ok (.methodLink RL 241 yX7_cut) := ⟨ts_6_224.1.2.1.1.1, rfl⟩
set_option maxRecDepth 100000 in
theorem ml_L_244 : sg_ok (.methodLink RL 244 yX7_flip) := ⟨ts_6_224.1.2.2.1.1, rfl⟩
set_option maxRecDepth 100000 in
theorem ml_X7_141 : sg_ok (.methodLink RX7 141 yX7_turnedUnit) := ⟨ts_7_0.1.1.1.1.1, rfl⟩
set_option maxRecDepth 100000 in
theorem ml_X7_144 : sg_ok (.methodLink RX7 144 yX7_isHalf) := ⟨ts_7_0.1.1.1.2.2, rfl⟩
set_option maxRecDepth 100000 in
theorem ml_X7_122 : sg_ok (.methodLink RX7 122 yX7_isHigh) := ⟨ts_7_0.1.1.2.2.1, rfl⟩
set_option maxRecDepth 100000 in
theorem ml_X7_125 : sg_ok (.methodLink RX7 125 yX7_isLow) := ⟨ts_7_0.1.2.1.2.1, rfl⟩
set_option maxRecDepth 100000 in
theorem ml_L_247 : sg_ok (.methodLink RL 247 yX7_reverse) := ⟨ts_7_0.1.2.2.2.1, rfl⟩
set_option maxRecDepth 100000 in
theorem ml_X7_153 : sg_ok (.methodLink RX7 153 yX7_codes) := ⟨ts_7_16.1.1.1.2.1, rfl⟩
set_option maxRecDepth 100000 in
theorem ml_X7_150 : sg_ok (.methodLink RX7 150 yX7_codeOf) := ⟨ts_7_16.1.1.2.2.1, rfl⟩
set_option maxRecDepth 100000 in
theorem ml_X7_147 : sg_ok (.methodLink RX7 147 yX7_both) := ⟨ts_7_16.1.2.1.2.1, rfl⟩
set_option maxRecDepth 100000 in
theorem ml_L_251 : sg_ok (.methodLink RL 251 yX7_undo) := ⟨ts_7_16.1.2.2.1.2, rfl⟩
set_option maxRecDepth 100000 in
theorem ml_X7_156 : sg_ok (.methodLink RX7 156 yJx4a65c_isEmpty_aae02) := ⟨ts_7_32.1.1.1.1.2, rfl⟩
set_option maxRecDepth 100000 in
theorem ml_L_255 : sg_ok (.methodLink RL 255 yX7_knock) := ⟨ts_7_32.1.1.2.2.1, rfl⟩
set_option maxRecDepth 100000 in
theorem ml_L_258 : sg_ok (.methodLink RL 258 yX7_isDigit) := ⟨ts_7_32.1.2.1.2.1, rfl⟩
set_option maxRecDepth 100000 in
theorem ml_X7_164 : sg_ok (.methodLink RX7 164 yX7_kindTold) := ⟨ts_7_32.1.2.2.2.1, rfl⟩
set_option maxRecDepth 100000 in
theorem ml_L_261 : sg_ok (.methodLink RL 261 yX7_isLetter) := ⟨ts_7_48.1.1.1.2.1, rfl⟩
set_option maxRecDepth 100000 in
theorem ml_L_264 : sg_ok (.methodLink RL 264 yX7_isLetterOrDigit) := ⟨ts_7_48.1.1.2.2.1, rfl⟩
set_option maxRecDepth 100000 in
theorem ml_L_267 : sg_ok (.methodLink RL 267 yX7_isWhite) := ⟨ts_7_48.1.2.1.2.1, rfl⟩
set_option maxRecDepth 100000 in
theorem ml_L_270 : sg_ok (.methodLink RL 270 yX7_isGreat) := ⟨ts_7_48.1.2.2.2.1, rfl⟩
set_option maxRecDepth 100000 in
theorem ml_L_273 : sg_ok (.methodLink RL 273 yX7_kinds) := ⟨ts_7_64.1.1.1.2.1, rfl⟩
set_option maxRecDepth 100000 in
theorem ml_X7_167 : sg_ok (.methodLink RX7 167 yX7_kindsOf) := ⟨ts_7_64.1.1.2.2.1, rfl⟩
set_option maxRecDepth 100000 in
theorem ml_L_277 : sg_ok (.methodLink RL 277 yX7_upper) := ⟨ts_7_64.1.2.1.1.2, rfl⟩
set_option maxRecDepth 100000 in
theorem ml_L_280 : sg_ok (.methodLink RL 280 yX7_lower) := ⟨ts_7_64.1.2.2.1.2, rfl⟩
set_option maxRecDepth 100000 in
theorem ml_L_283 : sg_ok (.methodLink RL 283 yX7_value) := ⟨ts_7_80.1.1.1.1.2, rfl⟩
set_option maxRecDepth 100000 in
theorem ml_L_286 : sg_ok (.methodLink RL 286 yX7_number) := ⟨ts_7_80.1.1.2.1.2, rfl⟩
set_option maxRecDepth 100000 in
theorem ml_L_290 : sg_ok (.methodLink RL 290 yX7_digit) := ⟨ts_7_80.1.2.1.1.2, rfl⟩
set_option maxRecDepth 100000 in
theorem ml_L_293 : sg_ok (.methodLink RL 293 yX7_length) := ⟨ts_7_80.1.2.2.1.2, rfl⟩
set_option maxRecDepth 100000 in
theorem ml_L_296 : sg_ok (.methodLink RL 296 yX7_at) := ⟨ts_7_96.1.1.1.1.2, rfl⟩
set_option maxRecDepth 100000 in
theorem ml_L_299 : sg_ok (.methodLink RL 299 yX7_count) := ⟨ts_7_96.1.1.2.1.2, rfl⟩
set_option maxRecDepth 100000 in
theorem ml_X7_170 : sg_ok (.methodLink RX7 170 yX7_countOf) := ⟨ts_7_96.1.2.1.1.2, rfl⟩
set_option maxRecDepth 100000 in
theorem ml_L_302 : sg_ok (.methodLink RL 302 yX7_first) := ⟨ts_7_96.1.2.2.1.2, rfl⟩
set_option maxRecDepth 100000 in
theorem ml_L_305 : sg_ok (.methodLink RL 305 yX7_last) := ⟨ts_7_112.1.1.1.1.2, rfl⟩
set_option maxRecDepth 100000 in
theorem ml_L_308 : sg_ok (.methodLink RL 308 yX7_forms) := ⟨ts_7_112.1.1.2.1.2, rfl⟩
set_option maxRecDepth 100000 in
theorem ml_X7_177 : sg_ok (.methodLink RX7 177 yJ4_init_da8c8) := ⟨ts_7_112.1.2.1.2.2, rfl⟩
set_option maxRecDepth 100000 in
theorem ml_X7_178 : sg_ok (.methodLink RX7 178 yJ4_append_15ec4) := ⟨ts_7_112.1.2.2.1.1, rfl⟩
set_option maxRecDepth 100000 in
theorem ml_X7_192 : sg_ok (.methodLink RX7 192 yJ4_toString_0e30d) := ⟨ts_7_128.1.1.1.2.1, rfl⟩
set_option maxRecDepth 100000 in
theorem ml_L_311 : sg_ok (.methodLink RL 311 yX7_spelled) := ⟨ts_7_128.1.1.1.2.2, rfl⟩
set_option maxRecDepth 100000 in
theorem ml_X7_196 : sg_ok (.methodLink RX7 196 yJ4_append_cf468) := ⟨ts_7_128.1.1.2.2.2, rfl⟩
set_option maxRecDepth 100000 in
theorem ml_L_314 : sg_ok (.methodLink RL 314 yX7_told) := ⟨ts_7_128.1.2.1.1.1, rfl⟩
set_option maxRecDepth 100000 in
theorem ml_X7_201 : sg_ok (.methodLink RX7 201 yX7_toldOf) := ⟨ts_7_128.1.2.2.1.1, rfl⟩
set_option maxRecDepth 100000 in
theorem ml_L_317 : sg_ok (.methodLink RL 317 yX7_sum) := ⟨ts_7_144.1.1.1.1.2, rfl⟩
set_option maxRecDepth 100000 in
theorem ml_L_320 : sg_ok (.methodLink RL 320 yX7_values) := ⟨ts_7_144.1.1.2.2.1, rfl⟩
set_option maxRecDepth 100000 in
theorem ml_X7_209 : sg_ok (.methodLink RX7 209 yX7_valuesOf) := ⟨ts_7_144.1.2.1.2.1, rfl⟩
set_option maxRecDepth 100000 in
theorem ml_L_323 : sg_ok (.methodLink RL 323 yX7_words) := ⟨ts_7_144.1.2.2.2.1, rfl⟩
set_option maxRecDepth 100000 in
theorem ml_X7_215 : sg_ok (.methodLink RX7 215 yX7_wordsOf) := ⟨ts_7_160.1.1.1.2.1, rfl⟩
set_option maxRecDepth 100000 in
theorem ml_X7_212 : sg_ok (.methodLink RX7 212 yJx4a65c_get_915e3) := ⟨ts_7_160.1.1.2.2.1, rfl⟩
set_option maxRecDepth 100000 in
theorem ml_L_326 : sg_ok (.methodLink RL 326 yX7_word) := ⟨ts_7_160.1.2.2.2.1, rfl⟩
set_option maxRecDepth 100000 in
theorem ml_L_329 : sg_ok (.methodLink RL 329 yX7_isAlike) := ⟨ts_7_176.1.1.1.2.1, rfl⟩
set_option maxRecDepth 100000 in
theorem ml_X7_219 : sg_ok (.methodLink RX7 219 yX7_areAlike) := ⟨ts_7_176.1.1.2.2.1, rfl⟩
set_option maxRecDepth 100000 in
theorem ml_L_332 : sg_ok (.methodLink RL 332 yX7_order) := ⟨ts_7_176.1.2.1.2.1, rfl⟩
set_option maxRecDepth 100000 in
theorem ml_X7_222 : sg_ok (.methodLink RX7 222 yX7_orderOf) := ⟨ts_7_176.1.2.2.2.1, rfl⟩
set_option maxRecDepth 100000 in
theorem ml_L_336 : sg_ok (.methodLink RL 336 yX7_isCode) := ⟨ts_7_192.1.1.1.2.1, rfl⟩
set_option maxRecDepth 100000 in
theorem ml_L_340 : sg_ok (.methodLink RL 340 yX7_isPlain) := ⟨ts_7_192.1.1.2.2.1, rfl⟩
set_option maxRecDepth 100000 in
theorem ml_L_344 : sg_ok (.methodLink RL 344 yX7_isWide) := ⟨ts_7_192.1.2.1.2.1, rfl⟩
set_option maxRecDepth 100000 in
theorem ml_L_348 : sg_ok (.methodLink RL 348 yX7_units) := ⟨ts_7_192.1.2.2.2.1, rfl⟩
set_option maxRecDepth 100000 in
theorem ml_L_351 : sg_ok (.methodLink RL 351 yX7_half) := ⟨ts_7_208.1.1.1.2.1, rfl⟩
set_option maxRecDepth 100000 in
theorem ml_L_354 : sg_ok (.methodLink RL 354 yX7_code) := ⟨ts_7_208.1.1.2.2.1, rfl⟩
set_option maxRecDepth 100000 in
theorem ml_L_357 : sg_ok (.methodLink RL 357 yX7_ofUnit) := ⟨ts_7_208.1.2.1.2.1, rfl⟩
set_option maxRecDepth 100000 in
theorem ml_X7_226 : sg_ok (.methodLink RX7 226 yX7_ofUnitTold) := ⟨ts_7_208.1.2.2.2.1, rfl⟩
set_option maxRecDepth 100000 in
theorem ml_L_360 : sg_ok (.methodLink RL 360 yX7_compare) := ⟨ts_7_224.1.1.1.1.2, rfl⟩
set_option maxRecDepth 100000 in
theorem ml_L_363 : sg_ok (.methodLink RL 363 yX7_ofTrack) := ⟨ts_7_224.1.1.2.1.2, rfl⟩
set_option maxRecDepth 100000 in
theorem ml_X7_229 : sg_ok (.methodLink RX7 229 yX7_trackTold) := ⟨ts_7_224.1.2.1.1.2, rfl⟩
set_option maxRecDepth 100000 in
theorem ml_L_366 : sg_ok (.methodLink RL 366 yX7_unit) := ⟨ts_7_224.1.2.2.1.2, rfl⟩
set_option maxRecDepth 100000 in
theorem ml_X7_232 : sg_ok (.methodLink RX7 232 yX7_isNoPlace) := ⟨ts_8_0.1.1.1.1.2, rfl⟩
set_option maxRecDepth 100000 in
theorem ml_L_369 : sg_ok (.methodLink RL 369 yX7_codeAt) := ⟨ts_8_0.1.1.2.1.2, rfl⟩
set_option maxRecDepth 100000 in
theorem ml_L_372 : sg_ok (.methodLink RL 372 yX7_nth) := ⟨ts_8_0.1.2.1.1.2, rfl⟩
set_option maxRecDepth 100000 in
theorem ml_L_375 : sg_ok (.methodLink RL 375 yX7_house) := ⟨ts_8_0.1.2.2.1.2, rfl⟩
set_option maxRecDepth 100000 in
theorem ml_X7_235 : sg_ok (.methodLink RX7 235 yX7_houseOf) := ⟨ts_8_16.1.1.1.1.2, rfl⟩
set_option maxRecDepth 100000 in
theorem ml_L_380 : sg_ok (.methodLink RL 380 yX7_isSound) := ⟨ts_8_16.1.1.2.1.2, rfl⟩
set_option maxRecDepth 100000 in
theorem ml_L_385 : sg_ok (.methodLink RL 385 yX7_digest) := ⟨ts_8_16.1.2.1.1.2, rfl⟩
set_option maxRecDepth 100000 in
theorem ml_X7_242 : sg_ok (.methodLink RX7 242 yX7_isSound) := ⟨ts_8_16.1.2.2.2.2, rfl⟩
set_option maxRecDepth 100000 in
theorem cn_X4_22 : sg_ok (.constant RX4 22 1114111) := ⟨ts_1_112.1.2.2.1.1, rfl⟩
set_option maxRecDepth 100000 in
theorem cn_X4_11 : sg_ok (.constant RX4 11 65536) := ⟨ts_1_128.1.1.2.1.1, rfl⟩
set_option maxRecDepth 100000 in
theorem cn_X4_13 : sg_ok (.constant RX4 13 56320) := ⟨ts_2_48.1.1.1.2.2, rfl⟩
set_option maxRecDepth 100000 in
theorem cn_X4_14 : sg_ok (.constant RX4 14 57344) := ⟨ts_2_48.1.1.2.1.1, rfl⟩
set_option maxRecDepth 100000 in
theorem cn_X4_12 : sg_ok (.constant RX4 12 55296) := ⟨ts_2_48.1.2.1.1.1, rfl⟩
set_option maxRecDepth 100000 in
theorem cn_X5_218 : sg_ok (.constant RX5 218 1000003) := ⟨ts_2_128.1.1.1.1.2, rfl⟩
set_option maxRecDepth 100000 in
theorem cn_X5_109 : sg_ok (.constant RX5 109 999999) := ⟨ts_3_112.1.1.1.1.1, rfl⟩
set_option maxRecDepth 100000 in
theorem cn_X7_107 : sg_ok (.constant RX7 107 999999) := ⟨ts_6_176.1.2.1.1.2, rfl⟩
set_option maxRecDepth 100000 in
theorem cn_X7_132 : sg_ok (.constant RX7 132 1114111) := ⟨ts_6_208.1.2.1.1.1, rfl⟩
set_option maxRecDepth 100000 in
theorem cn_X7_128 : sg_ok (.constant RX7 128 65536) := ⟨ts_6_208.1.2.2.1.1, rfl⟩
set_option maxRecDepth 100000 in
theorem cn_X7_118 : sg_ok (.constant RX7 118 55296) := ⟨ts_6_208.1.2.2.1.2, rfl⟩
set_option maxRecDepth 100000 in
theorem cn_X7_120 : sg_ok (.constant RX7 120 56320) := ⟨ts_6_208.1.2.2.2.1, rfl⟩
set_option maxRecDepth 100000 in
theorem cn_X7_140 : sg_ok (.constant RX7 140 65535) := ⟨ts_6_224.1.1.2.2.2, rfl⟩
set_option maxRecDepth 100000 in
theorem cn_X7_119 : sg_ok (.constant RX7 119 56319) := ⟨ts_7_0.1.2.1.1.2, rfl⟩
set_option maxRecDepth 100000 in
theorem cn_X7_121 : sg_ok (.constant RX7 121 57343) := ⟨ts_7_0.1.2.2.1.2, rfl⟩
set_option maxRecDepth 100000 in
theorem cn_X5_284 : sg_ok (.constantLong RX5 284 7707) := ⟨ts_2_64.1.2.2.2.1, rfl⟩
set_option maxRecDepth 100000 in
theorem cn_X5_342 : sg_ok (.constantLong RX5 342 31) := ⟨ts_2_80.1.1.2.2.1, rfl⟩
set_option maxRecDepth 100000 in
theorem cn_X7_199 : sg_ok (.constantLong RX7 199 1000003) := ⟨ts_7_144.1.1.1.1.1, rfl⟩
set_option maxRecDepth 100000 in
theorem cn_X7_238 : sg_ok (.constantLong RX7 238 7707) := ⟨ts_8_16.1.2.2.1.2, rfl⟩
set_option maxRecDepth 100000 in
theorem cn_X7_240 : sg_ok (.constantLong RX7 240 31) := ⟨ts_8_16.1.2.2.2.1, rfl⟩
set_option maxRecDepth 100000 in
theorem cl_X3_9 : sg_ok (.classLink RX3 9 "Signkinds$Line") := ⟨ts_1_32.1.2.2.1.2, rfl⟩
set_option maxRecDepth 100000 in
theorem cl_X1_9 : sg_ok (.classLink RX1 9 "Signkinds$State") := ⟨ts_1_64.1.2.1.2.2, rfl⟩
set_option maxRecDepth 100000 in
theorem cl_L_19 : sg_ok (.classLink RL 19 "java/lang/IndexOutOfBoundsException") := ⟨ts_2_208.1.1.2.2.2, rfl⟩
set_option maxRecDepth 100000 in
theorem cl_L_21 : sg_ok (.classLink RL 21 "java/lang/IllegalArgumentException") := ⟨ts_2_208.1.2.1.1.1, rfl⟩
set_option maxRecDepth 100000 in
theorem cl_L_23 : sg_ok (.classLink RL 23 "java/lang/IllegalStateException") := ⟨ts_2_208.1.2.1.1.2, rfl⟩
set_option maxRecDepth 100000 in
theorem cl_X7_7 : sg_ok (.classLink RX7 7 "[I") := ⟨ts_5_224.1.1.2.1.1, rfl⟩
set_option maxRecDepth 100000 in
theorem cl_X7_160 : sg_ok (.classLink RX7 160 "[[I") := ⟨ts_7_32.1.1.2.1.2, rfl⟩
