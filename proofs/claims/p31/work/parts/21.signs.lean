set_option maxRecDepth 100000 in
theorem s_X2_isBetween {w : sg_W} {Q : sg_O → sg_H → Prop} {h : sg_H} (g : sg_G w) {d : Nat} (hd : 1 ≤ d) {x a b : Int} (hQ : ∀ z, z = fn_betw x a b → (z = 0 ∨ z = 1) → Q (.inl (some (sg_i z))) h) : sg_C w mi_X2_isBetween d 0 0 [sg_i x, sg_i a, sg_i b] h Q := by
  refine sg_of pn_X2 (Nat.le_of_ble_eq_true rfl) ?_
  refine sg_iload_n (pc := 0) (j := 0) dX2_isBetween_0 rfl rfl ?_
  refine sg_iload_n (pc := 1) (j := 1) dX2_isBetween_1 rfl rfl ?_
  refine sg_icmp_lt (pc := 2) (tgt := 14) dX2_isBetween_2 (by decide) (fun c2 => ?_) (fun c2 => ?_)
  · refine sg_iconst (pc := 14) (z := 0) dX2_isBetween_14 (by decide) ?_
    refine sg_zret (pc := 15) dX2_isBetween_15 rfl (by first | exact Or.inl rfl | exact Or.inr rfl | omega | assumption) (by first | exact Nat.le_of_ble_eq_true rfl | omega) (by first | exact Nat.le_of_ble_eq_true rfl | omega) ?_
    exact hQ _ (by (try simp only [fn_betw] at *) <;> first | omega | ((repeat' split) <;> omega) | grind) (by first | exact Or.inl rfl | exact Or.inr rfl | omega | assumption)
  · refine sg_iload_n (pc := 5) (j := 0) dX2_isBetween_5 rfl rfl ?_
    refine sg_iload_n (pc := 6) (j := 2) dX2_isBetween_6 rfl rfl ?_
    refine sg_icmp_gt (pc := 7) (tgt := 14) dX2_isBetween_7 (by decide) (fun c7 => ?_) (fun c7 => ?_)
    · refine sg_iconst (pc := 14) (z := 0) dX2_isBetween_14 (by decide) ?_
      refine sg_zret (pc := 15) dX2_isBetween_15 rfl (by first | exact Or.inl rfl | exact Or.inr rfl | omega | assumption) (by first | exact Nat.le_of_ble_eq_true rfl | omega) (by first | exact Nat.le_of_ble_eq_true rfl | omega) ?_
      exact hQ _ (by (try simp only [fn_betw] at *) <;> first | omega | ((repeat' split) <;> omega) | grind) (by first | exact Or.inl rfl | exact Or.inr rfl | omega | assumption)
    · refine sg_iconst (pc := 10) (z := 1) dX2_isBetween_10 (by decide) ?_
      refine sg_goto (pc := 11) (tgt := 15) dX2_isBetween_11 (by decide) ?_
      refine sg_zret (pc := 15) dX2_isBetween_15 rfl (by first | exact Or.inl rfl | exact Or.inr rfl | omega | assumption) (by first | exact Nat.le_of_ble_eq_true rfl | omega) (by first | exact Nat.le_of_ble_eq_true rfl | omega) ?_
      exact hQ _ (by (try simp only [fn_betw] at *) <;> first | omega | ((repeat' split) <;> omega) | grind) (by first | exact Or.inl rfl | exact Or.inr rfl | omega | assumption)

set_option maxRecDepth 100000 in
theorem s_X2_isPlainDigit {w : sg_W} {Q : sg_O → sg_H → Prop} {h : sg_H} (g : sg_G w) {d : Nat} (hd : 1 ≤ d) {x : Int} (hQ : ∀ z, z = fn_dig x → (z = 0 ∨ z = 1) → Q (.inl (some (sg_i z))) h) : sg_C w mi_X2_isPlainDigit d 0 0 [sg_i x] h Q := by
  refine sg_of pn_X2 (Nat.le_of_ble_eq_true rfl) ?_
  refine sg_iload_n (pc := 0) (j := 0) dX2_isPlainDigit_0 rfl rfl ?_
  refine sg_bipush (pc := 1) (z := 48) dX2_isPlainDigit_1 (by decide) ?_
  refine sg_icmp_lt (pc := 3) (tgt := 16) dX2_isPlainDigit_3 (by decide) (fun c3 => ?_) (fun c3 => ?_)
  · refine sg_iconst (pc := 16) (z := 0) dX2_isPlainDigit_16 (by decide) ?_
    refine sg_zret (pc := 17) dX2_isPlainDigit_17 rfl (by first | exact Or.inl rfl | exact Or.inr rfl | omega | assumption) (by first | exact Nat.le_of_ble_eq_true rfl | omega) (by first | exact Nat.le_of_ble_eq_true rfl | omega) ?_
    exact hQ _ (by (try simp only [fn_dig] at *) <;> first | omega | ((repeat' split) <;> omega) | grind) (by first | exact Or.inl rfl | exact Or.inr rfl | omega | assumption)
  · refine sg_iload_n (pc := 6) (j := 0) dX2_isPlainDigit_6 rfl rfl ?_
    refine sg_bipush (pc := 7) (z := 57) dX2_isPlainDigit_7 (by decide) ?_
    refine sg_icmp_gt (pc := 9) (tgt := 16) dX2_isPlainDigit_9 (by decide) (fun c9 => ?_) (fun c9 => ?_)
    · refine sg_iconst (pc := 16) (z := 0) dX2_isPlainDigit_16 (by decide) ?_
      refine sg_zret (pc := 17) dX2_isPlainDigit_17 rfl (by first | exact Or.inl rfl | exact Or.inr rfl | omega | assumption) (by first | exact Nat.le_of_ble_eq_true rfl | omega) (by first | exact Nat.le_of_ble_eq_true rfl | omega) ?_
      exact hQ _ (by (try simp only [fn_dig] at *) <;> first | omega | ((repeat' split) <;> omega) | grind) (by first | exact Or.inl rfl | exact Or.inr rfl | omega | assumption)
    · refine sg_iconst (pc := 12) (z := 1) dX2_isPlainDigit_12 (by decide) ?_
      refine sg_goto (pc := 13) (tgt := 17) dX2_isPlainDigit_13 (by decide) ?_
      refine sg_zret (pc := 17) dX2_isPlainDigit_17 rfl (by first | exact Or.inl rfl | exact Or.inr rfl | omega | assumption) (by first | exact Nat.le_of_ble_eq_true rfl | omega) (by first | exact Nat.le_of_ble_eq_true rfl | omega) ?_
      exact hQ _ (by (try simp only [fn_dig] at *) <;> first | omega | ((repeat' split) <;> omega) | grind) (by first | exact Or.inl rfl | exact Or.inr rfl | omega | assumption)

set_option maxRecDepth 100000 in
theorem s_X2_isGreatPlain {w : sg_W} {Q : sg_O → sg_H → Prop} {h : sg_H} (g : sg_G w) {d : Nat} (hd : 1 ≤ d) {x : Int} (hQ : ∀ z, z = fn_gp x → (z = 0 ∨ z = 1) → Q (.inl (some (sg_i z))) h) : sg_C w mi_X2_isGreatPlain d 0 0 [sg_i x] h Q := by
  refine sg_of pn_X2 (Nat.le_of_ble_eq_true rfl) ?_
  refine sg_iload_n (pc := 0) (j := 0) dX2_isGreatPlain_0 rfl rfl ?_
  refine sg_bipush (pc := 1) (z := 65) dX2_isGreatPlain_1 (by decide) ?_
  refine sg_icmp_lt (pc := 3) (tgt := 16) dX2_isGreatPlain_3 (by decide) (fun c3 => ?_) (fun c3 => ?_)
  · refine sg_iconst (pc := 16) (z := 0) dX2_isGreatPlain_16 (by decide) ?_
    refine sg_zret (pc := 17) dX2_isGreatPlain_17 rfl (by first | exact Or.inl rfl | exact Or.inr rfl | omega | assumption) (by first | exact Nat.le_of_ble_eq_true rfl | omega) (by first | exact Nat.le_of_ble_eq_true rfl | omega) ?_
    exact hQ _ (by (try simp only [fn_gp] at *) <;> first | omega | ((repeat' split) <;> omega) | grind) (by first | exact Or.inl rfl | exact Or.inr rfl | omega | assumption)
  · refine sg_iload_n (pc := 6) (j := 0) dX2_isGreatPlain_6 rfl rfl ?_
    refine sg_bipush (pc := 7) (z := 90) dX2_isGreatPlain_7 (by decide) ?_
    refine sg_icmp_gt (pc := 9) (tgt := 16) dX2_isGreatPlain_9 (by decide) (fun c9 => ?_) (fun c9 => ?_)
    · refine sg_iconst (pc := 16) (z := 0) dX2_isGreatPlain_16 (by decide) ?_
      refine sg_zret (pc := 17) dX2_isGreatPlain_17 rfl (by first | exact Or.inl rfl | exact Or.inr rfl | omega | assumption) (by first | exact Nat.le_of_ble_eq_true rfl | omega) (by first | exact Nat.le_of_ble_eq_true rfl | omega) ?_
      exact hQ _ (by (try simp only [fn_gp] at *) <;> first | omega | ((repeat' split) <;> omega) | grind) (by first | exact Or.inl rfl | exact Or.inr rfl | omega | assumption)
    · refine sg_iconst (pc := 12) (z := 1) dX2_isGreatPlain_12 (by decide) ?_
      refine sg_goto (pc := 13) (tgt := 17) dX2_isGreatPlain_13 (by decide) ?_
      refine sg_zret (pc := 17) dX2_isGreatPlain_17 rfl (by first | exact Or.inl rfl | exact Or.inr rfl | omega | assumption) (by first | exact Nat.le_of_ble_eq_true rfl | omega) (by first | exact Nat.le_of_ble_eq_true rfl | omega) ?_
      exact hQ _ (by (try simp only [fn_gp] at *) <;> first | omega | ((repeat' split) <;> omega) | grind) (by first | exact Or.inl rfl | exact Or.inr rfl | omega | assumption)

set_option maxRecDepth 100000 in
theorem s_X2_isSmallPlain {w : sg_W} {Q : sg_O → sg_H → Prop} {h : sg_H} (g : sg_G w) {d : Nat} (hd : 1 ≤ d) {x : Int} (hQ : ∀ z, z = fn_sp x → (z = 0 ∨ z = 1) → Q (.inl (some (sg_i z))) h) : sg_C w mi_X2_isSmallPlain d 0 0 [sg_i x] h Q := by
  refine sg_of pn_X2 (Nat.le_of_ble_eq_true rfl) ?_
  refine sg_iload_n (pc := 0) (j := 0) dX2_isSmallPlain_0 rfl rfl ?_
  refine sg_bipush (pc := 1) (z := 97) dX2_isSmallPlain_1 (by decide) ?_
  refine sg_icmp_lt (pc := 3) (tgt := 16) dX2_isSmallPlain_3 (by decide) (fun c3 => ?_) (fun c3 => ?_)
  · refine sg_iconst (pc := 16) (z := 0) dX2_isSmallPlain_16 (by decide) ?_
    refine sg_zret (pc := 17) dX2_isSmallPlain_17 rfl (by first | exact Or.inl rfl | exact Or.inr rfl | omega | assumption) (by first | exact Nat.le_of_ble_eq_true rfl | omega) (by first | exact Nat.le_of_ble_eq_true rfl | omega) ?_
    exact hQ _ (by (try simp only [fn_sp] at *) <;> first | omega | ((repeat' split) <;> omega) | grind) (by first | exact Or.inl rfl | exact Or.inr rfl | omega | assumption)
  · refine sg_iload_n (pc := 6) (j := 0) dX2_isSmallPlain_6 rfl rfl ?_
    refine sg_bipush (pc := 7) (z := 122) dX2_isSmallPlain_7 (by decide) ?_
    refine sg_icmp_gt (pc := 9) (tgt := 16) dX2_isSmallPlain_9 (by decide) (fun c9 => ?_) (fun c9 => ?_)
    · refine sg_iconst (pc := 16) (z := 0) dX2_isSmallPlain_16 (by decide) ?_
      refine sg_zret (pc := 17) dX2_isSmallPlain_17 rfl (by first | exact Or.inl rfl | exact Or.inr rfl | omega | assumption) (by first | exact Nat.le_of_ble_eq_true rfl | omega) (by first | exact Nat.le_of_ble_eq_true rfl | omega) ?_
      exact hQ _ (by (try simp only [fn_sp] at *) <;> first | omega | ((repeat' split) <;> omega) | grind) (by first | exact Or.inl rfl | exact Or.inr rfl | omega | assumption)
    · refine sg_iconst (pc := 12) (z := 1) dX2_isSmallPlain_12 (by decide) ?_
      refine sg_goto (pc := 13) (tgt := 17) dX2_isSmallPlain_13 (by decide) ?_
      refine sg_zret (pc := 17) dX2_isSmallPlain_17 rfl (by first | exact Or.inl rfl | exact Or.inr rfl | omega | assumption) (by first | exact Nat.le_of_ble_eq_true rfl | omega) (by first | exact Nat.le_of_ble_eq_true rfl | omega) ?_
      exact hQ _ (by (try simp only [fn_sp] at *) <;> first | omega | ((repeat' split) <;> omega) | grind) (by first | exact Or.inl rfl | exact Or.inr rfl | omega | assumption)

set_option maxRecDepth 100000 in
theorem s_X2_isSign {w : sg_W} {Q : sg_O → sg_H → Prop} {h : sg_H} (g : sg_G w) {d : Nat} (hd : 2 ≤ d) {x : Int} (hQ : ∀ z, z = fn_sign x → (z = 0 ∨ z = 1) → Q (.inl (some (sg_i z))) h) : sg_C w mi_X2_isSign d 0 0 [sg_i x] h Q := by
  refine sg_of pn_X2 (Nat.le_of_ble_eq_true rfl) ?_
  refine sg_iload_n (pc := 0) (j := 0) dX2_isSign_0 rfl rfl ?_
  refine sg_iconst (pc := 1) (z := 0) dX2_isSign_1 (by decide) ?_
  refine sg_sipush (pc := 2) (z := 255) dX2_isSign_2 (by decide) ?_
  refine sg_cS3 (pc := 5) (d' := d - 1) (mc' := 0) (ms' := 0) g dX2_isSign_5 cb_X2_isBetween ml_X2_9 ms_X2_isBetween (Nat.le_of_ble_eq_true rfl) (by first | exact jl_d0 hd rfl | omega) (by first | exact Nat.le_of_ble_eq_true rfl | omega) (by first | exact Nat.le_of_ble_eq_true rfl | omega) ?_
  refine s_X2_isBetween g (by first | exact jl_d1 hd rfl | omega) (fun z5 h5 b5 => sg_K1 ?_)
  (try simp only [fn_sign, fn_betw] at h5)
  refine sg_zret (pc := 8) dX2_isSign_8 rfl (by first | exact Or.inl rfl | exact Or.inr rfl | omega | assumption) (by first | exact Nat.le_of_ble_eq_true rfl | omega) (by first | exact Nat.le_of_ble_eq_true rfl | omega) ?_
  exact hQ _ (by (try simp only [fn_sign, fn_betw] at *) <;> first | omega | ((repeat' split) <;> omega) | grind) (by first | exact Or.inl rfl | exact Or.inr rfl | omega | assumption)

set_option maxRecDepth 100000 in
theorem s_X2_isRadix {w : sg_W} {Q : sg_O → sg_H → Prop} {h : sg_H} (g : sg_G w) {d : Nat} (hd : 2 ≤ d) {x : Int} (hQ : ∀ z, z = fn_radix x → (z = 0 ∨ z = 1) → Q (.inl (some (sg_i z))) h) : sg_C w mi_X2_isRadix d 0 0 [sg_i x] h Q := by
  refine sg_of pn_X2 (Nat.le_of_ble_eq_true rfl) ?_
  refine sg_iload_n (pc := 0) (j := 0) dX2_isRadix_0 rfl rfl ?_
  refine sg_iconst (pc := 1) (z := 2) dX2_isRadix_1 (by decide) ?_
  refine sg_bipush (pc := 2) (z := 36) dX2_isRadix_2 (by decide) ?_
  refine sg_cS3 (pc := 4) (d' := d - 1) (mc' := 0) (ms' := 0) g dX2_isRadix_4 cb_X2_isBetween ml_X2_9 ms_X2_isBetween (Nat.le_of_ble_eq_true rfl) (by first | exact jl_d0 hd rfl | omega) (by first | exact Nat.le_of_ble_eq_true rfl | omega) (by first | exact Nat.le_of_ble_eq_true rfl | omega) ?_
  refine s_X2_isBetween g (by first | exact jl_d1 hd rfl | omega) (fun z4 h4 b4 => sg_K1 ?_)
  (try simp only [fn_radix, fn_betw] at h4)
  refine sg_zret (pc := 7) dX2_isRadix_7 rfl (by first | exact Or.inl rfl | exact Or.inr rfl | omega | assumption) (by first | exact Nat.le_of_ble_eq_true rfl | omega) (by first | exact Nat.le_of_ble_eq_true rfl | omega) ?_
  exact hQ _ (by (try simp only [fn_radix, fn_betw] at *) <;> first | omega | ((repeat' split) <;> omega) | grind) (by first | exact Or.inl rfl | exact Or.inr rfl | omega | assumption)

set_option maxRecDepth 100000 in
theorem s_X2_isAnyGreat {w : sg_W} {Q : sg_O → sg_H → Prop} {h : sg_H} (g : sg_G w) {d : Nat} (hd : 2 ≤ d) {x : Int} (hQ : ∀ z, z = fn_great x → (z = 0 ∨ z = 1) → Q (.inl (some (sg_i z))) h) : sg_C w mi_X2_isAnyGreat d 0 0 [sg_i x] h Q := by
  refine sg_of pn_X2 (Nat.le_of_ble_eq_true rfl) ?_
  refine sg_iload_n (pc := 0) (j := 0) dX2_isAnyGreat_0 rfl rfl ?_
  refine sg_cS1 (pc := 1) (d' := d - 1) (mc' := 0) (ms' := 0) g dX2_isAnyGreat_1 cb_X2_isGreatPlain ml_X2_56 ms_X2_isGreatPlain (Nat.le_of_ble_eq_true rfl) (by first | exact jl_d0 hd rfl | omega) (by first | exact Nat.le_of_ble_eq_true rfl | omega) (by first | exact Nat.le_of_ble_eq_true rfl | omega) ?_
  refine s_X2_isGreatPlain g (by first | exact jl_d1 hd rfl | omega) (fun z1 h1 b1 => sg_K1 ?_)
  (try simp only [fn_great, fn_gp, fn_betw] at h1)
  refine sg_if_ne (pc := 4) (tgt := 33) dX2_isAnyGreat_4 (by decide) (fun c4 => ?_) (fun c4 => ?_)
  · refine sg_iconst (pc := 33) (z := 1) dX2_isAnyGreat_33 (by decide) ?_
    refine sg_goto (pc := 34) (tgt := 38) dX2_isAnyGreat_34 (by decide) ?_
    refine sg_zret (pc := 38) dX2_isAnyGreat_38 rfl (by first | exact Or.inl rfl | exact Or.inr rfl | omega | assumption) (by first | exact Nat.le_of_ble_eq_true rfl | omega) (by first | exact Nat.le_of_ble_eq_true rfl | omega) ?_
    exact hQ _ (by (try simp only [fn_great, fn_gp, fn_betw] at *) <;> first | omega | ((repeat' split) <;> omega) | grind) (by first | exact Or.inl rfl | exact Or.inr rfl | omega | assumption)
  · refine sg_iload_n (pc := 7) (j := 0) dX2_isAnyGreat_7 rfl rfl ?_
    refine sg_sipush (pc := 8) (z := 192) dX2_isAnyGreat_8 (by decide) ?_
    refine sg_sipush (pc := 11) (z := 214) dX2_isAnyGreat_11 (by decide) ?_
    refine sg_cS3 (pc := 14) (d' := d - 1) (mc' := 0) (ms' := 0) g dX2_isAnyGreat_14 cb_X2_isBetween ml_X2_9 ms_X2_isBetween (Nat.le_of_ble_eq_true rfl) (by first | exact jl_d0 hd rfl | omega) (by first | exact Nat.le_of_ble_eq_true rfl | omega) (by first | exact Nat.le_of_ble_eq_true rfl | omega) ?_
    refine s_X2_isBetween g (by first | exact jl_d1 hd rfl | omega) (fun z14 h14 b14 => sg_K1 ?_)
    (try simp only [fn_great, fn_gp, fn_betw] at h14)
    refine sg_if_ne (pc := 17) (tgt := 33) dX2_isAnyGreat_17 (by decide) (fun c17 => ?_) (fun c17 => ?_)
    · refine sg_iconst (pc := 33) (z := 1) dX2_isAnyGreat_33 (by decide) ?_
      refine sg_goto (pc := 34) (tgt := 38) dX2_isAnyGreat_34 (by decide) ?_
      refine sg_zret (pc := 38) dX2_isAnyGreat_38 rfl (by first | exact Or.inl rfl | exact Or.inr rfl | omega | assumption) (by first | exact Nat.le_of_ble_eq_true rfl | omega) (by first | exact Nat.le_of_ble_eq_true rfl | omega) ?_
      exact hQ _ (by (try simp only [fn_great, fn_gp, fn_betw] at *) <;> first | omega | ((repeat' split) <;> omega) | grind) (by first | exact Or.inl rfl | exact Or.inr rfl | omega | assumption)
    · refine sg_iload_n (pc := 20) (j := 0) dX2_isAnyGreat_20 rfl rfl ?_
      refine sg_sipush (pc := 21) (z := 216) dX2_isAnyGreat_21 (by decide) ?_
      refine sg_sipush (pc := 24) (z := 222) dX2_isAnyGreat_24 (by decide) ?_
      refine sg_cS3 (pc := 27) (d' := d - 1) (mc' := 0) (ms' := 0) g dX2_isAnyGreat_27 cb_X2_isBetween ml_X2_9 ms_X2_isBetween (Nat.le_of_ble_eq_true rfl) (by first | exact jl_d0 hd rfl | omega) (by first | exact Nat.le_of_ble_eq_true rfl | omega) (by first | exact Nat.le_of_ble_eq_true rfl | omega) ?_
      refine s_X2_isBetween g (by first | exact jl_d1 hd rfl | omega) (fun z27 h27 b27 => sg_K1 ?_)
      (try simp only [fn_great, fn_gp, fn_betw] at h27)
      refine sg_if_eq (pc := 30) (tgt := 37) dX2_isAnyGreat_30 (by decide) (fun c30 => ?_) (fun c30 => ?_)
      · refine sg_iconst (pc := 37) (z := 0) dX2_isAnyGreat_37 (by decide) ?_
        refine sg_zret (pc := 38) dX2_isAnyGreat_38 rfl (by first | exact Or.inl rfl | exact Or.inr rfl | omega | assumption) (by first | exact Nat.le_of_ble_eq_true rfl | omega) (by first | exact Nat.le_of_ble_eq_true rfl | omega) ?_
        exact hQ _ (by (try simp only [fn_great, fn_gp, fn_betw] at *) <;> first | omega | ((repeat' split) <;> omega) | grind) (by first | exact Or.inl rfl | exact Or.inr rfl | omega | assumption)
      · refine sg_iconst (pc := 33) (z := 1) dX2_isAnyGreat_33 (by decide) ?_
        refine sg_goto (pc := 34) (tgt := 38) dX2_isAnyGreat_34 (by decide) ?_
        refine sg_zret (pc := 38) dX2_isAnyGreat_38 rfl (by first | exact Or.inl rfl | exact Or.inr rfl | omega | assumption) (by first | exact Nat.le_of_ble_eq_true rfl | omega) (by first | exact Nat.le_of_ble_eq_true rfl | omega) ?_
        exact hQ _ (by (try simp only [fn_great, fn_gp, fn_betw] at *) <;> first | omega | ((repeat' split) <;> omega) | grind) (by first | exact Or.inl rfl | exact Or.inr rfl | omega | assumption)

set_option maxRecDepth 100000 in
theorem s_X2_isAnyLetter {w : sg_W} {Q : sg_O → sg_H → Prop} {h : sg_H} (g : sg_G w) {d : Nat} (hd : 2 ≤ d) {x : Int} (hQ : ∀ z, z = fn_letter x → (z = 0 ∨ z = 1) → Q (.inl (some (sg_i z))) h) : sg_C w mi_X2_isAnyLetter d 0 0 [sg_i x] h Q := by
  refine sg_of pn_X2 (Nat.le_of_ble_eq_true rfl) ?_
  refine sg_iload_n (pc := 0) (j := 0) dX2_isAnyLetter_0 rfl rfl ?_
  refine sg_cS1 (pc := 1) (d' := d - 1) (mc' := 0) (ms' := 0) g dX2_isAnyLetter_1 cb_X2_isGreatPlain ml_X2_56 ms_X2_isGreatPlain (Nat.le_of_ble_eq_true rfl) (by first | exact jl_d0 hd rfl | omega) (by first | exact Nat.le_of_ble_eq_true rfl | omega) (by first | exact Nat.le_of_ble_eq_true rfl | omega) ?_
  refine s_X2_isGreatPlain g (by first | exact jl_d1 hd rfl | omega) (fun z1 h1 b1 => sg_K1 ?_)
  (try simp only [fn_letter, fn_gp, fn_sp, fn_betw] at h1)
  refine sg_if_ne (pc := 4) (tgt := 14) dX2_isAnyLetter_4 (by decide) (fun c4 => ?_) (fun c4 => ?_)
  · refine sg_iconst (pc := 14) (z := 1) dX2_isAnyLetter_14 (by decide) ?_
    refine sg_zret (pc := 15) dX2_isAnyLetter_15 rfl (by first | exact Or.inl rfl | exact Or.inr rfl | omega | assumption) (by first | exact Nat.le_of_ble_eq_true rfl | omega) (by first | exact Nat.le_of_ble_eq_true rfl | omega) ?_
    exact hQ _ (by (try simp only [fn_letter, fn_gp, fn_sp, fn_betw] at *) <;> first | omega | ((repeat' split) <;> omega) | grind) (by first | exact Or.inl rfl | exact Or.inr rfl | omega | assumption)
  · refine sg_iload_n (pc := 7) (j := 0) dX2_isAnyLetter_7 rfl rfl ?_
    refine sg_cS1 (pc := 8) (d' := d - 1) (mc' := 0) (ms' := 0) g dX2_isAnyLetter_8 cb_X2_isSmallPlain ml_X2_29 ms_X2_isSmallPlain (Nat.le_of_ble_eq_true rfl) (by first | exact jl_d0 hd rfl | omega) (by first | exact Nat.le_of_ble_eq_true rfl | omega) (by first | exact Nat.le_of_ble_eq_true rfl | omega) ?_
    refine s_X2_isSmallPlain g (by first | exact jl_d1 hd rfl | omega) (fun z8 h8 b8 => sg_K1 ?_)
    (try simp only [fn_letter, fn_gp, fn_sp, fn_betw] at h8)
    refine sg_if_eq (pc := 11) (tgt := 16) dX2_isAnyLetter_11 (by decide) (fun c11 => ?_) (fun c11 => ?_)
    · refine sg_iload_n (pc := 16) (j := 0) dX2_isAnyLetter_16 rfl rfl ?_
      refine sg_sipush (pc := 17) (z := 170) dX2_isAnyLetter_17 (by decide) ?_
      refine sg_icmp_eq (pc := 20) (tgt := 37) dX2_isAnyLetter_20 (by decide) (fun c20 => ?_) (fun c20 => ?_)
      · refine sg_iconst (pc := 37) (z := 1) dX2_isAnyLetter_37 (by decide) ?_
        refine sg_zret (pc := 38) dX2_isAnyLetter_38 rfl (by first | exact Or.inl rfl | exact Or.inr rfl | omega | assumption) (by first | exact Nat.le_of_ble_eq_true rfl | omega) (by first | exact Nat.le_of_ble_eq_true rfl | omega) ?_
        exact hQ _ (by (try simp only [fn_letter, fn_gp, fn_sp, fn_betw] at *) <;> first | omega | ((repeat' split) <;> omega) | grind) (by first | exact Or.inl rfl | exact Or.inr rfl | omega | assumption)
      · refine sg_iload_n (pc := 23) (j := 0) dX2_isAnyLetter_23 rfl rfl ?_
        refine sg_sipush (pc := 24) (z := 181) dX2_isAnyLetter_24 (by decide) ?_
        refine sg_icmp_eq (pc := 27) (tgt := 37) dX2_isAnyLetter_27 (by decide) (fun c27 => ?_) (fun c27 => ?_)
        · refine sg_iconst (pc := 37) (z := 1) dX2_isAnyLetter_37 (by decide) ?_
          refine sg_zret (pc := 38) dX2_isAnyLetter_38 rfl (by first | exact Or.inl rfl | exact Or.inr rfl | omega | assumption) (by first | exact Nat.le_of_ble_eq_true rfl | omega) (by first | exact Nat.le_of_ble_eq_true rfl | omega) ?_
          exact hQ _ (by (try simp only [fn_letter, fn_gp, fn_sp, fn_betw] at *) <;> first | omega | ((repeat' split) <;> omega) | grind) (by first | exact Or.inl rfl | exact Or.inr rfl | omega | assumption)
        · refine sg_iload_n (pc := 30) (j := 0) dX2_isAnyLetter_30 rfl rfl ?_
          refine sg_sipush (pc := 31) (z := 186) dX2_isAnyLetter_31 (by decide) ?_
          refine sg_icmp_ne (pc := 34) (tgt := 39) dX2_isAnyLetter_34 (by decide) (fun c34 => ?_) (fun c34 => ?_)
          · refine sg_iload_n (pc := 39) (j := 0) dX2_isAnyLetter_39 rfl rfl ?_
            refine sg_sipush (pc := 40) (z := 192) dX2_isAnyLetter_40 (by decide) ?_
            refine sg_sipush (pc := 43) (z := 214) dX2_isAnyLetter_43 (by decide) ?_
            refine sg_cS3 (pc := 46) (d' := d - 1) (mc' := 0) (ms' := 0) g dX2_isAnyLetter_46 cb_X2_isBetween ml_X2_9 ms_X2_isBetween (Nat.le_of_ble_eq_true rfl) (by first | exact jl_d0 hd rfl | omega) (by first | exact Nat.le_of_ble_eq_true rfl | omega) (by first | exact Nat.le_of_ble_eq_true rfl | omega) ?_
            refine s_X2_isBetween g (by first | exact jl_d1 hd rfl | omega) (fun z46 h46 b46 => sg_K1 ?_)
            (try simp only [fn_letter, fn_gp, fn_sp, fn_betw] at h46)
            refine sg_if_ne (pc := 49) (tgt := 78) dX2_isAnyLetter_49 (by decide) (fun c49 => ?_) (fun c49 => ?_)
            · refine sg_iconst (pc := 78) (z := 1) dX2_isAnyLetter_78 (by decide) ?_
              refine sg_goto (pc := 79) (tgt := 83) dX2_isAnyLetter_79 (by decide) ?_
              refine sg_zret (pc := 83) dX2_isAnyLetter_83 rfl (by first | exact Or.inl rfl | exact Or.inr rfl | omega | assumption) (by first | exact Nat.le_of_ble_eq_true rfl | omega) (by first | exact Nat.le_of_ble_eq_true rfl | omega) ?_
              exact hQ _ (by (try simp only [fn_letter, fn_gp, fn_sp, fn_betw] at *) <;> first | omega | ((repeat' split) <;> omega) | grind) (by first | exact Or.inl rfl | exact Or.inr rfl | omega | assumption)
            · refine sg_iload_n (pc := 52) (j := 0) dX2_isAnyLetter_52 rfl rfl ?_
              refine sg_sipush (pc := 53) (z := 216) dX2_isAnyLetter_53 (by decide) ?_
              refine sg_sipush (pc := 56) (z := 246) dX2_isAnyLetter_56 (by decide) ?_
              refine sg_cS3 (pc := 59) (d' := d - 1) (mc' := 0) (ms' := 0) g dX2_isAnyLetter_59 cb_X2_isBetween ml_X2_9 ms_X2_isBetween (Nat.le_of_ble_eq_true rfl) (by first | exact jl_d0 hd rfl | omega) (by first | exact Nat.le_of_ble_eq_true rfl | omega) (by first | exact Nat.le_of_ble_eq_true rfl | omega) ?_
              refine s_X2_isBetween g (by first | exact jl_d1 hd rfl | omega) (fun z59 h59 b59 => sg_K1 ?_)
              (try simp only [fn_letter, fn_gp, fn_sp, fn_betw] at h59)
              refine sg_if_ne (pc := 62) (tgt := 78) dX2_isAnyLetter_62 (by decide) (fun c62 => ?_) (fun c62 => ?_)
              · refine sg_iconst (pc := 78) (z := 1) dX2_isAnyLetter_78 (by decide) ?_
                refine sg_goto (pc := 79) (tgt := 83) dX2_isAnyLetter_79 (by decide) ?_
                refine sg_zret (pc := 83) dX2_isAnyLetter_83 rfl (by first | exact Or.inl rfl | exact Or.inr rfl | omega | assumption) (by first | exact Nat.le_of_ble_eq_true rfl | omega) (by first | exact Nat.le_of_ble_eq_true rfl | omega) ?_
                exact hQ _ (by (try simp only [fn_letter, fn_gp, fn_sp, fn_betw] at *) <;> first | omega | ((repeat' split) <;> omega) | grind) (by first | exact Or.inl rfl | exact Or.inr rfl | omega | assumption)
              · refine sg_iload_n (pc := 65) (j := 0) dX2_isAnyLetter_65 rfl rfl ?_
                refine sg_sipush (pc := 66) (z := 248) dX2_isAnyLetter_66 (by decide) ?_
                refine sg_sipush (pc := 69) (z := 255) dX2_isAnyLetter_69 (by decide) ?_
                refine sg_cS3 (pc := 72) (d' := d - 1) (mc' := 0) (ms' := 0) g dX2_isAnyLetter_72 cb_X2_isBetween ml_X2_9 ms_X2_isBetween (Nat.le_of_ble_eq_true rfl) (by first | exact jl_d0 hd rfl | omega) (by first | exact Nat.le_of_ble_eq_true rfl | omega) (by first | exact Nat.le_of_ble_eq_true rfl | omega) ?_
                refine s_X2_isBetween g (by first | exact jl_d1 hd rfl | omega) (fun z72 h72 b72 => sg_K1 ?_)
                (try simp only [fn_letter, fn_gp, fn_sp, fn_betw] at h72)
                refine sg_if_eq (pc := 75) (tgt := 82) dX2_isAnyLetter_75 (by decide) (fun c75 => ?_) (fun c75 => ?_)
                · refine sg_iconst (pc := 82) (z := 0) dX2_isAnyLetter_82 (by decide) ?_
                  refine sg_zret (pc := 83) dX2_isAnyLetter_83 rfl (by first | exact Or.inl rfl | exact Or.inr rfl | omega | assumption) (by first | exact Nat.le_of_ble_eq_true rfl | omega) (by first | exact Nat.le_of_ble_eq_true rfl | omega) ?_
                  exact hQ _ (by (try simp only [fn_letter, fn_gp, fn_sp, fn_betw] at *) <;> first | omega | ((repeat' split) <;> omega) | grind) (by first | exact Or.inl rfl | exact Or.inr rfl | omega | assumption)
                · refine sg_iconst (pc := 78) (z := 1) dX2_isAnyLetter_78 (by decide) ?_
                  refine sg_goto (pc := 79) (tgt := 83) dX2_isAnyLetter_79 (by decide) ?_
                  refine sg_zret (pc := 83) dX2_isAnyLetter_83 rfl (by first | exact Or.inl rfl | exact Or.inr rfl | omega | assumption) (by first | exact Nat.le_of_ble_eq_true rfl | omega) (by first | exact Nat.le_of_ble_eq_true rfl | omega) ?_
                  exact hQ _ (by (try simp only [fn_letter, fn_gp, fn_sp, fn_betw] at *) <;> first | omega | ((repeat' split) <;> omega) | grind) (by first | exact Or.inl rfl | exact Or.inr rfl | omega | assumption)
          · refine sg_iconst (pc := 37) (z := 1) dX2_isAnyLetter_37 (by decide) ?_
            refine sg_zret (pc := 38) dX2_isAnyLetter_38 rfl (by first | exact Or.inl rfl | exact Or.inr rfl | omega | assumption) (by first | exact Nat.le_of_ble_eq_true rfl | omega) (by first | exact Nat.le_of_ble_eq_true rfl | omega) ?_
            exact hQ _ (by (try simp only [fn_letter, fn_gp, fn_sp, fn_betw] at *) <;> first | omega | ((repeat' split) <;> omega) | grind) (by first | exact Or.inl rfl | exact Or.inr rfl | omega | assumption)
    · refine sg_iconst (pc := 14) (z := 1) dX2_isAnyLetter_14 (by decide) ?_
      refine sg_zret (pc := 15) dX2_isAnyLetter_15 rfl (by first | exact Or.inl rfl | exact Or.inr rfl | omega | assumption) (by first | exact Nat.le_of_ble_eq_true rfl | omega) (by first | exact Nat.le_of_ble_eq_true rfl | omega) ?_
      exact hQ _ (by (try simp only [fn_letter, fn_gp, fn_sp, fn_betw] at *) <;> first | omega | ((repeat' split) <;> omega) | grind) (by first | exact Or.inl rfl | exact Or.inr rfl | omega | assumption)

set_option maxRecDepth 100000 in
theorem s_X2_isOf {w : sg_W} {Q : sg_O → sg_H → Prop} {h : sg_H} (g : sg_G w) {d : Nat} (hd : 3 ≤ d) {x y : Int} (hQ : ∀ z, z = fn_isOf x y → (z = 0 ∨ z = 1) → Q (.inl (some (sg_i z))) h) : sg_C w mi_X2_isOf d 0 0 [sg_i x, sg_i y] h Q := by
  refine sg_of pn_X2 (Nat.le_of_ble_eq_true rfl) ?_
  refine sg_iload_n (pc := 0) (j := 1) dX2_isOf_0 rfl rfl ?_
  by_cases cs : y < 0 ∨ 4 < y
  · refine sg_tsOut (pc := 1) (tgt := 99) dX2_isOf_1 cs (by decide) ?_
    refine sg_iconst (pc := 99) (z := 0) dX2_isOf_99 (by decide) ?_
    refine sg_zret (pc := 100) dX2_isOf_100 rfl (by first | exact Or.inl rfl | exact Or.inr rfl | omega | assumption) (by first | exact Nat.le_of_ble_eq_true rfl | omega) (by first | exact Nat.le_of_ble_eq_true rfl | omega) ?_
    exact hQ _ (by (try simp only [fn_isOf, fn_lod, fn_white, fn_betw] at *) <;> first | omega | ((repeat' split) <;> omega) | grind) (by first | exact Or.inl rfl | exact Or.inr rfl | omega | assumption)
  · rcases (show y = 0 ∨ y = 1 ∨ y = 2 ∨ y = 3 ∨ y = 4 by omega) with rfl | rfl | rfl | rfl | rfl
    · refine sg_tsIn (pc := 1) (tgt := 36) dX2_isOf_1 (by omega) (by omega) rfl (by decide) ?_
      refine sg_iload_n (pc := 36) (j := 0) dX2_isOf_36 rfl rfl ?_
      refine sg_cS1 (pc := 37) (d' := d - 1) (mc' := 0) (ms' := 0) g dX2_isOf_37 cb_X2_isPlainDigit ml_X2_15 ms_X2_isPlainDigit (Nat.le_of_ble_eq_true rfl) (by first | exact jl_d0 hd rfl | omega) (by first | exact Nat.le_of_ble_eq_true rfl | omega) (by first | exact Nat.le_of_ble_eq_true rfl | omega) ?_
      refine s_X2_isPlainDigit g (by first | exact jl_d1 hd rfl | omega) (fun z37 h37 b37 => sg_K1 ?_)
      (try simp only [fn_isOf, fn_lod, fn_white, fn_betw] at h37)
      refine sg_zret (pc := 40) dX2_isOf_40 rfl (by first | exact Or.inl rfl | exact Or.inr rfl | omega | assumption) (by first | exact Nat.le_of_ble_eq_true rfl | omega) (by first | exact Nat.le_of_ble_eq_true rfl | omega) ?_
      exact hQ _ (by (try simp only [fn_isOf, fn_lod, fn_white, fn_betw] at *) <;> first | omega | ((repeat' split) <;> omega) | grind) (by first | exact Or.inl rfl | exact Or.inr rfl | omega | assumption)
    · refine sg_tsIn (pc := 1) (tgt := 41) dX2_isOf_1 (by omega) (by omega) rfl (by decide) ?_
      refine sg_iload_n (pc := 41) (j := 0) dX2_isOf_41 rfl rfl ?_
      refine sg_cS1 (pc := 42) (d' := d - 1) (mc' := 0) (ms' := 0) g dX2_isOf_42 cb_X2_isAnyLetter ml_X2_19 ms_X2_isAnyLetter (Nat.le_of_ble_eq_true rfl) (by first | exact jl_d0 hd rfl | omega) (by first | exact Nat.le_of_ble_eq_true rfl | omega) (by first | exact Nat.le_of_ble_eq_true rfl | omega) ?_
      refine s_X2_isAnyLetter g (by first | exact jl_d1 hd rfl | omega) (fun z42 h42 b42 => sg_K1 ?_)
      (try simp only [fn_isOf, fn_lod, fn_white, fn_betw] at h42)
      refine sg_zret (pc := 45) dX2_isOf_45 rfl (by first | exact Or.inl rfl | exact Or.inr rfl | omega | assumption) (by first | exact Nat.le_of_ble_eq_true rfl | omega) (by first | exact Nat.le_of_ble_eq_true rfl | omega) ?_
      exact hQ _ (by (try simp only [fn_isOf, fn_lod, fn_white, fn_betw] at *) <;> first | omega | ((repeat' split) <;> omega) | grind) (by first | exact Or.inl rfl | exact Or.inr rfl | omega | assumption)
    · refine sg_tsIn (pc := 1) (tgt := 46) dX2_isOf_1 (by omega) (by omega) rfl (by decide) ?_
      refine sg_iload_n (pc := 46) (j := 0) dX2_isOf_46 rfl rfl ?_
      refine sg_cS1 (pc := 47) (d' := d - 1) (mc' := 0) (ms' := 0) g dX2_isOf_47 cb_X2_isAnyLetter ml_X2_19 ms_X2_isAnyLetter (Nat.le_of_ble_eq_true rfl) (by first | exact jl_d0 hd rfl | omega) (by first | exact Nat.le_of_ble_eq_true rfl | omega) (by first | exact Nat.le_of_ble_eq_true rfl | omega) ?_
      refine s_X2_isAnyLetter g (by first | exact jl_d1 hd rfl | omega) (fun z47 h47 b47 => sg_K1 ?_)
      (try simp only [fn_isOf, fn_lod, fn_white, fn_betw] at h47)
      refine sg_if_ne (pc := 50) (tgt := 60) dX2_isOf_50 (by decide) (fun c50 => ?_) (fun c50 => ?_)
      · refine sg_iconst (pc := 60) (z := 1) dX2_isOf_60 (by decide) ?_
        refine sg_goto (pc := 61) (tgt := 65) dX2_isOf_61 (by decide) ?_
        refine sg_zret (pc := 65) dX2_isOf_65 rfl (by first | exact Or.inl rfl | exact Or.inr rfl | omega | assumption) (by first | exact Nat.le_of_ble_eq_true rfl | omega) (by first | exact Nat.le_of_ble_eq_true rfl | omega) ?_
        exact hQ _ (by (try simp only [fn_isOf, fn_lod, fn_white, fn_betw] at *) <;> first | omega | ((repeat' split) <;> omega) | grind) (by first | exact Or.inl rfl | exact Or.inr rfl | omega | assumption)
      · refine sg_iload_n (pc := 53) (j := 0) dX2_isOf_53 rfl rfl ?_
        refine sg_cS1 (pc := 54) (d' := d - 1) (mc' := 0) (ms' := 0) g dX2_isOf_54 cb_X2_isPlainDigit ml_X2_15 ms_X2_isPlainDigit (Nat.le_of_ble_eq_true rfl) (by first | exact jl_d0 hd rfl | omega) (by first | exact Nat.le_of_ble_eq_true rfl | omega) (by first | exact Nat.le_of_ble_eq_true rfl | omega) ?_
        refine s_X2_isPlainDigit g (by first | exact jl_d1 hd rfl | omega) (fun z54 h54 b54 => sg_K1 ?_)
        (try simp only [fn_isOf, fn_lod, fn_white, fn_betw] at h54)
        refine sg_if_eq (pc := 57) (tgt := 64) dX2_isOf_57 (by decide) (fun c57 => ?_) (fun c57 => ?_)
        · refine sg_iconst (pc := 64) (z := 0) dX2_isOf_64 (by decide) ?_
          refine sg_zret (pc := 65) dX2_isOf_65 rfl (by first | exact Or.inl rfl | exact Or.inr rfl | omega | assumption) (by first | exact Nat.le_of_ble_eq_true rfl | omega) (by first | exact Nat.le_of_ble_eq_true rfl | omega) ?_
          exact hQ _ (by (try simp only [fn_isOf, fn_lod, fn_white, fn_betw] at *) <;> first | omega | ((repeat' split) <;> omega) | grind) (by first | exact Or.inl rfl | exact Or.inr rfl | omega | assumption)
        · refine sg_iconst (pc := 60) (z := 1) dX2_isOf_60 (by decide) ?_
          refine sg_goto (pc := 61) (tgt := 65) dX2_isOf_61 (by decide) ?_
          refine sg_zret (pc := 65) dX2_isOf_65 rfl (by first | exact Or.inl rfl | exact Or.inr rfl | omega | assumption) (by first | exact Nat.le_of_ble_eq_true rfl | omega) (by first | exact Nat.le_of_ble_eq_true rfl | omega) ?_
          exact hQ _ (by (try simp only [fn_isOf, fn_lod, fn_white, fn_betw] at *) <;> first | omega | ((repeat' split) <;> omega) | grind) (by first | exact Or.inl rfl | exact Or.inr rfl | omega | assumption)
    · refine sg_tsIn (pc := 1) (tgt := 66) dX2_isOf_1 (by omega) (by omega) rfl (by decide) ?_
      refine sg_iload_n (pc := 66) (j := 0) dX2_isOf_66 rfl rfl ?_
      refine sg_bipush (pc := 67) (z := 9) dX2_isOf_67 (by decide) ?_
      refine sg_bipush (pc := 69) (z := 13) dX2_isOf_69 (by decide) ?_
      refine sg_cS3 (pc := 71) (d' := d - 1) (mc' := 0) (ms' := 0) g dX2_isOf_71 cb_X2_isBetween ml_X2_9 ms_X2_isBetween (Nat.le_of_ble_eq_true rfl) (by first | exact jl_d0 hd rfl | omega) (by first | exact Nat.le_of_ble_eq_true rfl | omega) (by first | exact Nat.le_of_ble_eq_true rfl | omega) ?_
      refine s_X2_isBetween g (by first | exact jl_d1 hd rfl | omega) (fun z71 h71 b71 => sg_K1 ?_)
      (try simp only [fn_isOf, fn_lod, fn_white, fn_betw] at h71)
      refine sg_if_ne (pc := 74) (tgt := 88) dX2_isOf_74 (by decide) (fun c74 => ?_) (fun c74 => ?_)
      · refine sg_iconst (pc := 88) (z := 1) dX2_isOf_88 (by decide) ?_
        refine sg_goto (pc := 89) (tgt := 93) dX2_isOf_89 (by decide) ?_
        refine sg_zret (pc := 93) dX2_isOf_93 rfl (by first | exact Or.inl rfl | exact Or.inr rfl | omega | assumption) (by first | exact Nat.le_of_ble_eq_true rfl | omega) (by first | exact Nat.le_of_ble_eq_true rfl | omega) ?_
        exact hQ _ (by (try simp only [fn_isOf, fn_lod, fn_white, fn_betw] at *) <;> first | omega | ((repeat' split) <;> omega) | grind) (by first | exact Or.inl rfl | exact Or.inr rfl | omega | assumption)
      · refine sg_iload_n (pc := 77) (j := 0) dX2_isOf_77 rfl rfl ?_
        refine sg_bipush (pc := 78) (z := 28) dX2_isOf_78 (by decide) ?_
        refine sg_bipush (pc := 80) (z := 32) dX2_isOf_80 (by decide) ?_
        refine sg_cS3 (pc := 82) (d' := d - 1) (mc' := 0) (ms' := 0) g dX2_isOf_82 cb_X2_isBetween ml_X2_9 ms_X2_isBetween (Nat.le_of_ble_eq_true rfl) (by first | exact jl_d0 hd rfl | omega) (by first | exact Nat.le_of_ble_eq_true rfl | omega) (by first | exact Nat.le_of_ble_eq_true rfl | omega) ?_
        refine s_X2_isBetween g (by first | exact jl_d1 hd rfl | omega) (fun z82 h82 b82 => sg_K1 ?_)
        (try simp only [fn_isOf, fn_lod, fn_white, fn_betw] at h82)
        refine sg_if_eq (pc := 85) (tgt := 92) dX2_isOf_85 (by decide) (fun c85 => ?_) (fun c85 => ?_)
        · refine sg_iconst (pc := 92) (z := 0) dX2_isOf_92 (by decide) ?_
          refine sg_zret (pc := 93) dX2_isOf_93 rfl (by first | exact Or.inl rfl | exact Or.inr rfl | omega | assumption) (by first | exact Nat.le_of_ble_eq_true rfl | omega) (by first | exact Nat.le_of_ble_eq_true rfl | omega) ?_
          exact hQ _ (by (try simp only [fn_isOf, fn_lod, fn_white, fn_betw] at *) <;> first | omega | ((repeat' split) <;> omega) | grind) (by first | exact Or.inl rfl | exact Or.inr rfl | omega | assumption)
        · refine sg_iconst (pc := 88) (z := 1) dX2_isOf_88 (by decide) ?_
          refine sg_goto (pc := 89) (tgt := 93) dX2_isOf_89 (by decide) ?_
          refine sg_zret (pc := 93) dX2_isOf_93 rfl (by first | exact Or.inl rfl | exact Or.inr rfl | omega | assumption) (by first | exact Nat.le_of_ble_eq_true rfl | omega) (by first | exact Nat.le_of_ble_eq_true rfl | omega) ?_
          exact hQ _ (by (try simp only [fn_isOf, fn_lod, fn_white, fn_betw] at *) <;> first | omega | ((repeat' split) <;> omega) | grind) (by first | exact Or.inl rfl | exact Or.inr rfl | omega | assumption)
    · refine sg_tsIn (pc := 1) (tgt := 94) dX2_isOf_1 (by omega) (by omega) rfl (by decide) ?_
      refine sg_iload_n (pc := 94) (j := 0) dX2_isOf_94 rfl rfl ?_
      refine sg_cS1 (pc := 95) (d' := d - 1) (mc' := 0) (ms' := 0) g dX2_isOf_95 cb_X2_isAnyGreat ml_X2_22 ms_X2_isAnyGreat (Nat.le_of_ble_eq_true rfl) (by first | exact jl_d0 hd rfl | omega) (by first | exact Nat.le_of_ble_eq_true rfl | omega) (by first | exact Nat.le_of_ble_eq_true rfl | omega) ?_
      refine s_X2_isAnyGreat g (by first | exact jl_d1 hd rfl | omega) (fun z95 h95 b95 => sg_K1 ?_)
      (try simp only [fn_isOf, fn_lod, fn_white, fn_betw] at h95)
      refine sg_zret (pc := 98) dX2_isOf_98 rfl (by first | exact Or.inl rfl | exact Or.inr rfl | omega | assumption) (by first | exact Nat.le_of_ble_eq_true rfl | omega) (by first | exact Nat.le_of_ble_eq_true rfl | omega) ?_
      exact hQ _ (by (try simp only [fn_isOf, fn_lod, fn_white, fn_betw] at *) <;> first | omega | ((repeat' split) <;> omega) | grind) (by first | exact Or.inl rfl | exact Or.inr rfl | omega | assumption)

set_option maxRecDepth 100000 in
theorem s_X2_upperOf {w : sg_W} {Q : sg_O → sg_H → Prop} {h : sg_H} (g : sg_G w) {d : Nat} (hd : 2 ≤ d) {x : Int} (hQ : ∀ z, z = fn_upper x → Q (.inl (some (sg_i z))) h) : sg_C w mi_X2_upperOf d 0 0 [sg_i x] h Q := by
  refine sg_of pn_X2 (Nat.le_of_ble_eq_true rfl) ?_
  refine sg_iload_n (pc := 0) (j := 0) dX2_upperOf_0 rfl rfl ?_
  refine sg_cS1 (pc := 1) (d' := d - 1) (mc' := 0) (ms' := 0) g dX2_upperOf_1 cb_X2_isSmallPlain ml_X2_29 ms_X2_isSmallPlain (Nat.le_of_ble_eq_true rfl) (by first | exact jl_d0 hd rfl | omega) (by first | exact Nat.le_of_ble_eq_true rfl | omega) (by first | exact Nat.le_of_ble_eq_true rfl | omega) ?_
  refine s_X2_isSmallPlain g (by first | exact jl_d1 hd rfl | omega) (fun z1 h1 b1 => sg_K1 ?_)
  (try simp only [fn_upper, fn_betw, fn_sp] at h1)
  refine sg_if_ne (pc := 4) (tgt := 33) dX2_upperOf_4 (by decide) (fun c4 => ?_) (fun c4 => ?_)
  · refine sg_iload_n (pc := 33) (j := 0) dX2_upperOf_33 rfl rfl ?_
    refine sg_bipush (pc := 34) (z := 32) dX2_upperOf_34 (by decide) ?_
    first | refine sg_isubB (pc := 36) dX2_upperOf_36 (by omega) (by omega) ?_ | refine sg_isub (pc := 36) dX2_upperOf_36 ?_
    refine sg_iret (pc := 37) dX2_upperOf_37 rfl (by first | exact Nat.le_of_ble_eq_true rfl | omega) (by first | exact Nat.le_of_ble_eq_true rfl | omega) ?_
    exact hQ _ (by (try simp only [fn_upper, fn_betw, fn_sp] at *) <;> first | omega | ((repeat' split) <;> omega) | grind)
  · refine sg_iload_n (pc := 7) (j := 0) dX2_upperOf_7 rfl rfl ?_
    refine sg_sipush (pc := 8) (z := 224) dX2_upperOf_8 (by decide) ?_
    refine sg_sipush (pc := 11) (z := 246) dX2_upperOf_11 (by decide) ?_
    refine sg_cS3 (pc := 14) (d' := d - 1) (mc' := 0) (ms' := 0) g dX2_upperOf_14 cb_X2_isBetween ml_X2_9 ms_X2_isBetween (Nat.le_of_ble_eq_true rfl) (by first | exact jl_d0 hd rfl | omega) (by first | exact Nat.le_of_ble_eq_true rfl | omega) (by first | exact Nat.le_of_ble_eq_true rfl | omega) ?_
    refine s_X2_isBetween g (by first | exact jl_d1 hd rfl | omega) (fun z14 h14 b14 => sg_K1 ?_)
    (try simp only [fn_upper, fn_betw, fn_sp] at h14)
    refine sg_if_ne (pc := 17) (tgt := 33) dX2_upperOf_17 (by decide) (fun c17 => ?_) (fun c17 => ?_)
    · refine sg_iload_n (pc := 33) (j := 0) dX2_upperOf_33 rfl rfl ?_
      refine sg_bipush (pc := 34) (z := 32) dX2_upperOf_34 (by decide) ?_
      first | refine sg_isubB (pc := 36) dX2_upperOf_36 (by omega) (by omega) ?_ | refine sg_isub (pc := 36) dX2_upperOf_36 ?_
      refine sg_iret (pc := 37) dX2_upperOf_37 rfl (by first | exact Nat.le_of_ble_eq_true rfl | omega) (by first | exact Nat.le_of_ble_eq_true rfl | omega) ?_
      exact hQ _ (by (try simp only [fn_upper, fn_betw, fn_sp] at *) <;> first | omega | ((repeat' split) <;> omega) | grind)
    · refine sg_iload_n (pc := 20) (j := 0) dX2_upperOf_20 rfl rfl ?_
      refine sg_sipush (pc := 21) (z := 248) dX2_upperOf_21 (by decide) ?_
      refine sg_sipush (pc := 24) (z := 254) dX2_upperOf_24 (by decide) ?_
      refine sg_cS3 (pc := 27) (d' := d - 1) (mc' := 0) (ms' := 0) g dX2_upperOf_27 cb_X2_isBetween ml_X2_9 ms_X2_isBetween (Nat.le_of_ble_eq_true rfl) (by first | exact jl_d0 hd rfl | omega) (by first | exact Nat.le_of_ble_eq_true rfl | omega) (by first | exact Nat.le_of_ble_eq_true rfl | omega) ?_
      refine s_X2_isBetween g (by first | exact jl_d1 hd rfl | omega) (fun z27 h27 b27 => sg_K1 ?_)
      (try simp only [fn_upper, fn_betw, fn_sp] at h27)
      refine sg_if_eq (pc := 30) (tgt := 38) dX2_upperOf_30 (by decide) (fun c30 => ?_) (fun c30 => ?_)
      · refine sg_iload_n (pc := 38) (j := 0) dX2_upperOf_38 rfl rfl ?_
        refine sg_sipush (pc := 39) (z := 181) dX2_upperOf_39 (by decide) ?_
        refine sg_icmp_ne (pc := 42) (tgt := 49) dX2_upperOf_42 (by decide) (fun c42 => ?_) (fun c42 => ?_)
        · refine sg_iload_n (pc := 49) (j := 0) dX2_upperOf_49 rfl rfl ?_
          refine sg_sipush (pc := 50) (z := 255) dX2_upperOf_50 (by decide) ?_
          refine sg_icmp_ne (pc := 53) (tgt := 62) dX2_upperOf_53 (by decide) (fun c53 => ?_) (fun c53 => ?_)
          · refine sg_iload_n (pc := 62) (j := 0) dX2_upperOf_62 rfl rfl ?_
            refine sg_iret (pc := 63) dX2_upperOf_63 rfl (by first | exact Nat.le_of_ble_eq_true rfl | omega) (by first | exact Nat.le_of_ble_eq_true rfl | omega) ?_
            exact hQ _ (by (try simp only [fn_upper, fn_betw, fn_sp] at *) <;> first | omega | ((repeat' split) <;> omega) | grind)
          · refine sg_sipush (pc := 56) (z := 376) dX2_upperOf_56 (by decide) ?_
            refine sg_goto (pc := 59) (tgt := 63) dX2_upperOf_59 (by decide) ?_
            refine sg_iret (pc := 63) dX2_upperOf_63 rfl (by first | exact Nat.le_of_ble_eq_true rfl | omega) (by first | exact Nat.le_of_ble_eq_true rfl | omega) ?_
            exact hQ _ (by (try simp only [fn_upper, fn_betw, fn_sp] at *) <;> first | omega | ((repeat' split) <;> omega) | grind)
        · refine sg_sipush (pc := 45) (z := 924) dX2_upperOf_45 (by decide) ?_
          refine sg_iret (pc := 48) dX2_upperOf_48 rfl (by first | exact Nat.le_of_ble_eq_true rfl | omega) (by first | exact Nat.le_of_ble_eq_true rfl | omega) ?_
          exact hQ _ (by (try simp only [fn_upper, fn_betw, fn_sp] at *) <;> first | omega | ((repeat' split) <;> omega) | grind)
      · refine sg_iload_n (pc := 33) (j := 0) dX2_upperOf_33 rfl rfl ?_
        refine sg_bipush (pc := 34) (z := 32) dX2_upperOf_34 (by decide) ?_
        first | refine sg_isubB (pc := 36) dX2_upperOf_36 (by omega) (by omega) ?_ | refine sg_isub (pc := 36) dX2_upperOf_36 ?_
        refine sg_iret (pc := 37) dX2_upperOf_37 rfl (by first | exact Nat.le_of_ble_eq_true rfl | omega) (by first | exact Nat.le_of_ble_eq_true rfl | omega) ?_
        exact hQ _ (by (try simp only [fn_upper, fn_betw, fn_sp] at *) <;> first | omega | ((repeat' split) <;> omega) | grind)

set_option maxRecDepth 100000 in
theorem s_X2_lowerOf {w : sg_W} {Q : sg_O → sg_H → Prop} {h : sg_H} (g : sg_G w) {d : Nat} (hd : 3 ≤ d) {x : Int} (hQ : ∀ z, z = fn_lower x → Q (.inl (some (sg_i z))) h) : sg_C w mi_X2_lowerOf d 0 0 [sg_i x] h Q := by
  refine sg_of pn_X2 (Nat.le_of_ble_eq_true rfl) ?_
  refine sg_iload_n (pc := 0) (j := 0) dX2_lowerOf_0 rfl rfl ?_
  refine sg_cS1 (pc := 1) (d' := d - 1) (mc' := 0) (ms' := 0) g dX2_lowerOf_1 cb_X2_isAnyGreat ml_X2_22 ms_X2_isAnyGreat (Nat.le_of_ble_eq_true rfl) (by first | exact jl_d0 hd rfl | omega) (by first | exact Nat.le_of_ble_eq_true rfl | omega) (by first | exact Nat.le_of_ble_eq_true rfl | omega) ?_
  refine s_X2_isAnyGreat g (by first | exact jl_d1 hd rfl | omega) (fun z1 h1 b1 => sg_K1 ?_)
  (try simp only [fn_lower, fn_great] at h1)
  refine sg_if_eq (pc := 4) (tgt := 14) dX2_lowerOf_4 (by decide) (fun c4 => ?_) (fun c4 => ?_)
  · refine sg_iload_n (pc := 14) (j := 0) dX2_lowerOf_14 rfl rfl ?_
    refine sg_iret (pc := 15) dX2_lowerOf_15 rfl (by first | exact Nat.le_of_ble_eq_true rfl | omega) (by first | exact Nat.le_of_ble_eq_true rfl | omega) ?_
    exact hQ _ (by (try simp only [fn_lower, fn_great] at *) <;> first | omega | ((repeat' split) <;> omega) | grind)
  · refine sg_iload_n (pc := 7) (j := 0) dX2_lowerOf_7 rfl rfl ?_
    refine sg_bipush (pc := 8) (z := 32) dX2_lowerOf_8 (by decide) ?_
    first | refine sg_iaddB (pc := 10) dX2_lowerOf_10 (by omega) (by omega) ?_ | refine sg_iadd (pc := 10) dX2_lowerOf_10 ?_
    refine sg_goto (pc := 11) (tgt := 15) dX2_lowerOf_11 (by decide) ?_
    refine sg_iret (pc := 15) dX2_lowerOf_15 rfl (by first | exact Nat.le_of_ble_eq_true rfl | omega) (by first | exact Nat.le_of_ble_eq_true rfl | omega) ?_
    exact hQ _ (by (try simp only [fn_lower, fn_great] at *) <;> first | omega | ((repeat' split) <;> omega) | grind)

set_option maxRecDepth 100000 in
theorem s_X2_plainValueOf {w : sg_W} {Q : sg_O → sg_H → Prop} {h : sg_H} (g : sg_G w) {d : Nat} (hd : 2 ≤ d) {x : Int} (hQ : ∀ z, z = fn_plain x → Q (.inl (some (sg_i z))) h) : sg_C w mi_X2_plainValueOf d 0 0 [sg_i x] h Q := by
  refine sg_of pn_X2 (Nat.le_of_ble_eq_true rfl) ?_
  refine sg_iload_n (pc := 0) (j := 0) dX2_plainValueOf_0 rfl rfl ?_
  refine sg_cS1 (pc := 1) (d' := d - 1) (mc' := 0) (ms' := 0) g dX2_plainValueOf_1 cb_X2_isPlainDigit ml_X2_15 ms_X2_isPlainDigit (Nat.le_of_ble_eq_true rfl) (by first | exact jl_d0 hd rfl | omega) (by first | exact Nat.le_of_ble_eq_true rfl | omega) (by first | exact Nat.le_of_ble_eq_true rfl | omega) ?_
  refine s_X2_isPlainDigit g (by first | exact jl_d1 hd rfl | omega) (fun z1 h1 b1 => sg_K1 ?_)
  (try simp only [fn_plain, fn_dig, fn_gp, fn_sp] at h1)
  refine sg_if_eq (pc := 4) (tgt := 12) dX2_plainValueOf_4 (by decide) (fun c4 => ?_) (fun c4 => ?_)
  · refine sg_iload_n (pc := 12) (j := 0) dX2_plainValueOf_12 rfl rfl ?_
    refine sg_cS1 (pc := 13) (d' := d - 1) (mc' := 0) (ms' := 0) g dX2_plainValueOf_13 cb_X2_isGreatPlain ml_X2_56 ms_X2_isGreatPlain (Nat.le_of_ble_eq_true rfl) (by first | exact jl_d0 hd rfl | omega) (by first | exact Nat.le_of_ble_eq_true rfl | omega) (by first | exact Nat.le_of_ble_eq_true rfl | omega) ?_
    refine s_X2_isGreatPlain g (by first | exact jl_d1 hd rfl | omega) (fun z13 h13 b13 => sg_K1 ?_)
    (try simp only [fn_plain, fn_dig, fn_gp, fn_sp] at h13)
    refine sg_if_eq (pc := 16) (tgt := 24) dX2_plainValueOf_16 (by decide) (fun c16 => ?_) (fun c16 => ?_)
    · refine sg_iload_n (pc := 24) (j := 0) dX2_plainValueOf_24 rfl rfl ?_
      refine sg_cS1 (pc := 25) (d' := d - 1) (mc' := 0) (ms' := 0) g dX2_plainValueOf_25 cb_X2_isSmallPlain ml_X2_29 ms_X2_isSmallPlain (Nat.le_of_ble_eq_true rfl) (by first | exact jl_d0 hd rfl | omega) (by first | exact Nat.le_of_ble_eq_true rfl | omega) (by first | exact Nat.le_of_ble_eq_true rfl | omega) ?_
      refine s_X2_isSmallPlain g (by first | exact jl_d1 hd rfl | omega) (fun z25 h25 b25 => sg_K1 ?_)
      (try simp only [fn_plain, fn_dig, fn_gp, fn_sp] at h25)
      refine sg_if_eq (pc := 28) (tgt := 38) dX2_plainValueOf_28 (by decide) (fun c28 => ?_) (fun c28 => ?_)
      · refine sg_iconst (pc := 38) (z := -1) dX2_plainValueOf_38 (by decide) ?_
        refine sg_iret (pc := 39) dX2_plainValueOf_39 rfl (by first | exact Nat.le_of_ble_eq_true rfl | omega) (by first | exact Nat.le_of_ble_eq_true rfl | omega) ?_
        exact hQ _ (by (try simp only [fn_plain, fn_dig, fn_gp, fn_sp] at *) <;> first | omega | ((repeat' split) <;> omega) | grind)
      · refine sg_iload_n (pc := 31) (j := 0) dX2_plainValueOf_31 rfl rfl ?_
        refine sg_bipush (pc := 32) (z := 87) dX2_plainValueOf_32 (by decide) ?_
        first | refine sg_isubB (pc := 34) dX2_plainValueOf_34 (by omega) (by omega) ?_ | refine sg_isub (pc := 34) dX2_plainValueOf_34 ?_
        refine sg_goto (pc := 35) (tgt := 39) dX2_plainValueOf_35 (by decide) ?_
        refine sg_iret (pc := 39) dX2_plainValueOf_39 rfl (by first | exact Nat.le_of_ble_eq_true rfl | omega) (by first | exact Nat.le_of_ble_eq_true rfl | omega) ?_
        exact hQ _ (by (try simp only [fn_plain, fn_dig, fn_gp, fn_sp] at *) <;> first | omega | ((repeat' split) <;> omega) | grind)
    · refine sg_iload_n (pc := 19) (j := 0) dX2_plainValueOf_19 rfl rfl ?_
      refine sg_bipush (pc := 20) (z := 55) dX2_plainValueOf_20 (by decide) ?_
      first | refine sg_isubB (pc := 22) dX2_plainValueOf_22 (by omega) (by omega) ?_ | refine sg_isub (pc := 22) dX2_plainValueOf_22 ?_
      refine sg_iret (pc := 23) dX2_plainValueOf_23 rfl (by first | exact Nat.le_of_ble_eq_true rfl | omega) (by first | exact Nat.le_of_ble_eq_true rfl | omega) ?_
      exact hQ _ (by (try simp only [fn_plain, fn_dig, fn_gp, fn_sp] at *) <;> first | omega | ((repeat' split) <;> omega) | grind)
  · refine sg_iload_n (pc := 7) (j := 0) dX2_plainValueOf_7 rfl rfl ?_
    refine sg_bipush (pc := 8) (z := 48) dX2_plainValueOf_8 (by decide) ?_
    first | refine sg_isubB (pc := 10) dX2_plainValueOf_10 (by omega) (by omega) ?_ | refine sg_isub (pc := 10) dX2_plainValueOf_10 ?_
    refine sg_iret (pc := 11) dX2_plainValueOf_11 rfl (by first | exact Nat.le_of_ble_eq_true rfl | omega) (by first | exact Nat.le_of_ble_eq_true rfl | omega) ?_
    exact hQ _ (by (try simp only [fn_plain, fn_dig, fn_gp, fn_sp] at *) <;> first | omega | ((repeat' split) <;> omega) | grind)

set_option maxRecDepth 100000 in
theorem s_X2_numberOf {w : sg_W} {Q : sg_O → sg_H → Prop} {h : sg_H} (g : sg_G w) {d : Nat} (hd : 3 ≤ d) {x r : Int} (hQ : ∀ z, z = fn_num x r → Q (.inl (some (sg_i z))) h) : sg_C w mi_X2_numberOf d 0 0 [sg_i x, sg_i r] h Q := by
  refine sg_of pn_X2 (Nat.le_of_ble_eq_true rfl) ?_
  refine sg_iload_n (pc := 0) (j := 0) dX2_numberOf_0 rfl rfl ?_
  refine sg_cS1 (pc := 1) (d' := d - 1) (mc' := 0) (ms' := 0) g dX2_numberOf_1 cb_X2_plainValueOf ml_X2_32 ms_X2_plainValueOf (Nat.le_of_ble_eq_true rfl) (by first | exact jl_d0 hd rfl | omega) (by first | exact Nat.le_of_ble_eq_true rfl | omega) (by first | exact Nat.le_of_ble_eq_true rfl | omega) ?_
  refine s_X2_plainValueOf g (by first | exact jl_d1 hd rfl | omega) (fun z1 h1 => sg_K1 ?_)
  (try simp only [fn_num] at h1)
  refine sg_istore_n (pc := 4) (j := 2) dX2_numberOf_4 rfl (by decide) ?_
  refine sg_iload_n (pc := 5) (j := 1) dX2_numberOf_5 rfl rfl ?_
  refine sg_cS1 (pc := 6) (d' := d - 1) (mc' := 0) (ms' := 0) g dX2_numberOf_6 cb_X2_isRadix ml_X2_36 ms_X2_isRadix (Nat.le_of_ble_eq_true rfl) (by first | exact jl_d0 hd rfl | omega) (by first | exact Nat.le_of_ble_eq_true rfl | omega) (by first | exact Nat.le_of_ble_eq_true rfl | omega) ?_
  refine s_X2_isRadix g (by first | exact jl_d1 hd rfl | omega) (fun z6 h6 b6 => sg_K1 ?_)
  (try simp only [fn_num] at h6)
  refine sg_if_eq (pc := 9) (tgt := 21) dX2_numberOf_9 (by decide) (fun c9 => ?_) (fun c9 => ?_)
  · refine sg_iconst (pc := 21) (z := -1) dX2_numberOf_21 (by decide) ?_
    refine sg_iret (pc := 22) dX2_numberOf_22 rfl (by first | exact Nat.le_of_ble_eq_true rfl | omega) (by first | exact Nat.le_of_ble_eq_true rfl | omega) ?_
    exact hQ _ (by (try simp only [fn_num] at *) <;> first | omega | ((repeat' split) <;> omega) | grind)
  · refine sg_iload_n (pc := 12) (j := 2) dX2_numberOf_12 rfl rfl ?_
    refine sg_iload_n (pc := 13) (j := 1) dX2_numberOf_13 rfl rfl ?_
    refine sg_icmp_ge (pc := 14) (tgt := 21) dX2_numberOf_14 (by decide) (fun c14 => ?_) (fun c14 => ?_)
    · refine sg_iconst (pc := 21) (z := -1) dX2_numberOf_21 (by decide) ?_
      refine sg_iret (pc := 22) dX2_numberOf_22 rfl (by first | exact Nat.le_of_ble_eq_true rfl | omega) (by first | exact Nat.le_of_ble_eq_true rfl | omega) ?_
      exact hQ _ (by (try simp only [fn_num] at *) <;> first | omega | ((repeat' split) <;> omega) | grind)
    · refine sg_iload_n (pc := 17) (j := 2) dX2_numberOf_17 rfl rfl ?_
      refine sg_goto (pc := 18) (tgt := 22) dX2_numberOf_18 (by decide) ?_
      refine sg_iret (pc := 22) dX2_numberOf_22 rfl (by first | exact Nat.le_of_ble_eq_true rfl | omega) (by first | exact Nat.le_of_ble_eq_true rfl | omega) ?_
      exact hQ _ (by (try simp only [fn_num] at *) <;> first | omega | ((repeat' split) <;> omega) | grind)

set_option maxRecDepth 100000 in
theorem s_X2_digitOf {w : sg_W} {Q : sg_O → sg_H → Prop} {h : sg_H} (g : sg_G w) {d : Nat} (hd : 3 ≤ d) {x r : Int} (hQ : ∀ z, z = fn_digit x r → Q (.inl (some (sg_i z))) h) : sg_C w mi_X2_digitOf d 0 0 [sg_i x, sg_i r] h Q := by
  refine sg_of pn_X2 (Nat.le_of_ble_eq_true rfl) ?_
  refine sg_iload_n (pc := 0) (j := 1) dX2_digitOf_0 rfl rfl ?_
  refine sg_cS1 (pc := 1) (d' := d - 1) (mc' := 0) (ms' := 0) g dX2_digitOf_1 cb_X2_isRadix ml_X2_36 ms_X2_isRadix (Nat.le_of_ble_eq_true rfl) (by first | exact jl_d0 hd rfl | omega) (by first | exact Nat.le_of_ble_eq_true rfl | omega) (by first | exact Nat.le_of_ble_eq_true rfl | omega) ?_
  refine s_X2_isRadix g (by first | exact jl_d1 hd rfl | omega) (fun z1 h1 b1 => sg_K1 ?_)
  (try simp only [fn_digit, fn_radix] at h1)
  refine sg_if_eq (pc := 4) (tgt := 16) dX2_digitOf_4 (by decide) (fun c4 => ?_) (fun c4 => ?_)
  · refine sg_iconst (pc := 16) (z := 0) dX2_digitOf_16 (by decide) ?_
    refine sg_iret (pc := 17) dX2_digitOf_17 rfl (by first | exact Nat.le_of_ble_eq_true rfl | omega) (by first | exact Nat.le_of_ble_eq_true rfl | omega) ?_
    exact hQ _ (by (try simp only [fn_digit, fn_radix] at *) <;> first | omega | ((repeat' split) <;> omega) | grind)
  · refine sg_iload_n (pc := 7) (j := 0) dX2_digitOf_7 rfl rfl ?_
    refine sg_if_lt (pc := 8) (tgt := 16) dX2_digitOf_8 (by decide) (fun c8 => ?_) (fun c8 => ?_)
    · refine sg_iconst (pc := 16) (z := 0) dX2_digitOf_16 (by decide) ?_
      refine sg_iret (pc := 17) dX2_digitOf_17 rfl (by first | exact Nat.le_of_ble_eq_true rfl | omega) (by first | exact Nat.le_of_ble_eq_true rfl | omega) ?_
      exact hQ _ (by (try simp only [fn_digit, fn_radix] at *) <;> first | omega | ((repeat' split) <;> omega) | grind)
    · refine sg_iload_n (pc := 11) (j := 0) dX2_digitOf_11 rfl rfl ?_
      refine sg_iload_n (pc := 12) (j := 1) dX2_digitOf_12 rfl rfl ?_
      refine sg_icmp_lt (pc := 13) (tgt := 18) dX2_digitOf_13 (by decide) (fun c13 => ?_) (fun c13 => ?_)
      · refine sg_iload_n (pc := 18) (j := 0) dX2_digitOf_18 rfl rfl ?_
        refine sg_bipush (pc := 19) (z := 10) dX2_digitOf_19 (by decide) ?_
        refine sg_icmp_ge (pc := 21) (tgt := 31) dX2_digitOf_21 (by decide) (fun c21 => ?_) (fun c21 => ?_)
        · refine sg_iload_n (pc := 31) (j := 0) dX2_digitOf_31 rfl rfl ?_
          refine sg_bipush (pc := 32) (z := 87) dX2_digitOf_32 (by decide) ?_
          first | refine sg_iaddB (pc := 34) dX2_digitOf_34 (by omega) (by omega) ?_ | refine sg_iadd (pc := 34) dX2_digitOf_34 ?_
          refine sg_iret (pc := 35) dX2_digitOf_35 rfl (by first | exact Nat.le_of_ble_eq_true rfl | omega) (by first | exact Nat.le_of_ble_eq_true rfl | omega) ?_
          exact hQ _ (by (try simp only [fn_digit, fn_radix] at *) <;> first | omega | ((repeat' split) <;> omega) | grind)
        · refine sg_iload_n (pc := 24) (j := 0) dX2_digitOf_24 rfl rfl ?_
          refine sg_bipush (pc := 25) (z := 48) dX2_digitOf_25 (by decide) ?_
          first | refine sg_iaddB (pc := 27) dX2_digitOf_27 (by omega) (by omega) ?_ | refine sg_iadd (pc := 27) dX2_digitOf_27 ?_
          refine sg_goto (pc := 28) (tgt := 35) dX2_digitOf_28 (by decide) ?_
          refine sg_iret (pc := 35) dX2_digitOf_35 rfl (by first | exact Nat.le_of_ble_eq_true rfl | omega) (by first | exact Nat.le_of_ble_eq_true rfl | omega) ?_
          exact hQ _ (by (try simp only [fn_digit, fn_radix] at *) <;> first | omega | ((repeat' split) <;> omega) | grind)
      · refine sg_iconst (pc := 16) (z := 0) dX2_digitOf_16 (by decide) ?_
        refine sg_iret (pc := 17) dX2_digitOf_17 rfl (by first | exact Nat.le_of_ble_eq_true rfl | omega) (by first | exact Nat.le_of_ble_eq_true rfl | omega) ?_
        exact hQ _ (by (try simp only [fn_digit, fn_radix] at *) <;> first | omega | ((repeat' split) <;> omega) | grind)

set_option maxRecDepth 100000 in
theorem s_X4_isUnit {w : sg_W} {Q : sg_O → sg_H → Prop} {h : sg_H} (g : sg_G w) {d : Nat} (hd : 1 ≤ d) {x : Int} (hQ : ∀ z, z = fn_unit x → (z = 0 ∨ z = 1) → Q (.inl (some (sg_i z))) h) : sg_C w mi_X4_isUnit d 0 0 [sg_i x] h Q := by
  refine sg_of pn_X4 (Nat.le_of_ble_eq_true rfl) ?_
  refine sg_iload_n (pc := 0) (j := 0) dX4_isUnit_0 rfl rfl ?_
  refine sg_if_lt (pc := 1) (tgt := 14) dX4_isUnit_1 (by decide) (fun c1 => ?_) (fun c1 => ?_)
  · refine sg_iconst (pc := 14) (z := 0) dX4_isUnit_14 (by decide) ?_
    refine sg_zret (pc := 15) dX4_isUnit_15 rfl (by first | exact Or.inl rfl | exact Or.inr rfl | omega | assumption) (by first | exact Nat.le_of_ble_eq_true rfl | omega) (by first | exact Nat.le_of_ble_eq_true rfl | omega) ?_
    exact hQ _ (by (try simp only [fn_unit] at *) <;> first | omega | ((repeat' split) <;> omega) | grind) (by first | exact Or.inl rfl | exact Or.inr rfl | omega | assumption)
  · refine sg_iload_n (pc := 4) (j := 0) dX4_isUnit_4 rfl rfl ?_
    refine sg_ldc (pc := 5) (z := 65536) g dX4_isUnit_5 cn_X4_11 (by decide) ?_
    refine sg_icmp_ge (pc := 7) (tgt := 14) dX4_isUnit_7 (by decide) (fun c7 => ?_) (fun c7 => ?_)
    · refine sg_iconst (pc := 14) (z := 0) dX4_isUnit_14 (by decide) ?_
      refine sg_zret (pc := 15) dX4_isUnit_15 rfl (by first | exact Or.inl rfl | exact Or.inr rfl | omega | assumption) (by first | exact Nat.le_of_ble_eq_true rfl | omega) (by first | exact Nat.le_of_ble_eq_true rfl | omega) ?_
      exact hQ _ (by (try simp only [fn_unit] at *) <;> first | omega | ((repeat' split) <;> omega) | grind) (by first | exact Or.inl rfl | exact Or.inr rfl | omega | assumption)
    · refine sg_iconst (pc := 10) (z := 1) dX4_isUnit_10 (by decide) ?_
      refine sg_goto (pc := 11) (tgt := 15) dX4_isUnit_11 (by decide) ?_
      refine sg_zret (pc := 15) dX4_isUnit_15 rfl (by first | exact Or.inl rfl | exact Or.inr rfl | omega | assumption) (by first | exact Nat.le_of_ble_eq_true rfl | omega) (by first | exact Nat.le_of_ble_eq_true rfl | omega) ?_
      exact hQ _ (by (try simp only [fn_unit] at *) <;> first | omega | ((repeat' split) <;> omega) | grind) (by first | exact Or.inl rfl | exact Or.inr rfl | omega | assumption)

set_option maxRecDepth 100000 in
theorem s_X4_isHigh {w : sg_W} {Q : sg_O → sg_H → Prop} {h : sg_H} (g : sg_G w) {d : Nat} (hd : 1 ≤ d) {x : Int} (hQ : ∀ z, z = fn_high x → (z = 0 ∨ z = 1) → Q (.inl (some (sg_i z))) h) : sg_C w mi_X4_isHigh d 0 0 [sg_i x] h Q := by
  refine sg_of pn_X4 (Nat.le_of_ble_eq_true rfl) ?_
  refine sg_iload_n (pc := 0) (j := 0) dX4_isHigh_0 rfl rfl ?_
  refine sg_ldc (pc := 1) (z := 55296) g dX4_isHigh_1 cn_X4_12 (by decide) ?_
  refine sg_icmp_lt (pc := 3) (tgt := 16) dX4_isHigh_3 (by decide) (fun c3 => ?_) (fun c3 => ?_)
  · refine sg_iconst (pc := 16) (z := 0) dX4_isHigh_16 (by decide) ?_
    refine sg_zret (pc := 17) dX4_isHigh_17 rfl (by first | exact Or.inl rfl | exact Or.inr rfl | omega | assumption) (by first | exact Nat.le_of_ble_eq_true rfl | omega) (by first | exact Nat.le_of_ble_eq_true rfl | omega) ?_
    exact hQ _ (by (try simp only [fn_high] at *) <;> first | omega | ((repeat' split) <;> omega) | grind) (by first | exact Or.inl rfl | exact Or.inr rfl | omega | assumption)
  · refine sg_iload_n (pc := 6) (j := 0) dX4_isHigh_6 rfl rfl ?_
    refine sg_ldc (pc := 7) (z := 56320) g dX4_isHigh_7 cn_X4_13 (by decide) ?_
    refine sg_icmp_ge (pc := 9) (tgt := 16) dX4_isHigh_9 (by decide) (fun c9 => ?_) (fun c9 => ?_)
    · refine sg_iconst (pc := 16) (z := 0) dX4_isHigh_16 (by decide) ?_
      refine sg_zret (pc := 17) dX4_isHigh_17 rfl (by first | exact Or.inl rfl | exact Or.inr rfl | omega | assumption) (by first | exact Nat.le_of_ble_eq_true rfl | omega) (by first | exact Nat.le_of_ble_eq_true rfl | omega) ?_
      exact hQ _ (by (try simp only [fn_high] at *) <;> first | omega | ((repeat' split) <;> omega) | grind) (by first | exact Or.inl rfl | exact Or.inr rfl | omega | assumption)
    · refine sg_iconst (pc := 12) (z := 1) dX4_isHigh_12 (by decide) ?_
      refine sg_goto (pc := 13) (tgt := 17) dX4_isHigh_13 (by decide) ?_
      refine sg_zret (pc := 17) dX4_isHigh_17 rfl (by first | exact Or.inl rfl | exact Or.inr rfl | omega | assumption) (by first | exact Nat.le_of_ble_eq_true rfl | omega) (by first | exact Nat.le_of_ble_eq_true rfl | omega) ?_
      exact hQ _ (by (try simp only [fn_high] at *) <;> first | omega | ((repeat' split) <;> omega) | grind) (by first | exact Or.inl rfl | exact Or.inr rfl | omega | assumption)

set_option maxRecDepth 100000 in
theorem s_X4_isLow {w : sg_W} {Q : sg_O → sg_H → Prop} {h : sg_H} (g : sg_G w) {d : Nat} (hd : 1 ≤ d) {x : Int} (hQ : ∀ z, z = fn_low x → (z = 0 ∨ z = 1) → Q (.inl (some (sg_i z))) h) : sg_C w mi_X4_isLow d 0 0 [sg_i x] h Q := by
  refine sg_of pn_X4 (Nat.le_of_ble_eq_true rfl) ?_
  refine sg_iload_n (pc := 0) (j := 0) dX4_isLow_0 rfl rfl ?_
  refine sg_ldc (pc := 1) (z := 56320) g dX4_isLow_1 cn_X4_13 (by decide) ?_
  refine sg_icmp_lt (pc := 3) (tgt := 16) dX4_isLow_3 (by decide) (fun c3 => ?_) (fun c3 => ?_)
  · refine sg_iconst (pc := 16) (z := 0) dX4_isLow_16 (by decide) ?_
    refine sg_zret (pc := 17) dX4_isLow_17 rfl (by first | exact Or.inl rfl | exact Or.inr rfl | omega | assumption) (by first | exact Nat.le_of_ble_eq_true rfl | omega) (by first | exact Nat.le_of_ble_eq_true rfl | omega) ?_
    exact hQ _ (by (try simp only [fn_low] at *) <;> first | omega | ((repeat' split) <;> omega) | grind) (by first | exact Or.inl rfl | exact Or.inr rfl | omega | assumption)
  · refine sg_iload_n (pc := 6) (j := 0) dX4_isLow_6 rfl rfl ?_
    refine sg_ldc (pc := 7) (z := 57344) g dX4_isLow_7 cn_X4_14 (by decide) ?_
    refine sg_icmp_ge (pc := 9) (tgt := 16) dX4_isLow_9 (by decide) (fun c9 => ?_) (fun c9 => ?_)
    · refine sg_iconst (pc := 16) (z := 0) dX4_isLow_16 (by decide) ?_
      refine sg_zret (pc := 17) dX4_isLow_17 rfl (by first | exact Or.inl rfl | exact Or.inr rfl | omega | assumption) (by first | exact Nat.le_of_ble_eq_true rfl | omega) (by first | exact Nat.le_of_ble_eq_true rfl | omega) ?_
      exact hQ _ (by (try simp only [fn_low] at *) <;> first | omega | ((repeat' split) <;> omega) | grind) (by first | exact Or.inl rfl | exact Or.inr rfl | omega | assumption)
    · refine sg_iconst (pc := 12) (z := 1) dX4_isLow_12 (by decide) ?_
      refine sg_goto (pc := 13) (tgt := 17) dX4_isLow_13 (by decide) ?_
      refine sg_zret (pc := 17) dX4_isLow_17 rfl (by first | exact Or.inl rfl | exact Or.inr rfl | omega | assumption) (by first | exact Nat.le_of_ble_eq_true rfl | omega) (by first | exact Nat.le_of_ble_eq_true rfl | omega) ?_
      exact hQ _ (by (try simp only [fn_low] at *) <;> first | omega | ((repeat' split) <;> omega) | grind) (by first | exact Or.inl rfl | exact Or.inr rfl | omega | assumption)

set_option maxRecDepth 100000 in
theorem s_X4_isHalf {w : sg_W} {Q : sg_O → sg_H → Prop} {h : sg_H} (g : sg_G w) {d : Nat} (hd : 2 ≤ d) {x : Int} (hQ : ∀ z, z = fn_half x → (z = 0 ∨ z = 1) → Q (.inl (some (sg_i z))) h) : sg_C w mi_X4_isHalf d 0 0 [sg_i x] h Q := by
  refine sg_of pn_X4 (Nat.le_of_ble_eq_true rfl) ?_
  refine sg_iload_n (pc := 0) (j := 0) dX4_isHalf_0 rfl rfl ?_
  refine sg_cS1 (pc := 1) (d' := d - 1) (mc' := 0) (ms' := 0) g dX4_isHalf_1 cb_X4_isHigh ml_X4_15 ms_X4_isHigh (Nat.le_of_ble_eq_true rfl) (by first | exact jl_d0 hd rfl | omega) (by first | exact Nat.le_of_ble_eq_true rfl | omega) (by first | exact Nat.le_of_ble_eq_true rfl | omega) ?_
  refine s_X4_isHigh g (by first | exact jl_d1 hd rfl | omega) (fun z1 h1 b1 => sg_K1 ?_)
  (try simp only [fn_half, fn_high, fn_low] at h1)
  refine sg_if_ne (pc := 4) (tgt := 14) dX4_isHalf_4 (by decide) (fun c4 => ?_) (fun c4 => ?_)
  · refine sg_iconst (pc := 14) (z := 1) dX4_isHalf_14 (by decide) ?_
    refine sg_goto (pc := 15) (tgt := 19) dX4_isHalf_15 (by decide) ?_
    refine sg_zret (pc := 19) dX4_isHalf_19 rfl (by first | exact Or.inl rfl | exact Or.inr rfl | omega | assumption) (by first | exact Nat.le_of_ble_eq_true rfl | omega) (by first | exact Nat.le_of_ble_eq_true rfl | omega) ?_
    exact hQ _ (by (try simp only [fn_half, fn_high, fn_low] at *) <;> first | omega | ((repeat' split) <;> omega) | grind) (by first | exact Or.inl rfl | exact Or.inr rfl | omega | assumption)
  · refine sg_iload_n (pc := 7) (j := 0) dX4_isHalf_7 rfl rfl ?_
    refine sg_cS1 (pc := 8) (d' := d - 1) (mc' := 0) (ms' := 0) g dX4_isHalf_8 cb_X4_isLow ml_X4_19 ms_X4_isLow (Nat.le_of_ble_eq_true rfl) (by first | exact jl_d0 hd rfl | omega) (by first | exact Nat.le_of_ble_eq_true rfl | omega) (by first | exact Nat.le_of_ble_eq_true rfl | omega) ?_
    refine s_X4_isLow g (by first | exact jl_d1 hd rfl | omega) (fun z8 h8 b8 => sg_K1 ?_)
    (try simp only [fn_half, fn_high, fn_low] at h8)
    refine sg_if_eq (pc := 11) (tgt := 18) dX4_isHalf_11 (by decide) (fun c11 => ?_) (fun c11 => ?_)
    · refine sg_iconst (pc := 18) (z := 0) dX4_isHalf_18 (by decide) ?_
      refine sg_zret (pc := 19) dX4_isHalf_19 rfl (by first | exact Or.inl rfl | exact Or.inr rfl | omega | assumption) (by first | exact Nat.le_of_ble_eq_true rfl | omega) (by first | exact Nat.le_of_ble_eq_true rfl | omega) ?_
      exact hQ _ (by (try simp only [fn_half, fn_high, fn_low] at *) <;> first | omega | ((repeat' split) <;> omega) | grind) (by first | exact Or.inl rfl | exact Or.inr rfl | omega | assumption)
    · refine sg_iconst (pc := 14) (z := 1) dX4_isHalf_14 (by decide) ?_
      refine sg_goto (pc := 15) (tgt := 19) dX4_isHalf_15 (by decide) ?_
      refine sg_zret (pc := 19) dX4_isHalf_19 rfl (by first | exact Or.inl rfl | exact Or.inr rfl | omega | assumption) (by first | exact Nat.le_of_ble_eq_true rfl | omega) (by first | exact Nat.le_of_ble_eq_true rfl | omega) ?_
      exact hQ _ (by (try simp only [fn_half, fn_high, fn_low] at *) <;> first | omega | ((repeat' split) <;> omega) | grind) (by first | exact Or.inl rfl | exact Or.inr rfl | omega | assumption)

set_option maxRecDepth 100000 in
theorem s_X4_isAnyCode {w : sg_W} {Q : sg_O → sg_H → Prop} {h : sg_H} (g : sg_G w) {d : Nat} (hd : 1 ≤ d) {x : Int} (hQ : ∀ z, z = fn_code x → (z = 0 ∨ z = 1) → Q (.inl (some (sg_i z))) h) : sg_C w mi_X4_isAnyCode d 0 0 [sg_i x] h Q := by
  refine sg_of pn_X4 (Nat.le_of_ble_eq_true rfl) ?_
  refine sg_iload_n (pc := 0) (j := 0) dX4_isAnyCode_0 rfl rfl ?_
  refine sg_if_lt (pc := 1) (tgt := 14) dX4_isAnyCode_1 (by decide) (fun c1 => ?_) (fun c1 => ?_)
  · refine sg_iconst (pc := 14) (z := 0) dX4_isAnyCode_14 (by decide) ?_
    refine sg_zret (pc := 15) dX4_isAnyCode_15 rfl (by first | exact Or.inl rfl | exact Or.inr rfl | omega | assumption) (by first | exact Nat.le_of_ble_eq_true rfl | omega) (by first | exact Nat.le_of_ble_eq_true rfl | omega) ?_
    exact hQ _ (by (try simp only [fn_code] at *) <;> first | omega | ((repeat' split) <;> omega) | grind) (by first | exact Or.inl rfl | exact Or.inr rfl | omega | assumption)
  · refine sg_iload_n (pc := 4) (j := 0) dX4_isAnyCode_4 rfl rfl ?_
    refine sg_ldc (pc := 5) (z := 1114111) g dX4_isAnyCode_5 cn_X4_22 (by decide) ?_
    refine sg_icmp_gt (pc := 7) (tgt := 14) dX4_isAnyCode_7 (by decide) (fun c7 => ?_) (fun c7 => ?_)
    · refine sg_iconst (pc := 14) (z := 0) dX4_isAnyCode_14 (by decide) ?_
      refine sg_zret (pc := 15) dX4_isAnyCode_15 rfl (by first | exact Or.inl rfl | exact Or.inr rfl | omega | assumption) (by first | exact Nat.le_of_ble_eq_true rfl | omega) (by first | exact Nat.le_of_ble_eq_true rfl | omega) ?_
      exact hQ _ (by (try simp only [fn_code] at *) <;> first | omega | ((repeat' split) <;> omega) | grind) (by first | exact Or.inl rfl | exact Or.inr rfl | omega | assumption)
    · refine sg_iconst (pc := 10) (z := 1) dX4_isAnyCode_10 (by decide) ?_
      refine sg_goto (pc := 11) (tgt := 15) dX4_isAnyCode_11 (by decide) ?_
      refine sg_zret (pc := 15) dX4_isAnyCode_15 rfl (by first | exact Or.inl rfl | exact Or.inr rfl | omega | assumption) (by first | exact Nat.le_of_ble_eq_true rfl | omega) (by first | exact Nat.le_of_ble_eq_true rfl | omega) ?_
      exact hQ _ (by (try simp only [fn_code] at *) <;> first | omega | ((repeat' split) <;> omega) | grind) (by first | exact Or.inl rfl | exact Or.inr rfl | omega | assumption)

set_option maxRecDepth 100000 in
theorem s_X4_isWideCode {w : sg_W} {Q : sg_O → sg_H → Prop} {h : sg_H} (g : sg_G w) {d : Nat} (hd : 1 ≤ d) {x : Int} (hQ : ∀ z, z = fn_wide x → (z = 0 ∨ z = 1) → Q (.inl (some (sg_i z))) h) : sg_C w mi_X4_isWideCode d 0 0 [sg_i x] h Q := by
  refine sg_of pn_X4 (Nat.le_of_ble_eq_true rfl) ?_
  refine sg_iload_n (pc := 0) (j := 0) dX4_isWideCode_0 rfl rfl ?_
  refine sg_ldc (pc := 1) (z := 65536) g dX4_isWideCode_1 cn_X4_11 (by decide) ?_
  refine sg_icmp_lt (pc := 3) (tgt := 16) dX4_isWideCode_3 (by decide) (fun c3 => ?_) (fun c3 => ?_)
  · refine sg_iconst (pc := 16) (z := 0) dX4_isWideCode_16 (by decide) ?_
    refine sg_zret (pc := 17) dX4_isWideCode_17 rfl (by first | exact Or.inl rfl | exact Or.inr rfl | omega | assumption) (by first | exact Nat.le_of_ble_eq_true rfl | omega) (by first | exact Nat.le_of_ble_eq_true rfl | omega) ?_
    exact hQ _ (by (try simp only [fn_wide] at *) <;> first | omega | ((repeat' split) <;> omega) | grind) (by first | exact Or.inl rfl | exact Or.inr rfl | omega | assumption)
  · refine sg_iload_n (pc := 6) (j := 0) dX4_isWideCode_6 rfl rfl ?_
    refine sg_ldc (pc := 7) (z := 1114111) g dX4_isWideCode_7 cn_X4_22 (by decide) ?_
    refine sg_icmp_gt (pc := 9) (tgt := 16) dX4_isWideCode_9 (by decide) (fun c9 => ?_) (fun c9 => ?_)
    · refine sg_iconst (pc := 16) (z := 0) dX4_isWideCode_16 (by decide) ?_
      refine sg_zret (pc := 17) dX4_isWideCode_17 rfl (by first | exact Or.inl rfl | exact Or.inr rfl | omega | assumption) (by first | exact Nat.le_of_ble_eq_true rfl | omega) (by first | exact Nat.le_of_ble_eq_true rfl | omega) ?_
      exact hQ _ (by (try simp only [fn_wide] at *) <;> first | omega | ((repeat' split) <;> omega) | grind) (by first | exact Or.inl rfl | exact Or.inr rfl | omega | assumption)
    · refine sg_iconst (pc := 12) (z := 1) dX4_isWideCode_12 (by decide) ?_
      refine sg_goto (pc := 13) (tgt := 17) dX4_isWideCode_13 (by decide) ?_
      refine sg_zret (pc := 17) dX4_isWideCode_17 rfl (by first | exact Or.inl rfl | exact Or.inr rfl | omega | assumption) (by first | exact Nat.le_of_ble_eq_true rfl | omega) (by first | exact Nat.le_of_ble_eq_true rfl | omega) ?_
      exact hQ _ (by (try simp only [fn_wide] at *) <;> first | omega | ((repeat' split) <;> omega) | grind) (by first | exact Or.inl rfl | exact Or.inr rfl | omega | assumption)

set_option maxRecDepth 100000 in
theorem s_X4_unitsOf {w : sg_W} {Q : sg_O → sg_H → Prop} {h : sg_H} (g : sg_G w) {d : Nat} (hd : 1 ≤ d) {x : Int} (hQ : ∀ z, z = fn_units x → Q (.inl (some (sg_i z))) h) : sg_C w mi_X4_unitsOf d 0 0 [sg_i x] h Q := by
  refine sg_of pn_X4 (Nat.le_of_ble_eq_true rfl) ?_
  refine sg_iload_n (pc := 0) (j := 0) dX4_unitsOf_0 rfl rfl ?_
  refine sg_ldc (pc := 1) (z := 65536) g dX4_unitsOf_1 cn_X4_11 (by decide) ?_
  refine sg_icmp_lt (pc := 3) (tgt := 10) dX4_unitsOf_3 (by decide) (fun c3 => ?_) (fun c3 => ?_)
  · refine sg_iconst (pc := 10) (z := 1) dX4_unitsOf_10 (by decide) ?_
    refine sg_iret (pc := 11) dX4_unitsOf_11 rfl (by first | exact Nat.le_of_ble_eq_true rfl | omega) (by first | exact Nat.le_of_ble_eq_true rfl | omega) ?_
    exact hQ _ (by (try simp only [fn_units] at *) <;> first | omega | ((repeat' split) <;> omega) | grind)
  · refine sg_iconst (pc := 6) (z := 2) dX4_unitsOf_6 (by decide) ?_
    refine sg_goto (pc := 7) (tgt := 11) dX4_unitsOf_7 (by decide) ?_
    refine sg_iret (pc := 11) dX4_unitsOf_11 rfl (by first | exact Nat.le_of_ble_eq_true rfl | omega) (by first | exact Nat.le_of_ble_eq_true rfl | omega) ?_
    exact hQ _ (by (try simp only [fn_units] at *) <;> first | omega | ((repeat' split) <;> omega) | grind)

