set_option maxRecDepth 100000 in
theorem s_X2_isBetween {w : sg_W} {Q : sg_O → sg_H → Prop} {h : sg_H} (g : sg_G w) {d : Nat} (hd : 1 ≤ d) {x a b : Int} (hQ : ∀ z, z = fn_betw x a b → (z = 0 ∨ z = 1) → Q (.inl (some (sg_i z))) h) : sg_C w mi_X2_isBetween d 0 0 [sg_i x, sg_i a, sg_i b] h Q := by
  refine sg_of pn_X2 (Nat.le_of_ble_eq_true rfl) ?_
  refine sg_iload_n (pc := 0) (j := 0) (dc_X2_isBetween_0.1.1.1.1) rfl rfl ?_
  refine sg_iload_n (pc := 1) (j := 1) (dc_X2_isBetween_0.1.1.1.2) rfl rfl ?_
  refine sg_icmp_lt (pc := 2) (tgt := 14) (dc_X2_isBetween_0.1.1.2.1) (by decide) (fun c2 => ?_) (fun c2 => ?_)
  · refine sg_iconst (pc := 14) (z := 0) (dc_X2_isBetween_0.2.1.1.1) (by decide) ?_
    refine sg_zret (pc := 15) (dc_X2_isBetween_0.2.1.1.2) rfl (by first | exact Or.inl rfl | exact Or.inr rfl | omega | assumption) (by first | exact Nat.le_of_ble_eq_true rfl | omega) (by first | exact Nat.le_of_ble_eq_true rfl | omega) ?_
    exact hQ _ (by (try simp only [fn_betw] at *) <;> first | omega | ((repeat' split) <;> omega) | grind) (by first | exact Or.inl rfl | exact Or.inr rfl | omega | assumption)
  · refine sg_iload_n (pc := 5) (j := 0) (dc_X2_isBetween_0.1.1.2.2) rfl rfl ?_
    refine sg_iload_n (pc := 6) (j := 2) (dc_X2_isBetween_0.1.2.1.1) rfl rfl ?_
    refine sg_icmp_gt (pc := 7) (tgt := 14) (dc_X2_isBetween_0.1.2.1.2) (by decide) (fun c7 => ?_) (fun c7 => ?_)
    · refine sg_iconst (pc := 14) (z := 0) (dc_X2_isBetween_0.2.1.1.1) (by decide) ?_
      refine sg_zret (pc := 15) (dc_X2_isBetween_0.2.1.1.2) rfl (by first | exact Or.inl rfl | exact Or.inr rfl | omega | assumption) (by first | exact Nat.le_of_ble_eq_true rfl | omega) (by first | exact Nat.le_of_ble_eq_true rfl | omega) ?_
      exact hQ _ (by (try simp only [fn_betw] at *) <;> first | omega | ((repeat' split) <;> omega) | grind) (by first | exact Or.inl rfl | exact Or.inr rfl | omega | assumption)
    · refine sg_iconst (pc := 10) (z := 1) (dc_X2_isBetween_0.1.2.2.1) (by decide) ?_
      refine sg_goto (pc := 11) (tgt := 15) (dc_X2_isBetween_0.1.2.2.2) (by decide) ?_
      refine sg_zret (pc := 15) (dc_X2_isBetween_0.2.1.1.2) rfl (by first | exact Or.inl rfl | exact Or.inr rfl | omega | assumption) (by first | exact Nat.le_of_ble_eq_true rfl | omega) (by first | exact Nat.le_of_ble_eq_true rfl | omega) ?_
      exact hQ _ (by (try simp only [fn_betw] at *) <;> first | omega | ((repeat' split) <;> omega) | grind) (by first | exact Or.inl rfl | exact Or.inr rfl | omega | assumption)

set_option maxRecDepth 100000 in
theorem s_X2_isPlainDigit {w : sg_W} {Q : sg_O → sg_H → Prop} {h : sg_H} (g : sg_G w) {d : Nat} (hd : 1 ≤ d) {x : Int} (hQ : ∀ z, z = fn_dig x → (z = 0 ∨ z = 1) → Q (.inl (some (sg_i z))) h) : sg_C w mi_X2_isPlainDigit d 0 0 [sg_i x] h Q := by
  refine sg_of pn_X2 (Nat.le_of_ble_eq_true rfl) ?_
  refine sg_iload_n (pc := 0) (j := 0) (dc_X2_isPlainDigit_0.1.1.1.1) rfl rfl ?_
  refine sg_bipush (pc := 1) (z := 48) (dc_X2_isPlainDigit_0.1.1.1.2) (by decide) ?_
  refine sg_icmp_lt (pc := 3) (tgt := 16) (dc_X2_isPlainDigit_0.1.1.2.1) (by decide) (fun c3 => ?_) (fun c3 => ?_)
  · refine sg_iconst (pc := 16) (z := 0) (dc_X2_isPlainDigit_0.2.1.1.1) (by decide) ?_
    refine sg_zret (pc := 17) (dc_X2_isPlainDigit_0.2.1.1.2) rfl (by first | exact Or.inl rfl | exact Or.inr rfl | omega | assumption) (by first | exact Nat.le_of_ble_eq_true rfl | omega) (by first | exact Nat.le_of_ble_eq_true rfl | omega) ?_
    exact hQ _ (by (try simp only [fn_dig] at *) <;> first | omega | ((repeat' split) <;> omega) | grind) (by first | exact Or.inl rfl | exact Or.inr rfl | omega | assumption)
  · refine sg_iload_n (pc := 6) (j := 0) (dc_X2_isPlainDigit_0.1.1.2.2) rfl rfl ?_
    refine sg_bipush (pc := 7) (z := 57) (dc_X2_isPlainDigit_0.1.2.1.1) (by decide) ?_
    refine sg_icmp_gt (pc := 9) (tgt := 16) (dc_X2_isPlainDigit_0.1.2.1.2) (by decide) (fun c9 => ?_) (fun c9 => ?_)
    · refine sg_iconst (pc := 16) (z := 0) (dc_X2_isPlainDigit_0.2.1.1.1) (by decide) ?_
      refine sg_zret (pc := 17) (dc_X2_isPlainDigit_0.2.1.1.2) rfl (by first | exact Or.inl rfl | exact Or.inr rfl | omega | assumption) (by first | exact Nat.le_of_ble_eq_true rfl | omega) (by first | exact Nat.le_of_ble_eq_true rfl | omega) ?_
      exact hQ _ (by (try simp only [fn_dig] at *) <;> first | omega | ((repeat' split) <;> omega) | grind) (by first | exact Or.inl rfl | exact Or.inr rfl | omega | assumption)
    · refine sg_iconst (pc := 12) (z := 1) (dc_X2_isPlainDigit_0.1.2.2.1) (by decide) ?_
      refine sg_goto (pc := 13) (tgt := 17) (dc_X2_isPlainDigit_0.1.2.2.2) (by decide) ?_
      refine sg_zret (pc := 17) (dc_X2_isPlainDigit_0.2.1.1.2) rfl (by first | exact Or.inl rfl | exact Or.inr rfl | omega | assumption) (by first | exact Nat.le_of_ble_eq_true rfl | omega) (by first | exact Nat.le_of_ble_eq_true rfl | omega) ?_
      exact hQ _ (by (try simp only [fn_dig] at *) <;> first | omega | ((repeat' split) <;> omega) | grind) (by first | exact Or.inl rfl | exact Or.inr rfl | omega | assumption)

set_option maxRecDepth 100000 in
theorem s_X2_isGreatPlain {w : sg_W} {Q : sg_O → sg_H → Prop} {h : sg_H} (g : sg_G w) {d : Nat} (hd : 1 ≤ d) {x : Int} (hQ : ∀ z, z = fn_gp x → (z = 0 ∨ z = 1) → Q (.inl (some (sg_i z))) h) : sg_C w mi_X2_isGreatPlain d 0 0 [sg_i x] h Q := by
  refine sg_of pn_X2 (Nat.le_of_ble_eq_true rfl) ?_
  refine sg_iload_n (pc := 0) (j := 0) (dc_X2_isGreatPlain_0.1.1.1.1) rfl rfl ?_
  refine sg_bipush (pc := 1) (z := 65) (dc_X2_isGreatPlain_0.1.1.1.2) (by decide) ?_
  refine sg_icmp_lt (pc := 3) (tgt := 16) (dc_X2_isGreatPlain_0.1.1.2.1) (by decide) (fun c3 => ?_) (fun c3 => ?_)
  · refine sg_iconst (pc := 16) (z := 0) (dc_X2_isGreatPlain_0.2.1.1.1) (by decide) ?_
    refine sg_zret (pc := 17) (dc_X2_isGreatPlain_0.2.1.1.2) rfl (by first | exact Or.inl rfl | exact Or.inr rfl | omega | assumption) (by first | exact Nat.le_of_ble_eq_true rfl | omega) (by first | exact Nat.le_of_ble_eq_true rfl | omega) ?_
    exact hQ _ (by (try simp only [fn_gp] at *) <;> first | omega | ((repeat' split) <;> omega) | grind) (by first | exact Or.inl rfl | exact Or.inr rfl | omega | assumption)
  · refine sg_iload_n (pc := 6) (j := 0) (dc_X2_isGreatPlain_0.1.1.2.2) rfl rfl ?_
    refine sg_bipush (pc := 7) (z := 90) (dc_X2_isGreatPlain_0.1.2.1.1) (by decide) ?_
    refine sg_icmp_gt (pc := 9) (tgt := 16) (dc_X2_isGreatPlain_0.1.2.1.2) (by decide) (fun c9 => ?_) (fun c9 => ?_)
    · refine sg_iconst (pc := 16) (z := 0) (dc_X2_isGreatPlain_0.2.1.1.1) (by decide) ?_
      refine sg_zret (pc := 17) (dc_X2_isGreatPlain_0.2.1.1.2) rfl (by first | exact Or.inl rfl | exact Or.inr rfl | omega | assumption) (by first | exact Nat.le_of_ble_eq_true rfl | omega) (by first | exact Nat.le_of_ble_eq_true rfl | omega) ?_
      exact hQ _ (by (try simp only [fn_gp] at *) <;> first | omega | ((repeat' split) <;> omega) | grind) (by first | exact Or.inl rfl | exact Or.inr rfl | omega | assumption)
    · refine sg_iconst (pc := 12) (z := 1) (dc_X2_isGreatPlain_0.1.2.2.1) (by decide) ?_
      refine sg_goto (pc := 13) (tgt := 17) (dc_X2_isGreatPlain_0.1.2.2.2) (by decide) ?_
      refine sg_zret (pc := 17) (dc_X2_isGreatPlain_0.2.1.1.2) rfl (by first | exact Or.inl rfl | exact Or.inr rfl | omega | assumption) (by first | exact Nat.le_of_ble_eq_true rfl | omega) (by first | exact Nat.le_of_ble_eq_true rfl | omega) ?_
      exact hQ _ (by (try simp only [fn_gp] at *) <;> first | omega | ((repeat' split) <;> omega) | grind) (by first | exact Or.inl rfl | exact Or.inr rfl | omega | assumption)

set_option maxRecDepth 100000 in
theorem s_X2_isSmallPlain {w : sg_W} {Q : sg_O → sg_H → Prop} {h : sg_H} (g : sg_G w) {d : Nat} (hd : 1 ≤ d) {x : Int} (hQ : ∀ z, z = fn_sp x → (z = 0 ∨ z = 1) → Q (.inl (some (sg_i z))) h) : sg_C w mi_X2_isSmallPlain d 0 0 [sg_i x] h Q := by
  refine sg_of pn_X2 (Nat.le_of_ble_eq_true rfl) ?_
  refine sg_iload_n (pc := 0) (j := 0) (dc_X2_isSmallPlain_0.1.1.1.1) rfl rfl ?_
  refine sg_bipush (pc := 1) (z := 97) (dc_X2_isSmallPlain_0.1.1.1.2) (by decide) ?_
  refine sg_icmp_lt (pc := 3) (tgt := 16) (dc_X2_isSmallPlain_0.1.1.2.1) (by decide) (fun c3 => ?_) (fun c3 => ?_)
  · refine sg_iconst (pc := 16) (z := 0) (dc_X2_isSmallPlain_0.2.1.1.1) (by decide) ?_
    refine sg_zret (pc := 17) (dc_X2_isSmallPlain_0.2.1.1.2) rfl (by first | exact Or.inl rfl | exact Or.inr rfl | omega | assumption) (by first | exact Nat.le_of_ble_eq_true rfl | omega) (by first | exact Nat.le_of_ble_eq_true rfl | omega) ?_
    exact hQ _ (by (try simp only [fn_sp] at *) <;> first | omega | ((repeat' split) <;> omega) | grind) (by first | exact Or.inl rfl | exact Or.inr rfl | omega | assumption)
  · refine sg_iload_n (pc := 6) (j := 0) (dc_X2_isSmallPlain_0.1.1.2.2) rfl rfl ?_
    refine sg_bipush (pc := 7) (z := 122) (dc_X2_isSmallPlain_0.1.2.1.1) (by decide) ?_
    refine sg_icmp_gt (pc := 9) (tgt := 16) (dc_X2_isSmallPlain_0.1.2.1.2) (by decide) (fun c9 => ?_) (fun c9 => ?_)
    · refine sg_iconst (pc := 16) (z := 0) (dc_X2_isSmallPlain_0.2.1.1.1) (by decide) ?_
      refine sg_zret (pc := 17) (dc_X2_isSmallPlain_0.2.1.1.2) rfl (by first | exact Or.inl rfl | exact Or.inr rfl | omega | assumption) (by first | exact Nat.le_of_ble_eq_true rfl | omega) (by first | exact Nat.le_of_ble_eq_true rfl | omega) ?_
      exact hQ _ (by (try simp only [fn_sp] at *) <;> first | omega | ((repeat' split) <;> omega) | grind) (by first | exact Or.inl rfl | exact Or.inr rfl | omega | assumption)
    · refine sg_iconst (pc := 12) (z := 1) (dc_X2_isSmallPlain_0.1.2.2.1) (by decide) ?_
      refine sg_goto (pc := 13) (tgt := 17) (dc_X2_isSmallPlain_0.1.2.2.2) (by decide) ?_
      refine sg_zret (pc := 17) (dc_X2_isSmallPlain_0.2.1.1.2) rfl (by first | exact Or.inl rfl | exact Or.inr rfl | omega | assumption) (by first | exact Nat.le_of_ble_eq_true rfl | omega) (by first | exact Nat.le_of_ble_eq_true rfl | omega) ?_
      exact hQ _ (by (try simp only [fn_sp] at *) <;> first | omega | ((repeat' split) <;> omega) | grind) (by first | exact Or.inl rfl | exact Or.inr rfl | omega | assumption)

set_option maxRecDepth 100000 in
theorem s_X2_isSign {w : sg_W} {Q : sg_O → sg_H → Prop} {h : sg_H} (g : sg_G w) {d : Nat} (hd : 2 ≤ d) {x : Int} (hQ : ∀ z, z = fn_sign x → (z = 0 ∨ z = 1) → Q (.inl (some (sg_i z))) h) : sg_C w mi_X2_isSign d 0 0 [sg_i x] h Q := by
  refine sg_of pn_X2 (Nat.le_of_ble_eq_true rfl) ?_
  refine sg_iload_n (pc := 0) (j := 0) (dc_X2_isSign_0.1.1.1) rfl rfl ?_
  refine sg_iconst (pc := 1) (z := 0) (dc_X2_isSign_0.1.1.2) (by decide) ?_
  refine sg_sipush (pc := 2) (z := 255) (dc_X2_isSign_0.1.2.1) (by decide) ?_
  refine sg_cS3 (pc := 5) (d' := d - 1) (mc' := 0) (ms' := 0) g (dc_X2_isSign_0.1.2.2) cb_X2_isBetween ml_X2_9 ms_X2_isBetween (Nat.le_of_ble_eq_true rfl) (by first | exact jl_d0 hd rfl | omega) (by first | exact Nat.le_of_ble_eq_true rfl | omega) (by first | exact Nat.le_of_ble_eq_true rfl | omega) ?_
  refine s_X2_isBetween g (by first | exact jl_d1 hd rfl | omega) (fun z5 h5 b5 => sg_K1 ?_)
  (try simp only [fn_sign, fn_betw] at h5)
  refine sg_zret (pc := 8) (dc_X2_isSign_0.2.1.1) rfl (by first | exact Or.inl rfl | exact Or.inr rfl | omega | assumption) (by first | exact Nat.le_of_ble_eq_true rfl | omega) (by first | exact Nat.le_of_ble_eq_true rfl | omega) ?_
  exact hQ _ (by (try simp only [fn_sign, fn_betw] at *) <;> first | omega | ((repeat' split) <;> omega) | grind) (by first | exact Or.inl rfl | exact Or.inr rfl | omega | assumption)

set_option maxRecDepth 100000 in
theorem s_X2_isRadix {w : sg_W} {Q : sg_O → sg_H → Prop} {h : sg_H} (g : sg_G w) {d : Nat} (hd : 2 ≤ d) {x : Int} (hQ : ∀ z, z = fn_radix x → (z = 0 ∨ z = 1) → Q (.inl (some (sg_i z))) h) : sg_C w mi_X2_isRadix d 0 0 [sg_i x] h Q := by
  refine sg_of pn_X2 (Nat.le_of_ble_eq_true rfl) ?_
  refine sg_iload_n (pc := 0) (j := 0) (dc_X2_isRadix_0.1.1.1) rfl rfl ?_
  refine sg_iconst (pc := 1) (z := 2) (dc_X2_isRadix_0.1.1.2) (by decide) ?_
  refine sg_bipush (pc := 2) (z := 36) (dc_X2_isRadix_0.1.2.1) (by decide) ?_
  refine sg_cS3 (pc := 4) (d' := d - 1) (mc' := 0) (ms' := 0) g (dc_X2_isRadix_0.1.2.2) cb_X2_isBetween ml_X2_9 ms_X2_isBetween (Nat.le_of_ble_eq_true rfl) (by first | exact jl_d0 hd rfl | omega) (by first | exact Nat.le_of_ble_eq_true rfl | omega) (by first | exact Nat.le_of_ble_eq_true rfl | omega) ?_
  refine s_X2_isBetween g (by first | exact jl_d1 hd rfl | omega) (fun z4 h4 b4 => sg_K1 ?_)
  (try simp only [fn_radix, fn_betw] at h4)
  refine sg_zret (pc := 7) (dc_X2_isRadix_0.2.1.1) rfl (by first | exact Or.inl rfl | exact Or.inr rfl | omega | assumption) (by first | exact Nat.le_of_ble_eq_true rfl | omega) (by first | exact Nat.le_of_ble_eq_true rfl | omega) ?_
  exact hQ _ (by (try simp only [fn_radix, fn_betw] at *) <;> first | omega | ((repeat' split) <;> omega) | grind) (by first | exact Or.inl rfl | exact Or.inr rfl | omega | assumption)

set_option maxRecDepth 100000 in
theorem s_X2_isAnyGreat {w : sg_W} {Q : sg_O → sg_H → Prop} {h : sg_H} (g : sg_G w) {d : Nat} (hd : 2 ≤ d) {x : Int} (hQ : ∀ z, z = fn_great x → (z = 0 ∨ z = 1) → Q (.inl (some (sg_i z))) h) : sg_C w mi_X2_isAnyGreat d 0 0 [sg_i x] h Q := by
  refine sg_of pn_X2 (Nat.le_of_ble_eq_true rfl) ?_
  refine sg_iload_n (pc := 0) (j := 0) (dc_X2_isAnyGreat_0.1.1.1.1) rfl rfl ?_
  refine sg_cS1 (pc := 1) (d' := d - 1) (mc' := 0) (ms' := 0) g (dc_X2_isAnyGreat_0.1.1.1.2) cb_X2_isGreatPlain ml_X2_56 ms_X2_isGreatPlain (Nat.le_of_ble_eq_true rfl) (by first | exact jl_d0 hd rfl | omega) (by first | exact Nat.le_of_ble_eq_true rfl | omega) (by first | exact Nat.le_of_ble_eq_true rfl | omega) ?_
  refine s_X2_isGreatPlain g (by first | exact jl_d1 hd rfl | omega) (fun z1 h1 b1 => sg_K1 ?_)
  (try simp only [fn_great, fn_gp, fn_betw] at h1)
  refine sg_if_ne (pc := 4) (tgt := 33) (dc_X2_isAnyGreat_0.1.1.2.1) (by decide) (fun c4 => ?_) (fun c4 => ?_)
  · refine sg_iconst (pc := 33) (z := 1) (dc_X2_isAnyGreat_0.2.2.1.2) (by decide) ?_
    refine sg_goto (pc := 34) (tgt := 38) (dc_X2_isAnyGreat_0.2.2.2.1) (by decide) ?_
    refine sg_zret (pc := 38) dc_X2_isAnyGreat_38 rfl (by first | exact Or.inl rfl | exact Or.inr rfl | omega | assumption) (by first | exact Nat.le_of_ble_eq_true rfl | omega) (by first | exact Nat.le_of_ble_eq_true rfl | omega) ?_
    exact hQ _ (by (try simp only [fn_great, fn_gp, fn_betw] at *) <;> first | omega | ((repeat' split) <;> omega) | grind) (by first | exact Or.inl rfl | exact Or.inr rfl | omega | assumption)
  · refine sg_iload_n (pc := 7) (j := 0) (dc_X2_isAnyGreat_0.1.1.2.2) rfl rfl ?_
    refine sg_sipush (pc := 8) (z := 192) (dc_X2_isAnyGreat_0.1.2.1.1) (by decide) ?_
    refine sg_sipush (pc := 11) (z := 214) (dc_X2_isAnyGreat_0.1.2.1.2) (by decide) ?_
    refine sg_cS3 (pc := 14) (d' := d - 1) (mc' := 0) (ms' := 0) g (dc_X2_isAnyGreat_0.1.2.2.1) cb_X2_isBetween ml_X2_9 ms_X2_isBetween (Nat.le_of_ble_eq_true rfl) (by first | exact jl_d0 hd rfl | omega) (by first | exact Nat.le_of_ble_eq_true rfl | omega) (by first | exact Nat.le_of_ble_eq_true rfl | omega) ?_
    refine s_X2_isBetween g (by first | exact jl_d1 hd rfl | omega) (fun z14 h14 b14 => sg_K1 ?_)
    (try simp only [fn_great, fn_gp, fn_betw] at h14)
    refine sg_if_ne (pc := 17) (tgt := 33) (dc_X2_isAnyGreat_0.1.2.2.2) (by decide) (fun c17 => ?_) (fun c17 => ?_)
    · refine sg_iconst (pc := 33) (z := 1) (dc_X2_isAnyGreat_0.2.2.1.2) (by decide) ?_
      refine sg_goto (pc := 34) (tgt := 38) (dc_X2_isAnyGreat_0.2.2.2.1) (by decide) ?_
      refine sg_zret (pc := 38) dc_X2_isAnyGreat_38 rfl (by first | exact Or.inl rfl | exact Or.inr rfl | omega | assumption) (by first | exact Nat.le_of_ble_eq_true rfl | omega) (by first | exact Nat.le_of_ble_eq_true rfl | omega) ?_
      exact hQ _ (by (try simp only [fn_great, fn_gp, fn_betw] at *) <;> first | omega | ((repeat' split) <;> omega) | grind) (by first | exact Or.inl rfl | exact Or.inr rfl | omega | assumption)
    · refine sg_iload_n (pc := 20) (j := 0) (dc_X2_isAnyGreat_0.2.1.1.1) rfl rfl ?_
      refine sg_sipush (pc := 21) (z := 216) (dc_X2_isAnyGreat_0.2.1.1.2) (by decide) ?_
      refine sg_sipush (pc := 24) (z := 222) (dc_X2_isAnyGreat_0.2.1.2.1) (by decide) ?_
      refine sg_cS3 (pc := 27) (d' := d - 1) (mc' := 0) (ms' := 0) g (dc_X2_isAnyGreat_0.2.1.2.2) cb_X2_isBetween ml_X2_9 ms_X2_isBetween (Nat.le_of_ble_eq_true rfl) (by first | exact jl_d0 hd rfl | omega) (by first | exact Nat.le_of_ble_eq_true rfl | omega) (by first | exact Nat.le_of_ble_eq_true rfl | omega) ?_
      refine s_X2_isBetween g (by first | exact jl_d1 hd rfl | omega) (fun z27 h27 b27 => sg_K1 ?_)
      (try simp only [fn_great, fn_gp, fn_betw] at h27)
      refine sg_if_eq (pc := 30) (tgt := 37) (dc_X2_isAnyGreat_0.2.2.1.1) (by decide) (fun c30 => ?_) (fun c30 => ?_)
      · refine sg_iconst (pc := 37) (z := 0) (dc_X2_isAnyGreat_0.2.2.2.2) (by decide) ?_
        refine sg_zret (pc := 38) dc_X2_isAnyGreat_38 rfl (by first | exact Or.inl rfl | exact Or.inr rfl | omega | assumption) (by first | exact Nat.le_of_ble_eq_true rfl | omega) (by first | exact Nat.le_of_ble_eq_true rfl | omega) ?_
        exact hQ _ (by (try simp only [fn_great, fn_gp, fn_betw] at *) <;> first | omega | ((repeat' split) <;> omega) | grind) (by first | exact Or.inl rfl | exact Or.inr rfl | omega | assumption)
      · refine sg_iconst (pc := 33) (z := 1) (dc_X2_isAnyGreat_0.2.2.1.2) (by decide) ?_
        refine sg_goto (pc := 34) (tgt := 38) (dc_X2_isAnyGreat_0.2.2.2.1) (by decide) ?_
        refine sg_zret (pc := 38) dc_X2_isAnyGreat_38 rfl (by first | exact Or.inl rfl | exact Or.inr rfl | omega | assumption) (by first | exact Nat.le_of_ble_eq_true rfl | omega) (by first | exact Nat.le_of_ble_eq_true rfl | omega) ?_
        exact hQ _ (by (try simp only [fn_great, fn_gp, fn_betw] at *) <;> first | omega | ((repeat' split) <;> omega) | grind) (by first | exact Or.inl rfl | exact Or.inr rfl | omega | assumption)

set_option maxRecDepth 100000 in
theorem s_X2_isAnyLetter {w : sg_W} {Q : sg_O → sg_H → Prop} {h : sg_H} (g : sg_G w) {d : Nat} (hd : 2 ≤ d) {x : Int} (hQ : ∀ z, z = fn_letter x → (z = 0 ∨ z = 1) → Q (.inl (some (sg_i z))) h) : sg_C w mi_X2_isAnyLetter d 0 0 [sg_i x] h Q := by
  refine sg_of pn_X2 (Nat.le_of_ble_eq_true rfl) ?_
  refine sg_iload_n (pc := 0) (j := 0) (dc_X2_isAnyLetter_0.1.1.1.1) rfl rfl ?_
  refine sg_cS1 (pc := 1) (d' := d - 1) (mc' := 0) (ms' := 0) g (dc_X2_isAnyLetter_0.1.1.1.2) cb_X2_isGreatPlain ml_X2_56 ms_X2_isGreatPlain (Nat.le_of_ble_eq_true rfl) (by first | exact jl_d0 hd rfl | omega) (by first | exact Nat.le_of_ble_eq_true rfl | omega) (by first | exact Nat.le_of_ble_eq_true rfl | omega) ?_
  refine s_X2_isGreatPlain g (by first | exact jl_d1 hd rfl | omega) (fun z1 h1 b1 => sg_K1 ?_)
  (try simp only [fn_letter, fn_gp, fn_sp, fn_betw] at h1)
  refine sg_if_ne (pc := 4) (tgt := 14) (dc_X2_isAnyLetter_0.1.1.2.1) (by decide) (fun c4 => ?_) (fun c4 => ?_)
  · refine sg_iconst (pc := 14) (z := 1) (dc_X2_isAnyLetter_0.1.2.2.1) (by decide) ?_
    refine sg_zret (pc := 15) (dc_X2_isAnyLetter_0.1.2.2.2) rfl (by first | exact Or.inl rfl | exact Or.inr rfl | omega | assumption) (by first | exact Nat.le_of_ble_eq_true rfl | omega) (by first | exact Nat.le_of_ble_eq_true rfl | omega) ?_
    exact hQ _ (by (try simp only [fn_letter, fn_gp, fn_sp, fn_betw] at *) <;> first | omega | ((repeat' split) <;> omega) | grind) (by first | exact Or.inl rfl | exact Or.inr rfl | omega | assumption)
  · refine sg_iload_n (pc := 7) (j := 0) (dc_X2_isAnyLetter_0.1.1.2.2) rfl rfl ?_
    refine sg_cS1 (pc := 8) (d' := d - 1) (mc' := 0) (ms' := 0) g (dc_X2_isAnyLetter_0.1.2.1.1) cb_X2_isSmallPlain ml_X2_29 ms_X2_isSmallPlain (Nat.le_of_ble_eq_true rfl) (by first | exact jl_d0 hd rfl | omega) (by first | exact Nat.le_of_ble_eq_true rfl | omega) (by first | exact Nat.le_of_ble_eq_true rfl | omega) ?_
    refine s_X2_isSmallPlain g (by first | exact jl_d1 hd rfl | omega) (fun z8 h8 b8 => sg_K1 ?_)
    (try simp only [fn_letter, fn_gp, fn_sp, fn_betw] at h8)
    refine sg_if_eq (pc := 11) (tgt := 16) (dc_X2_isAnyLetter_0.1.2.1.2) (by decide) (fun c11 => ?_) (fun c11 => ?_)
    · refine sg_iload_n (pc := 16) (j := 0) (dc_X2_isAnyLetter_0.2.1.1.1) rfl rfl ?_
      refine sg_sipush (pc := 17) (z := 170) (dc_X2_isAnyLetter_0.2.1.1.2) (by decide) ?_
      refine sg_icmp_eq (pc := 20) (tgt := 37) (dc_X2_isAnyLetter_0.2.1.2.1) (by decide) (fun c20 => ?_) (fun c20 => ?_)
      · refine sg_iconst (pc := 37) (z := 1) (dc_X2_isAnyLetter_34.1.1.1.2) (by decide) ?_
        refine sg_zret (pc := 38) (dc_X2_isAnyLetter_34.1.1.2.1) rfl (by first | exact Or.inl rfl | exact Or.inr rfl | omega | assumption) (by first | exact Nat.le_of_ble_eq_true rfl | omega) (by first | exact Nat.le_of_ble_eq_true rfl | omega) ?_
        exact hQ _ (by (try simp only [fn_letter, fn_gp, fn_sp, fn_betw] at *) <;> first | omega | ((repeat' split) <;> omega) | grind) (by first | exact Or.inl rfl | exact Or.inr rfl | omega | assumption)
      · refine sg_iload_n (pc := 23) (j := 0) (dc_X2_isAnyLetter_0.2.1.2.2) rfl rfl ?_
        refine sg_sipush (pc := 24) (z := 181) (dc_X2_isAnyLetter_0.2.2.1.1) (by decide) ?_
        refine sg_icmp_eq (pc := 27) (tgt := 37) (dc_X2_isAnyLetter_0.2.2.1.2) (by decide) (fun c27 => ?_) (fun c27 => ?_)
        · refine sg_iconst (pc := 37) (z := 1) (dc_X2_isAnyLetter_34.1.1.1.2) (by decide) ?_
          refine sg_zret (pc := 38) (dc_X2_isAnyLetter_34.1.1.2.1) rfl (by first | exact Or.inl rfl | exact Or.inr rfl | omega | assumption) (by first | exact Nat.le_of_ble_eq_true rfl | omega) (by first | exact Nat.le_of_ble_eq_true rfl | omega) ?_
          exact hQ _ (by (try simp only [fn_letter, fn_gp, fn_sp, fn_betw] at *) <;> first | omega | ((repeat' split) <;> omega) | grind) (by first | exact Or.inl rfl | exact Or.inr rfl | omega | assumption)
        · refine sg_iload_n (pc := 30) (j := 0) (dc_X2_isAnyLetter_0.2.2.2.1) rfl rfl ?_
          refine sg_sipush (pc := 31) (z := 186) (dc_X2_isAnyLetter_0.2.2.2.2) (by decide) ?_
          refine sg_icmp_ne (pc := 34) (tgt := 39) (dc_X2_isAnyLetter_34.1.1.1.1) (by decide) (fun c34 => ?_) (fun c34 => ?_)
          · refine sg_iload_n (pc := 39) (j := 0) (dc_X2_isAnyLetter_34.1.1.2.2) rfl rfl ?_
            refine sg_sipush (pc := 40) (z := 192) (dc_X2_isAnyLetter_34.1.2.1.1) (by decide) ?_
            refine sg_sipush (pc := 43) (z := 214) (dc_X2_isAnyLetter_34.1.2.1.2) (by decide) ?_
            refine sg_cS3 (pc := 46) (d' := d - 1) (mc' := 0) (ms' := 0) g (dc_X2_isAnyLetter_34.1.2.2.1) cb_X2_isBetween ml_X2_9 ms_X2_isBetween (Nat.le_of_ble_eq_true rfl) (by first | exact jl_d0 hd rfl | omega) (by first | exact Nat.le_of_ble_eq_true rfl | omega) (by first | exact Nat.le_of_ble_eq_true rfl | omega) ?_
            refine s_X2_isBetween g (by first | exact jl_d1 hd rfl | omega) (fun z46 h46 b46 => sg_K1 ?_)
            (try simp only [fn_letter, fn_gp, fn_sp, fn_betw] at h46)
            refine sg_if_ne (pc := 49) (tgt := 78) (dc_X2_isAnyLetter_34.1.2.2.2) (by decide) (fun c49 => ?_) (fun c49 => ?_)
            · refine sg_iconst (pc := 78) (z := 1) (dc_X2_isAnyLetter_72.1.2.1) (by decide) ?_
              refine sg_goto (pc := 79) (tgt := 83) (dc_X2_isAnyLetter_72.1.2.2) (by decide) ?_
              refine sg_zret (pc := 83) (dc_X2_isAnyLetter_72.2.1.2) rfl (by first | exact Or.inl rfl | exact Or.inr rfl | omega | assumption) (by first | exact Nat.le_of_ble_eq_true rfl | omega) (by first | exact Nat.le_of_ble_eq_true rfl | omega) ?_
              exact hQ _ (by (try simp only [fn_letter, fn_gp, fn_sp, fn_betw] at *) <;> first | omega | ((repeat' split) <;> omega) | grind) (by first | exact Or.inl rfl | exact Or.inr rfl | omega | assumption)
            · refine sg_iload_n (pc := 52) (j := 0) (dc_X2_isAnyLetter_34.2.1.1.1) rfl rfl ?_
              refine sg_sipush (pc := 53) (z := 216) (dc_X2_isAnyLetter_34.2.1.1.2) (by decide) ?_
              refine sg_sipush (pc := 56) (z := 246) (dc_X2_isAnyLetter_34.2.1.2.1) (by decide) ?_
              refine sg_cS3 (pc := 59) (d' := d - 1) (mc' := 0) (ms' := 0) g (dc_X2_isAnyLetter_34.2.1.2.2) cb_X2_isBetween ml_X2_9 ms_X2_isBetween (Nat.le_of_ble_eq_true rfl) (by first | exact jl_d0 hd rfl | omega) (by first | exact Nat.le_of_ble_eq_true rfl | omega) (by first | exact Nat.le_of_ble_eq_true rfl | omega) ?_
              refine s_X2_isBetween g (by first | exact jl_d1 hd rfl | omega) (fun z59 h59 b59 => sg_K1 ?_)
              (try simp only [fn_letter, fn_gp, fn_sp, fn_betw] at h59)
              refine sg_if_ne (pc := 62) (tgt := 78) (dc_X2_isAnyLetter_34.2.2.1.1) (by decide) (fun c62 => ?_) (fun c62 => ?_)
              · refine sg_iconst (pc := 78) (z := 1) (dc_X2_isAnyLetter_72.1.2.1) (by decide) ?_
                refine sg_goto (pc := 79) (tgt := 83) (dc_X2_isAnyLetter_72.1.2.2) (by decide) ?_
                refine sg_zret (pc := 83) (dc_X2_isAnyLetter_72.2.1.2) rfl (by first | exact Or.inl rfl | exact Or.inr rfl | omega | assumption) (by first | exact Nat.le_of_ble_eq_true rfl | omega) (by first | exact Nat.le_of_ble_eq_true rfl | omega) ?_
                exact hQ _ (by (try simp only [fn_letter, fn_gp, fn_sp, fn_betw] at *) <;> first | omega | ((repeat' split) <;> omega) | grind) (by first | exact Or.inl rfl | exact Or.inr rfl | omega | assumption)
              · refine sg_iload_n (pc := 65) (j := 0) (dc_X2_isAnyLetter_34.2.2.1.2) rfl rfl ?_
                refine sg_sipush (pc := 66) (z := 248) (dc_X2_isAnyLetter_34.2.2.2.1) (by decide) ?_
                refine sg_sipush (pc := 69) (z := 255) (dc_X2_isAnyLetter_34.2.2.2.2) (by decide) ?_
                refine sg_cS3 (pc := 72) (d' := d - 1) (mc' := 0) (ms' := 0) g (dc_X2_isAnyLetter_72.1.1.1) cb_X2_isBetween ml_X2_9 ms_X2_isBetween (Nat.le_of_ble_eq_true rfl) (by first | exact jl_d0 hd rfl | omega) (by first | exact Nat.le_of_ble_eq_true rfl | omega) (by first | exact Nat.le_of_ble_eq_true rfl | omega) ?_
                refine s_X2_isBetween g (by first | exact jl_d1 hd rfl | omega) (fun z72 h72 b72 => sg_K1 ?_)
                (try simp only [fn_letter, fn_gp, fn_sp, fn_betw] at h72)
                refine sg_if_eq (pc := 75) (tgt := 82) (dc_X2_isAnyLetter_72.1.1.2) (by decide) (fun c75 => ?_) (fun c75 => ?_)
                · refine sg_iconst (pc := 82) (z := 0) (dc_X2_isAnyLetter_72.2.1.1) (by decide) ?_
                  refine sg_zret (pc := 83) (dc_X2_isAnyLetter_72.2.1.2) rfl (by first | exact Or.inl rfl | exact Or.inr rfl | omega | assumption) (by first | exact Nat.le_of_ble_eq_true rfl | omega) (by first | exact Nat.le_of_ble_eq_true rfl | omega) ?_
                  exact hQ _ (by (try simp only [fn_letter, fn_gp, fn_sp, fn_betw] at *) <;> first | omega | ((repeat' split) <;> omega) | grind) (by first | exact Or.inl rfl | exact Or.inr rfl | omega | assumption)
                · refine sg_iconst (pc := 78) (z := 1) (dc_X2_isAnyLetter_72.1.2.1) (by decide) ?_
                  refine sg_goto (pc := 79) (tgt := 83) (dc_X2_isAnyLetter_72.1.2.2) (by decide) ?_
                  refine sg_zret (pc := 83) (dc_X2_isAnyLetter_72.2.1.2) rfl (by first | exact Or.inl rfl | exact Or.inr rfl | omega | assumption) (by first | exact Nat.le_of_ble_eq_true rfl | omega) (by first | exact Nat.le_of_ble_eq_true rfl | omega) ?_
                  exact hQ _ (by (try simp only [fn_letter, fn_gp, fn_sp, fn_betw] at *) <;> first | omega | ((repeat' split) <;> omega) | grind) (by first | exact Or.inl rfl | exact Or.inr rfl | omega | assumption)
          · refine sg_iconst (pc := 37) (z := 1) (dc_X2_isAnyLetter_34.1.1.1.2) (by decide) ?_
            refine sg_zret (pc := 38) (dc_X2_isAnyLetter_34.1.1.2.1) rfl (by first | exact Or.inl rfl | exact Or.inr rfl | omega | assumption) (by first | exact Nat.le_of_ble_eq_true rfl | omega) (by first | exact Nat.le_of_ble_eq_true rfl | omega) ?_
            exact hQ _ (by (try simp only [fn_letter, fn_gp, fn_sp, fn_betw] at *) <;> first | omega | ((repeat' split) <;> omega) | grind) (by first | exact Or.inl rfl | exact Or.inr rfl | omega | assumption)
    · refine sg_iconst (pc := 14) (z := 1) (dc_X2_isAnyLetter_0.1.2.2.1) (by decide) ?_
      refine sg_zret (pc := 15) (dc_X2_isAnyLetter_0.1.2.2.2) rfl (by first | exact Or.inl rfl | exact Or.inr rfl | omega | assumption) (by first | exact Nat.le_of_ble_eq_true rfl | omega) (by first | exact Nat.le_of_ble_eq_true rfl | omega) ?_
      exact hQ _ (by (try simp only [fn_letter, fn_gp, fn_sp, fn_betw] at *) <;> first | omega | ((repeat' split) <;> omega) | grind) (by first | exact Or.inl rfl | exact Or.inr rfl | omega | assumption)

set_option maxRecDepth 100000 in
theorem s_X2_isOf {w : sg_W} {Q : sg_O → sg_H → Prop} {h : sg_H} (g : sg_G w) {d : Nat} (hd : 3 ≤ d) {x y : Int} (hQ : ∀ z, z = fn_isOf x y → (z = 0 ∨ z = 1) → Q (.inl (some (sg_i z))) h) : sg_C w mi_X2_isOf d 0 0 [sg_i x, sg_i y] h Q := by
  refine sg_of pn_X2 (Nat.le_of_ble_eq_true rfl) ?_
  refine sg_iload_n (pc := 0) (j := 1) (dc_X2_isOf_0.1.1.1.1) rfl rfl ?_
  by_cases cs : y < 0 ∨ 4 < y
  · refine sg_tsOut (pc := 1) (tgt := 99) (dc_X2_isOf_0.1.1.1.2) cs (by decide) ?_
    refine sg_iconst (pc := 99) (z := 0) (dc_X2_isOf_94.1.2.2) (by decide) ?_
    refine sg_zret (pc := 100) (dc_X2_isOf_94.2.1.1) rfl (by first | exact Or.inl rfl | exact Or.inr rfl | omega | assumption) (by first | exact Nat.le_of_ble_eq_true rfl | omega) (by first | exact Nat.le_of_ble_eq_true rfl | omega) ?_
    exact hQ _ (by (try simp only [fn_isOf, fn_lod, fn_white, fn_betw] at *) <;> first | omega | ((repeat' split) <;> omega) | grind) (by first | exact Or.inl rfl | exact Or.inr rfl | omega | assumption)
  · rcases (show y = 0 ∨ y = 1 ∨ y = 2 ∨ y = 3 ∨ y = 4 by omega) with rfl | rfl | rfl | rfl | rfl
    · refine sg_tsIn (pc := 1) (tgt := 36) (dc_X2_isOf_0.1.1.1.2) (by omega) (by omega) rfl (by decide) ?_
      refine sg_iload_n (pc := 36) (j := 0) (dc_X2_isOf_0.1.1.2.1) rfl rfl ?_
      refine sg_cS1 (pc := 37) (d' := d - 1) (mc' := 0) (ms' := 0) g (dc_X2_isOf_0.1.1.2.2) cb_X2_isPlainDigit ml_X2_15 ms_X2_isPlainDigit (Nat.le_of_ble_eq_true rfl) (by first | exact jl_d0 hd rfl | omega) (by first | exact Nat.le_of_ble_eq_true rfl | omega) (by first | exact Nat.le_of_ble_eq_true rfl | omega) ?_
      refine s_X2_isPlainDigit g (by first | exact jl_d1 hd rfl | omega) (fun z37 h37 b37 => sg_K1 ?_)
      (try simp only [fn_isOf, fn_lod, fn_white, fn_betw] at h37)
      refine sg_zret (pc := 40) (dc_X2_isOf_0.1.2.1.1) rfl (by first | exact Or.inl rfl | exact Or.inr rfl | omega | assumption) (by first | exact Nat.le_of_ble_eq_true rfl | omega) (by first | exact Nat.le_of_ble_eq_true rfl | omega) ?_
      exact hQ _ (by (try simp only [fn_isOf, fn_lod, fn_white, fn_betw] at *) <;> first | omega | ((repeat' split) <;> omega) | grind) (by first | exact Or.inl rfl | exact Or.inr rfl | omega | assumption)
    · refine sg_tsIn (pc := 1) (tgt := 41) (dc_X2_isOf_0.1.1.1.2) (by omega) (by omega) rfl (by decide) ?_
      refine sg_iload_n (pc := 41) (j := 0) (dc_X2_isOf_0.1.2.1.2) rfl rfl ?_
      refine sg_cS1 (pc := 42) (d' := d - 1) (mc' := 0) (ms' := 0) g (dc_X2_isOf_0.1.2.2.1) cb_X2_isAnyLetter ml_X2_19 ms_X2_isAnyLetter (Nat.le_of_ble_eq_true rfl) (by first | exact jl_d0 hd rfl | omega) (by first | exact Nat.le_of_ble_eq_true rfl | omega) (by first | exact Nat.le_of_ble_eq_true rfl | omega) ?_
      refine s_X2_isAnyLetter g (by first | exact jl_d1 hd rfl | omega) (fun z42 h42 b42 => sg_K1 ?_)
      (try simp only [fn_isOf, fn_lod, fn_white, fn_betw] at h42)
      refine sg_zret (pc := 45) (dc_X2_isOf_0.1.2.2.2) rfl (by first | exact Or.inl rfl | exact Or.inr rfl | omega | assumption) (by first | exact Nat.le_of_ble_eq_true rfl | omega) (by first | exact Nat.le_of_ble_eq_true rfl | omega) ?_
      exact hQ _ (by (try simp only [fn_isOf, fn_lod, fn_white, fn_betw] at *) <;> first | omega | ((repeat' split) <;> omega) | grind) (by first | exact Or.inl rfl | exact Or.inr rfl | omega | assumption)
    · refine sg_tsIn (pc := 1) (tgt := 46) (dc_X2_isOf_0.1.1.1.2) (by omega) (by omega) rfl (by decide) ?_
      refine sg_iload_n (pc := 46) (j := 0) (dc_X2_isOf_0.2.1.1.1) rfl rfl ?_
      refine sg_cS1 (pc := 47) (d' := d - 1) (mc' := 0) (ms' := 0) g (dc_X2_isOf_0.2.1.1.2) cb_X2_isAnyLetter ml_X2_19 ms_X2_isAnyLetter (Nat.le_of_ble_eq_true rfl) (by first | exact jl_d0 hd rfl | omega) (by first | exact Nat.le_of_ble_eq_true rfl | omega) (by first | exact Nat.le_of_ble_eq_true rfl | omega) ?_
      refine s_X2_isAnyLetter g (by first | exact jl_d1 hd rfl | omega) (fun z47 h47 b47 => sg_K1 ?_)
      (try simp only [fn_isOf, fn_lod, fn_white, fn_betw] at h47)
      refine sg_if_ne (pc := 50) (tgt := 60) (dc_X2_isOf_0.2.1.2.1) (by decide) (fun c50 => ?_) (fun c50 => ?_)
      · refine sg_iconst (pc := 60) (z := 1) (dc_X2_isOf_0.2.2.2.1) (by decide) ?_
        refine sg_goto (pc := 61) (tgt := 65) (dc_X2_isOf_0.2.2.2.2) (by decide) ?_
        refine sg_zret (pc := 65) (dc_X2_isOf_64.1.1.1.2) rfl (by first | exact Or.inl rfl | exact Or.inr rfl | omega | assumption) (by first | exact Nat.le_of_ble_eq_true rfl | omega) (by first | exact Nat.le_of_ble_eq_true rfl | omega) ?_
        exact hQ _ (by (try simp only [fn_isOf, fn_lod, fn_white, fn_betw] at *) <;> first | omega | ((repeat' split) <;> omega) | grind) (by first | exact Or.inl rfl | exact Or.inr rfl | omega | assumption)
      · refine sg_iload_n (pc := 53) (j := 0) (dc_X2_isOf_0.2.1.2.2) rfl rfl ?_
        refine sg_cS1 (pc := 54) (d' := d - 1) (mc' := 0) (ms' := 0) g (dc_X2_isOf_0.2.2.1.1) cb_X2_isPlainDigit ml_X2_15 ms_X2_isPlainDigit (Nat.le_of_ble_eq_true rfl) (by first | exact jl_d0 hd rfl | omega) (by first | exact Nat.le_of_ble_eq_true rfl | omega) (by first | exact Nat.le_of_ble_eq_true rfl | omega) ?_
        refine s_X2_isPlainDigit g (by first | exact jl_d1 hd rfl | omega) (fun z54 h54 b54 => sg_K1 ?_)
        (try simp only [fn_isOf, fn_lod, fn_white, fn_betw] at h54)
        refine sg_if_eq (pc := 57) (tgt := 64) (dc_X2_isOf_0.2.2.1.2) (by decide) (fun c57 => ?_) (fun c57 => ?_)
        · refine sg_iconst (pc := 64) (z := 0) (dc_X2_isOf_64.1.1.1.1) (by decide) ?_
          refine sg_zret (pc := 65) (dc_X2_isOf_64.1.1.1.2) rfl (by first | exact Or.inl rfl | exact Or.inr rfl | omega | assumption) (by first | exact Nat.le_of_ble_eq_true rfl | omega) (by first | exact Nat.le_of_ble_eq_true rfl | omega) ?_
          exact hQ _ (by (try simp only [fn_isOf, fn_lod, fn_white, fn_betw] at *) <;> first | omega | ((repeat' split) <;> omega) | grind) (by first | exact Or.inl rfl | exact Or.inr rfl | omega | assumption)
        · refine sg_iconst (pc := 60) (z := 1) (dc_X2_isOf_0.2.2.2.1) (by decide) ?_
          refine sg_goto (pc := 61) (tgt := 65) (dc_X2_isOf_0.2.2.2.2) (by decide) ?_
          refine sg_zret (pc := 65) (dc_X2_isOf_64.1.1.1.2) rfl (by first | exact Or.inl rfl | exact Or.inr rfl | omega | assumption) (by first | exact Nat.le_of_ble_eq_true rfl | omega) (by first | exact Nat.le_of_ble_eq_true rfl | omega) ?_
          exact hQ _ (by (try simp only [fn_isOf, fn_lod, fn_white, fn_betw] at *) <;> first | omega | ((repeat' split) <;> omega) | grind) (by first | exact Or.inl rfl | exact Or.inr rfl | omega | assumption)
    · refine sg_tsIn (pc := 1) (tgt := 66) (dc_X2_isOf_0.1.1.1.2) (by omega) (by omega) rfl (by decide) ?_
      refine sg_iload_n (pc := 66) (j := 0) (dc_X2_isOf_64.1.1.2.1) rfl rfl ?_
      refine sg_bipush (pc := 67) (z := 9) (dc_X2_isOf_64.1.1.2.2) (by decide) ?_
      refine sg_bipush (pc := 69) (z := 13) (dc_X2_isOf_64.1.2.1.1) (by decide) ?_
      refine sg_cS3 (pc := 71) (d' := d - 1) (mc' := 0) (ms' := 0) g (dc_X2_isOf_64.1.2.1.2) cb_X2_isBetween ml_X2_9 ms_X2_isBetween (Nat.le_of_ble_eq_true rfl) (by first | exact jl_d0 hd rfl | omega) (by first | exact Nat.le_of_ble_eq_true rfl | omega) (by first | exact Nat.le_of_ble_eq_true rfl | omega) ?_
      refine s_X2_isBetween g (by first | exact jl_d1 hd rfl | omega) (fun z71 h71 b71 => sg_K1 ?_)
      (try simp only [fn_isOf, fn_lod, fn_white, fn_betw] at h71)
      refine sg_if_ne (pc := 74) (tgt := 88) (dc_X2_isOf_64.1.2.2.1) (by decide) (fun c74 => ?_) (fun c74 => ?_)
      · refine sg_iconst (pc := 88) (z := 1) (dc_X2_isOf_64.2.2.1.1) (by decide) ?_
        refine sg_goto (pc := 89) (tgt := 93) (dc_X2_isOf_64.2.2.1.2) (by decide) ?_
        refine sg_zret (pc := 93) (dc_X2_isOf_64.2.2.2.2) rfl (by first | exact Or.inl rfl | exact Or.inr rfl | omega | assumption) (by first | exact Nat.le_of_ble_eq_true rfl | omega) (by first | exact Nat.le_of_ble_eq_true rfl | omega) ?_
        exact hQ _ (by (try simp only [fn_isOf, fn_lod, fn_white, fn_betw] at *) <;> first | omega | ((repeat' split) <;> omega) | grind) (by first | exact Or.inl rfl | exact Or.inr rfl | omega | assumption)
      · refine sg_iload_n (pc := 77) (j := 0) (dc_X2_isOf_64.1.2.2.2) rfl rfl ?_
        refine sg_bipush (pc := 78) (z := 28) (dc_X2_isOf_64.2.1.1.1) (by decide) ?_
        refine sg_bipush (pc := 80) (z := 32) (dc_X2_isOf_64.2.1.1.2) (by decide) ?_
        refine sg_cS3 (pc := 82) (d' := d - 1) (mc' := 0) (ms' := 0) g (dc_X2_isOf_64.2.1.2.1) cb_X2_isBetween ml_X2_9 ms_X2_isBetween (Nat.le_of_ble_eq_true rfl) (by first | exact jl_d0 hd rfl | omega) (by first | exact Nat.le_of_ble_eq_true rfl | omega) (by first | exact Nat.le_of_ble_eq_true rfl | omega) ?_
        refine s_X2_isBetween g (by first | exact jl_d1 hd rfl | omega) (fun z82 h82 b82 => sg_K1 ?_)
        (try simp only [fn_isOf, fn_lod, fn_white, fn_betw] at h82)
        refine sg_if_eq (pc := 85) (tgt := 92) (dc_X2_isOf_64.2.1.2.2) (by decide) (fun c85 => ?_) (fun c85 => ?_)
        · refine sg_iconst (pc := 92) (z := 0) (dc_X2_isOf_64.2.2.2.1) (by decide) ?_
          refine sg_zret (pc := 93) (dc_X2_isOf_64.2.2.2.2) rfl (by first | exact Or.inl rfl | exact Or.inr rfl | omega | assumption) (by first | exact Nat.le_of_ble_eq_true rfl | omega) (by first | exact Nat.le_of_ble_eq_true rfl | omega) ?_
          exact hQ _ (by (try simp only [fn_isOf, fn_lod, fn_white, fn_betw] at *) <;> first | omega | ((repeat' split) <;> omega) | grind) (by first | exact Or.inl rfl | exact Or.inr rfl | omega | assumption)
        · refine sg_iconst (pc := 88) (z := 1) (dc_X2_isOf_64.2.2.1.1) (by decide) ?_
          refine sg_goto (pc := 89) (tgt := 93) (dc_X2_isOf_64.2.2.1.2) (by decide) ?_
          refine sg_zret (pc := 93) (dc_X2_isOf_64.2.2.2.2) rfl (by first | exact Or.inl rfl | exact Or.inr rfl | omega | assumption) (by first | exact Nat.le_of_ble_eq_true rfl | omega) (by first | exact Nat.le_of_ble_eq_true rfl | omega) ?_
          exact hQ _ (by (try simp only [fn_isOf, fn_lod, fn_white, fn_betw] at *) <;> first | omega | ((repeat' split) <;> omega) | grind) (by first | exact Or.inl rfl | exact Or.inr rfl | omega | assumption)
    · refine sg_tsIn (pc := 1) (tgt := 94) (dc_X2_isOf_0.1.1.1.2) (by omega) (by omega) rfl (by decide) ?_
      refine sg_iload_n (pc := 94) (j := 0) (dc_X2_isOf_94.1.1.1) rfl rfl ?_
      refine sg_cS1 (pc := 95) (d' := d - 1) (mc' := 0) (ms' := 0) g (dc_X2_isOf_94.1.1.2) cb_X2_isAnyGreat ml_X2_22 ms_X2_isAnyGreat (Nat.le_of_ble_eq_true rfl) (by first | exact jl_d0 hd rfl | omega) (by first | exact Nat.le_of_ble_eq_true rfl | omega) (by first | exact Nat.le_of_ble_eq_true rfl | omega) ?_
      refine s_X2_isAnyGreat g (by first | exact jl_d1 hd rfl | omega) (fun z95 h95 b95 => sg_K1 ?_)
      (try simp only [fn_isOf, fn_lod, fn_white, fn_betw] at h95)
      refine sg_zret (pc := 98) (dc_X2_isOf_94.1.2.1) rfl (by first | exact Or.inl rfl | exact Or.inr rfl | omega | assumption) (by first | exact Nat.le_of_ble_eq_true rfl | omega) (by first | exact Nat.le_of_ble_eq_true rfl | omega) ?_
      exact hQ _ (by (try simp only [fn_isOf, fn_lod, fn_white, fn_betw] at *) <;> first | omega | ((repeat' split) <;> omega) | grind) (by first | exact Or.inl rfl | exact Or.inr rfl | omega | assumption)

set_option maxRecDepth 100000 in
theorem s_X2_upperOf {w : sg_W} {Q : sg_O → sg_H → Prop} {h : sg_H} (g : sg_G w) {d : Nat} (hd : 2 ≤ d) {x : Int} (hQ : ∀ z, z = fn_upper x → Q (.inl (some (sg_i z))) h) : sg_C w mi_X2_upperOf d 0 0 [sg_i x] h Q := by
  refine sg_of pn_X2 (Nat.le_of_ble_eq_true rfl) ?_
  refine sg_iload_n (pc := 0) (j := 0) (dc_X2_upperOf_0.1.1.1.1) rfl rfl ?_
  refine sg_cS1 (pc := 1) (d' := d - 1) (mc' := 0) (ms' := 0) g (dc_X2_upperOf_0.1.1.1.2) cb_X2_isSmallPlain ml_X2_29 ms_X2_isSmallPlain (Nat.le_of_ble_eq_true rfl) (by first | exact jl_d0 hd rfl | omega) (by first | exact Nat.le_of_ble_eq_true rfl | omega) (by first | exact Nat.le_of_ble_eq_true rfl | omega) ?_
  refine s_X2_isSmallPlain g (by first | exact jl_d1 hd rfl | omega) (fun z1 h1 b1 => sg_K1 ?_)
  (try simp only [fn_upper, fn_betw, fn_sp] at h1)
  refine sg_if_ne (pc := 4) (tgt := 33) (dc_X2_upperOf_0.1.1.2.1) (by decide) (fun c4 => ?_) (fun c4 => ?_)
  · refine sg_iload_n (pc := 33) (j := 0) (dc_X2_upperOf_0.2.2.1.2) rfl rfl ?_
    refine sg_bipush (pc := 34) (z := 32) (dc_X2_upperOf_0.2.2.2.1) (by decide) ?_
    first | refine sg_isubB (pc := 36) (dc_X2_upperOf_0.2.2.2.2) (by omega) (by omega) ?_ | refine sg_isub (pc := 36) (dc_X2_upperOf_0.2.2.2.2) ?_
    refine sg_iret (pc := 37) (dc_X2_upperOf_37.1.1.1.1) rfl (by first | exact Nat.le_of_ble_eq_true rfl | omega) (by first | exact Nat.le_of_ble_eq_true rfl | omega) ?_
    exact hQ _ (by (try simp only [fn_upper, fn_betw, fn_sp] at *) <;> first | omega | ((repeat' split) <;> omega) | grind)
  · refine sg_iload_n (pc := 7) (j := 0) (dc_X2_upperOf_0.1.1.2.2) rfl rfl ?_
    refine sg_sipush (pc := 8) (z := 224) (dc_X2_upperOf_0.1.2.1.1) (by decide) ?_
    refine sg_sipush (pc := 11) (z := 246) (dc_X2_upperOf_0.1.2.1.2) (by decide) ?_
    refine sg_cS3 (pc := 14) (d' := d - 1) (mc' := 0) (ms' := 0) g (dc_X2_upperOf_0.1.2.2.1) cb_X2_isBetween ml_X2_9 ms_X2_isBetween (Nat.le_of_ble_eq_true rfl) (by first | exact jl_d0 hd rfl | omega) (by first | exact Nat.le_of_ble_eq_true rfl | omega) (by first | exact Nat.le_of_ble_eq_true rfl | omega) ?_
    refine s_X2_isBetween g (by first | exact jl_d1 hd rfl | omega) (fun z14 h14 b14 => sg_K1 ?_)
    (try simp only [fn_upper, fn_betw, fn_sp] at h14)
    refine sg_if_ne (pc := 17) (tgt := 33) (dc_X2_upperOf_0.1.2.2.2) (by decide) (fun c17 => ?_) (fun c17 => ?_)
    · refine sg_iload_n (pc := 33) (j := 0) (dc_X2_upperOf_0.2.2.1.2) rfl rfl ?_
      refine sg_bipush (pc := 34) (z := 32) (dc_X2_upperOf_0.2.2.2.1) (by decide) ?_
      first | refine sg_isubB (pc := 36) (dc_X2_upperOf_0.2.2.2.2) (by omega) (by omega) ?_ | refine sg_isub (pc := 36) (dc_X2_upperOf_0.2.2.2.2) ?_
      refine sg_iret (pc := 37) (dc_X2_upperOf_37.1.1.1.1) rfl (by first | exact Nat.le_of_ble_eq_true rfl | omega) (by first | exact Nat.le_of_ble_eq_true rfl | omega) ?_
      exact hQ _ (by (try simp only [fn_upper, fn_betw, fn_sp] at *) <;> first | omega | ((repeat' split) <;> omega) | grind)
    · refine sg_iload_n (pc := 20) (j := 0) (dc_X2_upperOf_0.2.1.1.1) rfl rfl ?_
      refine sg_sipush (pc := 21) (z := 248) (dc_X2_upperOf_0.2.1.1.2) (by decide) ?_
      refine sg_sipush (pc := 24) (z := 254) (dc_X2_upperOf_0.2.1.2.1) (by decide) ?_
      refine sg_cS3 (pc := 27) (d' := d - 1) (mc' := 0) (ms' := 0) g (dc_X2_upperOf_0.2.1.2.2) cb_X2_isBetween ml_X2_9 ms_X2_isBetween (Nat.le_of_ble_eq_true rfl) (by first | exact jl_d0 hd rfl | omega) (by first | exact Nat.le_of_ble_eq_true rfl | omega) (by first | exact Nat.le_of_ble_eq_true rfl | omega) ?_
      refine s_X2_isBetween g (by first | exact jl_d1 hd rfl | omega) (fun z27 h27 b27 => sg_K1 ?_)
      (try simp only [fn_upper, fn_betw, fn_sp] at h27)
      refine sg_if_eq (pc := 30) (tgt := 38) (dc_X2_upperOf_0.2.2.1.1) (by decide) (fun c30 => ?_) (fun c30 => ?_)
      · refine sg_iload_n (pc := 38) (j := 0) (dc_X2_upperOf_37.1.1.1.2) rfl rfl ?_
        refine sg_sipush (pc := 39) (z := 181) (dc_X2_upperOf_37.1.1.2.1) (by decide) ?_
        refine sg_icmp_ne (pc := 42) (tgt := 49) (dc_X2_upperOf_37.1.1.2.2) (by decide) (fun c42 => ?_) (fun c42 => ?_)
        · refine sg_iload_n (pc := 49) (j := 0) (dc_X2_upperOf_37.1.2.2.1) rfl rfl ?_
          refine sg_sipush (pc := 50) (z := 255) (dc_X2_upperOf_37.1.2.2.2) (by decide) ?_
          refine sg_icmp_ne (pc := 53) (tgt := 62) (dc_X2_upperOf_37.2.1.1.1) (by decide) (fun c53 => ?_) (fun c53 => ?_)
          · refine sg_iload_n (pc := 62) (j := 0) (dc_X2_upperOf_37.2.1.2.2) rfl rfl ?_
            refine sg_iret (pc := 63) (dc_X2_upperOf_37.2.2.1.1) rfl (by first | exact Nat.le_of_ble_eq_true rfl | omega) (by first | exact Nat.le_of_ble_eq_true rfl | omega) ?_
            exact hQ _ (by (try simp only [fn_upper, fn_betw, fn_sp] at *) <;> first | omega | ((repeat' split) <;> omega) | grind)
          · refine sg_sipush (pc := 56) (z := 376) (dc_X2_upperOf_37.2.1.1.2) (by decide) ?_
            refine sg_goto (pc := 59) (tgt := 63) (dc_X2_upperOf_37.2.1.2.1) (by decide) ?_
            refine sg_iret (pc := 63) (dc_X2_upperOf_37.2.2.1.1) rfl (by first | exact Nat.le_of_ble_eq_true rfl | omega) (by first | exact Nat.le_of_ble_eq_true rfl | omega) ?_
            exact hQ _ (by (try simp only [fn_upper, fn_betw, fn_sp] at *) <;> first | omega | ((repeat' split) <;> omega) | grind)
        · refine sg_sipush (pc := 45) (z := 924) (dc_X2_upperOf_37.1.2.1.1) (by decide) ?_
          refine sg_iret (pc := 48) (dc_X2_upperOf_37.1.2.1.2) rfl (by first | exact Nat.le_of_ble_eq_true rfl | omega) (by first | exact Nat.le_of_ble_eq_true rfl | omega) ?_
          exact hQ _ (by (try simp only [fn_upper, fn_betw, fn_sp] at *) <;> first | omega | ((repeat' split) <;> omega) | grind)
      · refine sg_iload_n (pc := 33) (j := 0) (dc_X2_upperOf_0.2.2.1.2) rfl rfl ?_
        refine sg_bipush (pc := 34) (z := 32) (dc_X2_upperOf_0.2.2.2.1) (by decide) ?_
        first | refine sg_isubB (pc := 36) (dc_X2_upperOf_0.2.2.2.2) (by omega) (by omega) ?_ | refine sg_isub (pc := 36) (dc_X2_upperOf_0.2.2.2.2) ?_
        refine sg_iret (pc := 37) (dc_X2_upperOf_37.1.1.1.1) rfl (by first | exact Nat.le_of_ble_eq_true rfl | omega) (by first | exact Nat.le_of_ble_eq_true rfl | omega) ?_
        exact hQ _ (by (try simp only [fn_upper, fn_betw, fn_sp] at *) <;> first | omega | ((repeat' split) <;> omega) | grind)

set_option maxRecDepth 100000 in
theorem s_X2_lowerOf {w : sg_W} {Q : sg_O → sg_H → Prop} {h : sg_H} (g : sg_G w) {d : Nat} (hd : 3 ≤ d) {x : Int} (hQ : ∀ z, z = fn_lower x → Q (.inl (some (sg_i z))) h) : sg_C w mi_X2_lowerOf d 0 0 [sg_i x] h Q := by
  refine sg_of pn_X2 (Nat.le_of_ble_eq_true rfl) ?_
  refine sg_iload_n (pc := 0) (j := 0) (dc_X2_lowerOf_0.1.1.1.1) rfl rfl ?_
  refine sg_cS1 (pc := 1) (d' := d - 1) (mc' := 0) (ms' := 0) g (dc_X2_lowerOf_0.1.1.1.2) cb_X2_isAnyGreat ml_X2_22 ms_X2_isAnyGreat (Nat.le_of_ble_eq_true rfl) (by first | exact jl_d0 hd rfl | omega) (by first | exact Nat.le_of_ble_eq_true rfl | omega) (by first | exact Nat.le_of_ble_eq_true rfl | omega) ?_
  refine s_X2_isAnyGreat g (by first | exact jl_d1 hd rfl | omega) (fun z1 h1 b1 => sg_K1 ?_)
  (try simp only [fn_lower, fn_great] at h1)
  refine sg_if_eq (pc := 4) (tgt := 14) (dc_X2_lowerOf_0.1.1.2.1) (by decide) (fun c4 => ?_) (fun c4 => ?_)
  · refine sg_iload_n (pc := 14) (j := 0) (dc_X2_lowerOf_0.1.2.2.2) rfl rfl ?_
    refine sg_iret (pc := 15) (dc_X2_lowerOf_0.2.1.1.1) rfl (by first | exact Nat.le_of_ble_eq_true rfl | omega) (by first | exact Nat.le_of_ble_eq_true rfl | omega) ?_
    exact hQ _ (by (try simp only [fn_lower, fn_great] at *) <;> first | omega | ((repeat' split) <;> omega) | grind)
  · refine sg_iload_n (pc := 7) (j := 0) (dc_X2_lowerOf_0.1.1.2.2) rfl rfl ?_
    refine sg_bipush (pc := 8) (z := 32) (dc_X2_lowerOf_0.1.2.1.1) (by decide) ?_
    first | refine sg_iaddB (pc := 10) (dc_X2_lowerOf_0.1.2.1.2) (by omega) (by omega) ?_ | refine sg_iadd (pc := 10) (dc_X2_lowerOf_0.1.2.1.2) ?_
    refine sg_goto (pc := 11) (tgt := 15) (dc_X2_lowerOf_0.1.2.2.1) (by decide) ?_
    refine sg_iret (pc := 15) (dc_X2_lowerOf_0.2.1.1.1) rfl (by first | exact Nat.le_of_ble_eq_true rfl | omega) (by first | exact Nat.le_of_ble_eq_true rfl | omega) ?_
    exact hQ _ (by (try simp only [fn_lower, fn_great] at *) <;> first | omega | ((repeat' split) <;> omega) | grind)

set_option maxRecDepth 100000 in
theorem s_X2_plainValueOf {w : sg_W} {Q : sg_O → sg_H → Prop} {h : sg_H} (g : sg_G w) {d : Nat} (hd : 2 ≤ d) {x : Int} (hQ : ∀ z, z = fn_plain x → Q (.inl (some (sg_i z))) h) : sg_C w mi_X2_plainValueOf d 0 0 [sg_i x] h Q := by
  refine sg_of pn_X2 (Nat.le_of_ble_eq_true rfl) ?_
  refine sg_iload_n (pc := 0) (j := 0) (dc_X2_plainValueOf_0.1.1.1.1) rfl rfl ?_
  refine sg_cS1 (pc := 1) (d' := d - 1) (mc' := 0) (ms' := 0) g (dc_X2_plainValueOf_0.1.1.1.2) cb_X2_isPlainDigit ml_X2_15 ms_X2_isPlainDigit (Nat.le_of_ble_eq_true rfl) (by first | exact jl_d0 hd rfl | omega) (by first | exact Nat.le_of_ble_eq_true rfl | omega) (by first | exact Nat.le_of_ble_eq_true rfl | omega) ?_
  refine s_X2_isPlainDigit g (by first | exact jl_d1 hd rfl | omega) (fun z1 h1 b1 => sg_K1 ?_)
  (try simp only [fn_plain, fn_dig, fn_gp, fn_sp] at h1)
  refine sg_if_eq (pc := 4) (tgt := 12) (dc_X2_plainValueOf_0.1.1.2.1) (by decide) (fun c4 => ?_) (fun c4 => ?_)
  · refine sg_iload_n (pc := 12) (j := 0) (dc_X2_plainValueOf_0.1.2.2.2) rfl rfl ?_
    refine sg_cS1 (pc := 13) (d' := d - 1) (mc' := 0) (ms' := 0) g (dc_X2_plainValueOf_0.2.1.1.1) cb_X2_isGreatPlain ml_X2_56 ms_X2_isGreatPlain (Nat.le_of_ble_eq_true rfl) (by first | exact jl_d0 hd rfl | omega) (by first | exact Nat.le_of_ble_eq_true rfl | omega) (by first | exact Nat.le_of_ble_eq_true rfl | omega) ?_
    refine s_X2_isGreatPlain g (by first | exact jl_d1 hd rfl | omega) (fun z13 h13 b13 => sg_K1 ?_)
    (try simp only [fn_plain, fn_dig, fn_gp, fn_sp] at h13)
    refine sg_if_eq (pc := 16) (tgt := 24) (dc_X2_plainValueOf_0.2.1.1.2) (by decide) (fun c16 => ?_) (fun c16 => ?_)
    · refine sg_iload_n (pc := 24) (j := 0) (dc_X2_plainValueOf_0.2.2.2.1) rfl rfl ?_
      refine sg_cS1 (pc := 25) (d' := d - 1) (mc' := 0) (ms' := 0) g (dc_X2_plainValueOf_0.2.2.2.2) cb_X2_isSmallPlain ml_X2_29 ms_X2_isSmallPlain (Nat.le_of_ble_eq_true rfl) (by first | exact jl_d0 hd rfl | omega) (by first | exact Nat.le_of_ble_eq_true rfl | omega) (by first | exact Nat.le_of_ble_eq_true rfl | omega) ?_
      refine s_X2_isSmallPlain g (by first | exact jl_d1 hd rfl | omega) (fun z25 h25 b25 => sg_K1 ?_)
      (try simp only [fn_plain, fn_dig, fn_gp, fn_sp] at h25)
      refine sg_if_eq (pc := 28) (tgt := 38) (dc_X2_plainValueOf_28.1.1.1) (by decide) (fun c28 => ?_) (fun c28 => ?_)
      · refine sg_iconst (pc := 38) (z := -1) (dc_X2_plainValueOf_28.2.1.2) (by decide) ?_
        refine sg_iret (pc := 39) (dc_X2_plainValueOf_28.2.2.1) rfl (by first | exact Nat.le_of_ble_eq_true rfl | omega) (by first | exact Nat.le_of_ble_eq_true rfl | omega) ?_
        exact hQ _ (by (try simp only [fn_plain, fn_dig, fn_gp, fn_sp] at *) <;> first | omega | ((repeat' split) <;> omega) | grind)
      · refine sg_iload_n (pc := 31) (j := 0) (dc_X2_plainValueOf_28.1.1.2) rfl rfl ?_
        refine sg_bipush (pc := 32) (z := 87) (dc_X2_plainValueOf_28.1.2.1) (by decide) ?_
        first | refine sg_isubB (pc := 34) (dc_X2_plainValueOf_28.1.2.2) (by omega) (by omega) ?_ | refine sg_isub (pc := 34) (dc_X2_plainValueOf_28.1.2.2) ?_
        refine sg_goto (pc := 35) (tgt := 39) (dc_X2_plainValueOf_28.2.1.1) (by decide) ?_
        refine sg_iret (pc := 39) (dc_X2_plainValueOf_28.2.2.1) rfl (by first | exact Nat.le_of_ble_eq_true rfl | omega) (by first | exact Nat.le_of_ble_eq_true rfl | omega) ?_
        exact hQ _ (by (try simp only [fn_plain, fn_dig, fn_gp, fn_sp] at *) <;> first | omega | ((repeat' split) <;> omega) | grind)
    · refine sg_iload_n (pc := 19) (j := 0) (dc_X2_plainValueOf_0.2.1.2.1) rfl rfl ?_
      refine sg_bipush (pc := 20) (z := 55) (dc_X2_plainValueOf_0.2.1.2.2) (by decide) ?_
      first | refine sg_isubB (pc := 22) (dc_X2_plainValueOf_0.2.2.1.1) (by omega) (by omega) ?_ | refine sg_isub (pc := 22) (dc_X2_plainValueOf_0.2.2.1.1) ?_
      refine sg_iret (pc := 23) (dc_X2_plainValueOf_0.2.2.1.2) rfl (by first | exact Nat.le_of_ble_eq_true rfl | omega) (by first | exact Nat.le_of_ble_eq_true rfl | omega) ?_
      exact hQ _ (by (try simp only [fn_plain, fn_dig, fn_gp, fn_sp] at *) <;> first | omega | ((repeat' split) <;> omega) | grind)
  · refine sg_iload_n (pc := 7) (j := 0) (dc_X2_plainValueOf_0.1.1.2.2) rfl rfl ?_
    refine sg_bipush (pc := 8) (z := 48) (dc_X2_plainValueOf_0.1.2.1.1) (by decide) ?_
    first | refine sg_isubB (pc := 10) (dc_X2_plainValueOf_0.1.2.1.2) (by omega) (by omega) ?_ | refine sg_isub (pc := 10) (dc_X2_plainValueOf_0.1.2.1.2) ?_
    refine sg_iret (pc := 11) (dc_X2_plainValueOf_0.1.2.2.1) rfl (by first | exact Nat.le_of_ble_eq_true rfl | omega) (by first | exact Nat.le_of_ble_eq_true rfl | omega) ?_
    exact hQ _ (by (try simp only [fn_plain, fn_dig, fn_gp, fn_sp] at *) <;> first | omega | ((repeat' split) <;> omega) | grind)

set_option maxRecDepth 100000 in
theorem s_X2_numberOf {w : sg_W} {Q : sg_O → sg_H → Prop} {h : sg_H} (g : sg_G w) {d : Nat} (hd : 3 ≤ d) {x r : Int} (hQ : ∀ z, z = fn_num x r → Q (.inl (some (sg_i z))) h) : sg_C w mi_X2_numberOf d 0 0 [sg_i x, sg_i r] h Q := by
  refine sg_of pn_X2 (Nat.le_of_ble_eq_true rfl) ?_
  refine sg_iload_n (pc := 0) (j := 0) (dc_X2_numberOf_0.1.1.1.1) rfl rfl ?_
  refine sg_cS1 (pc := 1) (d' := d - 1) (mc' := 0) (ms' := 0) g (dc_X2_numberOf_0.1.1.1.2) cb_X2_plainValueOf ml_X2_32 ms_X2_plainValueOf (Nat.le_of_ble_eq_true rfl) (by first | exact jl_d0 hd rfl | omega) (by first | exact Nat.le_of_ble_eq_true rfl | omega) (by first | exact Nat.le_of_ble_eq_true rfl | omega) ?_
  refine s_X2_plainValueOf g (by first | exact jl_d1 hd rfl | omega) (fun z1 h1 => sg_K1 ?_)
  (try simp only [fn_num] at h1)
  refine sg_istore_n (pc := 4) (j := 2) (dc_X2_numberOf_0.1.1.2.1) rfl (by decide) ?_
  refine sg_iload_n (pc := 5) (j := 1) (dc_X2_numberOf_0.1.1.2.2) rfl rfl ?_
  refine sg_cS1 (pc := 6) (d' := d - 1) (mc' := 0) (ms' := 0) g (dc_X2_numberOf_0.1.2.1.1) cb_X2_isRadix ml_X2_36 ms_X2_isRadix (Nat.le_of_ble_eq_true rfl) (by first | exact jl_d0 hd rfl | omega) (by first | exact Nat.le_of_ble_eq_true rfl | omega) (by first | exact Nat.le_of_ble_eq_true rfl | omega) ?_
  refine s_X2_isRadix g (by first | exact jl_d1 hd rfl | omega) (fun z6 h6 b6 => sg_K1 ?_)
  (try simp only [fn_num] at h6)
  refine sg_if_eq (pc := 9) (tgt := 21) (dc_X2_numberOf_0.1.2.1.2) (by decide) (fun c9 => ?_) (fun c9 => ?_)
  · refine sg_iconst (pc := 21) (z := -1) (dc_X2_numberOf_0.2.1.2.2) (by decide) ?_
    refine sg_iret (pc := 22) (dc_X2_numberOf_0.2.2.1.1) rfl (by first | exact Nat.le_of_ble_eq_true rfl | omega) (by first | exact Nat.le_of_ble_eq_true rfl | omega) ?_
    exact hQ _ (by (try simp only [fn_num] at *) <;> first | omega | ((repeat' split) <;> omega) | grind)
  · refine sg_iload_n (pc := 12) (j := 2) (dc_X2_numberOf_0.1.2.2.1) rfl rfl ?_
    refine sg_iload_n (pc := 13) (j := 1) (dc_X2_numberOf_0.1.2.2.2) rfl rfl ?_
    refine sg_icmp_ge (pc := 14) (tgt := 21) (dc_X2_numberOf_0.2.1.1.1) (by decide) (fun c14 => ?_) (fun c14 => ?_)
    · refine sg_iconst (pc := 21) (z := -1) (dc_X2_numberOf_0.2.1.2.2) (by decide) ?_
      refine sg_iret (pc := 22) (dc_X2_numberOf_0.2.2.1.1) rfl (by first | exact Nat.le_of_ble_eq_true rfl | omega) (by first | exact Nat.le_of_ble_eq_true rfl | omega) ?_
      exact hQ _ (by (try simp only [fn_num] at *) <;> first | omega | ((repeat' split) <;> omega) | grind)
    · refine sg_iload_n (pc := 17) (j := 2) (dc_X2_numberOf_0.2.1.1.2) rfl rfl ?_
      refine sg_goto (pc := 18) (tgt := 22) (dc_X2_numberOf_0.2.1.2.1) (by decide) ?_
      refine sg_iret (pc := 22) (dc_X2_numberOf_0.2.2.1.1) rfl (by first | exact Nat.le_of_ble_eq_true rfl | omega) (by first | exact Nat.le_of_ble_eq_true rfl | omega) ?_
      exact hQ _ (by (try simp only [fn_num] at *) <;> first | omega | ((repeat' split) <;> omega) | grind)

set_option maxRecDepth 100000 in
theorem s_X2_digitOf {w : sg_W} {Q : sg_O → sg_H → Prop} {h : sg_H} (g : sg_G w) {d : Nat} (hd : 3 ≤ d) {x r : Int} (hQ : ∀ z, z = fn_digit x r → Q (.inl (some (sg_i z))) h) : sg_C w mi_X2_digitOf d 0 0 [sg_i x, sg_i r] h Q := by
  refine sg_of pn_X2 (Nat.le_of_ble_eq_true rfl) ?_
  refine sg_iload_n (pc := 0) (j := 1) (dc_X2_digitOf_0.1.1.1.1) rfl rfl ?_
  refine sg_cS1 (pc := 1) (d' := d - 1) (mc' := 0) (ms' := 0) g (dc_X2_digitOf_0.1.1.1.2) cb_X2_isRadix ml_X2_36 ms_X2_isRadix (Nat.le_of_ble_eq_true rfl) (by first | exact jl_d0 hd rfl | omega) (by first | exact Nat.le_of_ble_eq_true rfl | omega) (by first | exact Nat.le_of_ble_eq_true rfl | omega) ?_
  refine s_X2_isRadix g (by first | exact jl_d1 hd rfl | omega) (fun z1 h1 b1 => sg_K1 ?_)
  (try simp only [fn_digit, fn_radix] at h1)
  refine sg_if_eq (pc := 4) (tgt := 16) (dc_X2_digitOf_0.1.1.2.1) (by decide) (fun c4 => ?_) (fun c4 => ?_)
  · refine sg_iconst (pc := 16) (z := 0) (dc_X2_digitOf_0.2.1.1.1) (by decide) ?_
    refine sg_iret (pc := 17) (dc_X2_digitOf_0.2.1.1.2) rfl (by first | exact Nat.le_of_ble_eq_true rfl | omega) (by first | exact Nat.le_of_ble_eq_true rfl | omega) ?_
    exact hQ _ (by (try simp only [fn_digit, fn_radix] at *) <;> first | omega | ((repeat' split) <;> omega) | grind)
  · refine sg_iload_n (pc := 7) (j := 0) (dc_X2_digitOf_0.1.1.2.2) rfl rfl ?_
    refine sg_if_lt (pc := 8) (tgt := 16) (dc_X2_digitOf_0.1.2.1.1) (by decide) (fun c8 => ?_) (fun c8 => ?_)
    · refine sg_iconst (pc := 16) (z := 0) (dc_X2_digitOf_0.2.1.1.1) (by decide) ?_
      refine sg_iret (pc := 17) (dc_X2_digitOf_0.2.1.1.2) rfl (by first | exact Nat.le_of_ble_eq_true rfl | omega) (by first | exact Nat.le_of_ble_eq_true rfl | omega) ?_
      exact hQ _ (by (try simp only [fn_digit, fn_radix] at *) <;> first | omega | ((repeat' split) <;> omega) | grind)
    · refine sg_iload_n (pc := 11) (j := 0) (dc_X2_digitOf_0.1.2.1.2) rfl rfl ?_
      refine sg_iload_n (pc := 12) (j := 1) (dc_X2_digitOf_0.1.2.2.1) rfl rfl ?_
      refine sg_icmp_lt (pc := 13) (tgt := 18) (dc_X2_digitOf_0.1.2.2.2) (by decide) (fun c13 => ?_) (fun c13 => ?_)
      · refine sg_iload_n (pc := 18) (j := 0) (dc_X2_digitOf_0.2.1.2.1) rfl rfl ?_
        refine sg_bipush (pc := 19) (z := 10) (dc_X2_digitOf_0.2.1.2.2) (by decide) ?_
        refine sg_icmp_ge (pc := 21) (tgt := 31) (dc_X2_digitOf_0.2.2.1.1) (by decide) (fun c21 => ?_) (fun c21 => ?_)
        · refine sg_iload_n (pc := 31) (j := 0) (dc_X2_digitOf_28.1.1.2) rfl rfl ?_
          refine sg_bipush (pc := 32) (z := 87) (dc_X2_digitOf_28.1.2.1) (by decide) ?_
          first | refine sg_iaddB (pc := 34) (dc_X2_digitOf_28.1.2.2) (by omega) (by omega) ?_ | refine sg_iadd (pc := 34) (dc_X2_digitOf_28.1.2.2) ?_
          refine sg_iret (pc := 35) (dc_X2_digitOf_28.2.1.1) rfl (by first | exact Nat.le_of_ble_eq_true rfl | omega) (by first | exact Nat.le_of_ble_eq_true rfl | omega) ?_
          exact hQ _ (by (try simp only [fn_digit, fn_radix] at *) <;> first | omega | ((repeat' split) <;> omega) | grind)
        · refine sg_iload_n (pc := 24) (j := 0) (dc_X2_digitOf_0.2.2.1.2) rfl rfl ?_
          refine sg_bipush (pc := 25) (z := 48) (dc_X2_digitOf_0.2.2.2.1) (by decide) ?_
          first | refine sg_iaddB (pc := 27) (dc_X2_digitOf_0.2.2.2.2) (by omega) (by omega) ?_ | refine sg_iadd (pc := 27) (dc_X2_digitOf_0.2.2.2.2) ?_
          refine sg_goto (pc := 28) (tgt := 35) (dc_X2_digitOf_28.1.1.1) (by decide) ?_
          refine sg_iret (pc := 35) (dc_X2_digitOf_28.2.1.1) rfl (by first | exact Nat.le_of_ble_eq_true rfl | omega) (by first | exact Nat.le_of_ble_eq_true rfl | omega) ?_
          exact hQ _ (by (try simp only [fn_digit, fn_radix] at *) <;> first | omega | ((repeat' split) <;> omega) | grind)
      · refine sg_iconst (pc := 16) (z := 0) (dc_X2_digitOf_0.2.1.1.1) (by decide) ?_
        refine sg_iret (pc := 17) (dc_X2_digitOf_0.2.1.1.2) rfl (by first | exact Nat.le_of_ble_eq_true rfl | omega) (by first | exact Nat.le_of_ble_eq_true rfl | omega) ?_
        exact hQ _ (by (try simp only [fn_digit, fn_radix] at *) <;> first | omega | ((repeat' split) <;> omega) | grind)

set_option maxRecDepth 100000 in
theorem s_X4_isUnit {w : sg_W} {Q : sg_O → sg_H → Prop} {h : sg_H} (g : sg_G w) {d : Nat} (hd : 1 ≤ d) {x : Int} (hQ : ∀ z, z = fn_unit x → (z = 0 ∨ z = 1) → Q (.inl (some (sg_i z))) h) : sg_C w mi_X4_isUnit d 0 0 [sg_i x] h Q := by
  refine sg_of pn_X4 (Nat.le_of_ble_eq_true rfl) ?_
  refine sg_iload_n (pc := 0) (j := 0) (dc_X4_isUnit_0.1.1.1.1) rfl rfl ?_
  refine sg_if_lt (pc := 1) (tgt := 14) (dc_X4_isUnit_0.1.1.1.2) (by decide) (fun c1 => ?_) (fun c1 => ?_)
  · refine sg_iconst (pc := 14) (z := 0) (dc_X4_isUnit_0.1.2.2.2) (by decide) ?_
    refine sg_zret (pc := 15) (dc_X4_isUnit_0.2.1.1.1) rfl (by first | exact Or.inl rfl | exact Or.inr rfl | omega | assumption) (by first | exact Nat.le_of_ble_eq_true rfl | omega) (by first | exact Nat.le_of_ble_eq_true rfl | omega) ?_
    exact hQ _ (by (try simp only [fn_unit] at *) <;> first | omega | ((repeat' split) <;> omega) | grind) (by first | exact Or.inl rfl | exact Or.inr rfl | omega | assumption)
  · refine sg_iload_n (pc := 4) (j := 0) (dc_X4_isUnit_0.1.1.2.1) rfl rfl ?_
    refine sg_ldc (pc := 5) (z := 65536) g (dc_X4_isUnit_0.1.1.2.2) cn_X4_11 (by decide) ?_
    refine sg_icmp_ge (pc := 7) (tgt := 14) (dc_X4_isUnit_0.1.2.1.1) (by decide) (fun c7 => ?_) (fun c7 => ?_)
    · refine sg_iconst (pc := 14) (z := 0) (dc_X4_isUnit_0.1.2.2.2) (by decide) ?_
      refine sg_zret (pc := 15) (dc_X4_isUnit_0.2.1.1.1) rfl (by first | exact Or.inl rfl | exact Or.inr rfl | omega | assumption) (by first | exact Nat.le_of_ble_eq_true rfl | omega) (by first | exact Nat.le_of_ble_eq_true rfl | omega) ?_
      exact hQ _ (by (try simp only [fn_unit] at *) <;> first | omega | ((repeat' split) <;> omega) | grind) (by first | exact Or.inl rfl | exact Or.inr rfl | omega | assumption)
    · refine sg_iconst (pc := 10) (z := 1) (dc_X4_isUnit_0.1.2.1.2) (by decide) ?_
      refine sg_goto (pc := 11) (tgt := 15) (dc_X4_isUnit_0.1.2.2.1) (by decide) ?_
      refine sg_zret (pc := 15) (dc_X4_isUnit_0.2.1.1.1) rfl (by first | exact Or.inl rfl | exact Or.inr rfl | omega | assumption) (by first | exact Nat.le_of_ble_eq_true rfl | omega) (by first | exact Nat.le_of_ble_eq_true rfl | omega) ?_
      exact hQ _ (by (try simp only [fn_unit] at *) <;> first | omega | ((repeat' split) <;> omega) | grind) (by first | exact Or.inl rfl | exact Or.inr rfl | omega | assumption)

set_option maxRecDepth 100000 in
theorem s_X4_isHigh {w : sg_W} {Q : sg_O → sg_H → Prop} {h : sg_H} (g : sg_G w) {d : Nat} (hd : 1 ≤ d) {x : Int} (hQ : ∀ z, z = fn_high x → (z = 0 ∨ z = 1) → Q (.inl (some (sg_i z))) h) : sg_C w mi_X4_isHigh d 0 0 [sg_i x] h Q := by
  refine sg_of pn_X4 (Nat.le_of_ble_eq_true rfl) ?_
  refine sg_iload_n (pc := 0) (j := 0) (dc_X4_isHigh_0.1.1.1.1) rfl rfl ?_
  refine sg_ldc (pc := 1) (z := 55296) g (dc_X4_isHigh_0.1.1.1.2) cn_X4_12 (by decide) ?_
  refine sg_icmp_lt (pc := 3) (tgt := 16) (dc_X4_isHigh_0.1.1.2.1) (by decide) (fun c3 => ?_) (fun c3 => ?_)
  · refine sg_iconst (pc := 16) (z := 0) (dc_X4_isHigh_0.2.1.1.1) (by decide) ?_
    refine sg_zret (pc := 17) (dc_X4_isHigh_0.2.1.1.2) rfl (by first | exact Or.inl rfl | exact Or.inr rfl | omega | assumption) (by first | exact Nat.le_of_ble_eq_true rfl | omega) (by first | exact Nat.le_of_ble_eq_true rfl | omega) ?_
    exact hQ _ (by (try simp only [fn_high] at *) <;> first | omega | ((repeat' split) <;> omega) | grind) (by first | exact Or.inl rfl | exact Or.inr rfl | omega | assumption)
  · refine sg_iload_n (pc := 6) (j := 0) (dc_X4_isHigh_0.1.1.2.2) rfl rfl ?_
    refine sg_ldc (pc := 7) (z := 56320) g (dc_X4_isHigh_0.1.2.1.1) cn_X4_13 (by decide) ?_
    refine sg_icmp_ge (pc := 9) (tgt := 16) (dc_X4_isHigh_0.1.2.1.2) (by decide) (fun c9 => ?_) (fun c9 => ?_)
    · refine sg_iconst (pc := 16) (z := 0) (dc_X4_isHigh_0.2.1.1.1) (by decide) ?_
      refine sg_zret (pc := 17) (dc_X4_isHigh_0.2.1.1.2) rfl (by first | exact Or.inl rfl | exact Or.inr rfl | omega | assumption) (by first | exact Nat.le_of_ble_eq_true rfl | omega) (by first | exact Nat.le_of_ble_eq_true rfl | omega) ?_
      exact hQ _ (by (try simp only [fn_high] at *) <;> first | omega | ((repeat' split) <;> omega) | grind) (by first | exact Or.inl rfl | exact Or.inr rfl | omega | assumption)
    · refine sg_iconst (pc := 12) (z := 1) (dc_X4_isHigh_0.1.2.2.1) (by decide) ?_
      refine sg_goto (pc := 13) (tgt := 17) (dc_X4_isHigh_0.1.2.2.2) (by decide) ?_
      refine sg_zret (pc := 17) (dc_X4_isHigh_0.2.1.1.2) rfl (by first | exact Or.inl rfl | exact Or.inr rfl | omega | assumption) (by first | exact Nat.le_of_ble_eq_true rfl | omega) (by first | exact Nat.le_of_ble_eq_true rfl | omega) ?_
      exact hQ _ (by (try simp only [fn_high] at *) <;> first | omega | ((repeat' split) <;> omega) | grind) (by first | exact Or.inl rfl | exact Or.inr rfl | omega | assumption)

set_option maxRecDepth 100000 in
theorem s_X4_isLow {w : sg_W} {Q : sg_O → sg_H → Prop} {h : sg_H} (g : sg_G w) {d : Nat} (hd : 1 ≤ d) {x : Int} (hQ : ∀ z, z = fn_low x → (z = 0 ∨ z = 1) → Q (.inl (some (sg_i z))) h) : sg_C w mi_X4_isLow d 0 0 [sg_i x] h Q := by
  refine sg_of pn_X4 (Nat.le_of_ble_eq_true rfl) ?_
  refine sg_iload_n (pc := 0) (j := 0) (dc_X4_isLow_0.1.1.1.1) rfl rfl ?_
  refine sg_ldc (pc := 1) (z := 56320) g (dc_X4_isLow_0.1.1.1.2) cn_X4_13 (by decide) ?_
  refine sg_icmp_lt (pc := 3) (tgt := 16) (dc_X4_isLow_0.1.1.2.1) (by decide) (fun c3 => ?_) (fun c3 => ?_)
  · refine sg_iconst (pc := 16) (z := 0) (dc_X4_isLow_0.2.1.1.1) (by decide) ?_
    refine sg_zret (pc := 17) (dc_X4_isLow_0.2.1.1.2) rfl (by first | exact Or.inl rfl | exact Or.inr rfl | omega | assumption) (by first | exact Nat.le_of_ble_eq_true rfl | omega) (by first | exact Nat.le_of_ble_eq_true rfl | omega) ?_
    exact hQ _ (by (try simp only [fn_low] at *) <;> first | omega | ((repeat' split) <;> omega) | grind) (by first | exact Or.inl rfl | exact Or.inr rfl | omega | assumption)
  · refine sg_iload_n (pc := 6) (j := 0) (dc_X4_isLow_0.1.1.2.2) rfl rfl ?_
    refine sg_ldc (pc := 7) (z := 57344) g (dc_X4_isLow_0.1.2.1.1) cn_X4_14 (by decide) ?_
    refine sg_icmp_ge (pc := 9) (tgt := 16) (dc_X4_isLow_0.1.2.1.2) (by decide) (fun c9 => ?_) (fun c9 => ?_)
    · refine sg_iconst (pc := 16) (z := 0) (dc_X4_isLow_0.2.1.1.1) (by decide) ?_
      refine sg_zret (pc := 17) (dc_X4_isLow_0.2.1.1.2) rfl (by first | exact Or.inl rfl | exact Or.inr rfl | omega | assumption) (by first | exact Nat.le_of_ble_eq_true rfl | omega) (by first | exact Nat.le_of_ble_eq_true rfl | omega) ?_
      exact hQ _ (by (try simp only [fn_low] at *) <;> first | omega | ((repeat' split) <;> omega) | grind) (by first | exact Or.inl rfl | exact Or.inr rfl | omega | assumption)
    · refine sg_iconst (pc := 12) (z := 1) (dc_X4_isLow_0.1.2.2.1) (by decide) ?_
      refine sg_goto (pc := 13) (tgt := 17) (dc_X4_isLow_0.1.2.2.2) (by decide) ?_
      refine sg_zret (pc := 17) (dc_X4_isLow_0.2.1.1.2) rfl (by first | exact Or.inl rfl | exact Or.inr rfl | omega | assumption) (by first | exact Nat.le_of_ble_eq_true rfl | omega) (by first | exact Nat.le_of_ble_eq_true rfl | omega) ?_
      exact hQ _ (by (try simp only [fn_low] at *) <;> first | omega | ((repeat' split) <;> omega) | grind) (by first | exact Or.inl rfl | exact Or.inr rfl | omega | assumption)

set_option maxRecDepth 100000 in
theorem s_X4_isHalf {w : sg_W} {Q : sg_O → sg_H → Prop} {h : sg_H} (g : sg_G w) {d : Nat} (hd : 2 ≤ d) {x : Int} (hQ : ∀ z, z = fn_half x → (z = 0 ∨ z = 1) → Q (.inl (some (sg_i z))) h) : sg_C w mi_X4_isHalf d 0 0 [sg_i x] h Q := by
  refine sg_of pn_X4 (Nat.le_of_ble_eq_true rfl) ?_
  refine sg_iload_n (pc := 0) (j := 0) (dc_X4_isHalf_0.1.1.1.1) rfl rfl ?_
  refine sg_cS1 (pc := 1) (d' := d - 1) (mc' := 0) (ms' := 0) g (dc_X4_isHalf_0.1.1.1.2) cb_X4_isHigh ml_X4_15 ms_X4_isHigh (Nat.le_of_ble_eq_true rfl) (by first | exact jl_d0 hd rfl | omega) (by first | exact Nat.le_of_ble_eq_true rfl | omega) (by first | exact Nat.le_of_ble_eq_true rfl | omega) ?_
  refine s_X4_isHigh g (by first | exact jl_d1 hd rfl | omega) (fun z1 h1 b1 => sg_K1 ?_)
  (try simp only [fn_half, fn_high, fn_low] at h1)
  refine sg_if_ne (pc := 4) (tgt := 14) (dc_X4_isHalf_0.1.1.2.1) (by decide) (fun c4 => ?_) (fun c4 => ?_)
  · refine sg_iconst (pc := 14) (z := 1) (dc_X4_isHalf_0.1.2.2.1) (by decide) ?_
    refine sg_goto (pc := 15) (tgt := 19) (dc_X4_isHalf_0.1.2.2.2) (by decide) ?_
    refine sg_zret (pc := 19) (dc_X4_isHalf_0.2.1.1.2) rfl (by first | exact Or.inl rfl | exact Or.inr rfl | omega | assumption) (by first | exact Nat.le_of_ble_eq_true rfl | omega) (by first | exact Nat.le_of_ble_eq_true rfl | omega) ?_
    exact hQ _ (by (try simp only [fn_half, fn_high, fn_low] at *) <;> first | omega | ((repeat' split) <;> omega) | grind) (by first | exact Or.inl rfl | exact Or.inr rfl | omega | assumption)
  · refine sg_iload_n (pc := 7) (j := 0) (dc_X4_isHalf_0.1.1.2.2) rfl rfl ?_
    refine sg_cS1 (pc := 8) (d' := d - 1) (mc' := 0) (ms' := 0) g (dc_X4_isHalf_0.1.2.1.1) cb_X4_isLow ml_X4_19 ms_X4_isLow (Nat.le_of_ble_eq_true rfl) (by first | exact jl_d0 hd rfl | omega) (by first | exact Nat.le_of_ble_eq_true rfl | omega) (by first | exact Nat.le_of_ble_eq_true rfl | omega) ?_
    refine s_X4_isLow g (by first | exact jl_d1 hd rfl | omega) (fun z8 h8 b8 => sg_K1 ?_)
    (try simp only [fn_half, fn_high, fn_low] at h8)
    refine sg_if_eq (pc := 11) (tgt := 18) (dc_X4_isHalf_0.1.2.1.2) (by decide) (fun c11 => ?_) (fun c11 => ?_)
    · refine sg_iconst (pc := 18) (z := 0) (dc_X4_isHalf_0.2.1.1.1) (by decide) ?_
      refine sg_zret (pc := 19) (dc_X4_isHalf_0.2.1.1.2) rfl (by first | exact Or.inl rfl | exact Or.inr rfl | omega | assumption) (by first | exact Nat.le_of_ble_eq_true rfl | omega) (by first | exact Nat.le_of_ble_eq_true rfl | omega) ?_
      exact hQ _ (by (try simp only [fn_half, fn_high, fn_low] at *) <;> first | omega | ((repeat' split) <;> omega) | grind) (by first | exact Or.inl rfl | exact Or.inr rfl | omega | assumption)
    · refine sg_iconst (pc := 14) (z := 1) (dc_X4_isHalf_0.1.2.2.1) (by decide) ?_
      refine sg_goto (pc := 15) (tgt := 19) (dc_X4_isHalf_0.1.2.2.2) (by decide) ?_
      refine sg_zret (pc := 19) (dc_X4_isHalf_0.2.1.1.2) rfl (by first | exact Or.inl rfl | exact Or.inr rfl | omega | assumption) (by first | exact Nat.le_of_ble_eq_true rfl | omega) (by first | exact Nat.le_of_ble_eq_true rfl | omega) ?_
      exact hQ _ (by (try simp only [fn_half, fn_high, fn_low] at *) <;> first | omega | ((repeat' split) <;> omega) | grind) (by first | exact Or.inl rfl | exact Or.inr rfl | omega | assumption)

set_option maxRecDepth 100000 in
theorem s_X4_isAnyCode {w : sg_W} {Q : sg_O → sg_H → Prop} {h : sg_H} (g : sg_G w) {d : Nat} (hd : 1 ≤ d) {x : Int} (hQ : ∀ z, z = fn_code x → (z = 0 ∨ z = 1) → Q (.inl (some (sg_i z))) h) : sg_C w mi_X4_isAnyCode d 0 0 [sg_i x] h Q := by
  refine sg_of pn_X4 (Nat.le_of_ble_eq_true rfl) ?_
  refine sg_iload_n (pc := 0) (j := 0) (dc_X4_isAnyCode_0.1.1.1.1) rfl rfl ?_
  refine sg_if_lt (pc := 1) (tgt := 14) (dc_X4_isAnyCode_0.1.1.1.2) (by decide) (fun c1 => ?_) (fun c1 => ?_)
  · refine sg_iconst (pc := 14) (z := 0) (dc_X4_isAnyCode_0.1.2.2.2) (by decide) ?_
    refine sg_zret (pc := 15) (dc_X4_isAnyCode_0.2.1.1.1) rfl (by first | exact Or.inl rfl | exact Or.inr rfl | omega | assumption) (by first | exact Nat.le_of_ble_eq_true rfl | omega) (by first | exact Nat.le_of_ble_eq_true rfl | omega) ?_
    exact hQ _ (by (try simp only [fn_code] at *) <;> first | omega | ((repeat' split) <;> omega) | grind) (by first | exact Or.inl rfl | exact Or.inr rfl | omega | assumption)
  · refine sg_iload_n (pc := 4) (j := 0) (dc_X4_isAnyCode_0.1.1.2.1) rfl rfl ?_
    refine sg_ldc (pc := 5) (z := 1114111) g (dc_X4_isAnyCode_0.1.1.2.2) cn_X4_22 (by decide) ?_
    refine sg_icmp_gt (pc := 7) (tgt := 14) (dc_X4_isAnyCode_0.1.2.1.1) (by decide) (fun c7 => ?_) (fun c7 => ?_)
    · refine sg_iconst (pc := 14) (z := 0) (dc_X4_isAnyCode_0.1.2.2.2) (by decide) ?_
      refine sg_zret (pc := 15) (dc_X4_isAnyCode_0.2.1.1.1) rfl (by first | exact Or.inl rfl | exact Or.inr rfl | omega | assumption) (by first | exact Nat.le_of_ble_eq_true rfl | omega) (by first | exact Nat.le_of_ble_eq_true rfl | omega) ?_
      exact hQ _ (by (try simp only [fn_code] at *) <;> first | omega | ((repeat' split) <;> omega) | grind) (by first | exact Or.inl rfl | exact Or.inr rfl | omega | assumption)
    · refine sg_iconst (pc := 10) (z := 1) (dc_X4_isAnyCode_0.1.2.1.2) (by decide) ?_
      refine sg_goto (pc := 11) (tgt := 15) (dc_X4_isAnyCode_0.1.2.2.1) (by decide) ?_
      refine sg_zret (pc := 15) (dc_X4_isAnyCode_0.2.1.1.1) rfl (by first | exact Or.inl rfl | exact Or.inr rfl | omega | assumption) (by first | exact Nat.le_of_ble_eq_true rfl | omega) (by first | exact Nat.le_of_ble_eq_true rfl | omega) ?_
      exact hQ _ (by (try simp only [fn_code] at *) <;> first | omega | ((repeat' split) <;> omega) | grind) (by first | exact Or.inl rfl | exact Or.inr rfl | omega | assumption)

set_option maxRecDepth 100000 in
theorem s_X4_isWideCode {w : sg_W} {Q : sg_O → sg_H → Prop} {h : sg_H} (g : sg_G w) {d : Nat} (hd : 1 ≤ d) {x : Int} (hQ : ∀ z, z = fn_wide x → (z = 0 ∨ z = 1) → Q (.inl (some (sg_i z))) h) : sg_C w mi_X4_isWideCode d 0 0 [sg_i x] h Q := by
  refine sg_of pn_X4 (Nat.le_of_ble_eq_true rfl) ?_
  refine sg_iload_n (pc := 0) (j := 0) (dc_X4_isWideCode_0.1.1.1.1) rfl rfl ?_
  refine sg_ldc (pc := 1) (z := 65536) g (dc_X4_isWideCode_0.1.1.1.2) cn_X4_11 (by decide) ?_
  refine sg_icmp_lt (pc := 3) (tgt := 16) (dc_X4_isWideCode_0.1.1.2.1) (by decide) (fun c3 => ?_) (fun c3 => ?_)
  · refine sg_iconst (pc := 16) (z := 0) (dc_X4_isWideCode_0.2.1.1.1) (by decide) ?_
    refine sg_zret (pc := 17) (dc_X4_isWideCode_0.2.1.1.2) rfl (by first | exact Or.inl rfl | exact Or.inr rfl | omega | assumption) (by first | exact Nat.le_of_ble_eq_true rfl | omega) (by first | exact Nat.le_of_ble_eq_true rfl | omega) ?_
    exact hQ _ (by (try simp only [fn_wide] at *) <;> first | omega | ((repeat' split) <;> omega) | grind) (by first | exact Or.inl rfl | exact Or.inr rfl | omega | assumption)
  · refine sg_iload_n (pc := 6) (j := 0) (dc_X4_isWideCode_0.1.1.2.2) rfl rfl ?_
    refine sg_ldc (pc := 7) (z := 1114111) g (dc_X4_isWideCode_0.1.2.1.1) cn_X4_22 (by decide) ?_
    refine sg_icmp_gt (pc := 9) (tgt := 16) (dc_X4_isWideCode_0.1.2.1.2) (by decide) (fun c9 => ?_) (fun c9 => ?_)
    · refine sg_iconst (pc := 16) (z := 0) (dc_X4_isWideCode_0.2.1.1.1) (by decide) ?_
      refine sg_zret (pc := 17) (dc_X4_isWideCode_0.2.1.1.2) rfl (by first | exact Or.inl rfl | exact Or.inr rfl | omega | assumption) (by first | exact Nat.le_of_ble_eq_true rfl | omega) (by first | exact Nat.le_of_ble_eq_true rfl | omega) ?_
      exact hQ _ (by (try simp only [fn_wide] at *) <;> first | omega | ((repeat' split) <;> omega) | grind) (by first | exact Or.inl rfl | exact Or.inr rfl | omega | assumption)
    · refine sg_iconst (pc := 12) (z := 1) (dc_X4_isWideCode_0.1.2.2.1) (by decide) ?_
      refine sg_goto (pc := 13) (tgt := 17) (dc_X4_isWideCode_0.1.2.2.2) (by decide) ?_
      refine sg_zret (pc := 17) (dc_X4_isWideCode_0.2.1.1.2) rfl (by first | exact Or.inl rfl | exact Or.inr rfl | omega | assumption) (by first | exact Nat.le_of_ble_eq_true rfl | omega) (by first | exact Nat.le_of_ble_eq_true rfl | omega) ?_
      exact hQ _ (by (try simp only [fn_wide] at *) <;> first | omega | ((repeat' split) <;> omega) | grind) (by first | exact Or.inl rfl | exact Or.inr rfl | omega | assumption)

set_option maxRecDepth 100000 in
theorem s_X4_unitsOf {w : sg_W} {Q : sg_O → sg_H → Prop} {h : sg_H} (g : sg_G w) {d : Nat} (hd : 1 ≤ d) {x : Int} (hQ : ∀ z, z = fn_units x → Q (.inl (some (sg_i z))) h) : sg_C w mi_X4_unitsOf d 0 0 [sg_i x] h Q := by
  refine sg_of pn_X4 (Nat.le_of_ble_eq_true rfl) ?_
  refine sg_iload_n (pc := 0) (j := 0) (dc_X4_unitsOf_0.1.1.1) rfl rfl ?_
  refine sg_ldc (pc := 1) (z := 65536) g (dc_X4_unitsOf_0.1.1.2) cn_X4_11 (by decide) ?_
  refine sg_icmp_lt (pc := 3) (tgt := 10) (dc_X4_unitsOf_0.1.2.1) (by decide) (fun c3 => ?_) (fun c3 => ?_)
  · refine sg_iconst (pc := 10) (z := 1) (dc_X4_unitsOf_0.2.1.2) (by decide) ?_
    refine sg_iret (pc := 11) (dc_X4_unitsOf_0.2.2.1) rfl (by first | exact Nat.le_of_ble_eq_true rfl | omega) (by first | exact Nat.le_of_ble_eq_true rfl | omega) ?_
    exact hQ _ (by (try simp only [fn_units] at *) <;> first | omega | ((repeat' split) <;> omega) | grind)
  · refine sg_iconst (pc := 6) (z := 2) (dc_X4_unitsOf_0.1.2.2) (by decide) ?_
    refine sg_goto (pc := 7) (tgt := 11) (dc_X4_unitsOf_0.2.1.1) (by decide) ?_
    refine sg_iret (pc := 11) (dc_X4_unitsOf_0.2.2.1) rfl (by first | exact Nat.le_of_ble_eq_true rfl | omega) (by first | exact Nat.le_of_ble_eq_true rfl | omega) ?_
    exact hQ _ (by (try simp only [fn_units] at *) <;> first | omega | ((repeat' split) <;> omega) | grind)

