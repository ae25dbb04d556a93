set_option maxRecDepth 100000 in
theorem s_X5_isDigit {w : sg_W} {Q : sg_O → sg_H → Prop} {h : sg_H} (g : sg_G w) {d : Nat} (hd : 14 ≤ d) {B : Nat} {x : Int} (hQ : ∀ v : Int, ¬ (x < 0 ∨ 255 < x) → (v = fn_isOf x 0 ∧ (v = 0 ∨ v = 1)) → Q (.inl (some (sg_i v))) h) (hX : (x < 0 ∨ 255 < x) → ∀ z, h.1 ≤ z → Q (.inr e_A) (z, h.2)) : sg_C w mi_X5_isDigit d 8 48 [sg_r B, sg_i x] h Q := by
  refine sg_of pn_X5 (Nat.le_of_ble_eq_true rfl) ?_
  refine sg_iload_n (pc := 0) (j := 1) (dc_X5_isDigit_0.1.1.1) rfl rfl ?_
  refine sg_cS1 (pc := 1) (d' := d - 1) (mc' := 1) (ms' := 6) g (dc_X5_isDigit_0.1.1.2) cb_X5_checkSign ml_X5_189 ms_X5_checkSign (Nat.le_of_ble_eq_true rfl) (by first | exact jl_d0 hd rfl | omega) (by first | exact Nat.le_of_ble_eq_true rfl | omega) (by first | exact Nat.le_of_ble_eq_true rfl | omega) ?_
  refine s_X5_checkSign g (by first | exact jl_d1 hd rfl | omega) (fun v1 => sg_K0 ?_) (fun v1 z1 w1 => sg_KX (by first | exact Nat.le_of_ble_eq_true rfl | omega) (by first | exact Nat.le_of_ble_eq_true rfl | omega) (hX (by omega) z1 w1))
  refine sg_iload_n (pc := 4) (j := 1) (dc_X5_isDigit_0.1.2.1) rfl rfl ?_
  refine sg_iconst (pc := 5) (z := 0) (dc_X5_isDigit_0.1.2.2) (by decide) ?_
  refine sg_cS2 (pc := 6) (d' := d - 1) (mc' := 0) (ms' := 0) g (dc_X5_isDigit_0.2.1.1) cb_X2_isOf ml_X5_96 ms_X2_isOf (Nat.le_of_ble_eq_true rfl) (by first | exact jl_d0 hd rfl | omega) (by first | exact Nat.le_of_ble_eq_true rfl | omega) (by first | exact Nat.le_of_ble_eq_true rfl | omega) ?_
  refine s_X2_isOf g (by first | exact jl_d1 hd rfl | omega) (fun z6 h6 b6 => sg_K1 ?_)
  refine sg_zret (pc := 9) (dc_X5_isDigit_0.2.1.2) rfl (by first | exact Or.inl rfl | exact Or.inr rfl | omega | assumption) (by first | exact Nat.le_of_ble_eq_true rfl | omega) (by first | exact Nat.le_of_ble_eq_true rfl | omega) ?_
  exact hQ _ (by omega) ⟨by assumption, by assumption⟩

set_option maxRecDepth 100000 in
theorem s_X5_isLetter {w : sg_W} {Q : sg_O → sg_H → Prop} {h : sg_H} (g : sg_G w) {d : Nat} (hd : 14 ≤ d) {B : Nat} {x : Int} (hQ : ∀ v : Int, ¬ (x < 0 ∨ 255 < x) → (v = fn_isOf x 1 ∧ (v = 0 ∨ v = 1)) → Q (.inl (some (sg_i v))) h) (hX : (x < 0 ∨ 255 < x) → ∀ z, h.1 ≤ z → Q (.inr e_A) (z, h.2)) : sg_C w mi_X5_isLetter d 8 48 [sg_r B, sg_i x] h Q := by
  refine sg_of pn_X5 (Nat.le_of_ble_eq_true rfl) ?_
  refine sg_iload_n (pc := 0) (j := 1) (dc_X5_isLetter_0.1.1.1) rfl rfl ?_
  refine sg_cS1 (pc := 1) (d' := d - 1) (mc' := 1) (ms' := 6) g (dc_X5_isLetter_0.1.1.2) cb_X5_checkSign ml_X5_189 ms_X5_checkSign (Nat.le_of_ble_eq_true rfl) (by first | exact jl_d0 hd rfl | omega) (by first | exact Nat.le_of_ble_eq_true rfl | omega) (by first | exact Nat.le_of_ble_eq_true rfl | omega) ?_
  refine s_X5_checkSign g (by first | exact jl_d1 hd rfl | omega) (fun v1 => sg_K0 ?_) (fun v1 z1 w1 => sg_KX (by first | exact Nat.le_of_ble_eq_true rfl | omega) (by first | exact Nat.le_of_ble_eq_true rfl | omega) (hX (by omega) z1 w1))
  refine sg_iload_n (pc := 4) (j := 1) (dc_X5_isLetter_0.1.2.1) rfl rfl ?_
  refine sg_iconst (pc := 5) (z := 1) (dc_X5_isLetter_0.1.2.2) (by decide) ?_
  refine sg_cS2 (pc := 6) (d' := d - 1) (mc' := 0) (ms' := 0) g (dc_X5_isLetter_0.2.1.1) cb_X2_isOf ml_X5_96 ms_X2_isOf (Nat.le_of_ble_eq_true rfl) (by first | exact jl_d0 hd rfl | omega) (by first | exact Nat.le_of_ble_eq_true rfl | omega) (by first | exact Nat.le_of_ble_eq_true rfl | omega) ?_
  refine s_X2_isOf g (by first | exact jl_d1 hd rfl | omega) (fun z6 h6 b6 => sg_K1 ?_)
  refine sg_zret (pc := 9) (dc_X5_isLetter_0.2.1.2) rfl (by first | exact Or.inl rfl | exact Or.inr rfl | omega | assumption) (by first | exact Nat.le_of_ble_eq_true rfl | omega) (by first | exact Nat.le_of_ble_eq_true rfl | omega) ?_
  exact hQ _ (by omega) ⟨by assumption, by assumption⟩

set_option maxRecDepth 100000 in
theorem s_X5_isLetterOrDigit {w : sg_W} {Q : sg_O → sg_H → Prop} {h : sg_H} (g : sg_G w) {d : Nat} (hd : 14 ≤ d) {B : Nat} {x : Int} (hQ : ∀ v : Int, ¬ (x < 0 ∨ 255 < x) → (v = fn_isOf x 2 ∧ (v = 0 ∨ v = 1)) → Q (.inl (some (sg_i v))) h) (hX : (x < 0 ∨ 255 < x) → ∀ z, h.1 ≤ z → Q (.inr e_A) (z, h.2)) : sg_C w mi_X5_isLetterOrDigit d 8 48 [sg_r B, sg_i x] h Q := by
  refine sg_of pn_X5 (Nat.le_of_ble_eq_true rfl) ?_
  refine sg_iload_n (pc := 0) (j := 1) (dc_X5_isLetterOrDigit_0.1.1.1) rfl rfl ?_
  refine sg_cS1 (pc := 1) (d' := d - 1) (mc' := 1) (ms' := 6) g (dc_X5_isLetterOrDigit_0.1.1.2) cb_X5_checkSign ml_X5_189 ms_X5_checkSign (Nat.le_of_ble_eq_true rfl) (by first | exact jl_d0 hd rfl | omega) (by first | exact Nat.le_of_ble_eq_true rfl | omega) (by first | exact Nat.le_of_ble_eq_true rfl | omega) ?_
  refine s_X5_checkSign g (by first | exact jl_d1 hd rfl | omega) (fun v1 => sg_K0 ?_) (fun v1 z1 w1 => sg_KX (by first | exact Nat.le_of_ble_eq_true rfl | omega) (by first | exact Nat.le_of_ble_eq_true rfl | omega) (hX (by omega) z1 w1))
  refine sg_iload_n (pc := 4) (j := 1) (dc_X5_isLetterOrDigit_0.1.2.1) rfl rfl ?_
  refine sg_iconst (pc := 5) (z := 2) (dc_X5_isLetterOrDigit_0.1.2.2) (by decide) ?_
  refine sg_cS2 (pc := 6) (d' := d - 1) (mc' := 0) (ms' := 0) g (dc_X5_isLetterOrDigit_0.2.1.1) cb_X2_isOf ml_X5_96 ms_X2_isOf (Nat.le_of_ble_eq_true rfl) (by first | exact jl_d0 hd rfl | omega) (by first | exact Nat.le_of_ble_eq_true rfl | omega) (by first | exact Nat.le_of_ble_eq_true rfl | omega) ?_
  refine s_X2_isOf g (by first | exact jl_d1 hd rfl | omega) (fun z6 h6 b6 => sg_K1 ?_)
  refine sg_zret (pc := 9) (dc_X5_isLetterOrDigit_0.2.1.2) rfl (by first | exact Or.inl rfl | exact Or.inr rfl | omega | assumption) (by first | exact Nat.le_of_ble_eq_true rfl | omega) (by first | exact Nat.le_of_ble_eq_true rfl | omega) ?_
  exact hQ _ (by omega) ⟨by assumption, by assumption⟩

set_option maxRecDepth 100000 in
theorem s_X5_isWhite {w : sg_W} {Q : sg_O → sg_H → Prop} {h : sg_H} (g : sg_G w) {d : Nat} (hd : 14 ≤ d) {B : Nat} {x : Int} (hQ : ∀ v : Int, ¬ (x < 0 ∨ 255 < x) → (v = fn_isOf x 3 ∧ (v = 0 ∨ v = 1)) → Q (.inl (some (sg_i v))) h) (hX : (x < 0 ∨ 255 < x) → ∀ z, h.1 ≤ z → Q (.inr e_A) (z, h.2)) : sg_C w mi_X5_isWhite d 8 48 [sg_r B, sg_i x] h Q := by
  refine sg_of pn_X5 (Nat.le_of_ble_eq_true rfl) ?_
  refine sg_iload_n (pc := 0) (j := 1) (dc_X5_isWhite_0.1.1.1) rfl rfl ?_
  refine sg_cS1 (pc := 1) (d' := d - 1) (mc' := 1) (ms' := 6) g (dc_X5_isWhite_0.1.1.2) cb_X5_checkSign ml_X5_189 ms_X5_checkSign (Nat.le_of_ble_eq_true rfl) (by first | exact jl_d0 hd rfl | omega) (by first | exact Nat.le_of_ble_eq_true rfl | omega) (by first | exact Nat.le_of_ble_eq_true rfl | omega) ?_
  refine s_X5_checkSign g (by first | exact jl_d1 hd rfl | omega) (fun v1 => sg_K0 ?_) (fun v1 z1 w1 => sg_KX (by first | exact Nat.le_of_ble_eq_true rfl | omega) (by first | exact Nat.le_of_ble_eq_true rfl | omega) (hX (by omega) z1 w1))
  refine sg_iload_n (pc := 4) (j := 1) (dc_X5_isWhite_0.1.2.1) rfl rfl ?_
  refine sg_iconst (pc := 5) (z := 3) (dc_X5_isWhite_0.1.2.2) (by decide) ?_
  refine sg_cS2 (pc := 6) (d' := d - 1) (mc' := 0) (ms' := 0) g (dc_X5_isWhite_0.2.1.1) cb_X2_isOf ml_X5_96 ms_X2_isOf (Nat.le_of_ble_eq_true rfl) (by first | exact jl_d0 hd rfl | omega) (by first | exact Nat.le_of_ble_eq_true rfl | omega) (by first | exact Nat.le_of_ble_eq_true rfl | omega) ?_
  refine s_X2_isOf g (by first | exact jl_d1 hd rfl | omega) (fun z6 h6 b6 => sg_K1 ?_)
  refine sg_zret (pc := 9) (dc_X5_isWhite_0.2.1.2) rfl (by first | exact Or.inl rfl | exact Or.inr rfl | omega | assumption) (by first | exact Nat.le_of_ble_eq_true rfl | omega) (by first | exact Nat.le_of_ble_eq_true rfl | omega) ?_
  exact hQ _ (by omega) ⟨by assumption, by assumption⟩

set_option maxRecDepth 100000 in
theorem s_X5_isGreat {w : sg_W} {Q : sg_O → sg_H → Prop} {h : sg_H} (g : sg_G w) {d : Nat} (hd : 14 ≤ d) {B : Nat} {x : Int} (hQ : ∀ v : Int, ¬ (x < 0 ∨ 255 < x) → (v = fn_isOf x 4 ∧ (v = 0 ∨ v = 1)) → Q (.inl (some (sg_i v))) h) (hX : (x < 0 ∨ 255 < x) → ∀ z, h.1 ≤ z → Q (.inr e_A) (z, h.2)) : sg_C w mi_X5_isGreat d 8 48 [sg_r B, sg_i x] h Q := by
  refine sg_of pn_X5 (Nat.le_of_ble_eq_true rfl) ?_
  refine sg_iload_n (pc := 0) (j := 1) (dc_X5_isGreat_0.1.1.1) rfl rfl ?_
  refine sg_cS1 (pc := 1) (d' := d - 1) (mc' := 1) (ms' := 6) g (dc_X5_isGreat_0.1.1.2) cb_X5_checkSign ml_X5_189 ms_X5_checkSign (Nat.le_of_ble_eq_true rfl) (by first | exact jl_d0 hd rfl | omega) (by first | exact Nat.le_of_ble_eq_true rfl | omega) (by first | exact Nat.le_of_ble_eq_true rfl | omega) ?_
  refine s_X5_checkSign g (by first | exact jl_d1 hd rfl | omega) (fun v1 => sg_K0 ?_) (fun v1 z1 w1 => sg_KX (by first | exact Nat.le_of_ble_eq_true rfl | omega) (by first | exact Nat.le_of_ble_eq_true rfl | omega) (hX (by omega) z1 w1))
  refine sg_iload_n (pc := 4) (j := 1) (dc_X5_isGreat_0.1.2.1) rfl rfl ?_
  refine sg_iconst (pc := 5) (z := 4) (dc_X5_isGreat_0.1.2.2) (by decide) ?_
  refine sg_cS2 (pc := 6) (d' := d - 1) (mc' := 0) (ms' := 0) g (dc_X5_isGreat_0.2.1.1) cb_X2_isOf ml_X5_96 ms_X2_isOf (Nat.le_of_ble_eq_true rfl) (by first | exact jl_d0 hd rfl | omega) (by first | exact Nat.le_of_ble_eq_true rfl | omega) (by first | exact Nat.le_of_ble_eq_true rfl | omega) ?_
  refine s_X2_isOf g (by first | exact jl_d1 hd rfl | omega) (fun z6 h6 b6 => sg_K1 ?_)
  refine sg_zret (pc := 9) (dc_X5_isGreat_0.2.1.2) rfl (by first | exact Or.inl rfl | exact Or.inr rfl | omega | assumption) (by first | exact Nat.le_of_ble_eq_true rfl | omega) (by first | exact Nat.le_of_ble_eq_true rfl | omega) ?_
  exact hQ _ (by omega) ⟨by assumption, by assumption⟩

set_option maxRecDepth 100000 in
theorem s_X5_kinds {w : sg_W} {Q : sg_O → sg_H → Prop} {h : sg_H} (g : sg_G w) {d : Nat} (hd : 14 ≤ d) {B : Nat} {x : Int} (hQ : ∀ v : Int, ¬ (x < 0 ∨ 255 < x) → v = fn_kinds x → Q (.inl (some (sg_i v))) h) (hX : (x < 0 ∨ 255 < x) → ∀ z, h.1 ≤ z → Q (.inr e_A) (z, h.2)) : sg_C w mi_X5_kinds d 8 48 [sg_r B, sg_i x] h Q := by
  refine sg_of pn_X5 (Nat.le_of_ble_eq_true rfl) ?_
  refine sg_iload_n (pc := 0) (j := 1) (dc_X5_kinds_0.1.1.1) rfl rfl ?_
  refine sg_cS1 (pc := 1) (d' := d - 1) (mc' := 1) (ms' := 6) g (dc_X5_kinds_0.1.1.2) cb_X5_checkSign ml_X5_189 ms_X5_checkSign (Nat.le_of_ble_eq_true rfl) (by first | exact jl_d0 hd rfl | omega) (by first | exact Nat.le_of_ble_eq_true rfl | omega) (by first | exact Nat.le_of_ble_eq_true rfl | omega) ?_
  refine s_X5_checkSign g (by first | exact jl_d1 hd rfl | omega) (fun v1 => sg_K0 ?_) (fun v1 z1 w1 => sg_KX (by first | exact Nat.le_of_ble_eq_true rfl | omega) (by first | exact Nat.le_of_ble_eq_true rfl | omega) (hX (by omega) z1 w1))
  refine sg_iload_n (pc := 4) (j := 1) (dc_X5_kinds_0.1.2.1) rfl rfl ?_
  refine sg_cS1 (pc := 5) (d' := d - 1) (mc' := 0) (ms' := 0) g (dc_X5_kinds_0.1.2.2) cb_X2_kindsOf ml_X5_192 ms_X2_kindsOf (Nat.le_of_ble_eq_true rfl) (by first | exact jl_d0 hd rfl | omega) (by first | exact Nat.le_of_ble_eq_true rfl | omega) (by first | exact Nat.le_of_ble_eq_true rfl | omega) ?_
  refine s_X2_kindsOf g (by first | exact jl_d1 hd rfl | omega) (fun z5 h5 => sg_K1 ?_)
  refine sg_iret (pc := 8) (dc_X5_kinds_0.2.1.1) rfl (by first | exact Nat.le_of_ble_eq_true rfl | omega) (by first | exact Nat.le_of_ble_eq_true rfl | omega) ?_
  first | exact hQ _ (by omega) (by assumption) | exact hQ _ (by omega) (by omega) | exact hQ _ (by omega) (fun _ => by omega)

set_option maxRecDepth 100000 in
theorem s_X5_upper {w : sg_W} {Q : sg_O → sg_H → Prop} {h : sg_H} (g : sg_G w) {d : Nat} (hd : 14 ≤ d) {B : Nat} {x c : Int} (hQ : ∀ v : Int, ¬ (x < 0 ∨ 255 < x) → v = fn_upper x → Q (.inl (some (sg_i v))) h) (hX : (x < 0 ∨ 255 < x) → ∀ z, h.1 ≤ z → Q (.inr e_A) (z, h.2)) : sg_C w mi_X5_upper d 8 48 [sg_r B, sg_i x, sg_i c] h Q := by
  refine sg_of pn_X5 (Nat.le_of_ble_eq_true rfl) ?_
  refine sg_iload_n (pc := 0) (j := 1) (dc_X5_upper_0.1.1.1) rfl rfl ?_
  refine sg_cS1 (pc := 1) (d' := d - 1) (mc' := 1) (ms' := 6) g (dc_X5_upper_0.1.1.2) cb_X5_checkSign ml_X5_189 ms_X5_checkSign (Nat.le_of_ble_eq_true rfl) (by first | exact jl_d0 hd rfl | omega) (by first | exact Nat.le_of_ble_eq_true rfl | omega) (by first | exact Nat.le_of_ble_eq_true rfl | omega) ?_
  refine s_X5_checkSign g (by first | exact jl_d1 hd rfl | omega) (fun v1 => sg_K0 ?_) (fun v1 z1 w1 => sg_KX (by first | exact Nat.le_of_ble_eq_true rfl | omega) (by first | exact Nat.le_of_ble_eq_true rfl | omega) (hX (by omega) z1 w1))
  refine sg_iload_n (pc := 4) (j := 1) (dc_X5_upper_0.1.2.1) rfl rfl ?_
  refine sg_cS1 (pc := 5) (d' := d - 1) (mc' := 0) (ms' := 0) g (dc_X5_upper_0.1.2.2) cb_X2_upperOf ml_X5_78 ms_X2_upperOf (Nat.le_of_ble_eq_true rfl) (by first | exact jl_d0 hd rfl | omega) (by first | exact Nat.le_of_ble_eq_true rfl | omega) (by first | exact Nat.le_of_ble_eq_true rfl | omega) ?_
  refine s_X2_upperOf g (by first | exact jl_d1 hd rfl | omega) (fun z5 h5 => sg_K1 ?_)
  refine sg_iret (pc := 8) (dc_X5_upper_0.2.1.1) rfl (by first | exact Nat.le_of_ble_eq_true rfl | omega) (by first | exact Nat.le_of_ble_eq_true rfl | omega) ?_
  first | exact hQ _ (by omega) (by assumption) | exact hQ _ (by omega) (by omega) | exact hQ _ (by omega) (fun _ => by omega)

set_option maxRecDepth 100000 in
theorem s_X5_lower {w : sg_W} {Q : sg_O → sg_H → Prop} {h : sg_H} (g : sg_G w) {d : Nat} (hd : 14 ≤ d) {B : Nat} {x c : Int} (hQ : ∀ v : Int, ¬ (x < 0 ∨ 255 < x) → v = fn_lower x → Q (.inl (some (sg_i v))) h) (hX : (x < 0 ∨ 255 < x) → ∀ z, h.1 ≤ z → Q (.inr e_A) (z, h.2)) : sg_C w mi_X5_lower d 8 48 [sg_r B, sg_i x, sg_i c] h Q := by
  refine sg_of pn_X5 (Nat.le_of_ble_eq_true rfl) ?_
  refine sg_iload_n (pc := 0) (j := 1) (dc_X5_lower_0.1.1.1) rfl rfl ?_
  refine sg_cS1 (pc := 1) (d' := d - 1) (mc' := 1) (ms' := 6) g (dc_X5_lower_0.1.1.2) cb_X5_checkSign ml_X5_189 ms_X5_checkSign (Nat.le_of_ble_eq_true rfl) (by first | exact jl_d0 hd rfl | omega) (by first | exact Nat.le_of_ble_eq_true rfl | omega) (by first | exact Nat.le_of_ble_eq_true rfl | omega) ?_
  refine s_X5_checkSign g (by first | exact jl_d1 hd rfl | omega) (fun v1 => sg_K0 ?_) (fun v1 z1 w1 => sg_KX (by first | exact Nat.le_of_ble_eq_true rfl | omega) (by first | exact Nat.le_of_ble_eq_true rfl | omega) (hX (by omega) z1 w1))
  refine sg_iload_n (pc := 4) (j := 1) (dc_X5_lower_0.1.2.1) rfl rfl ?_
  refine sg_cS1 (pc := 5) (d' := d - 1) (mc' := 0) (ms' := 0) g (dc_X5_lower_0.1.2.2) cb_X2_lowerOf ml_X5_90 ms_X2_lowerOf (Nat.le_of_ble_eq_true rfl) (by first | exact jl_d0 hd rfl | omega) (by first | exact Nat.le_of_ble_eq_true rfl | omega) (by first | exact Nat.le_of_ble_eq_true rfl | omega) ?_
  refine s_X2_lowerOf g (by first | exact jl_d1 hd rfl | omega) (fun z5 h5 => sg_K1 ?_)
  refine sg_iret (pc := 8) (dc_X5_lower_0.2.1.1) rfl (by first | exact Nat.le_of_ble_eq_true rfl | omega) (by first | exact Nat.le_of_ble_eq_true rfl | omega) ?_
  first | exact hQ _ (by omega) (by assumption) | exact hQ _ (by omega) (by omega) | exact hQ _ (by omega) (fun _ => by omega)

set_option maxRecDepth 100000 in
theorem s_X5_value {w : sg_W} {Q : sg_O → sg_H → Prop} {h : sg_H} (g : sg_G w) {d : Nat} (hd : 14 ≤ d) {B : Nat} {x c : Int} (hQ : ∀ v : Int, ¬ (x < 0 ∨ 255 < x) → v = fn_val x → Q (.inl (some (sg_i v))) h) (hX : (x < 0 ∨ 255 < x) → ∀ z, h.1 ≤ z → Q (.inr e_A) (z, h.2)) : sg_C w mi_X5_value d 8 48 [sg_r B, sg_i x, sg_i c] h Q := by
  refine sg_of pn_X5 (Nat.le_of_ble_eq_true rfl) ?_
  refine sg_iload_n (pc := 0) (j := 1) (dc_X5_value_0.1.1.1) rfl rfl ?_
  refine sg_cS1 (pc := 1) (d' := d - 1) (mc' := 1) (ms' := 6) g (dc_X5_value_0.1.1.2) cb_X5_checkSign ml_X5_189 ms_X5_checkSign (Nat.le_of_ble_eq_true rfl) (by first | exact jl_d0 hd rfl | omega) (by first | exact Nat.le_of_ble_eq_true rfl | omega) (by first | exact Nat.le_of_ble_eq_true rfl | omega) ?_
  refine s_X5_checkSign g (by first | exact jl_d1 hd rfl | omega) (fun v1 => sg_K0 ?_) (fun v1 z1 w1 => sg_KX (by first | exact Nat.le_of_ble_eq_true rfl | omega) (by first | exact Nat.le_of_ble_eq_true rfl | omega) (hX (by omega) z1 w1))
  refine sg_iload_n (pc := 4) (j := 1) (dc_X5_value_0.1.2.1) rfl rfl ?_
  refine sg_cS1 (pc := 5) (d' := d - 1) (mc' := 0) (ms' := 0) g (dc_X5_value_0.1.2.2) cb_X2_signValue ml_X5_195 ms_X2_signValue (Nat.le_of_ble_eq_true rfl) (by first | exact jl_d0 hd rfl | omega) (by first | exact Nat.le_of_ble_eq_true rfl | omega) (by first | exact Nat.le_of_ble_eq_true rfl | omega) ?_
  refine s_X2_signValue g (by first | exact jl_d1 hd rfl | omega) (fun z5 h5 => sg_K1 ?_)
  refine sg_iret (pc := 8) (dc_X5_value_0.2.1.1) rfl (by first | exact Nat.le_of_ble_eq_true rfl | omega) (by first | exact Nat.le_of_ble_eq_true rfl | omega) ?_
  first | exact hQ _ (by omega) (by assumption) | exact hQ _ (by omega) (by omega) | exact hQ _ (by omega) (fun _ => by omega)

set_option maxRecDepth 100000 in
theorem s_X5_number {w : sg_W} {Q : sg_O → sg_H → Prop} {h : sg_H} (g : sg_G w) {d : Nat} (hd : 14 ≤ d) {B : Nat} {x r c : Int} (hQ : ∀ v : Int, ¬ (x < 0 ∨ 255 < x) → v = fn_num x r → Q (.inl (some (sg_i v))) h) (hX : (x < 0 ∨ 255 < x) → ∀ z, h.1 ≤ z → Q (.inr e_A) (z, h.2)) : sg_C w mi_X5_number d 8 48 [sg_r B, sg_i x, sg_i r, sg_i c] h Q := by
  refine sg_of pn_X5 (Nat.le_of_ble_eq_true rfl) ?_
  refine sg_iload_n (pc := 0) (j := 1) (dc_X5_number_0.1.1.1) rfl rfl ?_
  refine sg_cS1 (pc := 1) (d' := d - 1) (mc' := 1) (ms' := 6) g (dc_X5_number_0.1.1.2) cb_X5_checkSign ml_X5_189 ms_X5_checkSign (Nat.le_of_ble_eq_true rfl) (by first | exact jl_d0 hd rfl | omega) (by first | exact Nat.le_of_ble_eq_true rfl | omega) (by first | exact Nat.le_of_ble_eq_true rfl | omega) ?_
  refine s_X5_checkSign g (by first | exact jl_d1 hd rfl | omega) (fun v1 => sg_K0 ?_) (fun v1 z1 w1 => sg_KX (by first | exact Nat.le_of_ble_eq_true rfl | omega) (by first | exact Nat.le_of_ble_eq_true rfl | omega) (hX (by omega) z1 w1))
  refine sg_iload_n (pc := 4) (j := 1) (dc_X5_number_0.1.2.1) rfl rfl ?_
  refine sg_iload_n (pc := 5) (j := 2) (dc_X5_number_0.1.2.2) rfl rfl ?_
  refine sg_cS2 (pc := 6) (d' := d - 1) (mc' := 0) (ms' := 0) g (dc_X5_number_0.2.1.1) cb_X2_numberOf ml_X5_148 ms_X2_numberOf (Nat.le_of_ble_eq_true rfl) (by first | exact jl_d0 hd rfl | omega) (by first | exact Nat.le_of_ble_eq_true rfl | omega) (by first | exact Nat.le_of_ble_eq_true rfl | omega) ?_
  refine s_X2_numberOf g (by first | exact jl_d1 hd rfl | omega) (fun z6 h6 => sg_K1 ?_)
  refine sg_iret (pc := 9) (dc_X5_number_0.2.1.2) rfl (by first | exact Nat.le_of_ble_eq_true rfl | omega) (by first | exact Nat.le_of_ble_eq_true rfl | omega) ?_
  first | exact hQ _ (by omega) (by assumption) | exact hQ _ (by omega) (by omega) | exact hQ _ (by omega) (fun _ => by omega)

set_option maxRecDepth 100000 in
theorem s_X5_digit {w : sg_W} {Q : sg_O → sg_H → Prop} {h : sg_H} (g : sg_G w) {d : Nat} (hd : 14 ≤ d) {B : Nat} {x r : Int} (hQ : ∀ v : Int, v = fn_digit x r → Q (.inl (some (sg_i v))) h) : sg_C w mi_X5_digit d 0 0 [sg_r B, sg_i x, sg_i r] h Q := by
  refine sg_of pn_X5 (Nat.le_of_ble_eq_true rfl) ?_
  refine sg_iload_n (pc := 0) (j := 1) (dc_X5_digit_0.1.1) rfl rfl ?_
  refine sg_iload_n (pc := 1) (j := 2) (dc_X5_digit_0.1.2) rfl rfl ?_
  refine sg_cS2 (pc := 2) (d' := d - 1) (mc' := 0) (ms' := 0) g (dc_X5_digit_0.2.1) cb_X2_digitOf ml_X5_126 ms_X2_digitOf (Nat.le_of_ble_eq_true rfl) (by first | exact jl_d0 hd rfl | omega) (by first | exact Nat.le_of_ble_eq_true rfl | omega) (by first | exact Nat.le_of_ble_eq_true rfl | omega) ?_
  refine s_X2_digitOf g (by first | exact jl_d1 hd rfl | omega) (fun z2 h2 => sg_K1 ?_)
  refine sg_iret (pc := 5) (dc_X5_digit_0.2.2) rfl (by first | exact Nat.le_of_ble_eq_true rfl | omega) (by first | exact Nat.le_of_ble_eq_true rfl | omega) ?_
  first | exact hQ _ (by assumption) | exact hQ _ (by omega) | exact hQ _ (fun _ => by omega)

set_option maxRecDepth 100000 in
theorem s_X5_isCode {w : sg_W} {Q : sg_O → sg_H → Prop} {h : sg_H} (g : sg_G w) {d : Nat} (hd : 14 ≤ d) {B : Nat} {x : Int} (hQ : ∀ v : Int, (v = fn_code x ∧ (v = 0 ∨ v = 1)) → Q (.inl (some (sg_i v))) h) : sg_C w mi_X5_isCode d 0 0 [sg_r B, sg_i x] h Q := by
  refine sg_of pn_X5 (Nat.le_of_ble_eq_true rfl) ?_
  refine sg_iload_n (pc := 0) (j := 1) (dc_X5_isCode_0.1.1) rfl rfl ?_
  refine sg_cS1 (pc := 1) (d' := d - 1) (mc' := 0) (ms' := 0) g (dc_X5_isCode_0.1.2) cb_X4_isAnyCode ml_X5_154 ms_X4_isAnyCode (Nat.le_of_ble_eq_true rfl) (by first | exact jl_d0 hd rfl | omega) (by first | exact Nat.le_of_ble_eq_true rfl | omega) (by first | exact Nat.le_of_ble_eq_true rfl | omega) ?_
  refine s_X4_isAnyCode g (by first | exact jl_d1 hd rfl | omega) (fun z1 h1 b1 => sg_K1 ?_)
  refine sg_zret (pc := 4) (dc_X5_isCode_0.2.1) rfl (by first | exact Or.inl rfl | exact Or.inr rfl | omega | assumption) (by first | exact Nat.le_of_ble_eq_true rfl | omega) (by first | exact Nat.le_of_ble_eq_true rfl | omega) ?_
  exact hQ _ ⟨by assumption, by assumption⟩

set_option maxRecDepth 100000 in
theorem s_X5_isPlain {w : sg_W} {Q : sg_O → sg_H → Prop} {h : sg_H} (g : sg_G w) {d : Nat} (hd : 14 ≤ d) {B : Nat} {x : Int} (hQ : ∀ v : Int, (v = fn_unit x ∧ (v = 0 ∨ v = 1)) → Q (.inl (some (sg_i v))) h) : sg_C w mi_X5_isPlain d 0 0 [sg_r B, sg_i x] h Q := by
  refine sg_of pn_X5 (Nat.le_of_ble_eq_true rfl) ?_
  refine sg_iload_n (pc := 0) (j := 1) (dc_X5_isPlain_0.1.1) rfl rfl ?_
  refine sg_cS1 (pc := 1) (d' := d - 1) (mc' := 0) (ms' := 0) g (dc_X5_isPlain_0.1.2) cb_X4_isUnit ml_X5_234 ms_X4_isUnit (Nat.le_of_ble_eq_true rfl) (by first | exact jl_d0 hd rfl | omega) (by first | exact Nat.le_of_ble_eq_true rfl | omega) (by first | exact Nat.le_of_ble_eq_true rfl | omega) ?_
  refine s_X4_isUnit g (by first | exact jl_d1 hd rfl | omega) (fun z1 h1 b1 => sg_K1 ?_)
  refine sg_zret (pc := 4) (dc_X5_isPlain_0.2.1) rfl (by first | exact Or.inl rfl | exact Or.inr rfl | omega | assumption) (by first | exact Nat.le_of_ble_eq_true rfl | omega) (by first | exact Nat.le_of_ble_eq_true rfl | omega) ?_
  exact hQ _ ⟨by assumption, by assumption⟩

set_option maxRecDepth 100000 in
theorem s_X5_isWide {w : sg_W} {Q : sg_O → sg_H → Prop} {h : sg_H} (g : sg_G w) {d : Nat} (hd : 14 ≤ d) {B : Nat} {x : Int} (hQ : ∀ v : Int, (v = fn_wide x ∧ (v = 0 ∨ v = 1)) → Q (.inl (some (sg_i v))) h) : sg_C w mi_X5_isWide d 0 0 [sg_r B, sg_i x] h Q := by
  refine sg_of pn_X5 (Nat.le_of_ble_eq_true rfl) ?_
  refine sg_iload_n (pc := 0) (j := 1) (dc_X5_isWide_0.1.1) rfl rfl ?_
  refine sg_cS1 (pc := 1) (d' := d - 1) (mc' := 0) (ms' := 0) g (dc_X5_isWide_0.1.2) cb_X4_isWideCode ml_X5_237 ms_X4_isWideCode (Nat.le_of_ble_eq_true rfl) (by first | exact jl_d0 hd rfl | omega) (by first | exact Nat.le_of_ble_eq_true rfl | omega) (by first | exact Nat.le_of_ble_eq_true rfl | omega) ?_
  refine s_X4_isWideCode g (by first | exact jl_d1 hd rfl | omega) (fun z1 h1 b1 => sg_K1 ?_)
  refine sg_zret (pc := 4) (dc_X5_isWide_0.2.1) rfl (by first | exact Or.inl rfl | exact Or.inr rfl | omega | assumption) (by first | exact Nat.le_of_ble_eq_true rfl | omega) (by first | exact Nat.le_of_ble_eq_true rfl | omega) ?_
  exact hQ _ ⟨by assumption, by assumption⟩

set_option maxRecDepth 100000 in
theorem s_X5_units {w : sg_W} {Q : sg_O → sg_H → Prop} {h : sg_H} (g : sg_G w) {d : Nat} (hd : 14 ≤ d) {B : Nat} {x : Int} (hQ : ∀ v : Int, v = fn_units x → Q (.inl (some (sg_i v))) h) : sg_C w mi_X5_units d 0 0 [sg_r B, sg_i x] h Q := by
  refine sg_of pn_X5 (Nat.le_of_ble_eq_true rfl) ?_
  refine sg_iload_n (pc := 0) (j := 1) (dc_X5_units_0.1.1) rfl rfl ?_
  refine sg_cS1 (pc := 1) (d' := d - 1) (mc' := 0) (ms' := 0) g (dc_X5_units_0.1.2) cb_X4_unitsOf ml_X5_161 ms_X4_unitsOf (Nat.le_of_ble_eq_true rfl) (by first | exact jl_d0 hd rfl | omega) (by first | exact Nat.le_of_ble_eq_true rfl | omega) (by first | exact Nat.le_of_ble_eq_true rfl | omega) ?_
  refine s_X4_unitsOf g (by first | exact jl_d1 hd rfl | omega) (fun z1 h1 => sg_K1 ?_)
  refine sg_iret (pc := 4) (dc_X5_units_0.2.1) rfl (by first | exact Nat.le_of_ble_eq_true rfl | omega) (by first | exact Nat.le_of_ble_eq_true rfl | omega) ?_
  first | exact hQ _ (by assumption) | exact hQ _ (by omega) | exact hQ _ (fun _ => by omega)

set_option maxRecDepth 100000 in
theorem s_X5_half {w : sg_W} {Q : sg_O → sg_H → Prop} {h : sg_H} (g : sg_G w) {d : Nat} (hd : 14 ≤ d) {B : Nat} {x p : Int} (hQ : ∀ v : Int, ¬ (x < 65536 ∨ 1114111 < x) → v = (if p = 0 then 56320 + (x - 65536) % 1024 else 55296 + (x - 65536) / 1024) → Q (.inl (some (sg_i v))) h) (hX : (x < 65536 ∨ 1114111 < x) → ∀ z, h.1 ≤ z → Q (.inr e_A) (z, h.2)) : sg_C w mi_X5_half d 8 48 [sg_r B, sg_i x, sg_i p] h Q := by
  refine sg_of pn_X5 (Nat.le_of_ble_eq_true rfl) ?_
  refine sg_iload_n (pc := 0) (j := 1) (dc_X5_half_0.1.1.1.1) rfl rfl ?_
  refine sg_cS1 (pc := 1) (d' := d - 1) (mc' := 0) (ms' := 0) g (dc_X5_half_0.1.1.1.2) cb_X4_isWideCode ml_X5_237 ms_X4_isWideCode (Nat.le_of_ble_eq_true rfl) (by first | exact jl_d0 hd rfl | omega) (by first | exact Nat.le_of_ble_eq_true rfl | omega) (by first | exact Nat.le_of_ble_eq_true rfl | omega) ?_
  refine s_X4_isWideCode g (by first | exact jl_d1 hd rfl | omega) (fun z1 h1 b1 => sg_K1 ?_)
  (try simp only [fn_wide] at h1)
  refine sg_if_ne (pc := 4) (tgt := 17) (dc_X5_half_0.1.1.2.1) (by decide) (fun c4 => ?_) (fun c4 => ?_)
  · refine sg_iload_n (pc := 17) (j := 2) (dc_X5_half_0.2.1.1.1) rfl rfl ?_
    refine sg_if_eq (pc := 18) (tgt := 28) (dc_X5_half_0.2.1.1.2) (by decide) (fun c18 => ?_) (fun c18 => ?_)
    · refine sg_iload_n (pc := 28) (j := 1) (dc_X5_half_0.2.2.1.2) rfl rfl ?_
      refine sg_cS1 (pc := 29) (d' := d - 1) (mc' := 0) (ms' := 0) g (dc_X5_half_0.2.2.2.1) cb_X4_lowOf ml_X5_245 ms_X4_lowOf (Nat.le_of_ble_eq_true rfl) (by first | exact jl_d0 hd rfl | omega) (by first | exact Nat.le_of_ble_eq_true rfl | omega) (by first | exact Nat.le_of_ble_eq_true rfl | omega) ?_
      refine s_X4_lowOf g (by first | exact jl_d1 hd rfl | omega) (fun z29 h29 => sg_K1 ?_)
      refine sg_iret (pc := 32) (dc_X5_half_0.2.2.2.2) rfl (by first | exact Nat.le_of_ble_eq_true rfl | omega) (by first | exact Nat.le_of_ble_eq_true rfl | omega) ?_
      first | exact hQ _ (by omega) (by omega) | exact hQ _ (by omega) (by (repeat' split) <;> omega)
    · refine sg_iload_n (pc := 21) (j := 1) (dc_X5_half_0.2.1.2.1) rfl rfl ?_
      refine sg_cS1 (pc := 22) (d' := d - 1) (mc' := 0) (ms' := 0) g (dc_X5_half_0.2.1.2.2) cb_X4_highOf ml_X5_242 ms_X4_highOf (Nat.le_of_ble_eq_true rfl) (by first | exact jl_d0 hd rfl | omega) (by first | exact Nat.le_of_ble_eq_true rfl | omega) (by first | exact Nat.le_of_ble_eq_true rfl | omega) ?_
      refine s_X4_highOf g (by first | exact jl_d1 hd rfl | omega) (fun z22 h22 => sg_K1 ?_)
      refine sg_goto (pc := 25) (tgt := 32) (dc_X5_half_0.2.2.1.1) (by decide) ?_
      refine sg_iret (pc := 32) (dc_X5_half_0.2.2.2.2) rfl (by first | exact Nat.le_of_ble_eq_true rfl | omega) (by first | exact Nat.le_of_ble_eq_true rfl | omega) ?_
      first | exact hQ _ (by omega) (by omega) | exact hQ _ (by omega) (by (repeat' split) <;> omega)
  · refine sg_throw (pc := 7) g th_X5_110_240 (dc_X5_half_0.1.1.2.2) (dc_X5_half_0.1.2.1.1) (dc_X5_half_0.1.2.1.2) (dc_X5_half_0.1.2.2.1) (dc_X5_half_0.1.2.2.2) (by first | exact Nat.le_trans (Nat.le_of_ble_eq_true rfl) hd | omega) (Nat.le_of_ble_eq_true rfl) (by first | exact Nat.le_of_ble_eq_true rfl | omega) (by first | exact Nat.le_of_ble_eq_true rfl | omega) ?_
    exact fun z hz => hX (by omega) z hz

set_option maxRecDepth 100000 in
theorem s_X5_code {w : sg_W} {Q : sg_O → sg_H → Prop} {h : sg_H} (g : sg_G w) {d : Nat} (hd : 14 ≤ d) {B : Nat} {x y : Int} (hQ : ∀ v : Int, ¬ (x < 55296 ∨ 56320 ≤ x ∨ y < 56320 ∨ 57344 ≤ y) → v = 65536 + (x - 55296) * 1024 + (y - 56320) → Q (.inl (some (sg_i v))) h) (hX : (x < 55296 ∨ 56320 ≤ x ∨ y < 56320 ∨ 57344 ≤ y) → ∀ z, h.1 ≤ z → Q (.inr e_A) (z, h.2)) : sg_C w mi_X5_code d 8 48 [sg_r B, sg_i x, sg_i y] h Q := by
  refine sg_of pn_X5 (Nat.le_of_ble_eq_true rfl) ?_
  refine sg_iload_n (pc := 0) (j := 1) (dc_X5_code_0.1.1.1.1) rfl rfl ?_
  refine sg_cS1 (pc := 1) (d' := d - 1) (mc' := 0) (ms' := 0) g (dc_X5_code_0.1.1.1.2) cb_X4_isHigh ml_X5_248 ms_X4_isHigh (Nat.le_of_ble_eq_true rfl) (by first | exact jl_d0 hd rfl | omega) (by first | exact Nat.le_of_ble_eq_true rfl | omega) (by first | exact Nat.le_of_ble_eq_true rfl | omega) ?_
  refine s_X4_isHigh g (by first | exact jl_d1 hd rfl | omega) (fun z1 h1 b1 => sg_K1 ?_)
  (try simp only [fn_high, fn_low] at h1)
  refine sg_if_eq (pc := 4) (tgt := 14) (dc_X5_code_0.1.1.2.1) (by decide) (fun c4 => ?_) (fun c4 => ?_)
  · refine sg_throw (pc := 14) g th_X5_110_254 (dc_X5_code_0.1.2.2.1) (dc_X5_code_0.1.2.2.2) (dc_X5_code_0.2.1.1.1) (dc_X5_code_0.2.1.1.2) (dc_X5_code_0.2.1.2.1) (by first | exact Nat.le_trans (Nat.le_of_ble_eq_true rfl) hd | omega) (Nat.le_of_ble_eq_true rfl) (by first | exact Nat.le_of_ble_eq_true rfl | omega) (by first | exact Nat.le_of_ble_eq_true rfl | omega) ?_
    exact fun z hz => hX (by omega) z hz
  · refine sg_iload_n (pc := 7) (j := 2) (dc_X5_code_0.1.1.2.2) rfl rfl ?_
    refine sg_cS1 (pc := 8) (d' := d - 1) (mc' := 0) (ms' := 0) g (dc_X5_code_0.1.2.1.1) cb_X4_isLow ml_X5_251 ms_X4_isLow (Nat.le_of_ble_eq_true rfl) (by first | exact jl_d0 hd rfl | omega) (by first | exact Nat.le_of_ble_eq_true rfl | omega) (by first | exact Nat.le_of_ble_eq_true rfl | omega) ?_
    refine s_X4_isLow g (by first | exact jl_d1 hd rfl | omega) (fun z8 h8 b8 => sg_K1 ?_)
    (try simp only [fn_high, fn_low] at h8)
    refine sg_if_ne (pc := 11) (tgt := 24) (dc_X5_code_0.1.2.1.2) (by decide) (fun c11 => ?_) (fun c11 => ?_)
    · refine sg_iload_n (pc := 24) (j := 1) (dc_X5_code_0.2.1.2.2) rfl rfl ?_
      refine sg_iload_n (pc := 25) (j := 2) (dc_X5_code_0.2.2.1.1) rfl rfl ?_
      refine sg_cS2 (pc := 26) (d' := d - 1) (mc' := 0) (ms' := 0) g (dc_X5_code_0.2.2.1.2) cb_X4_codeOf ml_X5_256 ms_X4_codeOf (Nat.le_of_ble_eq_true rfl) (by first | exact jl_d0 hd rfl | omega) (by first | exact Nat.le_of_ble_eq_true rfl | omega) (by first | exact Nat.le_of_ble_eq_true rfl | omega) ?_
      refine s_X4_codeOf g (by first | exact jl_d1 hd rfl | omega) (fun z26 h26 => sg_K1 ?_)
      refine sg_iret (pc := 29) (dc_X5_code_0.2.2.2.1) rfl (by first | exact Nat.le_of_ble_eq_true rfl | omega) (by first | exact Nat.le_of_ble_eq_true rfl | omega) ?_
      exact hQ _ (by omega) (by omega)
    · refine sg_throw (pc := 14) g th_X5_110_254 (dc_X5_code_0.1.2.2.1) (dc_X5_code_0.1.2.2.2) (dc_X5_code_0.2.1.1.1) (dc_X5_code_0.2.1.1.2) (dc_X5_code_0.2.1.2.1) (by first | exact Nat.le_trans (Nat.le_of_ble_eq_true rfl) hd | omega) (Nat.le_of_ble_eq_true rfl) (by first | exact Nat.le_of_ble_eq_true rfl | omega) (by first | exact Nat.le_of_ble_eq_true rfl | omega) ?_
      exact fun z hz => hX (by omega) z hz

set_option maxRecDepth 100000 in
theorem s_X5_ofUnit {w : sg_W} {Q : sg_O → sg_H → Prop} {h : sg_H} (g : sg_G w) {d : Nat} (hd : 14 ≤ d) {B : Nat} {x what : Int} (hQ : ∀ v : Int, ¬ (x < 0 ∨ 65536 ≤ x ∨ what < 0 ∨ 3 < what) → ((what = 0 → v = fn_half x) ∧ (what = 1 → v = fn_high x) ∧ (what = 2 → v = fn_low x) ∧ (what = 3 → v = x % 256 * 256 + x / 256)) → Q (.inl (some (sg_i v))) h) (hX : (x < 0 ∨ 65536 ≤ x ∨ what < 0 ∨ 3 < what) → ∀ z, h.1 ≤ z → Q (.inr e_A) (z, h.2)) : sg_C w mi_X5_ofUnit d 8 48 [sg_r B, sg_i x, sg_i what] h Q := by
  refine sg_of pn_X5 (Nat.le_of_ble_eq_true rfl) ?_
  refine sg_iload_n (pc := 0) (j := 1) (dc_X5_ofUnit_0.1.1.1.1) rfl rfl ?_
  refine sg_cS1 (pc := 1) (d' := d - 1) (mc' := 1) (ms' := 6) g (dc_X5_ofUnit_0.1.1.1.2) cb_X5_checkUnit ml_X5_167 ms_X5_checkUnit (Nat.le_of_ble_eq_true rfl) (by first | exact jl_d0 hd rfl | omega) (by first | exact Nat.le_of_ble_eq_true rfl | omega) (by first | exact Nat.le_of_ble_eq_true rfl | omega) ?_
  refine s_X5_checkUnit g (by first | exact jl_d1 hd rfl | omega) (fun v1 => sg_K0 ?_) (fun v1 z1 w1 => sg_KX (by first | exact Nat.le_of_ble_eq_true rfl | omega) (by first | exact Nat.le_of_ble_eq_true rfl | omega) (hX (by omega) z1 w1))
  refine sg_iload_n (pc := 4) (j := 2) (dc_X5_ofUnit_0.1.1.2.1) rfl rfl ?_
  by_cases cs : what < 0 ∨ 3 < what
  · refine sg_tsOut (pc := 5) (tgt := 80) (dc_X5_ofUnit_0.1.1.2.2) cs (by decide) ?_
    refine sg_throwW (pc := 80) g th_X5_110_259 (dc_X5_ofUnit_60.2.2.1.1) (dc_X5_ofUnit_60.2.2.1.2) (dc_X5_ofUnit_60.2.2.2.1) (dc_X5_ofUnit_60.2.2.2.2) dc_X5_ofUnit_90 (by first | exact Nat.le_trans (Nat.le_of_ble_eq_true rfl) hd | omega) (Nat.le_of_ble_eq_true rfl) (by first | exact Nat.le_of_ble_eq_true rfl | omega) (by first | exact Nat.le_of_ble_eq_true rfl | omega) ?_
    exact fun z hz => hX (by omega) z hz
  · rcases (show what = 0 ∨ what = 1 ∨ what = 2 ∨ what = 3 by omega) with rfl | rfl | rfl | rfl
    · refine sg_tsIn (pc := 5) (tgt := 36) (dc_X5_ofUnit_0.1.1.2.2) (by omega) (by omega) rfl (by decide) ?_
      refine sg_iload_n (pc := 36) (j := 1) (dc_X5_ofUnit_0.1.2.1.1) rfl rfl ?_
      refine sg_cS1 (pc := 37) (d' := d - 1) (mc' := 0) (ms' := 0) g (dc_X5_ofUnit_0.1.2.1.2) cb_X4_isHalf ml_X5_173 ms_X4_isHalf (Nat.le_of_ble_eq_true rfl) (by first | exact jl_d0 hd rfl | omega) (by first | exact Nat.le_of_ble_eq_true rfl | omega) (by first | exact Nat.le_of_ble_eq_true rfl | omega) ?_
      refine s_X4_isHalf g (by first | exact jl_d1 hd rfl | omega) (fun z37 h37 b37 => sg_K1 ?_)
      refine sg_if_eq (pc := 40) (tgt := 47) (dc_X5_ofUnit_0.1.2.2.1) (by decide) (fun c40 => ?_) (fun c40 => ?_)
      · refine sg_iconst (pc := 47) (z := 0) (dc_X5_ofUnit_0.2.1.1.2) (by decide) ?_
        refine sg_iret (pc := 48) (dc_X5_ofUnit_0.2.1.2.1) rfl (by first | exact Nat.le_of_ble_eq_true rfl | omega) (by first | exact Nat.le_of_ble_eq_true rfl | omega) ?_
        exact hQ _ (by omega) (by refine ⟨?_, ?_, ?_, ?_⟩ <;> intro qw <;> first | (exact absurd qw (by decide)) | (simp only [fn_half, fn_high, fn_low] at *; omega))
      · refine sg_iconst (pc := 43) (z := 1) (dc_X5_ofUnit_0.1.2.2.2) (by decide) ?_
        refine sg_goto (pc := 44) (tgt := 48) (dc_X5_ofUnit_0.2.1.1.1) (by decide) ?_
        refine sg_iret (pc := 48) (dc_X5_ofUnit_0.2.1.2.1) rfl (by first | exact Nat.le_of_ble_eq_true rfl | omega) (by first | exact Nat.le_of_ble_eq_true rfl | omega) ?_
        exact hQ _ (by omega) (by refine ⟨?_, ?_, ?_, ?_⟩ <;> intro qw <;> first | (exact absurd qw (by decide)) | (simp only [fn_half, fn_high, fn_low] at *; omega))
    · refine sg_tsIn (pc := 5) (tgt := 49) (dc_X5_ofUnit_0.1.1.2.2) (by omega) (by omega) rfl (by decide) ?_
      refine sg_iload_n (pc := 49) (j := 1) (dc_X5_ofUnit_0.2.1.2.2) rfl rfl ?_
      refine sg_cS1 (pc := 50) (d' := d - 1) (mc' := 0) (ms' := 0) g (dc_X5_ofUnit_0.2.2.1.1) cb_X4_isHigh ml_X5_248 ms_X4_isHigh (Nat.le_of_ble_eq_true rfl) (by first | exact jl_d0 hd rfl | omega) (by first | exact Nat.le_of_ble_eq_true rfl | omega) (by first | exact Nat.le_of_ble_eq_true rfl | omega) ?_
      refine s_X4_isHigh g (by first | exact jl_d1 hd rfl | omega) (fun z50 h50 b50 => sg_K1 ?_)
      refine sg_if_eq (pc := 53) (tgt := 60) (dc_X5_ofUnit_0.2.2.1.2) (by decide) (fun c53 => ?_) (fun c53 => ?_)
      · refine sg_iconst (pc := 60) (z := 0) (dc_X5_ofUnit_60.1.1.1.1) (by decide) ?_
        refine sg_iret (pc := 61) (dc_X5_ofUnit_60.1.1.1.2) rfl (by first | exact Nat.le_of_ble_eq_true rfl | omega) (by first | exact Nat.le_of_ble_eq_true rfl | omega) ?_
        exact hQ _ (by omega) (by refine ⟨?_, ?_, ?_, ?_⟩ <;> intro qw <;> first | (exact absurd qw (by decide)) | (simp only [fn_half, fn_high, fn_low] at *; omega))
      · refine sg_iconst (pc := 56) (z := 1) (dc_X5_ofUnit_0.2.2.2.1) (by decide) ?_
        refine sg_goto (pc := 57) (tgt := 61) (dc_X5_ofUnit_0.2.2.2.2) (by decide) ?_
        refine sg_iret (pc := 61) (dc_X5_ofUnit_60.1.1.1.2) rfl (by first | exact Nat.le_of_ble_eq_true rfl | omega) (by first | exact Nat.le_of_ble_eq_true rfl | omega) ?_
        exact hQ _ (by omega) (by refine ⟨?_, ?_, ?_, ?_⟩ <;> intro qw <;> first | (exact absurd qw (by decide)) | (simp only [fn_half, fn_high, fn_low] at *; omega))
    · refine sg_tsIn (pc := 5) (tgt := 62) (dc_X5_ofUnit_0.1.1.2.2) (by omega) (by omega) rfl (by decide) ?_
      refine sg_iload_n (pc := 62) (j := 1) (dc_X5_ofUnit_60.1.1.2.1) rfl rfl ?_
      refine sg_cS1 (pc := 63) (d' := d - 1) (mc' := 0) (ms' := 0) g (dc_X5_ofUnit_60.1.1.2.2) cb_X4_isLow ml_X5_251 ms_X4_isLow (Nat.le_of_ble_eq_true rfl) (by first | exact jl_d0 hd rfl | omega) (by first | exact Nat.le_of_ble_eq_true rfl | omega) (by first | exact Nat.le_of_ble_eq_true rfl | omega) ?_
      refine s_X4_isLow g (by first | exact jl_d1 hd rfl | omega) (fun z63 h63 b63 => sg_K1 ?_)
      refine sg_if_eq (pc := 66) (tgt := 73) (dc_X5_ofUnit_60.1.2.1.1) (by decide) (fun c66 => ?_) (fun c66 => ?_)
      · refine sg_iconst (pc := 73) (z := 0) (dc_X5_ofUnit_60.1.2.2.2) (by decide) ?_
        refine sg_iret (pc := 74) (dc_X5_ofUnit_60.2.1.1.1) rfl (by first | exact Nat.le_of_ble_eq_true rfl | omega) (by first | exact Nat.le_of_ble_eq_true rfl | omega) ?_
        exact hQ _ (by omega) (by refine ⟨?_, ?_, ?_, ?_⟩ <;> intro qw <;> first | (exact absurd qw (by decide)) | (simp only [fn_half, fn_high, fn_low] at *; omega))
      · refine sg_iconst (pc := 69) (z := 1) (dc_X5_ofUnit_60.1.2.1.2) (by decide) ?_
        refine sg_goto (pc := 70) (tgt := 74) (dc_X5_ofUnit_60.1.2.2.1) (by decide) ?_
        refine sg_iret (pc := 74) (dc_X5_ofUnit_60.2.1.1.1) rfl (by first | exact Nat.le_of_ble_eq_true rfl | omega) (by first | exact Nat.le_of_ble_eq_true rfl | omega) ?_
        exact hQ _ (by omega) (by refine ⟨?_, ?_, ?_, ?_⟩ <;> intro qw <;> first | (exact absurd qw (by decide)) | (simp only [fn_half, fn_high, fn_low] at *; omega))
    · refine sg_tsIn (pc := 5) (tgt := 75) (dc_X5_ofUnit_0.1.1.2.2) (by omega) (by omega) rfl (by decide) ?_
      refine sg_iload_n (pc := 75) (j := 1) (dc_X5_ofUnit_60.2.1.1.2) rfl rfl ?_
      refine sg_cS1 (pc := 76) (d' := d - 1) (mc' := 0) (ms' := 0) g (dc_X5_ofUnit_60.2.1.2.1) cb_X4_turned ml_X5_170 ms_X4_turned (Nat.le_of_ble_eq_true rfl) (by first | exact jl_d0 hd rfl | omega) (by first | exact Nat.le_of_ble_eq_true rfl | omega) (by first | exact Nat.le_of_ble_eq_true rfl | omega) ?_
      refine s_X4_turned g (by first | exact jl_d1 hd rfl | omega) (fun z76 h76 => sg_K1 ?_)
      refine sg_iret (pc := 79) (dc_X5_ofUnit_60.2.1.2.2) rfl (by first | exact Nat.le_of_ble_eq_true rfl | omega) (by first | exact Nat.le_of_ble_eq_true rfl | omega) ?_
      exact hQ _ (by omega) (by refine ⟨?_, ?_, ?_, ?_⟩ <;> intro qw <;> first | (exact absurd qw (by decide)) | (simp only [fn_half, fn_high, fn_low] at *; omega))

set_option maxRecDepth 100000 in
theorem s_X5_ofUnit_N {w : sg_W} {Q : sg_O → sg_H → Prop} {h : sg_H} (g : sg_G w) {d : Nat} (hd : 14 ≤ d) {B : Nat} {x what : Int} (hv : ¬ (x < 0 ∨ 65536 ≤ x ∨ what < 0 ∨ 3 < what)) (hQ : ∀ v : Int, ¬ (x < 0 ∨ 65536 ≤ x ∨ what < 0 ∨ 3 < what) → ((what = 0 → v = fn_half x) ∧ (what = 1 → v = fn_high x) ∧ (what = 2 → v = fn_low x) ∧ (what = 3 → v = x % 256 * 256 + x / 256)) → Q (.inl (some (sg_i v))) h) : sg_C w mi_X5_ofUnit d 0 0 [sg_r B, sg_i x, sg_i what] h Q := by
  refine sg_of pn_X5 (Nat.le_of_ble_eq_true rfl) ?_
  refine sg_iload_n (pc := 0) (j := 1) (dc_X5_ofUnit_0.1.1.1.1) rfl rfl ?_
  refine sg_cS1 (pc := 1) (d' := d - 1) (mc' := 0) (ms' := 0) g (dc_X5_ofUnit_0.1.1.1.2) cb_X5_checkUnit ml_X5_167 ms_X5_checkUnit (Nat.le_of_ble_eq_true rfl) (by first | exact jl_d0 hd rfl | omega) (by first | exact Nat.le_of_ble_eq_true rfl | omega) (by first | exact Nat.le_of_ble_eq_true rfl | omega) ?_
  refine s_X5_checkUnit_N g (by first | exact jl_d1 hd rfl | omega) (by omega) (sg_K0 ?_)
  refine sg_iload_n (pc := 4) (j := 2) (dc_X5_ofUnit_0.1.1.2.1) rfl rfl ?_
  by_cases cs : what < 0 ∨ 3 < what
  · refine sg_tsOut (pc := 5) (tgt := 80) (dc_X5_ofUnit_0.1.1.2.2) cs (by decide) ?_
    exfalso; omega
  · rcases (show what = 0 ∨ what = 1 ∨ what = 2 ∨ what = 3 by omega) with rfl | rfl | rfl | rfl
    · refine sg_tsIn (pc := 5) (tgt := 36) (dc_X5_ofUnit_0.1.1.2.2) (by omega) (by omega) rfl (by decide) ?_
      refine sg_iload_n (pc := 36) (j := 1) (dc_X5_ofUnit_0.1.2.1.1) rfl rfl ?_
      refine sg_cS1 (pc := 37) (d' := d - 1) (mc' := 0) (ms' := 0) g (dc_X5_ofUnit_0.1.2.1.2) cb_X4_isHalf ml_X5_173 ms_X4_isHalf (Nat.le_of_ble_eq_true rfl) (by first | exact jl_d0 hd rfl | omega) (by first | exact Nat.le_of_ble_eq_true rfl | omega) (by first | exact Nat.le_of_ble_eq_true rfl | omega) ?_
      refine s_X4_isHalf g (by first | exact jl_d1 hd rfl | omega) (fun z37 h37 b37 => sg_K1 ?_)
      refine sg_if_eq (pc := 40) (tgt := 47) (dc_X5_ofUnit_0.1.2.2.1) (by decide) (fun c40 => ?_) (fun c40 => ?_)
      · refine sg_iconst (pc := 47) (z := 0) (dc_X5_ofUnit_0.2.1.1.2) (by decide) ?_
        refine sg_iret (pc := 48) (dc_X5_ofUnit_0.2.1.2.1) rfl (by first | exact Nat.le_of_ble_eq_true rfl | omega) (by first | exact Nat.le_of_ble_eq_true rfl | omega) ?_
        exact hQ _ (by omega) (by refine ⟨?_, ?_, ?_, ?_⟩ <;> intro qw <;> first | (exact absurd qw (by decide)) | (simp only [fn_half, fn_high, fn_low] at *; omega))
      · refine sg_iconst (pc := 43) (z := 1) (dc_X5_ofUnit_0.1.2.2.2) (by decide) ?_
        refine sg_goto (pc := 44) (tgt := 48) (dc_X5_ofUnit_0.2.1.1.1) (by decide) ?_
        refine sg_iret (pc := 48) (dc_X5_ofUnit_0.2.1.2.1) rfl (by first | exact Nat.le_of_ble_eq_true rfl | omega) (by first | exact Nat.le_of_ble_eq_true rfl | omega) ?_
        exact hQ _ (by omega) (by refine ⟨?_, ?_, ?_, ?_⟩ <;> intro qw <;> first | (exact absurd qw (by decide)) | (simp only [fn_half, fn_high, fn_low] at *; omega))
    · refine sg_tsIn (pc := 5) (tgt := 49) (dc_X5_ofUnit_0.1.1.2.2) (by omega) (by omega) rfl (by decide) ?_
      refine sg_iload_n (pc := 49) (j := 1) (dc_X5_ofUnit_0.2.1.2.2) rfl rfl ?_
      refine sg_cS1 (pc := 50) (d' := d - 1) (mc' := 0) (ms' := 0) g (dc_X5_ofUnit_0.2.2.1.1) cb_X4_isHigh ml_X5_248 ms_X4_isHigh (Nat.le_of_ble_eq_true rfl) (by first | exact jl_d0 hd rfl | omega) (by first | exact Nat.le_of_ble_eq_true rfl | omega) (by first | exact Nat.le_of_ble_eq_true rfl | omega) ?_
      refine s_X4_isHigh g (by first | exact jl_d1 hd rfl | omega) (fun z50 h50 b50 => sg_K1 ?_)
      refine sg_if_eq (pc := 53) (tgt := 60) (dc_X5_ofUnit_0.2.2.1.2) (by decide) (fun c53 => ?_) (fun c53 => ?_)
      · refine sg_iconst (pc := 60) (z := 0) (dc_X5_ofUnit_60.1.1.1.1) (by decide) ?_
        refine sg_iret (pc := 61) (dc_X5_ofUnit_60.1.1.1.2) rfl (by first | exact Nat.le_of_ble_eq_true rfl | omega) (by first | exact Nat.le_of_ble_eq_true rfl | omega) ?_
        exact hQ _ (by omega) (by refine ⟨?_, ?_, ?_, ?_⟩ <;> intro qw <;> first | (exact absurd qw (by decide)) | (simp only [fn_half, fn_high, fn_low] at *; omega))
      · refine sg_iconst (pc := 56) (z := 1) (dc_X5_ofUnit_0.2.2.2.1) (by decide) ?_
        refine sg_goto (pc := 57) (tgt := 61) (dc_X5_ofUnit_0.2.2.2.2) (by decide) ?_
        refine sg_iret (pc := 61) (dc_X5_ofUnit_60.1.1.1.2) rfl (by first | exact Nat.le_of_ble_eq_true rfl | omega) (by first | exact Nat.le_of_ble_eq_true rfl | omega) ?_
        exact hQ _ (by omega) (by refine ⟨?_, ?_, ?_, ?_⟩ <;> intro qw <;> first | (exact absurd qw (by decide)) | (simp only [fn_half, fn_high, fn_low] at *; omega))
    · refine sg_tsIn (pc := 5) (tgt := 62) (dc_X5_ofUnit_0.1.1.2.2) (by omega) (by omega) rfl (by decide) ?_
      refine sg_iload_n (pc := 62) (j := 1) (dc_X5_ofUnit_60.1.1.2.1) rfl rfl ?_
      refine sg_cS1 (pc := 63) (d' := d - 1) (mc' := 0) (ms' := 0) g (dc_X5_ofUnit_60.1.1.2.2) cb_X4_isLow ml_X5_251 ms_X4_isLow (Nat.le_of_ble_eq_true rfl) (by first | exact jl_d0 hd rfl | omega) (by first | exact Nat.le_of_ble_eq_true rfl | omega) (by first | exact Nat.le_of_ble_eq_true rfl | omega) ?_
      refine s_X4_isLow g (by first | exact jl_d1 hd rfl | omega) (fun z63 h63 b63 => sg_K1 ?_)
      refine sg_if_eq (pc := 66) (tgt := 73) (dc_X5_ofUnit_60.1.2.1.1) (by decide) (fun c66 => ?_) (fun c66 => ?_)
      · refine sg_iconst (pc := 73) (z := 0) (dc_X5_ofUnit_60.1.2.2.2) (by decide) ?_
        refine sg_iret (pc := 74) (dc_X5_ofUnit_60.2.1.1.1) rfl (by first | exact Nat.le_of_ble_eq_true rfl | omega) (by first | exact Nat.le_of_ble_eq_true rfl | omega) ?_
        exact hQ _ (by omega) (by refine ⟨?_, ?_, ?_, ?_⟩ <;> intro qw <;> first | (exact absurd qw (by decide)) | (simp only [fn_half, fn_high, fn_low] at *; omega))
      · refine sg_iconst (pc := 69) (z := 1) (dc_X5_ofUnit_60.1.2.1.2) (by decide) ?_
        refine sg_goto (pc := 70) (tgt := 74) (dc_X5_ofUnit_60.1.2.2.1) (by decide) ?_
        refine sg_iret (pc := 74) (dc_X5_ofUnit_60.2.1.1.1) rfl (by first | exact Nat.le_of_ble_eq_true rfl | omega) (by first | exact Nat.le_of_ble_eq_true rfl | omega) ?_
        exact hQ _ (by omega) (by refine ⟨?_, ?_, ?_, ?_⟩ <;> intro qw <;> first | (exact absurd qw (by decide)) | (simp only [fn_half, fn_high, fn_low] at *; omega))
    · refine sg_tsIn (pc := 5) (tgt := 75) (dc_X5_ofUnit_0.1.1.2.2) (by omega) (by omega) rfl (by decide) ?_
      refine sg_iload_n (pc := 75) (j := 1) (dc_X5_ofUnit_60.2.1.1.2) rfl rfl ?_
      refine sg_cS1 (pc := 76) (d' := d - 1) (mc' := 0) (ms' := 0) g (dc_X5_ofUnit_60.2.1.2.1) cb_X4_turned ml_X5_170 ms_X4_turned (Nat.le_of_ble_eq_true rfl) (by first | exact jl_d0 hd rfl | omega) (by first | exact Nat.le_of_ble_eq_true rfl | omega) (by first | exact Nat.le_of_ble_eq_true rfl | omega) ?_
      refine s_X4_turned g (by first | exact jl_d1 hd rfl | omega) (fun z76 h76 => sg_K1 ?_)
      refine sg_iret (pc := 79) (dc_X5_ofUnit_60.2.1.2.2) rfl (by first | exact Nat.le_of_ble_eq_true rfl | omega) (by first | exact Nat.le_of_ble_eq_true rfl | omega) ?_
      exact hQ _ (by omega) (by refine ⟨?_, ?_, ?_, ?_⟩ <;> intro qw <;> first | (exact absurd qw (by decide)) | (simp only [fn_half, fn_high, fn_low] at *; omega))

set_option maxRecDepth 100000 in
theorem s_X5_compare {w : sg_W} {Q : sg_O → sg_H → Prop} {h : sg_H} (g : sg_G w) {d : Nat} (hd : 14 ≤ d) {B : Nat} {x y : Int} (hQ : ∀ v : Int, ¬ (x < 0 ∨ 65536 ≤ x ∨ y < 0 ∨ 65536 ≤ y) → v = (if x = y then 0 else if x < y then -1 else 1) → Q (.inl (some (sg_i v))) h) (hX : (x < 0 ∨ 65536 ≤ x ∨ y < 0 ∨ 65536 ≤ y) → ∀ z, h.1 ≤ z → Q (.inr e_A) (z, h.2)) : sg_C w mi_X5_compare d 8 48 [sg_r B, sg_i x, sg_i y] h Q := by
  refine sg_of pn_X5 (Nat.le_of_ble_eq_true rfl) ?_
  refine sg_iload_n (pc := 0) (j := 1) (dc_X5_compare_0.1.1.1) rfl rfl ?_
  refine sg_cS1 (pc := 1) (d' := d - 1) (mc' := 1) (ms' := 6) g (dc_X5_compare_0.1.1.2) cb_X5_checkUnit ml_X5_167 ms_X5_checkUnit (Nat.le_of_ble_eq_true rfl) (by first | exact jl_d0 hd rfl | omega) (by first | exact Nat.le_of_ble_eq_true rfl | omega) (by first | exact Nat.le_of_ble_eq_true rfl | omega) ?_
  refine s_X5_checkUnit g (by first | exact jl_d1 hd rfl | omega) (fun v1 => sg_K0 ?_) (fun v1 z1 w1 => sg_KX (by first | exact Nat.le_of_ble_eq_true rfl | omega) (by first | exact Nat.le_of_ble_eq_true rfl | omega) (hX (by omega) z1 w1))
  refine sg_iload_n (pc := 4) (j := 2) (dc_X5_compare_0.1.2.1) rfl rfl ?_
  refine sg_cS1 (pc := 5) (d' := d - 1) (mc' := 1) (ms' := 6) g (dc_X5_compare_0.1.2.2) cb_X5_checkUnit ml_X5_167 ms_X5_checkUnit (Nat.le_of_ble_eq_true rfl) (by first | exact jl_d0 hd rfl | omega) (by first | exact Nat.le_of_ble_eq_true rfl | omega) (by first | exact Nat.le_of_ble_eq_true rfl | omega) ?_
  refine s_X5_checkUnit g (by first | exact jl_d1 hd rfl | omega) (fun v5 => sg_K0 ?_) (fun v5 z5 w5 => sg_KX (by first | exact Nat.le_of_ble_eq_true rfl | omega) (by first | exact Nat.le_of_ble_eq_true rfl | omega) (hX (by omega) z5 w5))
  refine sg_iload_n (pc := 8) (j := 1) (dc_X5_compare_0.2.1.1) rfl rfl ?_
  refine sg_iload_n (pc := 9) (j := 2) (dc_X5_compare_0.2.1.2) rfl rfl ?_
  refine sg_cS2 (pc := 10) (d' := d - 1) (mc' := 0) (ms' := 0) g (dc_X5_compare_0.2.2.1) cb_X5_ahead ml_X5_231 ms_X5_ahead (Nat.le_of_ble_eq_true rfl) (by first | exact jl_d0 hd rfl | omega) (by first | exact Nat.le_of_ble_eq_true rfl | omega) (by first | exact Nat.le_of_ble_eq_true rfl | omega) ?_
  refine s_X5_ahead g (by first | exact jl_d1 hd rfl | omega) (fun z10 h10 => sg_K1 ?_)
  refine sg_iret (pc := 13) (dc_X5_compare_0.2.2.2) rfl (by first | exact Nat.le_of_ble_eq_true rfl | omega) (by first | exact Nat.le_of_ble_eq_true rfl | omega) ?_
  exact hQ _ (by omega) (by assumption)

set_option maxRecDepth 100000 in
theorem s_X5_count_N {w : sg_W} {Q : sg_O → sg_H → Prop} {h : sg_H} (g : sg_G w) {d : Nat} (hd : 14 ≤ d) {B : Nat} (hx : ck_X h B) {row kind : Int} (hv : ¬ (row < 0 ∨ 4 ≤ row ∨ kind < 0 ∨ 4 < kind)) (hQ : ∀ v : Int, Q (.inl (some (sg_i v))) h) : sg_C w mi_X5_count d 0 0 [sg_r B, sg_i row, sg_i kind] h Q := by
  refine sg_of pn_X5 (Nat.le_of_ble_eq_true rfl) ?_
  have y0 := ck_Y0 hx
  refine sg_aload_n (pc := 0) (j := 0) (dc_X5_count_0.1.1.1.1) rfl rfl ?_
  refine sg_iload_n (pc := 1) (j := 1) (dc_X5_count_0.1.1.1.2) rfl rfl ?_
  refine sg_cE1 (pc := 2) (d' := d - 1) (mc' := 0) (ms' := 0) 6 g (dc_X5_count_0.1.1.2.1) cb_X5_rowOf ml_X5_36 mn_X5_rowOf rfl mv_X5_rowOf (Nat.le_of_ble_eq_true rfl) (ck_oc (by assumption)) (Nat.le_of_ble_eq_true rfl) (by first | exact jl_d0 hd rfl | omega) (by first | exact Nat.le_of_ble_eq_true rfl | omega) (by first | exact Nat.le_of_ble_eq_true rfl | omega) ?_
  refine s_X5_rowOf_N g (by first | exact jl_d1 hd rfl | omega) (by assumption) (by omega) (fun a2 l2 r2 r2b => sg_K1 ?_)
  refine sg_astore_n (pc := 5) (j := 3) (dc_X5_count_0.1.1.2.2) rfl (by decide) ?_
  refine sg_iload_n (pc := 6) (j := 2) (dc_X5_count_0.1.2.1.1) rfl rfl ?_
  refine sg_cS1 (pc := 7) (d' := d - 1) (mc' := 0) (ms' := 0) g (dc_X5_count_0.1.2.1.2) cb_X5_checkKind ml_X5_93 ms_X5_checkKind (Nat.le_of_ble_eq_true rfl) (by first | exact jl_d0 hd rfl | omega) (by first | exact Nat.le_of_ble_eq_true rfl | omega) (by first | exact Nat.le_of_ble_eq_true rfl | omega) ?_
  refine s_X5_checkKind_N g (by first | exact jl_d1 hd rfl | omega) (by omega) (sg_K0 ?_)
  refine sg_iconst (pc := 10) (z := 0) (dc_X5_count_0.1.2.2.1) (by decide) ?_
  refine sg_istore (pc := 11) (dc_X5_count_0.1.2.2.2) (by decide) ?_
  refine sg_iconst (pc := 13) (z := 0) (dc_X5_count_0.2.1.1.1) (by decide) ?_
  refine sg_istore (pc := 14) (dc_X5_count_0.2.1.1.2) (by decide) ?_
  have loop16 : ∀ (N : Nat) (p s : Int), (0 ≤ p) → (40 - p).toNat < N → sg_R w mi_X5_count d 0 0 Q 16 [(5, sg_i p), (4, sg_i s), (0, sg_r B), (2, sg_i kind), (3, sg_r a2)] [] h 0 0 := by
    intro N
    induction N with
    | zero => intro p s p0 hm; exact absurd hm (Nat.not_lt_zero _)
    | succ N ih =>
      intro p s p0 hm
      refine sg_iload (pc := 16) (dc_X5_count_0.2.1.2.1) rfl ?_
      refine sg_aload_n (pc := 18) (j := 3) (dc_X5_count_0.2.1.2.2) rfl rfl ?_
      refine sg_cE0 (pc := 19) (d' := d - 1) (mc' := 0) (ms' := 0) 3 g (dc_X5_count_0.2.2.1.1) cb_X0_size ml_X5_63 mn_X0_size rfl mv_X0_size (Nat.le_of_ble_eq_true rfl) (ck_lc (by assumption) (by first | assumption | exact ck_rev)) (Nat.le_of_ble_eq_true rfl) (by first | exact jl_d0 hd rfl | omega) (by first | exact Nat.le_of_ble_eq_true rfl | omega) (by first | exact Nat.le_of_ble_eq_true rfl | omega) ?_
      refine s_X0_size g (by first | exact jl_d1 hd rfl | omega) (by assumption) (by first | assumption | exact ck_rev) (fun z19 l19 u19 N19 => sg_K1 ?_)
      refine sg_icmp_ge (pc := 22) (tgt := 47) (dc_X5_count_0.2.2.1.2) (by decide) (fun c22 => ?_) (fun c22 => ?_)
      · refine sg_iload (pc := 47) (dc_X5_count_28.1.2.2.2) rfl ?_
        refine sg_iret (pc := 49) (dc_X5_count_28.2.1.1.1) rfl (by first | exact Nat.le_of_ble_eq_true rfl | omega) (by first | exact Nat.le_of_ble_eq_true rfl | omega) ?_
        exact hQ _
      · refine sg_aload_n (pc := 25) (j := 3) (dc_X5_count_0.2.2.2.1) rfl rfl ?_
        refine sg_iload (pc := 26) (dc_X5_count_0.2.2.2.2) rfl ?_
        refine sg_cE1 (pc := 28) (d' := d - 1) (mc' := 0) (ms' := 0) 3 g (dc_X5_count_28.1.1.1.1) cb_X0_get ml_X5_75 mn_X0_get rfl mv_X0_get (Nat.le_of_ble_eq_true rfl) (ck_lc (by assumption) (by first | assumption | exact ck_rev)) (Nat.le_of_ble_eq_true rfl) (by first | exact jl_d0 hd rfl | omega) (by first | exact Nat.le_of_ble_eq_true rfl | omega) (by first | exact Nat.le_of_ble_eq_true rfl | omega) ?_
        refine s_X0_get g (by first | exact jl_d1 hd rfl | omega) (by assumption) (by first | assumption | exact ck_rev) (fun z28 G28 v28 => sg_K1 ?_)
        refine sg_iload_n (pc := 31) (j := 2) (dc_X5_count_28.1.1.1.2) rfl rfl ?_
        refine sg_cS2 (pc := 32) (d' := d - 1) (mc' := 0) (ms' := 0) g (dc_X5_count_28.1.1.2.1) cb_X2_isOf ml_X5_96 ms_X2_isOf (Nat.le_of_ble_eq_true rfl) (by first | exact jl_d0 hd rfl | omega) (by first | exact Nat.le_of_ble_eq_true rfl | omega) (by first | exact Nat.le_of_ble_eq_true rfl | omega) ?_
        refine s_X2_isOf g (by first | exact jl_d1 hd rfl | omega) (fun z32 h32 b32 => sg_K1 ?_)
        refine sg_if_eq (pc := 35) (tgt := 41) (dc_X5_count_28.1.1.2.2) (by decide) (fun c35 => ?_) (fun c35 => ?_)
        · first | refine sg_iincB (pc := 41) (dc_X5_count_28.1.2.1.2) rfl (by decide) (by decide) (by omega) (by omega) ?_ | refine sg_iinc (pc := 41) (dc_X5_count_28.1.2.1.2) rfl (by decide) (by decide) ?_
          refine sg_goto (pc := 44) (tgt := 16) (dc_X5_count_28.1.2.2.1) (by decide) ?_
          refine sg_lsub (lv' := [(5, _), (4, _), (0, _), (2, _), (3, _)]) ⟨rfl, rfl, rfl, rfl, rfl, trivial⟩ ?_
          exact ih _ _ (by omega) (by first | exact jl_m1 hm (by omega) | exact jl_m2 hm (by omega) | omega)
        · first | refine sg_iincB (pc := 38) (dc_X5_count_28.1.2.1.1) rfl (by decide) (by decide) (by omega) (by omega) ?_ | refine sg_iinc (pc := 38) (dc_X5_count_28.1.2.1.1) rfl (by decide) (by decide) ?_
          first | refine sg_iincB (pc := 41) (dc_X5_count_28.1.2.1.2) rfl (by decide) (by decide) (by omega) (by omega) ?_ | refine sg_iinc (pc := 41) (dc_X5_count_28.1.2.1.2) rfl (by decide) (by decide) ?_
          refine sg_goto (pc := 44) (tgt := 16) (dc_X5_count_28.1.2.2.1) (by decide) ?_
          refine sg_lsub (lv' := [(5, _), (4, _), (0, _), (2, _), (3, _)]) ⟨rfl, rfl, rfl, rfl, rfl, trivial⟩ ?_
          exact ih _ _ (by omega) (by first | exact jl_m1 hm (by omega) | exact jl_m2 hm (by omega) | omega)
  refine sg_lsub (lv' := [(5, _), (4, _), (0, _), (2, _), (3, _)]) ⟨rfl, rfl, rfl, rfl, rfl, trivial⟩ ?_
  exact loop16 _ _ _ (by omega) (Nat.lt_succ_self _)

set_option maxRecDepth 100000 in
theorem s_X5_told_N {w : sg_W} {Q : sg_O → sg_H → Prop} {h : sg_H} (g : sg_G w) {d : Nat} (hd : 14 ≤ d) {B : Nat} (hx : ck_X h B) {row radix : Int} (hv : ¬ (row < 0 ∨ 4 ≤ row ∨ radix < 2 ∨ 36 < radix)) (hQ : ∀ v : Int, Q (.inl (some (sg_i v))) h) : sg_C w mi_X5_told d 0 0 [sg_r B, sg_i row, sg_i radix] h Q := by
  refine sg_of pn_X5 (Nat.le_of_ble_eq_true rfl) ?_
  have y0 := ck_Y0 hx
  refine sg_aload_n (pc := 0) (j := 0) (dc_X5_told_0.1.1.1.1) rfl rfl ?_
  refine sg_iload_n (pc := 1) (j := 1) (dc_X5_told_0.1.1.1.2) rfl rfl ?_
  refine sg_cE1 (pc := 2) (d' := d - 1) (mc' := 0) (ms' := 0) 6 g (dc_X5_told_0.1.1.2.1) cb_X5_rowOf ml_X5_36 mn_X5_rowOf rfl mv_X5_rowOf (Nat.le_of_ble_eq_true rfl) (ck_oc (by assumption)) (Nat.le_of_ble_eq_true rfl) (by first | exact jl_d0 hd rfl | omega) (by first | exact Nat.le_of_ble_eq_true rfl | omega) (by first | exact Nat.le_of_ble_eq_true rfl | omega) ?_
  refine s_X5_rowOf_N g (by first | exact jl_d1 hd rfl | omega) (by assumption) (by omega) (fun a2 l2 r2 r2b => sg_K1 ?_)
  refine sg_astore_n (pc := 5) (j := 3) (dc_X5_told_0.1.1.2.2) rfl (by decide) ?_
  refine sg_iload_n (pc := 6) (j := 2) (dc_X5_told_0.1.2.1.1) rfl rfl ?_
  refine sg_cS1 (pc := 7) (d' := d - 1) (mc' := 0) (ms' := 0) g (dc_X5_told_0.1.2.1.2) cb_X5_checkRadix ml_X5_115 ms_X5_checkRadix (Nat.le_of_ble_eq_true rfl) (by first | exact jl_d0 hd rfl | omega) (by first | exact Nat.le_of_ble_eq_true rfl | omega) (by first | exact Nat.le_of_ble_eq_true rfl | omega) ?_
  refine s_X5_checkRadix_N g (by first | exact jl_d1 hd rfl | omega) (by omega) (sg_K0 ?_)
  refine sg_aload_n (pc := 10) (j := 3) (dc_X5_told_0.1.2.2.1) rfl rfl ?_
  refine sg_cE0 (pc := 11) (d' := d - 1) (mc' := 0) (ms' := 0) 3 g (dc_X5_told_0.1.2.2.2) cb_X0_size ml_X5_63 mn_X0_size rfl mv_X0_size (Nat.le_of_ble_eq_true rfl) (ck_lc (by assumption) (by first | assumption | exact ck_rev)) (Nat.le_of_ble_eq_true rfl) (by first | exact jl_d0 hd rfl | omega) (by first | exact Nat.le_of_ble_eq_true rfl | omega) (by first | exact Nat.le_of_ble_eq_true rfl | omega) ?_
  refine s_X0_size g (by first | exact jl_d1 hd rfl | omega) (by assumption) (by first | assumption | exact ck_rev) (fun z11 l11 u11 N11 => sg_K1 ?_)
  refine sg_if_ne (pc := 14) (tgt := 20) (dc_X5_told_0.2.1.1.1) (by decide) (fun c14 => ?_) (fun c14 => ?_)
  · refine sg_iconst (pc := 20) (z := 0) (dc_X5_told_0.2.1.2.2) (by decide) ?_
    refine sg_istore (pc := 21) (dc_X5_told_0.2.2.1.1) (by decide) ?_
    refine sg_iconst (pc := 23) (z := 0) (dc_X5_told_0.2.2.1.2) (by decide) ?_
    refine sg_istore (pc := 24) (dc_X5_told_0.2.2.2.1) (by decide) ?_
    have loop26 : ∀ (N : Nat) (p s : Int), (0 ≤ p) → (40 - p).toNat < N → sg_R w mi_X5_told d 0 0 Q 26 [(5, sg_i p), (4, sg_i s), (0, sg_r B), (2, sg_i radix), (3, sg_r a2)] [] h 0 0 := by
      intro N
      induction N with
      | zero => intro p s p0 hm; exact absurd hm (Nat.not_lt_zero _)
      | succ N ih =>
        intro p s p0 hm
        refine sg_iload (pc := 26) (dc_X5_told_0.2.2.2.2) rfl ?_
        refine sg_aload_n (pc := 28) (j := 3) (dc_X5_told_28.1.1.1.1) rfl rfl ?_
        refine sg_cE0 (pc := 29) (d' := d - 1) (mc' := 0) (ms' := 0) 3 g (dc_X5_told_28.1.1.1.2) cb_X0_size ml_X5_63 mn_X0_size rfl mv_X0_size (Nat.le_of_ble_eq_true rfl) (ck_lc (by assumption) (by first | assumption | exact ck_rev)) (Nat.le_of_ble_eq_true rfl) (by first | exact jl_d0 hd rfl | omega) (by first | exact Nat.le_of_ble_eq_true rfl | omega) (by first | exact Nat.le_of_ble_eq_true rfl | omega) ?_
        refine s_X0_size g (by first | exact jl_d1 hd rfl | omega) (by assumption) (by first | assumption | exact ck_rev) (fun z29 l29 u29 N29 => sg_K1 ?_)
        refine sg_icmp_ge (pc := 32) (tgt := 74) (dc_X5_told_28.1.1.2.1) (by decide) (fun c32 => ?_) (fun c32 => ?_)
        · refine sg_iload (pc := 74) (dc_X5_told_59.2.1.1.1) rfl ?_
          refine sg_iret (pc := 76) (dc_X5_told_59.2.1.1.2) rfl (by first | exact Nat.le_of_ble_eq_true rfl | omega) (by first | exact Nat.le_of_ble_eq_true rfl | omega) ?_
          exact hQ _
        · refine sg_aload_n (pc := 35) (j := 3) (dc_X5_told_28.1.1.2.2) rfl rfl ?_
          refine sg_iload (pc := 36) (dc_X5_told_28.1.2.1.1) rfl ?_
          refine sg_cE1 (pc := 38) (d' := d - 1) (mc' := 0) (ms' := 0) 3 g (dc_X5_told_28.1.2.1.2) cb_X0_get ml_X5_75 mn_X0_get rfl mv_X0_get (Nat.le_of_ble_eq_true rfl) (ck_lc (by assumption) (by first | assumption | exact ck_rev)) (Nat.le_of_ble_eq_true rfl) (by first | exact jl_d0 hd rfl | omega) (by first | exact Nat.le_of_ble_eq_true rfl | omega) (by first | exact Nat.le_of_ble_eq_true rfl | omega) ?_
          refine s_X0_get g (by first | exact jl_d1 hd rfl | omega) (by assumption) (by first | assumption | exact ck_rev) (fun z38 G38 v38 => sg_K1 ?_)
          refine sg_iload_n (pc := 41) (j := 2) (dc_X5_told_28.1.2.2.1) rfl rfl ?_
          refine sg_cS2 (pc := 42) (d' := d - 1) (mc' := 0) (ms' := 0) g (dc_X5_told_28.1.2.2.2) cb_X2_numberOf ml_X5_148 ms_X2_numberOf (Nat.le_of_ble_eq_true rfl) (by first | exact jl_d0 hd rfl | omega) (by first | exact Nat.le_of_ble_eq_true rfl | omega) (by first | exact Nat.le_of_ble_eq_true rfl | omega) ?_
          refine s_X2_numberOf g (by first | exact jl_d1 hd rfl | omega) (fun z42 h42 => sg_K1 ?_)
          refine sg_istore (pc := 45) (dc_X5_told_28.2.1.1.1) (by decide) ?_
          refine sg_iload (pc := 47) (dc_X5_told_28.2.1.1.2) rfl ?_
          refine sg_iconst (pc := 49) (z := -1) (dc_X5_told_28.2.1.2.1) (by decide) ?_
          refine sg_icmp_ne (pc := 50) (tgt := 56) (dc_X5_told_28.2.1.2.2) (by decide) (fun c50 => ?_) (fun c50 => ?_)
          · refine sg_iload (pc := 56) (dc_X5_told_28.2.2.2.1) rfl ?_
            refine sg_iload_n (pc := 58) (j := 2) (dc_X5_told_28.2.2.2.2) rfl rfl ?_
            first | refine sg_imulB (pc := 59) (dc_X5_told_59.1.1.1.1) (by omega) (by omega) ?_ | refine sg_imul (pc := 59) (dc_X5_told_59.1.1.1.1) ?_
            refine sg_iload (pc := 60) (dc_X5_told_59.1.1.1.2) rfl ?_
            first | refine sg_iaddB (pc := 62) (dc_X5_told_59.1.1.2.1) (by omega) (by omega) ?_ | refine sg_iadd (pc := 62) (dc_X5_told_59.1.1.2.1) ?_
            refine sg_ldc (pc := 63) (z := 1000003) g (dc_X5_told_59.1.1.2.2) cn_X5_218 (by decide) ?_
            first | refine sg_iremP (pc := 65) (dc_X5_told_59.1.2.1.1) (by omega) (by omega) ?_ | refine sg_irem (pc := 65) (dc_X5_told_59.1.2.1.1) (by first | omega | assumption) ?_
            refine sg_istore (pc := 66) (dc_X5_told_59.1.2.1.2) (by decide) ?_
            first | refine sg_iincB (pc := 68) (dc_X5_told_59.1.2.2.1) rfl (by decide) (by decide) (by omega) (by omega) ?_ | refine sg_iinc (pc := 68) (dc_X5_told_59.1.2.2.1) rfl (by decide) (by decide) ?_
            refine sg_goto (pc := 71) (tgt := 26) (dc_X5_told_59.1.2.2.2) (by decide) ?_
            refine sg_lsub (lv' := [(5, _), (4, _), (0, _), (2, _), (3, _)]) ⟨rfl, rfl, rfl, rfl, rfl, trivial⟩ ?_
            exact ih _ _ (by omega) (by first | exact jl_m1 hm (by omega) | exact jl_m2 hm (by omega) | omega)
          · refine sg_bipush (pc := 53) (z := -9) (dc_X5_told_28.2.2.1.1) (by decide) ?_
            refine sg_iret (pc := 55) (dc_X5_told_28.2.2.1.2) rfl (by first | exact Nat.le_of_ble_eq_true rfl | omega) (by first | exact Nat.le_of_ble_eq_true rfl | omega) ?_
            exact hQ _
    refine sg_lsub (lv' := [(5, _), (4, _), (0, _), (2, _), (3, _)]) ⟨rfl, rfl, rfl, rfl, rfl, trivial⟩ ?_
    exact loop26 _ _ _ (by omega) (Nat.lt_succ_self _)
  · refine sg_bipush (pc := 17) (z := -9) (dc_X5_told_0.2.1.1.2) (by decide) ?_
    refine sg_iret (pc := 19) (dc_X5_told_0.2.1.2.1) rfl (by first | exact Nat.le_of_ble_eq_true rfl | omega) (by first | exact Nat.le_of_ble_eq_true rfl | omega) ?_
    exact hQ _

set_option maxRecDepth 100000 in
theorem s_X5_values_N {w : sg_W} {Q : sg_O → sg_H → Prop} {h : sg_H} (g : sg_G w) {d : Nat} (hd : 14 ≤ d) {B : Nat} (hx : ck_X h B) {row : Int} (hv : 0 ≤ row ∧ row < 4) (hQ : ∀ v : Int, Q (.inl (some (sg_i v))) h) : sg_C w mi_X5_values d 0 0 [sg_r B, sg_i row] h Q := by
  refine sg_of pn_X5 (Nat.le_of_ble_eq_true rfl) ?_
  have y0 := ck_Y0 hx
  refine sg_aload_n (pc := 0) (j := 0) (dc_X5_values_0.1.1.1.1) rfl rfl ?_
  refine sg_iload_n (pc := 1) (j := 1) (dc_X5_values_0.1.1.1.2) rfl rfl ?_
  refine sg_cE1 (pc := 2) (d' := d - 1) (mc' := 0) (ms' := 0) 6 g (dc_X5_values_0.1.1.2.1) cb_X5_rowOf ml_X5_36 mn_X5_rowOf rfl mv_X5_rowOf (Nat.le_of_ble_eq_true rfl) (ck_oc (by assumption)) (Nat.le_of_ble_eq_true rfl) (by first | exact jl_d0 hd rfl | omega) (by first | exact Nat.le_of_ble_eq_true rfl | omega) (by first | exact Nat.le_of_ble_eq_true rfl | omega) ?_
  refine s_X5_rowOf_N g (by first | exact jl_d1 hd rfl | omega) (by assumption) (by omega) (fun a2 l2 r2 r2b => sg_K1 ?_)
  refine sg_astore_n (pc := 5) (j := 2) (dc_X5_values_0.1.1.2.2) rfl (by decide) ?_
  refine sg_iconst (pc := 6) (z := 0) (dc_X5_values_0.1.2.1.1) (by decide) ?_
  refine sg_istore_n (pc := 7) (j := 3) (dc_X5_values_0.1.2.1.2) rfl (by decide) ?_
  refine sg_iconst (pc := 8) (z := 0) (dc_X5_values_0.1.2.2.1) (by decide) ?_
  refine sg_istore (pc := 9) (dc_X5_values_0.1.2.2.2) (by decide) ?_
  have loop11 : ∀ (N : Nat) (p s : Int), (0 ≤ p) → (40 - p).toNat < N → sg_R w mi_X5_values d 0 0 Q 11 [(4, sg_i p), (3, sg_i s), (0, sg_r B), (2, sg_r a2)] [] h 0 0 := by
    intro N
    induction N with
    | zero => intro p s p0 hm; exact absurd hm (Nat.not_lt_zero _)
    | succ N ih =>
      intro p s p0 hm
      refine sg_iload (pc := 11) (dc_X5_values_0.2.1.1.1) rfl ?_
      refine sg_aload_n (pc := 13) (j := 2) (dc_X5_values_0.2.1.1.2) rfl rfl ?_
      refine sg_cE0 (pc := 14) (d' := d - 1) (mc' := 0) (ms' := 0) 3 g (dc_X5_values_0.2.1.2.1) cb_X0_size ml_X5_63 mn_X0_size rfl mv_X0_size (Nat.le_of_ble_eq_true rfl) (ck_lc (by assumption) (by first | assumption | exact ck_rev)) (Nat.le_of_ble_eq_true rfl) (by first | exact jl_d0 hd rfl | omega) (by first | exact Nat.le_of_ble_eq_true rfl | omega) (by first | exact Nat.le_of_ble_eq_true rfl | omega) ?_
      refine s_X0_size g (by first | exact jl_d1 hd rfl | omega) (by assumption) (by first | assumption | exact ck_rev) (fun z14 l14 u14 N14 => sg_K1 ?_)
      refine sg_icmp_ge (pc := 17) (tgt := 47) (dc_X5_values_0.2.1.2.2) (by decide) (fun c17 => ?_) (fun c17 => ?_)
      · refine sg_iload_n (pc := 47) (j := 3) (dc_X5_values_29.2.1.1.2) rfl rfl ?_
        refine sg_iret (pc := 48) (dc_X5_values_29.2.1.2.1) rfl (by first | exact Nat.le_of_ble_eq_true rfl | omega) (by first | exact Nat.le_of_ble_eq_true rfl | omega) ?_
        exact hQ _
      · refine sg_aload_n (pc := 20) (j := 2) (dc_X5_values_0.2.2.1.1) rfl rfl ?_
        refine sg_iload (pc := 21) (dc_X5_values_0.2.2.1.2) rfl ?_
        refine sg_cE1 (pc := 23) (d' := d - 1) (mc' := 0) (ms' := 0) 3 g (dc_X5_values_0.2.2.2.1) cb_X0_get ml_X5_75 mn_X0_get rfl mv_X0_get (Nat.le_of_ble_eq_true rfl) (ck_lc (by assumption) (by first | assumption | exact ck_rev)) (Nat.le_of_ble_eq_true rfl) (by first | exact jl_d0 hd rfl | omega) (by first | exact Nat.le_of_ble_eq_true rfl | omega) (by first | exact Nat.le_of_ble_eq_true rfl | omega) ?_
        refine s_X0_get g (by first | exact jl_d1 hd rfl | omega) (by assumption) (by first | assumption | exact ck_rev) (fun z23 G23 v23 => sg_K1 ?_)
        refine sg_cS1 (pc := 26) (d' := d - 1) (mc' := 0) (ms' := 0) g (dc_X5_values_0.2.2.2.2) cb_X2_signValue ml_X5_195 ms_X2_signValue (Nat.le_of_ble_eq_true rfl) (by first | exact jl_d0 hd rfl | omega) (by first | exact Nat.le_of_ble_eq_true rfl | omega) (by first | exact Nat.le_of_ble_eq_true rfl | omega) ?_
        refine s_X2_signValue g (by first | exact jl_d1 hd rfl | omega) (fun z26 h26 => sg_K1 ?_)
        refine sg_istore (pc := 29) (dc_X5_values_29.1.1.1.1) (by decide) ?_
        refine sg_iload (pc := 31) (dc_X5_values_29.1.1.1.2) rfl ?_
        refine sg_if_lt (pc := 33) (tgt := 41) (dc_X5_values_29.1.1.2.1) (by decide) (fun c33 => ?_) (fun c33 => ?_)
        · first | refine sg_iincB (pc := 41) (dc_X5_values_29.1.2.2.2) rfl (by decide) (by decide) (by omega) (by omega) ?_ | refine sg_iinc (pc := 41) (dc_X5_values_29.1.2.2.2) rfl (by decide) (by decide) ?_
          refine sg_goto (pc := 44) (tgt := 11) (dc_X5_values_29.2.1.1.1) (by decide) ?_
          refine sg_lsub (lv' := [(4, _), (3, _), (0, _), (2, _)]) ⟨rfl, rfl, rfl, rfl, trivial⟩ ?_
          exact ih _ _ (by omega) (by first | exact jl_m1 hm (by omega) | exact jl_m2 hm (by omega) | omega)
        · refine sg_iload_n (pc := 36) (j := 3) (dc_X5_values_29.1.1.2.2) rfl rfl ?_
          refine sg_iload (pc := 37) (dc_X5_values_29.1.2.1.1) rfl ?_
          first | refine sg_iaddB (pc := 39) (dc_X5_values_29.1.2.1.2) (by omega) (by omega) ?_ | refine sg_iadd (pc := 39) (dc_X5_values_29.1.2.1.2) ?_
          refine sg_istore_n (pc := 40) (j := 3) (dc_X5_values_29.1.2.2.1) rfl (by decide) ?_
          first | refine sg_iincB (pc := 41) (dc_X5_values_29.1.2.2.2) rfl (by decide) (by decide) (by omega) (by omega) ?_ | refine sg_iinc (pc := 41) (dc_X5_values_29.1.2.2.2) rfl (by decide) (by decide) ?_
          refine sg_goto (pc := 44) (tgt := 11) (dc_X5_values_29.2.1.1.1) (by decide) ?_
          refine sg_lsub (lv' := [(4, _), (3, _), (0, _), (2, _)]) ⟨rfl, rfl, rfl, rfl, trivial⟩ ?_
          exact ih _ _ (by omega) (by first | exact jl_m1 hm (by omega) | exact jl_m2 hm (by omega) | omega)
  refine sg_lsub (lv' := [(4, _), (3, _), (0, _), (2, _)]) ⟨rfl, rfl, rfl, rfl, trivial⟩ ?_
  exact loop11 _ _ _ (by omega) (Nat.lt_succ_self _)

set_option maxRecDepth 100000 in
theorem s_X5_words_N {w : sg_W} {Q : sg_O → sg_H → Prop} {h : sg_H} (g : sg_G w) {d : Nat} (hd : 14 ≤ d) {B : Nat} (hx : ck_X h B) {row : Int} (hv : 0 ≤ row ∧ row < 4) (hQ : ∀ v : Int, Q (.inl (some (sg_i v))) h) : sg_C w mi_X5_words d 0 0 [sg_r B, sg_i row] h Q := by
  refine sg_of pn_X5 (Nat.le_of_ble_eq_true rfl) ?_
  have y0 := ck_Y0 hx
  refine sg_aload_n (pc := 0) (j := 0) (dc_X5_words_0.1.1.1.1) rfl rfl ?_
  refine sg_iload_n (pc := 1) (j := 1) (dc_X5_words_0.1.1.1.2) rfl rfl ?_
  refine sg_cE1 (pc := 2) (d' := d - 1) (mc' := 0) (ms' := 0) 6 g (dc_X5_words_0.1.1.2.1) cb_X5_rowOf ml_X5_36 mn_X5_rowOf rfl mv_X5_rowOf (Nat.le_of_ble_eq_true rfl) (ck_oc (by assumption)) (Nat.le_of_ble_eq_true rfl) (by first | exact jl_d0 hd rfl | omega) (by first | exact Nat.le_of_ble_eq_true rfl | omega) (by first | exact Nat.le_of_ble_eq_true rfl | omega) ?_
  refine s_X5_rowOf_N g (by first | exact jl_d1 hd rfl | omega) (by assumption) (by omega) (fun a2 l2 r2 r2b => sg_K1 ?_)
  refine sg_astore_n (pc := 5) (j := 2) (dc_X5_words_0.1.1.2.2) rfl (by decide) ?_
  refine sg_iconst (pc := 6) (z := 0) (dc_X5_words_0.1.2.1.1) (by decide) ?_
  refine sg_istore_n (pc := 7) (j := 3) (dc_X5_words_0.1.2.1.2) rfl (by decide) ?_
  refine sg_iconst (pc := 8) (z := 0) (dc_X5_words_0.1.2.2.1) (by decide) ?_
  refine sg_istore (pc := 9) (dc_X5_words_0.1.2.2.2) (by decide) ?_
  have loop11 : ∀ (N : Nat) (p s : Int), (0 ≤ p) → (40 - p).toNat < N → sg_R w mi_X5_words d 0 0 Q 11 [(4, sg_i p), (3, sg_i s), (0, sg_r B), (2, sg_r a2)] [] h 0 0 := by
    intro N
    induction N with
    | zero => intro p s p0 hm; exact absurd hm (Nat.not_lt_zero _)
    | succ N ih =>
      intro p s p0 hm
      refine sg_iload (pc := 11) (dc_X5_words_0.2.1.1.1) rfl ?_
      refine sg_aload_n (pc := 13) (j := 2) (dc_X5_words_0.2.1.1.2) rfl rfl ?_
      refine sg_cE0 (pc := 14) (d' := d - 1) (mc' := 0) (ms' := 0) 3 g (dc_X5_words_0.2.1.2.1) cb_X0_size ml_X5_63 mn_X0_size rfl mv_X0_size (Nat.le_of_ble_eq_true rfl) (ck_lc (by assumption) (by first | assumption | exact ck_rev)) (Nat.le_of_ble_eq_true rfl) (by first | exact jl_d0 hd rfl | omega) (by first | exact Nat.le_of_ble_eq_true rfl | omega) (by first | exact Nat.le_of_ble_eq_true rfl | omega) ?_
      refine s_X0_size g (by first | exact jl_d1 hd rfl | omega) (by assumption) (by first | assumption | exact ck_rev) (fun z14 l14 u14 N14 => sg_K1 ?_)
      refine sg_icmp_ge (pc := 17) (tgt := 38) (dc_X5_words_0.2.1.2.2) (by decide) (fun c17 => ?_) (fun c17 => ?_)
      · refine sg_iload_n (pc := 38) (j := 3) (dc_X5_words_29.1.2.2) rfl rfl ?_
        refine sg_iret (pc := 39) (dc_X5_words_29.2.1.1) rfl (by first | exact Nat.le_of_ble_eq_true rfl | omega) (by first | exact Nat.le_of_ble_eq_true rfl | omega) ?_
        exact hQ _
      · refine sg_aload_n (pc := 20) (j := 2) (dc_X5_words_0.2.2.1.1) rfl rfl ?_
        refine sg_iload (pc := 21) (dc_X5_words_0.2.2.1.2) rfl ?_
        refine sg_cS2 (pc := 23) (d' := d - 1) (mc' := 0) (ms' := 0) g (dc_X5_words_0.2.2.2.1) cb_X5_isWordBegin ml_X5_219 ms_X5_isWordBegin (Nat.le_of_ble_eq_true rfl) (by first | exact jl_d0 hd rfl | omega) (by first | exact Nat.le_of_ble_eq_true rfl | omega) (by first | exact Nat.le_of_ble_eq_true rfl | omega) ?_
        refine s_X5_isWordBegin g (by first | exact jl_d1 hd rfl | omega) (by assumption) (by assumption) (fun v23 b23 => sg_K1 ?_)
        refine sg_if_eq (pc := 26) (tgt := 32) (dc_X5_words_0.2.2.2.2) (by decide) (fun c26 => ?_) (fun c26 => ?_)
        · first | refine sg_iincB (pc := 32) (dc_X5_words_29.1.1.2) rfl (by decide) (by decide) (by omega) (by omega) ?_ | refine sg_iinc (pc := 32) (dc_X5_words_29.1.1.2) rfl (by decide) (by decide) ?_
          refine sg_goto (pc := 35) (tgt := 11) (dc_X5_words_29.1.2.1) (by decide) ?_
          refine sg_lsub (lv' := [(4, _), (3, _), (0, _), (2, _)]) ⟨rfl, rfl, rfl, rfl, trivial⟩ ?_
          exact ih _ _ (by omega) (by first | exact jl_m1 hm (by omega) | exact jl_m2 hm (by omega) | omega)
        · first | refine sg_iincB (pc := 29) (dc_X5_words_29.1.1.1) rfl (by decide) (by decide) (by omega) (by omega) ?_ | refine sg_iinc (pc := 29) (dc_X5_words_29.1.1.1) rfl (by decide) (by decide) ?_
          first | refine sg_iincB (pc := 32) (dc_X5_words_29.1.1.2) rfl (by decide) (by decide) (by omega) (by omega) ?_ | refine sg_iinc (pc := 32) (dc_X5_words_29.1.1.2) rfl (by decide) (by decide) ?_
          refine sg_goto (pc := 35) (tgt := 11) (dc_X5_words_29.1.2.1) (by decide) ?_
          refine sg_lsub (lv' := [(4, _), (3, _), (0, _), (2, _)]) ⟨rfl, rfl, rfl, rfl, trivial⟩ ?_
          exact ih _ _ (by omega) (by first | exact jl_m1 hm (by omega) | exact jl_m2 hm (by omega) | omega)
  refine sg_lsub (lv' := [(4, _), (3, _), (0, _), (2, _)]) ⟨rfl, rfl, rfl, rfl, trivial⟩ ?_
  exact loop11 _ _ _ (by omega) (Nat.lt_succ_self _)

set_option maxRecDepth 100000 in
theorem s_X5_isAlike_N {w : sg_W} {Q : sg_O → sg_H → Prop} {h : sg_H} (g : sg_G w) {d : Nat} (hd : 14 ≤ d) {B : Nat} (hx : ck_X h B) {row other : Int} (hv : ¬ (row < 0 ∨ 4 ≤ row ∨ other < 0 ∨ 4 ≤ other)) (hQ : ∀ v : Int, (v = 0 ∨ v = 1) → Q (.inl (some (sg_i v))) h) : sg_C w mi_X5_isAlike d 0 0 [sg_r B, sg_i row, sg_i other] h Q := by
  refine sg_of pn_X5 (Nat.le_of_ble_eq_true rfl) ?_
  have y0 := ck_Y0 hx
  refine sg_aload_n (pc := 0) (j := 0) (dc_X5_isAlike_0.1.1.1.1) rfl rfl ?_
  refine sg_iload_n (pc := 1) (j := 1) (dc_X5_isAlike_0.1.1.1.2) rfl rfl ?_
  refine sg_cE1 (pc := 2) (d' := d - 1) (mc' := 0) (ms' := 0) 6 g (dc_X5_isAlike_0.1.1.2.1) cb_X5_rowOf ml_X5_36 mn_X5_rowOf rfl mv_X5_rowOf (Nat.le_of_ble_eq_true rfl) (ck_oc (by assumption)) (Nat.le_of_ble_eq_true rfl) (by first | exact jl_d0 hd rfl | omega) (by first | exact Nat.le_of_ble_eq_true rfl | omega) (by first | exact Nat.le_of_ble_eq_true rfl | omega) ?_
  refine s_X5_rowOf_N g (by first | exact jl_d1 hd rfl | omega) (by assumption) (by omega) (fun a2 l2 r2 r2b => sg_K1 ?_)
  refine sg_astore_n (pc := 5) (j := 3) (dc_X5_isAlike_0.1.1.2.2) rfl (by decide) ?_
  refine sg_aload_n (pc := 6) (j := 0) (dc_X5_isAlike_0.1.2.1.1) rfl rfl ?_
  refine sg_iload_n (pc := 7) (j := 2) (dc_X5_isAlike_0.1.2.1.2) rfl rfl ?_
  refine sg_cE1 (pc := 8) (d' := d - 1) (mc' := 0) (ms' := 0) 6 g (dc_X5_isAlike_0.1.2.2.1) cb_X5_rowOf ml_X5_36 mn_X5_rowOf rfl mv_X5_rowOf (Nat.le_of_ble_eq_true rfl) (ck_oc (by assumption)) (Nat.le_of_ble_eq_true rfl) (by first | exact jl_d0 hd rfl | omega) (by first | exact Nat.le_of_ble_eq_true rfl | omega) (by first | exact Nat.le_of_ble_eq_true rfl | omega) ?_
  refine s_X5_rowOf_N g (by first | exact jl_d1 hd rfl | omega) (by assumption) (by omega) (fun a8 l8 r8 r8b => sg_K1 ?_)
  refine sg_astore (pc := 11) (dc_X5_isAlike_0.1.2.2.2) (by decide) ?_
  refine sg_aload_n (pc := 13) (j := 3) (dc_X5_isAlike_0.2.1.1.1) rfl rfl ?_
  refine sg_cE0 (pc := 14) (d' := d - 1) (mc' := 0) (ms' := 0) 3 g (dc_X5_isAlike_0.2.1.1.2) cb_X0_size ml_X5_63 mn_X0_size rfl mv_X0_size (Nat.le_of_ble_eq_true rfl) (ck_lc (by assumption) (by first | assumption | exact ck_rev)) (Nat.le_of_ble_eq_true rfl) (by first | exact jl_d0 hd rfl | omega) (by first | exact Nat.le_of_ble_eq_true rfl | omega) (by first | exact Nat.le_of_ble_eq_true rfl | omega) ?_
  refine s_X0_size g (by first | exact jl_d1 hd rfl | omega) (by assumption) (by first | assumption | exact ck_rev) (fun z14 l14 u14 N14 => sg_K1 ?_)
  refine sg_aload (pc := 17) (dc_X5_isAlike_0.2.1.2.1) rfl ?_
  refine sg_cE0 (pc := 19) (d' := d - 1) (mc' := 0) (ms' := 0) 3 g (dc_X5_isAlike_0.2.1.2.2) cb_X0_size ml_X5_63 mn_X0_size rfl mv_X0_size (Nat.le_of_ble_eq_true rfl) (ck_lc (by assumption) (by first | assumption | exact ck_rev)) (Nat.le_of_ble_eq_true rfl) (by first | exact jl_d0 hd rfl | omega) (by first | exact Nat.le_of_ble_eq_true rfl | omega) (by first | exact Nat.le_of_ble_eq_true rfl | omega) ?_
  refine s_X0_size g (by first | exact jl_d1 hd rfl | omega) (by assumption) (by first | assumption | exact ck_rev) (fun z19 l19 u19 N19 => sg_K1 ?_)
  refine sg_icmp_eq (pc := 22) (tgt := 27) (dc_X5_isAlike_0.2.2.1.1) (by decide) (fun c22 => ?_) (fun c22 => ?_)
  · refine sg_iconst (pc := 27) (z := 0) (dc_X5_isAlike_0.2.2.2.2) (by decide) ?_
    refine sg_istore (pc := 28) (dc_X5_isAlike_28.1.1.1.1) (by decide) ?_
    have loop30 : ∀ (N : Nat) (p : Int), (0 ≤ p) → (40 - p).toNat < N → sg_R w mi_X5_isAlike d 0 0 Q 30 [(5, sg_i p), (0, sg_r B), (3, sg_r a2), (4, sg_r a8)] [] h 0 0 := by
      intro N
      induction N with
      | zero => intro p p0 hm; exact absurd hm (Nat.not_lt_zero _)
      | succ N ih =>
        intro p p0 hm
        refine sg_iload (pc := 30) (dc_X5_isAlike_28.1.1.1.2) rfl ?_
        refine sg_aload_n (pc := 32) (j := 3) (dc_X5_isAlike_28.1.1.2.1) rfl rfl ?_
        refine sg_cE0 (pc := 33) (d' := d - 1) (mc' := 0) (ms' := 0) 3 g (dc_X5_isAlike_28.1.1.2.2) cb_X0_size ml_X5_63 mn_X0_size rfl mv_X0_size (Nat.le_of_ble_eq_true rfl) (ck_lc (by assumption) (by first | assumption | exact ck_rev)) (Nat.le_of_ble_eq_true rfl) (by first | exact jl_d0 hd rfl | omega) (by first | exact Nat.le_of_ble_eq_true rfl | omega) (by first | exact Nat.le_of_ble_eq_true rfl | omega) ?_
        refine s_X0_size g (by first | exact jl_d1 hd rfl | omega) (by assumption) (by first | assumption | exact ck_rev) (fun z33 l33 u33 N33 => sg_K1 ?_)
        refine sg_icmp_ge (pc := 36) (tgt := 69) (dc_X5_isAlike_28.1.2.1.1) (by decide) (fun c36 => ?_) (fun c36 => ?_)
        · refine sg_iconst (pc := 69) (z := 1) (dc_X5_isAlike_63.2.1) (by decide) ?_
          refine sg_zret (pc := 70) (dc_X5_isAlike_63.2.2) rfl (by first | exact Or.inl rfl | exact Or.inr rfl | omega | assumption) (by first | exact Nat.le_of_ble_eq_true rfl | omega) (by first | exact Nat.le_of_ble_eq_true rfl | omega) ?_
          exact hQ _ (by first | exact Or.inl rfl | exact Or.inr rfl | omega | assumption)
        · refine sg_aload_n (pc := 39) (j := 3) (dc_X5_isAlike_28.1.2.1.2) rfl rfl ?_
          refine sg_iload (pc := 40) (dc_X5_isAlike_28.1.2.2.1) rfl ?_
          refine sg_cE1 (pc := 42) (d' := d - 1) (mc' := 0) (ms' := 0) 3 g (dc_X5_isAlike_28.1.2.2.2) cb_X0_get ml_X5_75 mn_X0_get rfl mv_X0_get (Nat.le_of_ble_eq_true rfl) (ck_lc (by assumption) (by first | assumption | exact ck_rev)) (Nat.le_of_ble_eq_true rfl) (by first | exact jl_d0 hd rfl | omega) (by first | exact Nat.le_of_ble_eq_true rfl | omega) (by first | exact Nat.le_of_ble_eq_true rfl | omega) ?_
          refine s_X0_get g (by first | exact jl_d1 hd rfl | omega) (by assumption) (by first | assumption | exact ck_rev) (fun z42 G42 v42 => sg_K1 ?_)
          refine sg_cS1 (pc := 45) (d' := d - 1) (mc' := 0) (ms' := 0) g (dc_X5_isAlike_28.2.1.1.1) cb_X2_upperOf ml_X5_78 ms_X2_upperOf (Nat.le_of_ble_eq_true rfl) (by first | exact jl_d0 hd rfl | omega) (by first | exact Nat.le_of_ble_eq_true rfl | omega) (by first | exact Nat.le_of_ble_eq_true rfl | omega) ?_
          refine s_X2_upperOf g (by first | exact jl_d1 hd rfl | omega) (fun z45 h45 => sg_K1 ?_)
          refine sg_aload (pc := 48) (dc_X5_isAlike_28.2.1.1.2) rfl ?_
          refine sg_iload (pc := 50) (dc_X5_isAlike_28.2.1.2.1) rfl ?_
          refine sg_cE1 (pc := 52) (d' := d - 1) (mc' := 0) (ms' := 0) 3 g (dc_X5_isAlike_28.2.1.2.2) cb_X0_get ml_X5_75 mn_X0_get rfl mv_X0_get (Nat.le_of_ble_eq_true rfl) (ck_lc (by assumption) (by first | assumption | exact ck_rev)) (Nat.le_of_ble_eq_true rfl) (by first | exact jl_d0 hd rfl | omega) (by first | exact Nat.le_of_ble_eq_true rfl | omega) (by first | exact Nat.le_of_ble_eq_true rfl | omega) ?_
          refine s_X0_get g (by first | exact jl_d1 hd rfl | omega) (by assumption) (by first | assumption | exact ck_rev) (fun z52 G52 v52 => sg_K1 ?_)
          refine sg_cS1 (pc := 55) (d' := d - 1) (mc' := 0) (ms' := 0) g (dc_X5_isAlike_28.2.2.1.1) cb_X2_upperOf ml_X5_78 ms_X2_upperOf (Nat.le_of_ble_eq_true rfl) (by first | exact jl_d0 hd rfl | omega) (by first | exact Nat.le_of_ble_eq_true rfl | omega) (by first | exact Nat.le_of_ble_eq_true rfl | omega) ?_
          refine s_X2_upperOf g (by first | exact jl_d1 hd rfl | omega) (fun z55 h55 => sg_K1 ?_)
          refine sg_icmp_eq (pc := 58) (tgt := 63) (dc_X5_isAlike_28.2.2.1.2) (by decide) (fun c58 => ?_) (fun c58 => ?_)
          · first | refine sg_iincB (pc := 63) (dc_X5_isAlike_63.1.1) rfl (by decide) (by decide) (by omega) (by omega) ?_ | refine sg_iinc (pc := 63) (dc_X5_isAlike_63.1.1) rfl (by decide) (by decide) ?_
            refine sg_goto (pc := 66) (tgt := 30) (dc_X5_isAlike_63.1.2) (by decide) ?_
            refine sg_lsub (lv' := [(5, _), (0, _), (3, _), (4, _)]) ⟨rfl, rfl, rfl, rfl, trivial⟩ ?_
            exact ih _ (by omega) (by first | exact jl_m1 hm (by omega) | exact jl_m2 hm (by omega) | omega)
          · refine sg_iconst (pc := 61) (z := 0) (dc_X5_isAlike_28.2.2.2.1) (by decide) ?_
            refine sg_zret (pc := 62) (dc_X5_isAlike_28.2.2.2.2) rfl (by first | exact Or.inl rfl | exact Or.inr rfl | omega | assumption) (by first | exact Nat.le_of_ble_eq_true rfl | omega) (by first | exact Nat.le_of_ble_eq_true rfl | omega) ?_
            exact hQ _ (by first | exact Or.inl rfl | exact Or.inr rfl | omega | assumption)
    refine sg_lsub (lv' := [(5, _), (0, _), (3, _), (4, _)]) ⟨rfl, rfl, rfl, rfl, trivial⟩ ?_
    exact loop30 _ _ (by omega) (Nat.lt_succ_self _)
  · refine sg_iconst (pc := 25) (z := 0) (dc_X5_isAlike_0.2.2.1.2) (by decide) ?_
    refine sg_zret (pc := 26) (dc_X5_isAlike_0.2.2.2.1) rfl (by first | exact Or.inl rfl | exact Or.inr rfl | omega | assumption) (by first | exact Nat.le_of_ble_eq_true rfl | omega) (by first | exact Nat.le_of_ble_eq_true rfl | omega) ?_
    exact hQ _ (by first | exact Or.inl rfl | exact Or.inr rfl | omega | assumption)

set_option maxRecDepth 100000 in
theorem s_X5_order_N {w : sg_W} {Q : sg_O → sg_H → Prop} {h : sg_H} (g : sg_G w) {d : Nat} (hd : 14 ≤ d) {B : Nat} (hx : ck_X h B) {row other : Int} (hv : ¬ (row < 0 ∨ 4 ≤ row ∨ other < 0 ∨ 4 ≤ other)) (hQ : ∀ v : Int, Q (.inl (some (sg_i v))) h) : sg_C w mi_X5_order d 0 0 [sg_r B, sg_i row, sg_i other] h Q := by
  refine sg_of pn_X5 (Nat.le_of_ble_eq_true rfl) ?_
  have y0 := ck_Y0 hx
  refine sg_aload_n (pc := 0) (j := 0) (dc_X5_order_0.1.1.1.1) rfl rfl ?_
  refine sg_iload_n (pc := 1) (j := 1) (dc_X5_order_0.1.1.1.2) rfl rfl ?_
  refine sg_cE1 (pc := 2) (d' := d - 1) (mc' := 0) (ms' := 0) 6 g (dc_X5_order_0.1.1.2.1) cb_X5_rowOf ml_X5_36 mn_X5_rowOf rfl mv_X5_rowOf (Nat.le_of_ble_eq_true rfl) (ck_oc (by assumption)) (Nat.le_of_ble_eq_true rfl) (by first | exact jl_d0 hd rfl | omega) (by first | exact Nat.le_of_ble_eq_true rfl | omega) (by first | exact Nat.le_of_ble_eq_true rfl | omega) ?_
  refine s_X5_rowOf_N g (by first | exact jl_d1 hd rfl | omega) (by assumption) (by omega) (fun a2 l2 r2 r2b => sg_K1 ?_)
  refine sg_astore_n (pc := 5) (j := 3) (dc_X5_order_0.1.1.2.2) rfl (by decide) ?_
  refine sg_aload_n (pc := 6) (j := 0) (dc_X5_order_0.1.2.1.1) rfl rfl ?_
  refine sg_iload_n (pc := 7) (j := 2) (dc_X5_order_0.1.2.1.2) rfl rfl ?_
  refine sg_cE1 (pc := 8) (d' := d - 1) (mc' := 0) (ms' := 0) 6 g (dc_X5_order_0.1.2.2.1) cb_X5_rowOf ml_X5_36 mn_X5_rowOf rfl mv_X5_rowOf (Nat.le_of_ble_eq_true rfl) (ck_oc (by assumption)) (Nat.le_of_ble_eq_true rfl) (by first | exact jl_d0 hd rfl | omega) (by first | exact Nat.le_of_ble_eq_true rfl | omega) (by first | exact Nat.le_of_ble_eq_true rfl | omega) ?_
  refine s_X5_rowOf_N g (by first | exact jl_d1 hd rfl | omega) (by assumption) (by omega) (fun a8 l8 r8 r8b => sg_K1 ?_)
  refine sg_astore (pc := 11) (dc_X5_order_0.1.2.2.2) (by decide) ?_
  refine sg_iconst (pc := 13) (z := 0) (dc_X5_order_0.2.1.1.1) (by decide) ?_
  refine sg_istore (pc := 14) (dc_X5_order_0.2.1.1.2) (by decide) ?_
  have loop16 : ∀ (N : Nat) (p : Int), (0 ≤ p) → (40 - p).toNat < N → sg_R w mi_X5_order d 0 0 Q 16 [(5, sg_i p), (0, sg_r B), (3, sg_r a2), (4, sg_r a8)] [] h 0 0 := by
    intro N
    induction N with
    | zero => intro p p0 hm; exact absurd hm (Nat.not_lt_zero _)
    | succ N ih =>
      intro p p0 hm
      refine sg_iload (pc := 16) (dc_X5_order_0.2.1.2.1) rfl ?_
      refine sg_aload_n (pc := 18) (j := 3) (dc_X5_order_0.2.1.2.2) rfl rfl ?_
      refine sg_cE0 (pc := 19) (d' := d - 1) (mc' := 0) (ms' := 0) 3 g (dc_X5_order_0.2.2.1.1) cb_X0_size ml_X5_63 mn_X0_size rfl mv_X0_size (Nat.le_of_ble_eq_true rfl) (ck_lc (by assumption) (by first | assumption | exact ck_rev)) (Nat.le_of_ble_eq_true rfl) (by first | exact jl_d0 hd rfl | omega) (by first | exact Nat.le_of_ble_eq_true rfl | omega) (by first | exact Nat.le_of_ble_eq_true rfl | omega) ?_
      refine s_X0_size g (by first | exact jl_d1 hd rfl | omega) (by assumption) (by first | assumption | exact ck_rev) (fun z19 l19 u19 N19 => sg_K1 ?_)
      refine sg_icmp_ge (pc := 22) (tgt := 74) (dc_X5_order_0.2.2.1.2) (by decide) (fun c22 => ?_) (fun c22 => ?_)
      · refine sg_aload_n (pc := 74) (j := 3) (dc_X5_order_67.1.1.2.2) rfl rfl ?_
        refine sg_cE0 (pc := 75) (d' := d - 1) (mc' := 0) (ms' := 0) 3 g (dc_X5_order_67.1.2.1.1) cb_X0_size ml_X5_63 mn_X0_size rfl mv_X0_size (Nat.le_of_ble_eq_true rfl) (ck_lc (by assumption) (by first | assumption | exact ck_rev)) (Nat.le_of_ble_eq_true rfl) (by first | exact jl_d0 hd rfl | omega) (by first | exact Nat.le_of_ble_eq_true rfl | omega) (by first | exact Nat.le_of_ble_eq_true rfl | omega) ?_
        refine s_X0_size g (by first | exact jl_d1 hd rfl | omega) (by assumption) (by first | assumption | exact ck_rev) (fun z75 l75 u75 N75 => sg_K1 ?_)
        refine sg_aload (pc := 78) (dc_X5_order_67.1.2.1.2) rfl ?_
        refine sg_cE0 (pc := 80) (d' := d - 1) (mc' := 0) (ms' := 0) 3 g (dc_X5_order_67.1.2.2.1) cb_X0_size ml_X5_63 mn_X0_size rfl mv_X0_size (Nat.le_of_ble_eq_true rfl) (ck_lc (by assumption) (by first | assumption | exact ck_rev)) (Nat.le_of_ble_eq_true rfl) (by first | exact jl_d0 hd rfl | omega) (by first | exact Nat.le_of_ble_eq_true rfl | omega) (by first | exact Nat.le_of_ble_eq_true rfl | omega) ?_
        refine s_X0_size g (by first | exact jl_d1 hd rfl | omega) (by assumption) (by first | assumption | exact ck_rev) (fun z80 l80 u80 N80 => sg_K1 ?_)
        refine sg_cS2 (pc := 83) (d' := d - 1) (mc' := 0) (ms' := 0) g (dc_X5_order_67.1.2.2.2) cb_X5_ahead ml_X5_231 ms_X5_ahead (Nat.le_of_ble_eq_true rfl) (by first | exact jl_d0 hd rfl | omega) (by first | exact Nat.le_of_ble_eq_true rfl | omega) (by first | exact Nat.le_of_ble_eq_true rfl | omega) ?_
        refine s_X5_ahead g (by first | exact jl_d1 hd rfl | omega) (fun z83 h83 => sg_K1 ?_)
        refine sg_iret (pc := 86) (dc_X5_order_67.2.1.1.1) rfl (by first | exact Nat.le_of_ble_eq_true rfl | omega) (by first | exact Nat.le_of_ble_eq_true rfl | omega) ?_
        exact hQ _
      · refine sg_iload (pc := 25) (dc_X5_order_0.2.2.2.1) rfl ?_
        refine sg_aload (pc := 27) (dc_X5_order_0.2.2.2.2) rfl ?_
        refine sg_cE0 (pc := 29) (d' := d - 1) (mc' := 0) (ms' := 0) 3 g (dc_X5_order_29.1.1.1.1) cb_X0_size ml_X5_63 mn_X0_size rfl mv_X0_size (Nat.le_of_ble_eq_true rfl) (ck_lc (by assumption) (by first | assumption | exact ck_rev)) (Nat.le_of_ble_eq_true rfl) (by first | exact jl_d0 hd rfl | omega) (by first | exact Nat.le_of_ble_eq_true rfl | omega) (by first | exact Nat.le_of_ble_eq_true rfl | omega) ?_
        refine s_X0_size g (by first | exact jl_d1 hd rfl | omega) (by assumption) (by first | assumption | exact ck_rev) (fun z29 l29 u29 N29 => sg_K1 ?_)
        refine sg_icmp_ge (pc := 32) (tgt := 74) (dc_X5_order_29.1.1.1.2) (by decide) (fun c32 => ?_) (fun c32 => ?_)
        · refine sg_aload_n (pc := 74) (j := 3) (dc_X5_order_67.1.1.2.2) rfl rfl ?_
          refine sg_cE0 (pc := 75) (d' := d - 1) (mc' := 0) (ms' := 0) 3 g (dc_X5_order_67.1.2.1.1) cb_X0_size ml_X5_63 mn_X0_size rfl mv_X0_size (Nat.le_of_ble_eq_true rfl) (ck_lc (by assumption) (by first | assumption | exact ck_rev)) (Nat.le_of_ble_eq_true rfl) (by first | exact jl_d0 hd rfl | omega) (by first | exact Nat.le_of_ble_eq_true rfl | omega) (by first | exact Nat.le_of_ble_eq_true rfl | omega) ?_
          refine s_X0_size g (by first | exact jl_d1 hd rfl | omega) (by assumption) (by first | assumption | exact ck_rev) (fun z75 l75 u75 N75 => sg_K1 ?_)
          refine sg_aload (pc := 78) (dc_X5_order_67.1.2.1.2) rfl ?_
          refine sg_cE0 (pc := 80) (d' := d - 1) (mc' := 0) (ms' := 0) 3 g (dc_X5_order_67.1.2.2.1) cb_X0_size ml_X5_63 mn_X0_size rfl mv_X0_size (Nat.le_of_ble_eq_true rfl) (ck_lc (by assumption) (by first | assumption | exact ck_rev)) (Nat.le_of_ble_eq_true rfl) (by first | exact jl_d0 hd rfl | omega) (by first | exact Nat.le_of_ble_eq_true rfl | omega) (by first | exact Nat.le_of_ble_eq_true rfl | omega) ?_
          refine s_X0_size g (by first | exact jl_d1 hd rfl | omega) (by assumption) (by first | assumption | exact ck_rev) (fun z80 l80 u80 N80 => sg_K1 ?_)
          refine sg_cS2 (pc := 83) (d' := d - 1) (mc' := 0) (ms' := 0) g (dc_X5_order_67.1.2.2.2) cb_X5_ahead ml_X5_231 ms_X5_ahead (Nat.le_of_ble_eq_true rfl) (by first | exact jl_d0 hd rfl | omega) (by first | exact Nat.le_of_ble_eq_true rfl | omega) (by first | exact Nat.le_of_ble_eq_true rfl | omega) ?_
          refine s_X5_ahead g (by first | exact jl_d1 hd rfl | omega) (fun z83 h83 => sg_K1 ?_)
          refine sg_iret (pc := 86) (dc_X5_order_67.2.1.1.1) rfl (by first | exact Nat.le_of_ble_eq_true rfl | omega) (by first | exact Nat.le_of_ble_eq_true rfl | omega) ?_
          exact hQ _
        · refine sg_aload_n (pc := 35) (j := 3) (dc_X5_order_29.1.1.2.1) rfl rfl ?_
          refine sg_iload (pc := 36) (dc_X5_order_29.1.1.2.2) rfl ?_
          refine sg_cE1 (pc := 38) (d' := d - 1) (mc' := 0) (ms' := 0) 3 g (dc_X5_order_29.1.2.1.1) cb_X0_get ml_X5_75 mn_X0_get rfl mv_X0_get (Nat.le_of_ble_eq_true rfl) (ck_lc (by assumption) (by first | assumption | exact ck_rev)) (Nat.le_of_ble_eq_true rfl) (by first | exact jl_d0 hd rfl | omega) (by first | exact Nat.le_of_ble_eq_true rfl | omega) (by first | exact Nat.le_of_ble_eq_true rfl | omega) ?_
          refine s_X0_get g (by first | exact jl_d1 hd rfl | omega) (by assumption) (by first | assumption | exact ck_rev) (fun z38 G38 v38 => sg_K1 ?_)
          refine sg_aload (pc := 41) (dc_X5_order_29.1.2.1.2) rfl ?_
          refine sg_iload (pc := 43) (dc_X5_order_29.1.2.2.1) rfl ?_
          refine sg_cE1 (pc := 45) (d' := d - 1) (mc' := 0) (ms' := 0) 3 g (dc_X5_order_29.1.2.2.2) cb_X0_get ml_X5_75 mn_X0_get rfl mv_X0_get (Nat.le_of_ble_eq_true rfl) (ck_lc (by assumption) (by first | assumption | exact ck_rev)) (Nat.le_of_ble_eq_true rfl) (by first | exact jl_d0 hd rfl | omega) (by first | exact Nat.le_of_ble_eq_true rfl | omega) (by first | exact Nat.le_of_ble_eq_true rfl | omega) ?_
          refine s_X0_get g (by first | exact jl_d1 hd rfl | omega) (by assumption) (by first | assumption | exact ck_rev) (fun z45 G45 v45 => sg_K1 ?_)
          refine sg_icmp_eq (pc := 48) (tgt := 68) (dc_X5_order_29.2.1.1.1) (by decide) (fun c48 => ?_) (fun c48 => ?_)
          · first | refine sg_iincB (pc := 68) (dc_X5_order_67.1.1.1.2) rfl (by decide) (by decide) (by omega) (by omega) ?_ | refine sg_iinc (pc := 68) (dc_X5_order_67.1.1.1.2) rfl (by decide) (by decide) ?_
            refine sg_goto (pc := 71) (tgt := 16) (dc_X5_order_67.1.1.2.1) (by decide) ?_
            refine sg_lsub (lv' := [(5, _), (0, _), (3, _), (4, _)]) ⟨rfl, rfl, rfl, rfl, trivial⟩ ?_
            exact ih _ (by omega) (by first | exact jl_m1 hm (by omega) | exact jl_m2 hm (by omega) | omega)
          · refine sg_aload_n (pc := 51) (j := 3) (dc_X5_order_29.2.1.1.2) rfl rfl ?_
            refine sg_iload (pc := 52) (dc_X5_order_29.2.1.2.1) rfl ?_
            refine sg_cE1 (pc := 54) (d' := d - 1) (mc' := 0) (ms' := 0) 3 g (dc_X5_order_29.2.1.2.2) cb_X0_get ml_X5_75 mn_X0_get rfl mv_X0_get (Nat.le_of_ble_eq_true rfl) (ck_lc (by assumption) (by first | assumption | exact ck_rev)) (Nat.le_of_ble_eq_true rfl) (by first | exact jl_d0 hd rfl | omega) (by first | exact Nat.le_of_ble_eq_true rfl | omega) (by first | exact Nat.le_of_ble_eq_true rfl | omega) ?_
            refine s_X0_get g (by first | exact jl_d1 hd rfl | omega) (by assumption) (by first | assumption | exact ck_rev) (fun z54 G54 v54 => sg_K1 ?_)
            refine sg_aload (pc := 57) (dc_X5_order_29.2.2.1.1) rfl ?_
            refine sg_iload (pc := 59) (dc_X5_order_29.2.2.1.2) rfl ?_
            refine sg_cE1 (pc := 61) (d' := d - 1) (mc' := 0) (ms' := 0) 3 g (dc_X5_order_29.2.2.2.1) cb_X0_get ml_X5_75 mn_X0_get rfl mv_X0_get (Nat.le_of_ble_eq_true rfl) (ck_lc (by assumption) (by first | assumption | exact ck_rev)) (Nat.le_of_ble_eq_true rfl) (by first | exact jl_d0 hd rfl | omega) (by first | exact Nat.le_of_ble_eq_true rfl | omega) (by first | exact Nat.le_of_ble_eq_true rfl | omega) ?_
            refine s_X0_get g (by first | exact jl_d1 hd rfl | omega) (by assumption) (by first | assumption | exact ck_rev) (fun z61 G61 v61 => sg_K1 ?_)
            refine sg_cS2 (pc := 64) (d' := d - 1) (mc' := 0) (ms' := 0) g (dc_X5_order_29.2.2.2.2) cb_X5_ahead ml_X5_231 ms_X5_ahead (Nat.le_of_ble_eq_true rfl) (by first | exact jl_d0 hd rfl | omega) (by first | exact Nat.le_of_ble_eq_true rfl | omega) (by first | exact Nat.le_of_ble_eq_true rfl | omega) ?_
            refine s_X5_ahead g (by first | exact jl_d1 hd rfl | omega) (fun z64 h64 => sg_K1 ?_)
            refine sg_iret (pc := 67) (dc_X5_order_67.1.1.1.1) rfl (by first | exact Nat.le_of_ble_eq_true rfl | omega) (by first | exact Nat.le_of_ble_eq_true rfl | omega) ?_
            exact hQ _
  refine sg_lsub (lv' := [(5, _), (0, _), (3, _), (4, _)]) ⟨rfl, rfl, rfl, rfl, trivial⟩ ?_
  exact loop16 _ _ (by omega) (Nat.lt_succ_self _)

set_option maxRecDepth 100000 in
theorem s_X5_house_N {w : sg_W} {Q : sg_O → sg_H → Prop} {h : sg_H} (g : sg_G w) {d : Nat} (hd : 14 ≤ d) {B : Nat} (hx : ck_X h B) {what : Int} (hv : ¬ (what < 0 ∨ 3 < what)) (hQ : ∀ v : Int, Q (.inl (some (sg_i v))) h) : sg_C w mi_X5_house d 0 0 [sg_r B, sg_i what] h Q := by
  refine sg_of pn_X5 (Nat.le_of_ble_eq_true rfl) ?_
  have y0 := ck_Y0 hx
  refine sg_iload_n (pc := 0) (j := 1) (dc_X5_house_0.1.1.1.1) rfl rfl ?_
  by_cases cs : what < 0 ∨ 3 < what
  · refine sg_tsOut (pc := 1) (tgt := 61) (dc_X5_house_0.1.1.1.2) cs (by decide) ?_
    exfalso; omega
  · rcases (show what = 0 ∨ what = 1 ∨ what = 2 ∨ what = 3 by omega) with rfl | rfl | rfl | rfl
    · refine sg_tsIn (pc := 1) (tgt := 32) (dc_X5_house_0.1.1.1.2) (by omega) (by omega) rfl (by decide) ?_
      refine sg_aload_n (pc := 32) (j := 0) (dc_X5_house_0.1.1.2.1) rfl rfl ?_
      refine ck_gob (pc := 33) g (dc_X5_house_0.1.1.2.2) fk_X5_10 (by assumption) (fun _ => rfl) ?_
      refine sg_cE0 (pc := 36) (d' := d - 1) (mc' := 0) (ms' := 0) 5 g (dc_X5_house_0.1.2.1.1) cb_X3_howManySigns ml_X5_272 mn_X3_howManySigns rfl mv_X3_howManySigns (Nat.le_of_ble_eq_true rfl) (ck_sc (by assumption) (by first | assumption | exact ck_now)) (Nat.le_of_ble_eq_true rfl) (by first | exact jl_d0 hd rfl | omega) (by first | exact Nat.le_of_ble_eq_true rfl | omega) (by first | exact Nat.le_of_ble_eq_true rfl | omega) ?_
      refine s_X3_howManySigns g (by first | exact jl_d1 hd rfl | omega) (by assumption) (by first | assumption | exact ck_now) (fun z36 => sg_K1 ?_)
      refine sg_iret (pc := 39) (dc_X5_house_0.1.2.1.2) rfl (by first | exact Nat.le_of_ble_eq_true rfl | omega) (by first | exact Nat.le_of_ble_eq_true rfl | omega) ?_
      exact hQ _
    · refine sg_tsIn (pc := 1) (tgt := 40) (dc_X5_house_0.1.1.1.2) (by omega) (by omega) rfl (by decide) ?_
      refine sg_aload_n (pc := 40) (j := 0) (dc_X5_house_0.1.2.2.1) rfl rfl ?_
      refine ck_gob (pc := 41) g (dc_X5_house_0.1.2.2.2) fk_X5_10 (by assumption) (fun _ => rfl) ?_
      refine sg_cE0 (pc := 44) (d' := d - 1) (mc' := 0) (ms' := 0) 5 g (dc_X5_house_0.2.1.1.1) cb_X3_howManyUnits ml_X5_275 mn_X3_howManyUnits rfl mv_X3_howManyUnits (Nat.le_of_ble_eq_true rfl) (ck_sc (by assumption) (by first | assumption | exact ck_now)) (Nat.le_of_ble_eq_true rfl) (by first | exact jl_d0 hd rfl | omega) (by first | exact Nat.le_of_ble_eq_true rfl | omega) (by first | exact Nat.le_of_ble_eq_true rfl | omega) ?_
      refine s_X3_howManyUnits g (by first | exact jl_d1 hd rfl | omega) (by assumption) (by first | assumption | exact ck_now) (fun z44 => sg_K1 ?_)
      refine sg_iret (pc := 47) (dc_X5_house_0.2.1.1.2) rfl (by first | exact Nat.le_of_ble_eq_true rfl | omega) (by first | exact Nat.le_of_ble_eq_true rfl | omega) ?_
      exact hQ _
    · refine sg_tsIn (pc := 1) (tgt := 48) (dc_X5_house_0.1.1.1.2) (by omega) (by omega) rfl (by decide) ?_
      refine sg_aload_n (pc := 48) (j := 0) (dc_X5_house_0.2.1.2.1) rfl rfl ?_
      refine ck_gob (pc := 49) g (dc_X5_house_0.2.1.2.2) fk_X5_19 (by assumption) (fun _ => rfl) ?_
      refine sg_cE0 (pc := 52) (d' := d - 1) (mc' := 0) (ms' := 0) 4 g (dc_X5_house_0.2.2.1.1) cb_X1_size ml_X5_183 mn_X1_size rfl mv_X1_size (Nat.le_of_ble_eq_true rfl) (ck_pc (by assumption)) (Nat.le_of_ble_eq_true rfl) (by first | exact jl_d0 hd rfl | omega) (by first | exact Nat.le_of_ble_eq_true rfl | omega) (by first | exact Nat.le_of_ble_eq_true rfl | omega) ?_
      refine s_X1_size g (by first | exact jl_d1 hd rfl | omega) (by assumption) (fun z52 => sg_K1 ?_)
      refine sg_iret (pc := 55) (dc_X5_house_0.2.2.1.2) rfl (by first | exact Nat.le_of_ble_eq_true rfl | omega) (by first | exact Nat.le_of_ble_eq_true rfl | omega) ?_
      exact hQ _
    · refine sg_tsIn (pc := 1) (tgt := 56) (dc_X5_house_0.1.1.1.2) (by omega) (by omega) rfl (by decide) ?_
      refine sg_aload_n (pc := 56) (j := 0) (dc_X5_house_0.2.2.2.1) rfl rfl ?_
      refine ck_gkn (pc := 57) g (dc_X5_house_0.2.2.2.2) fk_X5_32 hx (fun z hz => ?_)
      refine sg_iret (pc := 60) (dc_X5_house_60.1.1.1) rfl (by first | exact Nat.le_of_ble_eq_true rfl | omega) (by first | exact Nat.le_of_ble_eq_true rfl | omega) ?_
      exact hQ _

set_option maxRecDepth 100000 in
theorem s_X5_isSound {w : sg_W} {Q : sg_O → sg_H → Prop} {h : sg_H} (g : sg_G w) {d : Nat} (hd : 14 ≤ d) {B : Nat} (hx : ck_X h B) (hQ : ∀ v : Int, (v = 0 ∨ v = 1) → Q (.inl (some (sg_i v))) h) : sg_C w mi_X5_isSound d 0 0 [sg_r B] h Q := by
  refine sg_of pn_X5 (Nat.le_of_ble_eq_true rfl) ?_
  have y0 := ck_Y0 hx
  refine sg_iconst (pc := 0) (z := 0) (dc_X5_isSound_0.1.1.1.1) (by decide) ?_
  refine sg_istore_n (pc := 1) (j := 1) (dc_X5_isSound_0.1.1.1.2) rfl (by decide) ?_
  have loop2 : ∀ (N : Nat) (p : Int), (0 ≤ p) → (4 - p).toNat < N → sg_R w mi_X5_isSound d 0 0 Q 2 [(1, sg_i p), (0, sg_r B)] [] h 0 0 := by
    intro N
    induction N with
    | zero => intro p p0 hm; exact absurd hm (Nat.not_lt_zero _)
    | succ N ih =>
      intro p p0 hm
      refine sg_iload_n (pc := 2) (j := 1) (dc_X5_isSound_0.1.1.2.1) rfl rfl ?_
      refine sg_iconst (pc := 3) (z := 4) (dc_X5_isSound_0.1.1.2.2) (by decide) ?_
      refine sg_icmp_ge (pc := 4) (tgt := 26) (dc_X5_isSound_0.1.2.1.1) (by decide) (fun c4 => ?_) (fun c4 => ?_)
      · refine sg_iconst (pc := 26) (z := 0) (dc_X5_isSound_0.2.2.2.1) (by decide) ?_
        refine sg_istore_n (pc := 27) (j := 1) (dc_X5_isSound_0.2.2.2.2) rfl (by decide) ?_
        have loop28 : ∀ (N : Nat) (p : Int), (0 ≤ p) → (2 - p).toNat < N → sg_R w mi_X5_isSound d 0 0 Q 28 [(1, sg_i p), (0, sg_r B)] [] h 0 0 := by
          intro N
          induction N with
          | zero => intro p p0 hm; exact absurd hm (Nat.not_lt_zero _)
          | succ N ih =>
            intro p p0 hm
            refine sg_iload_n (pc := 28) (j := 1) (dc_X5_isSound_28.1.1.1.1) rfl rfl ?_
            refine sg_iconst (pc := 29) (z := 2) (dc_X5_isSound_28.1.1.1.2) (by decide) ?_
            refine sg_icmp_ge (pc := 30) (tgt := 52) (dc_X5_isSound_28.1.1.2.1) (by decide) (fun c30 => ?_) (fun c30 => ?_)
            · refine sg_iconst (pc := 52) (z := 1) (dc_X5_isSound_28.2.2.1.1) (by decide) ?_
              refine sg_zret (pc := 53) (dc_X5_isSound_28.2.2.1.2) rfl (by first | exact Or.inl rfl | exact Or.inr rfl | omega | assumption) (by first | exact Nat.le_of_ble_eq_true rfl | omega) (by first | exact Nat.le_of_ble_eq_true rfl | omega) ?_
              exact hQ _ (by first | exact Or.inl rfl | exact Or.inr rfl | omega | assumption)
            · refine sg_aload_n (pc := 33) (j := 0) (dc_X5_isSound_28.1.1.2.2) rfl rfl ?_
              refine sg_iload_n (pc := 34) (j := 1) (dc_X5_isSound_28.1.2.1.1) rfl rfl ?_
              refine sg_cE1 (pc := 35) (d' := d - 1) (mc' := 0) (ms' := 0) 6 g (dc_X5_isSound_28.1.2.1.2) cb_X5_trackOf ml_X5_151 mn_X5_trackOf rfl mv_X5_trackOf (Nat.le_of_ble_eq_true rfl) (ck_oc (by assumption)) (Nat.le_of_ble_eq_true rfl) (by first | exact jl_d0 hd rfl | omega) (by first | exact Nat.le_of_ble_eq_true rfl | omega) (by first | exact Nat.le_of_ble_eq_true rfl | omega) ?_
              refine s_X5_trackOf_N g (by first | exact jl_d1 hd rfl | omega) (by assumption) (by omega) (fun a35 l35 r35 r35b => sg_K1 ?_)
              refine sg_cS1 (pc := 38) (d' := d - 1) (mc' := 0) (ms' := 0) g (dc_X5_isSound_28.1.2.2.1) cb_X5_isSoundTrack ml_X5_281 ms_X5_isSoundTrack (Nat.le_of_ble_eq_true rfl) (by first | exact jl_d0 hd rfl | omega) (by first | exact Nat.le_of_ble_eq_true rfl | omega) (by first | exact Nat.le_of_ble_eq_true rfl | omega) ?_
              refine s_X5_isSoundTrack g (by first | exact jl_d1 hd rfl | omega) (by assumption) (by assumption) (fun v38 b38 => sg_K1 ?_)
              refine sg_if_ne (pc := 41) (tgt := 46) (dc_X5_isSound_28.1.2.2.2) (by decide) (fun c41 => ?_) (fun c41 => ?_)
              · first | refine sg_iincB (pc := 46) (dc_X5_isSound_28.2.1.2.1) rfl (by decide) (by decide) (by omega) (by omega) ?_ | refine sg_iinc (pc := 46) (dc_X5_isSound_28.2.1.2.1) rfl (by decide) (by decide) ?_
                refine sg_goto (pc := 49) (tgt := 28) (dc_X5_isSound_28.2.1.2.2) (by decide) ?_
                refine sg_lsub (lv' := [(1, _), (0, _)]) ⟨rfl, rfl, trivial⟩ ?_
                exact ih _ (by omega) (by first | exact jl_m1 hm (by omega) | exact jl_m2 hm (by omega) | omega)
              · refine sg_iconst (pc := 44) (z := 0) (dc_X5_isSound_28.2.1.1.1) (by decide) ?_
                refine sg_zret (pc := 45) (dc_X5_isSound_28.2.1.1.2) rfl (by first | exact Or.inl rfl | exact Or.inr rfl | omega | assumption) (by first | exact Nat.le_of_ble_eq_true rfl | omega) (by first | exact Nat.le_of_ble_eq_true rfl | omega) ?_
                exact hQ _ (by first | exact Or.inl rfl | exact Or.inr rfl | omega | assumption)
        refine sg_lsub (lv' := [(1, _), (0, _)]) ⟨rfl, rfl, trivial⟩ ?_
        exact loop28 _ _ (by omega) (Nat.lt_succ_self _)
      · refine sg_aload_n (pc := 7) (j := 0) (dc_X5_isSound_0.1.2.1.2) rfl rfl ?_
        refine sg_iload_n (pc := 8) (j := 1) (dc_X5_isSound_0.1.2.2.1) rfl rfl ?_
        refine sg_cE1 (pc := 9) (d' := d - 1) (mc' := 0) (ms' := 0) 6 g (dc_X5_isSound_0.1.2.2.2) cb_X5_rowOf ml_X5_36 mn_X5_rowOf rfl mv_X5_rowOf (Nat.le_of_ble_eq_true rfl) (ck_oc (by assumption)) (Nat.le_of_ble_eq_true rfl) (by first | exact jl_d0 hd rfl | omega) (by first | exact Nat.le_of_ble_eq_true rfl | omega) (by first | exact Nat.le_of_ble_eq_true rfl | omega) ?_
        refine s_X5_rowOf_N g (by first | exact jl_d1 hd rfl | omega) (by assumption) (by omega) (fun a9 l9 r9 r9b => sg_K1 ?_)
        refine sg_cS1 (pc := 12) (d' := d - 1) (mc' := 0) (ms' := 0) g (dc_X5_isSound_0.2.1.1.1) cb_X5_isSoundRow ml_X5_278 ms_X5_isSoundRow (Nat.le_of_ble_eq_true rfl) (by first | exact jl_d0 hd rfl | omega) (by first | exact Nat.le_of_ble_eq_true rfl | omega) (by first | exact Nat.le_of_ble_eq_true rfl | omega) ?_
        refine s_X5_isSoundRow g (by first | exact jl_d1 hd rfl | omega) (by assumption) (by assumption) (fun v12 b12 => sg_K1 ?_)
        refine sg_if_ne (pc := 15) (tgt := 20) (dc_X5_isSound_0.2.1.1.2) (by decide) (fun c15 => ?_) (fun c15 => ?_)
        · first | refine sg_iincB (pc := 20) (dc_X5_isSound_0.2.2.1.1) rfl (by decide) (by decide) (by omega) (by omega) ?_ | refine sg_iinc (pc := 20) (dc_X5_isSound_0.2.2.1.1) rfl (by decide) (by decide) ?_
          refine sg_goto (pc := 23) (tgt := 2) (dc_X5_isSound_0.2.2.1.2) (by decide) ?_
          refine sg_lsub (lv' := [(1, _), (0, _)]) ⟨rfl, rfl, trivial⟩ ?_
          exact ih _ (by omega) (by first | exact jl_m1 hm (by omega) | exact jl_m2 hm (by omega) | omega)
        · refine sg_iconst (pc := 18) (z := 0) (dc_X5_isSound_0.2.1.2.1) (by decide) ?_
          refine sg_zret (pc := 19) (dc_X5_isSound_0.2.1.2.2) rfl (by first | exact Or.inl rfl | exact Or.inr rfl | omega | assumption) (by first | exact Nat.le_of_ble_eq_true rfl | omega) (by first | exact Nat.le_of_ble_eq_true rfl | omega) ?_
          exact hQ _ (by first | exact Or.inl rfl | exact Or.inr rfl | omega | assumption)
  refine sg_lsub (lv' := [(1, _), (0, _)]) ⟨rfl, rfl, trivial⟩ ?_
  exact loop2 _ _ (by omega) (Nat.lt_succ_self _)

set_option maxRecDepth 100000 in
theorem s_X5_withRow {w : sg_W} {Q : sg_O → sg_H → Prop} {h : sg_H} (g : sg_G w) {d : Nat} (hd : 15 ≤ d) {B : Nat} (hx : ck_X h B) {x row : Int} (hv : 0 ≤ row ∧ row < 4) (hQ : ∀ v : Int, Q (.inl (some (sg_l v))) h) : sg_C w mi_X5_withRow d 0 0 [sg_r B, sg_l x, sg_i row] h Q := by
  refine sg_of pn_X5 (Nat.le_of_ble_eq_true rfl) ?_
  have y0 := ck_Y0 hx
  refine sg_aload_n (pc := 0) (j := 0) (dc_X5_withRow_0.1.1.1.1) rfl rfl ?_
  refine sg_iload_n (pc := 1) (j := 3) (dc_X5_withRow_0.1.1.1.2) rfl rfl ?_
  refine sg_cE1 (pc := 2) (d' := d - 1) (mc' := 0) (ms' := 0) 6 g (dc_X5_withRow_0.1.1.2.1) cb_X5_rowOf ml_X5_36 mn_X5_rowOf rfl mv_X5_rowOf (Nat.le_of_ble_eq_true rfl) (ck_oc (by assumption)) (Nat.le_of_ble_eq_true rfl) (by first | exact jl_d0 hd rfl | omega) (by first | exact Nat.le_of_ble_eq_true rfl | omega) (by first | exact Nat.le_of_ble_eq_true rfl | omega) ?_
  refine s_X5_rowOf_N g (by first | exact jl_d1 hd rfl | omega) (by assumption) (by omega) (fun a2 l2 r2 r2b => sg_K1 ?_)
  refine sg_astore (pc := 5) (dc_X5_withRow_0.1.1.2.2) (by decide) ?_
  refine sg_lload_n (pc := 7) (j := 1) (dc_X5_withRow_0.1.2.1.1) rfl rfl ?_
  refine sg_aload (pc := 8) (dc_X5_withRow_0.1.2.1.2) rfl ?_
  refine sg_cE0 (pc := 10) (d' := d - 1) (mc' := 0) (ms' := 0) 3 g (dc_X5_withRow_0.1.2.2.1) cb_X0_size ml_X5_63 mn_X0_size rfl mv_X0_size (Nat.le_of_ble_eq_true rfl) (ck_lc (by assumption) (by first | assumption | exact ck_rev)) (Nat.le_of_ble_eq_true rfl) (by first | exact jl_d0 hd rfl | omega) (by first | exact Nat.le_of_ble_eq_true rfl | omega) (by first | exact Nat.le_of_ble_eq_true rfl | omega) ?_
  refine s_X0_size g (by first | exact jl_d1 hd rfl | omega) (by assumption) (by first | assumption | exact ck_rev) (fun z10 l10 u10 N10 => sg_K1 ?_)
  refine sg_i2l (pc := 13) (dc_X5_withRow_0.1.2.2.2) ?_
  refine sg_cS2 (pc := 14) (d' := d - 1) (mc' := 0) (ms' := 0) g (dc_X5_withRow_0.2.1.1.1) cb_X5_with ml_X5_293 ms_X5_with (Nat.le_of_ble_eq_true rfl) (by first | exact jl_d0 hd rfl | omega) (by first | exact Nat.le_of_ble_eq_true rfl | omega) (by first | exact Nat.le_of_ble_eq_true rfl | omega) ?_
  refine s_X5_with g (by first | exact jl_d1 hd rfl | omega) (fun z14 h14 => sg_K1 ?_)
  refine sg_lstore (pc := 17) (dc_X5_withRow_0.2.1.1.2) (by decide) ?_
  refine sg_iconst (pc := 19) (z := 0) (dc_X5_withRow_0.2.1.2.1) (by decide) ?_
  refine sg_istore (pc := 20) (dc_X5_withRow_0.2.1.2.2) (by decide) ?_
  have loop22 : ∀ (N : Nat) (p s : Int), (0 ≤ p) → (40 - p).toNat < N → sg_R w mi_X5_withRow d 0 0 Q 22 [(7, sg_i p), (5, sg_l s), (0, sg_r B), (3, sg_i row), (4, sg_r a2)] [] h 0 0 := by
    intro N
    induction N with
    | zero => intro p s p0 hm; exact absurd hm (Nat.not_lt_zero _)
    | succ N ih =>
      intro p s p0 hm
      refine sg_iload (pc := 22) (dc_X5_withRow_0.2.2.1.1) rfl ?_
      refine sg_aload (pc := 24) (dc_X5_withRow_0.2.2.1.2) rfl ?_
      refine sg_cE0 (pc := 26) (d' := d - 1) (mc' := 0) (ms' := 0) 3 g (dc_X5_withRow_0.2.2.2.1) cb_X0_size ml_X5_63 mn_X0_size rfl mv_X0_size (Nat.le_of_ble_eq_true rfl) (ck_lc (by assumption) (by first | assumption | exact ck_rev)) (Nat.le_of_ble_eq_true rfl) (by first | exact jl_d0 hd rfl | omega) (by first | exact Nat.le_of_ble_eq_true rfl | omega) (by first | exact Nat.le_of_ble_eq_true rfl | omega) ?_
      refine s_X0_size g (by first | exact jl_d1 hd rfl | omega) (by assumption) (by first | assumption | exact ck_rev) (fun z26 l26 u26 N26 => sg_K1 ?_)
      refine sg_icmp_ge (pc := 29) (tgt := 124) (dc_X5_withRow_0.2.2.2.2) (by decide) (fun c29 => ?_) (fun c29 => ?_)
      · refine sg_iconst (pc := 124) (z := 0) (dc_X5_withRow_101.2.1.2.1) (by decide) ?_
        refine sg_istore (pc := 125) (dc_X5_withRow_101.2.1.2.2) (by decide) ?_
        have loop127 : ∀ (N : Nat) (p s : Int), (0 ≤ p) → (5 - p).toNat < N → sg_R w mi_X5_withRow d 0 0 Q 127 [(7, sg_i p), (5, sg_l s), (0, sg_r B), (3, sg_i row), (4, sg_r a2)] [] h 0 0 := by
          intro N
          induction N with
          | zero => intro p s p0 hm; exact absurd hm (Nat.not_lt_zero _)
          | succ N ih =>
            intro p s p0 hm
            refine sg_iload (pc := 127) (dc_X5_withRow_101.2.2.1.1) rfl ?_
            refine sg_iconst (pc := 129) (z := 5) (dc_X5_withRow_101.2.2.1.2) (by decide) ?_
            refine sg_icmp_ge (pc := 130) (tgt := 154) (dc_X5_withRow_101.2.2.2.1) (by decide) (fun c130 => ?_) (fun c130 => ?_)
            · refine sg_lload (pc := 154) (dc_X5_withRow_135.2.1.1.2) rfl ?_
              refine sg_aload_n (pc := 156) (j := 0) (dc_X5_withRow_135.2.1.2.1) rfl rfl ?_
              refine sg_iload_n (pc := 157) (j := 3) (dc_X5_withRow_135.2.1.2.2) rfl rfl ?_
              refine sg_bipush (pc := 158) (z := 36) (dc_X5_withRow_135.2.2.1.1) (by decide) ?_
              refine sg_cE2 (pc := 160) (d' := d - 1) (mc' := 0) (ms' := 0) 6 g (dc_X5_withRow_135.2.2.1.2) cb_X5_told ml_X5_347 mn_X5_told rfl mv_X5_told (Nat.le_of_ble_eq_true rfl) (ck_oc (by assumption)) (Nat.le_of_ble_eq_true rfl) (by first | exact jl_d0 hd rfl | omega) (by first | exact Nat.le_of_ble_eq_true rfl | omega) (by first | exact Nat.le_of_ble_eq_true rfl | omega) ?_
              refine s_X5_told_N g (by first | exact jl_d1 hd rfl | omega) (by assumption) (by omega) (fun v160 => sg_K1 ?_)
              refine sg_i2l (pc := 163) (dc_X5_withRow_135.2.2.2.1) ?_
              refine sg_cS2 (pc := 164) (d' := d - 1) (mc' := 0) (ms' := 0) g (dc_X5_withRow_135.2.2.2.2) cb_X5_with ml_X5_293 ms_X5_with (Nat.le_of_ble_eq_true rfl) (by first | exact jl_d0 hd rfl | omega) (by first | exact Nat.le_of_ble_eq_true rfl | omega) (by first | exact Nat.le_of_ble_eq_true rfl | omega) ?_
              refine s_X5_with g (by first | exact jl_d1 hd rfl | omega) (fun z164 h164 => sg_K1 ?_)
              refine sg_lstore (pc := 167) (dc_X5_withRow_167.1.1.1.1) (by decide) ?_
              refine sg_lload (pc := 169) (dc_X5_withRow_167.1.1.1.2) rfl ?_
              refine sg_aload_n (pc := 171) (j := 0) (dc_X5_withRow_167.1.1.2.1) rfl rfl ?_
              refine sg_iload_n (pc := 172) (j := 3) (dc_X5_withRow_167.1.1.2.2) rfl rfl ?_
              refine sg_cE1 (pc := 173) (d' := d - 1) (mc' := 0) (ms' := 0) 6 g (dc_X5_withRow_167.1.2.1.1) cb_X5_values ml_X5_350 mn_X5_values rfl mv_X5_values (Nat.le_of_ble_eq_true rfl) (ck_oc (by assumption)) (Nat.le_of_ble_eq_true rfl) (by first | exact jl_d0 hd rfl | omega) (by first | exact Nat.le_of_ble_eq_true rfl | omega) (by first | exact Nat.le_of_ble_eq_true rfl | omega) ?_
              refine s_X5_values_N g (by first | exact jl_d1 hd rfl | omega) (by assumption) (by omega) (fun v173 => sg_K1 ?_)
              refine sg_i2l (pc := 176) (dc_X5_withRow_167.1.2.1.2) ?_
              refine sg_cS2 (pc := 177) (d' := d - 1) (mc' := 0) (ms' := 0) g (dc_X5_withRow_167.1.2.2.1) cb_X5_with ml_X5_293 ms_X5_with (Nat.le_of_ble_eq_true rfl) (by first | exact jl_d0 hd rfl | omega) (by first | exact Nat.le_of_ble_eq_true rfl | omega) (by first | exact Nat.le_of_ble_eq_true rfl | omega) ?_
              refine s_X5_with g (by first | exact jl_d1 hd rfl | omega) (fun z177 h177 => sg_K1 ?_)
              refine sg_lstore (pc := 180) (dc_X5_withRow_167.1.2.2.2) (by decide) ?_
              refine sg_lload (pc := 182) (dc_X5_withRow_167.2.1.1.1) rfl ?_
              refine sg_aload_n (pc := 184) (j := 0) (dc_X5_withRow_167.2.1.1.2) rfl rfl ?_
              refine sg_iload_n (pc := 185) (j := 3) (dc_X5_withRow_167.2.1.2.1) rfl rfl ?_
              refine sg_cE1 (pc := 186) (d' := d - 1) (mc' := 0) (ms' := 0) 6 g (dc_X5_withRow_167.2.1.2.2) cb_X5_words ml_X5_353 mn_X5_words rfl mv_X5_words (Nat.le_of_ble_eq_true rfl) (ck_oc (by assumption)) (Nat.le_of_ble_eq_true rfl) (by first | exact jl_d0 hd rfl | omega) (by first | exact Nat.le_of_ble_eq_true rfl | omega) (by first | exact Nat.le_of_ble_eq_true rfl | omega) ?_
              refine s_X5_words_N g (by first | exact jl_d1 hd rfl | omega) (by assumption) (by omega) (fun v186 => sg_K1 ?_)
              refine sg_i2l (pc := 189) (dc_X5_withRow_167.2.2.1.1) ?_
              refine sg_cS2 (pc := 190) (d' := d - 1) (mc' := 0) (ms' := 0) g (dc_X5_withRow_167.2.2.1.2) cb_X5_with ml_X5_293 ms_X5_with (Nat.le_of_ble_eq_true rfl) (by first | exact jl_d0 hd rfl | omega) (by first | exact Nat.le_of_ble_eq_true rfl | omega) (by first | exact Nat.le_of_ble_eq_true rfl | omega) ?_
              refine s_X5_with g (by first | exact jl_d1 hd rfl | omega) (fun z190 h190 => sg_K1 ?_)
              refine sg_lstore (pc := 193) (dc_X5_withRow_167.2.2.2.1) (by decide) ?_
              refine sg_lload (pc := 195) (dc_X5_withRow_167.2.2.2.2) rfl ?_
              refine sg_aload (pc := 197) (dc_X5_withRow_197.1.1.1.1) rfl ?_
              refine sg_cE0 (pc := 199) (d' := d - 1) (mc' := 0) (ms' := 0) 3 g (dc_X5_withRow_197.1.1.1.2) cb_X0_size ml_X5_63 mn_X0_size rfl mv_X0_size (Nat.le_of_ble_eq_true rfl) (ck_lc (by assumption) (by first | assumption | exact ck_rev)) (Nat.le_of_ble_eq_true rfl) (by first | exact jl_d0 hd rfl | omega) (by first | exact Nat.le_of_ble_eq_true rfl | omega) (by first | exact Nat.le_of_ble_eq_true rfl | omega) ?_
              refine s_X0_size g (by first | exact jl_d1 hd rfl | omega) (by assumption) (by first | assumption | exact ck_rev) (fun z199 l199 u199 N199 => sg_K1 ?_)
              refine sg_i2l (pc := 202) (dc_X5_withRow_197.1.1.2.1) ?_
              refine sg_cS2 (pc := 203) (d' := d - 1) (mc' := 0) (ms' := 0) g (dc_X5_withRow_197.1.1.2.2) cb_X5_with ml_X5_293 ms_X5_with (Nat.le_of_ble_eq_true rfl) (by first | exact jl_d0 hd rfl | omega) (by first | exact Nat.le_of_ble_eq_true rfl | omega) (by first | exact Nat.le_of_ble_eq_true rfl | omega) ?_
              refine s_X5_with g (by first | exact jl_d1 hd rfl | omega) (fun z203 h203 => sg_K1 ?_)
              refine sg_lstore (pc := 206) (dc_X5_withRow_197.1.2.1.1) (by decide) ?_
              refine sg_lload (pc := 208) (dc_X5_withRow_197.1.2.1.2) rfl ?_
              refine sg_iconst (pc := 210) (z := 2) (dc_X5_withRow_197.1.2.2.1) (by decide) ?_
              refine sg_aload (pc := 211) (dc_X5_withRow_197.1.2.2.2) rfl ?_
              refine sg_cE0 (pc := 213) (d' := d - 1) (mc' := 0) (ms' := 0) 3 g (dc_X5_withRow_197.2.1.1.1) cb_X0_size ml_X5_63 mn_X0_size rfl mv_X0_size (Nat.le_of_ble_eq_true rfl) (ck_lc (by assumption) (by first | assumption | exact ck_rev)) (Nat.le_of_ble_eq_true rfl) (by first | exact jl_d0 hd rfl | omega) (by first | exact Nat.le_of_ble_eq_true rfl | omega) (by first | exact Nat.le_of_ble_eq_true rfl | omega) ?_
              refine s_X0_size g (by first | exact jl_d1 hd rfl | omega) (by assumption) (by first | assumption | exact ck_rev) (fun z213 l213 u213 N213 => sg_K1 ?_)
              first | refine sg_imulB (pc := 216) (dc_X5_withRow_197.2.1.1.2) (by omega) (by omega) ?_ | refine sg_imul (pc := 216) (dc_X5_withRow_197.2.1.1.2) ?_
              refine sg_i2l (pc := 217) (dc_X5_withRow_197.2.1.2.1) ?_
              refine sg_cS2 (pc := 218) (d' := d - 1) (mc' := 0) (ms' := 0) g (dc_X5_withRow_197.2.1.2.2) cb_X5_with ml_X5_293 ms_X5_with (Nat.le_of_ble_eq_true rfl) (by first | exact jl_d0 hd rfl | omega) (by first | exact Nat.le_of_ble_eq_true rfl | omega) (by first | exact Nat.le_of_ble_eq_true rfl | omega) ?_
              refine s_X5_with g (by first | exact jl_d1 hd rfl | omega) (fun z218 h218 => sg_K1 ?_)
              refine sg_lret (pc := 221) (dc_X5_withRow_197.2.2.1.1) rfl (by first | exact Nat.le_of_ble_eq_true rfl | omega) (by first | exact Nat.le_of_ble_eq_true rfl | omega) ?_
              exact hQ _
            · refine sg_lload (pc := 133) (dc_X5_withRow_101.2.2.2.2) rfl ?_
              refine sg_aload_n (pc := 135) (j := 0) (dc_X5_withRow_135.1.1.1.1) rfl rfl ?_
              refine sg_iload_n (pc := 136) (j := 3) (dc_X5_withRow_135.1.1.1.2) rfl rfl ?_
              refine sg_iload (pc := 137) (dc_X5_withRow_135.1.1.2.1) rfl ?_
              refine sg_cE2 (pc := 139) (d' := d - 1) (mc' := 0) (ms' := 0) 6 g (dc_X5_withRow_135.1.1.2.2) cb_X5_count ml_X5_344 mn_X5_count rfl mv_X5_count (Nat.le_of_ble_eq_true rfl) (ck_oc (by assumption)) (Nat.le_of_ble_eq_true rfl) (by first | exact jl_d0 hd rfl | omega) (by first | exact Nat.le_of_ble_eq_true rfl | omega) (by first | exact Nat.le_of_ble_eq_true rfl | omega) ?_
              refine s_X5_count_N g (by first | exact jl_d1 hd rfl | omega) (by assumption) (by omega) (fun v139 => sg_K1 ?_)
              refine sg_i2l (pc := 142) (dc_X5_withRow_135.1.2.1.1) ?_
              refine sg_cS2 (pc := 143) (d' := d - 1) (mc' := 0) (ms' := 0) g (dc_X5_withRow_135.1.2.1.2) cb_X5_with ml_X5_293 ms_X5_with (Nat.le_of_ble_eq_true rfl) (by first | exact jl_d0 hd rfl | omega) (by first | exact Nat.le_of_ble_eq_true rfl | omega) (by first | exact Nat.le_of_ble_eq_true rfl | omega) ?_
              refine s_X5_with g (by first | exact jl_d1 hd rfl | omega) (fun z143 h143 => sg_K1 ?_)
              refine sg_lstore (pc := 146) (dc_X5_withRow_135.1.2.2.1) (by decide) ?_
              first | refine sg_iincB (pc := 148) (dc_X5_withRow_135.1.2.2.2) rfl (by decide) (by decide) (by omega) (by omega) ?_ | refine sg_iinc (pc := 148) (dc_X5_withRow_135.1.2.2.2) rfl (by decide) (by decide) ?_
              refine sg_goto (pc := 151) (tgt := 127) (dc_X5_withRow_135.2.1.1.1) (by decide) ?_
              refine sg_lsub (lv' := [(7, _), (5, _), (0, _), (3, _), (4, _)]) ⟨rfl, rfl, rfl, rfl, rfl, trivial⟩ ?_
              exact ih _ _ (by omega) (by first | exact jl_m1 hm (by omega) | exact jl_m2 hm (by omega) | omega)
        refine sg_lsub (lv' := [(7, _), (5, _), (0, _), (3, _), (4, _)]) ⟨rfl, rfl, rfl, rfl, rfl, trivial⟩ ?_
        exact loop127 _ _ _ (by omega) (Nat.lt_succ_self _)
      · refine sg_aload (pc := 32) (dc_X5_withRow_32.1.1.1.1) rfl ?_
        refine sg_iload (pc := 34) (dc_X5_withRow_32.1.1.1.2) rfl ?_
        refine sg_cE1 (pc := 36) (d' := d - 1) (mc' := 0) (ms' := 0) 3 g (dc_X5_withRow_32.1.1.2.1) cb_X0_get ml_X5_75 mn_X0_get rfl mv_X0_get (Nat.le_of_ble_eq_true rfl) (ck_lc (by assumption) (by first | assumption | exact ck_rev)) (Nat.le_of_ble_eq_true rfl) (by first | exact jl_d0 hd rfl | omega) (by first | exact Nat.le_of_ble_eq_true rfl | omega) (by first | exact Nat.le_of_ble_eq_true rfl | omega) ?_
        refine s_X0_get g (by first | exact jl_d1 hd rfl | omega) (by assumption) (by first | assumption | exact ck_rev) (fun z36 G36 v36 => sg_K1 ?_)
        refine sg_istore (pc := 39) (dc_X5_withRow_32.1.1.2.2) (by decide) ?_
        refine sg_lload (pc := 41) (dc_X5_withRow_32.1.2.1.1) rfl ?_
        refine sg_iload (pc := 43) (dc_X5_withRow_32.1.2.1.2) rfl ?_
        refine sg_i2l (pc := 45) (dc_X5_withRow_32.1.2.2.1) ?_
        refine sg_cS2 (pc := 46) (d' := d - 1) (mc' := 0) (ms' := 0) g (dc_X5_withRow_32.1.2.2.2) cb_X5_with ml_X5_293 ms_X5_with (Nat.le_of_ble_eq_true rfl) (by first | exact jl_d0 hd rfl | omega) (by first | exact Nat.le_of_ble_eq_true rfl | omega) (by first | exact Nat.le_of_ble_eq_true rfl | omega) ?_
        refine s_X5_with g (by first | exact jl_d1 hd rfl | omega) (fun z46 h46 => sg_K1 ?_)
        refine sg_lstore (pc := 49) (dc_X5_withRow_32.2.1.1.1) (by decide) ?_
        refine sg_lload (pc := 51) (dc_X5_withRow_32.2.1.1.2) rfl ?_
        refine sg_iload (pc := 53) (dc_X5_withRow_32.2.1.2.1) rfl ?_
        refine sg_cS1 (pc := 55) (d' := d - 1) (mc' := 0) (ms' := 0) g (dc_X5_withRow_32.2.1.2.2) cb_X2_kindsOf ml_X5_192 ms_X2_kindsOf (Nat.le_of_ble_eq_true rfl) (by first | exact jl_d0 hd rfl | omega) (by first | exact Nat.le_of_ble_eq_true rfl | omega) (by first | exact Nat.le_of_ble_eq_true rfl | omega) ?_
        refine s_X2_kindsOf g (by first | exact jl_d1 hd rfl | omega) (fun z55 h55 => sg_K1 ?_)
        refine sg_i2l (pc := 58) (dc_X5_withRow_32.2.2.1.1) ?_
        refine sg_cS2 (pc := 59) (d' := d - 1) (mc' := 0) (ms' := 0) g (dc_X5_withRow_32.2.2.1.2) cb_X5_with ml_X5_293 ms_X5_with (Nat.le_of_ble_eq_true rfl) (by first | exact jl_d0 hd rfl | omega) (by first | exact Nat.le_of_ble_eq_true rfl | omega) (by first | exact Nat.le_of_ble_eq_true rfl | omega) ?_
        refine s_X5_with g (by first | exact jl_d1 hd rfl | omega) (fun z59 h59 => sg_K1 ?_)
        refine sg_lstore (pc := 62) (dc_X5_withRow_32.2.2.2.1) (by decide) ?_
        refine sg_lload (pc := 64) (dc_X5_withRow_32.2.2.2.2) rfl ?_
        refine sg_iload (pc := 66) (dc_X5_withRow_66.1.1.1.1) rfl ?_
        refine sg_cS1 (pc := 68) (d' := d - 1) (mc' := 0) (ms' := 0) g (dc_X5_withRow_66.1.1.1.2) cb_X2_upperOf ml_X5_78 ms_X2_upperOf (Nat.le_of_ble_eq_true rfl) (by first | exact jl_d0 hd rfl | omega) (by first | exact Nat.le_of_ble_eq_true rfl | omega) (by first | exact Nat.le_of_ble_eq_true rfl | omega) ?_
        refine s_X2_upperOf g (by first | exact jl_d1 hd rfl | omega) (fun z68 h68 => sg_K1 ?_)
        refine sg_i2l (pc := 71) (dc_X5_withRow_66.1.1.2.1) ?_
        refine sg_cS2 (pc := 72) (d' := d - 1) (mc' := 0) (ms' := 0) g (dc_X5_withRow_66.1.1.2.2) cb_X5_with ml_X5_293 ms_X5_with (Nat.le_of_ble_eq_true rfl) (by first | exact jl_d0 hd rfl | omega) (by first | exact Nat.le_of_ble_eq_true rfl | omega) (by first | exact Nat.le_of_ble_eq_true rfl | omega) ?_
        refine s_X5_with g (by first | exact jl_d1 hd rfl | omega) (fun z72 h72 => sg_K1 ?_)
        refine sg_lstore (pc := 75) (dc_X5_withRow_66.1.2.1.1) (by decide) ?_
        refine sg_lload (pc := 77) (dc_X5_withRow_66.1.2.1.2) rfl ?_
        refine sg_iload (pc := 79) (dc_X5_withRow_66.1.2.2.1) rfl ?_
        refine sg_cS1 (pc := 81) (d' := d - 1) (mc' := 0) (ms' := 0) g (dc_X5_withRow_66.1.2.2.2) cb_X2_lowerOf ml_X5_90 ms_X2_lowerOf (Nat.le_of_ble_eq_true rfl) (by first | exact jl_d0 hd rfl | omega) (by first | exact Nat.le_of_ble_eq_true rfl | omega) (by first | exact Nat.le_of_ble_eq_true rfl | omega) ?_
        refine s_X2_lowerOf g (by first | exact jl_d1 hd rfl | omega) (fun z81 h81 => sg_K1 ?_)
        refine sg_i2l (pc := 84) (dc_X5_withRow_66.2.1.1.1) ?_
        refine sg_cS2 (pc := 85) (d' := d - 1) (mc' := 0) (ms' := 0) g (dc_X5_withRow_66.2.1.1.2) cb_X5_with ml_X5_293 ms_X5_with (Nat.le_of_ble_eq_true rfl) (by first | exact jl_d0 hd rfl | omega) (by first | exact Nat.le_of_ble_eq_true rfl | omega) (by first | exact Nat.le_of_ble_eq_true rfl | omega) ?_
        refine s_X5_with g (by first | exact jl_d1 hd rfl | omega) (fun z85 h85 => sg_K1 ?_)
        refine sg_lstore (pc := 88) (dc_X5_withRow_66.2.1.2.1) (by decide) ?_
        refine sg_lload (pc := 90) (dc_X5_withRow_66.2.1.2.2) rfl ?_
        refine sg_iload (pc := 92) (dc_X5_withRow_66.2.2.1.1) rfl ?_
        refine sg_cS1 (pc := 94) (d' := d - 1) (mc' := 0) (ms' := 0) g (dc_X5_withRow_66.2.2.1.2) cb_X2_signValue ml_X5_195 ms_X2_signValue (Nat.le_of_ble_eq_true rfl) (by first | exact jl_d0 hd rfl | omega) (by first | exact Nat.le_of_ble_eq_true rfl | omega) (by first | exact Nat.le_of_ble_eq_true rfl | omega) ?_
        refine s_X2_signValue g (by first | exact jl_d1 hd rfl | omega) (fun z94 h94 => sg_K1 ?_)
        refine sg_i2l (pc := 97) (dc_X5_withRow_66.2.2.2.1) ?_
        refine sg_cS2 (pc := 98) (d' := d - 1) (mc' := 0) (ms' := 0) g (dc_X5_withRow_66.2.2.2.2) cb_X5_with ml_X5_293 ms_X5_with (Nat.le_of_ble_eq_true rfl) (by first | exact jl_d0 hd rfl | omega) (by first | exact Nat.le_of_ble_eq_true rfl | omega) (by first | exact Nat.le_of_ble_eq_true rfl | omega) ?_
        refine s_X5_with g (by first | exact jl_d1 hd rfl | omega) (fun z98 h98 => sg_K1 ?_)
        refine sg_lstore (pc := 101) (dc_X5_withRow_101.1.1.1.1) (by decide) ?_
        refine sg_lload (pc := 103) (dc_X5_withRow_101.1.1.1.2) rfl ?_
        refine sg_iload (pc := 105) (dc_X5_withRow_101.1.1.2.1) rfl ?_
        refine sg_bipush (pc := 107) (z := 16) (dc_X5_withRow_101.1.1.2.2) (by decide) ?_
        refine sg_cS2 (pc := 109) (d' := d - 1) (mc' := 0) (ms' := 0) g (dc_X5_withRow_101.1.2.1.1) cb_X2_numberOf ml_X5_148 ms_X2_numberOf (Nat.le_of_ble_eq_true rfl) (by first | exact jl_d0 hd rfl | omega) (by first | exact Nat.le_of_ble_eq_true rfl | omega) (by first | exact Nat.le_of_ble_eq_true rfl | omega) ?_
        refine s_X2_numberOf g (by first | exact jl_d1 hd rfl | omega) (fun z109 h109 => sg_K1 ?_)
        refine sg_i2l (pc := 112) (dc_X5_withRow_101.1.2.1.2) ?_
        refine sg_cS2 (pc := 113) (d' := d - 1) (mc' := 0) (ms' := 0) g (dc_X5_withRow_101.1.2.2.1) cb_X5_with ml_X5_293 ms_X5_with (Nat.le_of_ble_eq_true rfl) (by first | exact jl_d0 hd rfl | omega) (by first | exact Nat.le_of_ble_eq_true rfl | omega) (by first | exact Nat.le_of_ble_eq_true rfl | omega) ?_
        refine s_X5_with g (by first | exact jl_d1 hd rfl | omega) (fun z113 h113 => sg_K1 ?_)
        refine sg_lstore (pc := 116) (dc_X5_withRow_101.1.2.2.2) (by decide) ?_
        first | refine sg_iincB (pc := 118) (dc_X5_withRow_101.2.1.1.1) rfl (by decide) (by decide) (by omega) (by omega) ?_ | refine sg_iinc (pc := 118) (dc_X5_withRow_101.2.1.1.1) rfl (by decide) (by decide) ?_
        refine sg_goto (pc := 121) (tgt := 22) (dc_X5_withRow_101.2.1.1.2) (by decide) ?_
        refine sg_lsub (lv' := [(7, _), (5, _), (0, _), (3, _), (4, _)]) ⟨rfl, rfl, rfl, rfl, rfl, trivial⟩ ?_
        exact ih _ _ (by omega) (by first | exact jl_m1 hm (by omega) | exact jl_m2 hm (by omega) | omega)
  refine sg_lsub (lv' := [(7, _), (5, _), (0, _), (3, _), (4, _)]) ⟨rfl, rfl, rfl, rfl, rfl, trivial⟩ ?_
  exact loop22 _ _ _ (by omega) (Nat.lt_succ_self _)

set_option maxRecDepth 100000 in
theorem s_X5_withTrack {w : sg_W} {Q : sg_O → sg_H → Prop} {h : sg_H} (g : sg_G w) {d : Nat} (hd : 15 ≤ d) {B : Nat} (hx : ck_X h B) {x trk : Int} (hv : 0 ≤ trk ∧ trk < 2) (hQ : ∀ v : Int, Q (.inl (some (sg_l v))) h) : sg_C w mi_X5_withTrack d 0 0 [sg_r B, sg_l x, sg_i trk] h Q := by
  refine sg_of pn_X5 (Nat.le_of_ble_eq_true rfl) ?_
  have y0 := ck_Y0 hx
  refine sg_aload_n (pc := 0) (j := 0) (dc_X5_withTrack_0.1.1.1.1) rfl rfl ?_
  refine sg_iload_n (pc := 1) (j := 3) (dc_X5_withTrack_0.1.1.1.2) rfl rfl ?_
  refine sg_cE1 (pc := 2) (d' := d - 1) (mc' := 0) (ms' := 0) 6 g (dc_X5_withTrack_0.1.1.2.1) cb_X5_trackOf ml_X5_151 mn_X5_trackOf rfl mv_X5_trackOf (Nat.le_of_ble_eq_true rfl) (ck_oc (by assumption)) (Nat.le_of_ble_eq_true rfl) (by first | exact jl_d0 hd rfl | omega) (by first | exact Nat.le_of_ble_eq_true rfl | omega) (by first | exact Nat.le_of_ble_eq_true rfl | omega) ?_
  refine s_X5_trackOf_N g (by first | exact jl_d1 hd rfl | omega) (by assumption) (by omega) (fun a2 l2 r2 r2b => sg_K1 ?_)
  refine sg_astore (pc := 5) (dc_X5_withTrack_0.1.1.2.2) (by decide) ?_
  refine sg_lload_n (pc := 7) (j := 1) (dc_X5_withTrack_0.1.2.1.1) rfl rfl ?_
  refine sg_lstore (pc := 8) (dc_X5_withTrack_0.1.2.1.2) (by decide) ?_
  refine sg_iconst (pc := 10) (z := 0) (dc_X5_withTrack_0.1.2.2.1) (by decide) ?_
  refine sg_istore (pc := 11) (dc_X5_withTrack_0.1.2.2.2) (by decide) ?_
  have loop13 : ∀ (N : Nat) (p s : Int), (0 ≤ p) → (4 - p).toNat < N → sg_R w mi_X5_withTrack d 0 0 Q 13 [(7, sg_i p), (5, sg_l s), (0, sg_r B), (3, sg_i trk), (4, sg_r a2)] [] h 0 0 := by
    intro N
    induction N with
    | zero => intro p s p0 hm; exact absurd hm (Nat.not_lt_zero _)
    | succ N ih =>
      intro p s p0 hm
      refine sg_iload (pc := 13) (dc_X5_withTrack_0.2.1.1.1) rfl ?_
      refine sg_iconst (pc := 15) (z := 3) (dc_X5_withTrack_0.2.1.1.2) (by decide) ?_
      refine sg_icmp_gt (pc := 16) (tgt := 40) (dc_X5_withTrack_0.2.1.2.1) (by decide) (fun c16 => ?_) (fun c16 => ?_)
      · refine sg_iconst (pc := 40) (z := 0) (dc_X5_withTrack_29.1.2.1.1) (by decide) ?_
        refine sg_istore (pc := 41) (dc_X5_withTrack_29.1.2.1.2) (by decide) ?_
        have loop43 : ∀ (N : Nat) (p s : Int), (0 ≤ p) → (40 - p).toNat < N → sg_R w mi_X5_withTrack d 0 0 Q 43 [(7, sg_i p), (5, sg_l s), (0, sg_r B), (3, sg_i trk), (4, sg_r a2)] [] h 0 0 := by
          intro N
          induction N with
          | zero => intro p s p0 hm; exact absurd hm (Nat.not_lt_zero _)
          | succ N ih =>
            intro p s p0 hm
            refine sg_iload (pc := 43) (dc_X5_withTrack_29.1.2.2.1) rfl ?_
            refine sg_aload (pc := 45) (dc_X5_withTrack_29.1.2.2.2) rfl ?_
            refine sg_cE0 (pc := 47) (d' := d - 1) (mc' := 0) (ms' := 0) 3 g (dc_X5_withTrack_29.2.1.1.1) cb_X0_size ml_X5_63 mn_X0_size rfl mv_X0_size (Nat.le_of_ble_eq_true rfl) (ck_lc (by assumption) (by first | assumption | exact ck_rev)) (Nat.le_of_ble_eq_true rfl) (by first | exact jl_d0 hd rfl | omega) (by first | exact Nat.le_of_ble_eq_true rfl | omega) (by first | exact Nat.le_of_ble_eq_true rfl | omega) ?_
            refine s_X0_size g (by first | exact jl_d1 hd rfl | omega) (by assumption) (by first | assumption | exact ck_rev) (fun z47 l47 u47 N47 => sg_K1 ?_)
            refine sg_icmp_ge (pc := 50) (tgt := 124) (dc_X5_withTrack_29.2.1.1.2) (by decide) (fun c50 => ?_) (fun c50 => ?_)
            · refine sg_lload (pc := 124) (dc_X5_withTrack_97.2.1.2.2) rfl ?_
              refine sg_lret (pc := 126) (dc_X5_withTrack_97.2.2.1.1) rfl (by first | exact Nat.le_of_ble_eq_true rfl | omega) (by first | exact Nat.le_of_ble_eq_true rfl | omega) ?_
              exact hQ _
            · refine sg_aload (pc := 53) (dc_X5_withTrack_29.2.1.2.1) rfl ?_
              refine sg_iload (pc := 55) (dc_X5_withTrack_29.2.1.2.2) rfl ?_
              refine sg_cE1 (pc := 57) (d' := d - 1) (mc' := 0) (ms' := 0) 3 g (dc_X5_withTrack_29.2.2.1.1) cb_X0_get ml_X5_75 mn_X0_get rfl mv_X0_get (Nat.le_of_ble_eq_true rfl) (ck_lc (by assumption) (by first | assumption | exact ck_rev)) (Nat.le_of_ble_eq_true rfl) (by first | exact jl_d0 hd rfl | omega) (by first | exact Nat.le_of_ble_eq_true rfl | omega) (by first | exact Nat.le_of_ble_eq_true rfl | omega) ?_
              refine s_X0_get g (by first | exact jl_d1 hd rfl | omega) (by assumption) (by first | assumption | exact ck_rev) (fun z57 G57 v57 => sg_K1 ?_)
              have q60 := ck_v1.mp (v57 _ N47 (by omega) (by omega))
              refine sg_istore (pc := 60) (dc_X5_withTrack_29.2.2.1.2) (by decide) ?_
              refine sg_lload (pc := 62) (dc_X5_withTrack_29.2.2.2.1) rfl ?_
              refine sg_iload (pc := 64) (dc_X5_withTrack_29.2.2.2.2) rfl ?_
              refine sg_i2l (pc := 66) (dc_X5_withTrack_66.1.1.1.1) ?_
              refine sg_cS2 (pc := 67) (d' := d - 1) (mc' := 0) (ms' := 0) g (dc_X5_withTrack_66.1.1.1.2) cb_X5_with ml_X5_293 ms_X5_with (Nat.le_of_ble_eq_true rfl) (by first | exact jl_d0 hd rfl | omega) (by first | exact Nat.le_of_ble_eq_true rfl | omega) (by first | exact Nat.le_of_ble_eq_true rfl | omega) ?_
              refine s_X5_with g (by first | exact jl_d1 hd rfl | omega) (fun z67 h67 => sg_K1 ?_)
              refine sg_lstore (pc := 70) (dc_X5_withTrack_66.1.1.2.1) (by decide) ?_
              refine sg_iconst (pc := 72) (z := 0) (dc_X5_withTrack_66.1.1.2.2) (by decide) ?_
              refine sg_istore (pc := 73) (dc_X5_withTrack_66.1.2.1.1) (by decide) ?_
              have loop75 : ∀ (N : Nat) (p2 s2 : Int), (0 ≤ p2) → (4 - p2).toNat < N → sg_R w mi_X5_withTrack d 0 0 Q 75 [(9, sg_i p2), (5, sg_l s2), (7, sg_i p), (8, sg_i z57), (0, sg_r B), (3, sg_i trk), (4, sg_r a2)] [] h 0 0 := by
                intro N
                induction N with
                | zero => intro p2 s2 p02 hm; exact absurd hm (Nat.not_lt_zero _)
                | succ N ihb =>
                  intro p2 s2 p02 hm
                  refine sg_iload (pc := 75) (dc_X5_withTrack_66.1.2.1.2) rfl ?_
                  refine sg_iconst (pc := 77) (z := 3) (dc_X5_withTrack_66.1.2.2.1) (by decide) ?_
                  refine sg_icmp_gt (pc := 78) (tgt := 103) (dc_X5_withTrack_66.1.2.2.2) (by decide) (fun c78 => ?_) (fun c78 => ?_)
                  · refine sg_lload (pc := 103) (dc_X5_withTrack_97.1.1.2.1) rfl ?_
                    refine sg_aload (pc := 105) (dc_X5_withTrack_97.1.1.2.2) rfl ?_
                    refine sg_iload (pc := 107) (dc_X5_withTrack_97.1.2.1.1) rfl ?_
                    refine sg_cS2 (pc := 109) (d' := d - 1) (mc' := 0) (ms' := 0) g (dc_X5_withTrack_97.1.2.1.2) cb_X4_codeFrom ml_X5_266 ms_X4_codeFrom (Nat.le_of_ble_eq_true rfl) (by first | exact jl_d0 hd rfl | omega) (by first | exact Nat.le_of_ble_eq_true rfl | omega) (by first | exact Nat.le_of_ble_eq_true rfl | omega) ?_
                    refine s_X4_codeFrom g (by first | exact jl_d1 hd rfl | omega) (by assumption) (by assumption) (fun z109 v109 => sg_K1 ?_)
                    refine sg_i2l (pc := 112) (dc_X5_withTrack_97.1.2.2.1) ?_
                    refine sg_cS2 (pc := 113) (d' := d - 1) (mc' := 0) (ms' := 0) g (dc_X5_withTrack_97.1.2.2.2) cb_X5_with ml_X5_293 ms_X5_with (Nat.le_of_ble_eq_true rfl) (by first | exact jl_d0 hd rfl | omega) (by first | exact Nat.le_of_ble_eq_true rfl | omega) (by first | exact Nat.le_of_ble_eq_true rfl | omega) ?_
                    refine s_X5_with g (by first | exact jl_d1 hd rfl | omega) (fun z113 h113 => sg_K1 ?_)
                    refine sg_lstore (pc := 116) (dc_X5_withTrack_97.2.1.1.1) (by decide) ?_
                    first | refine sg_iincB (pc := 118) (dc_X5_withTrack_97.2.1.1.2) rfl (by decide) (by decide) (by omega) (by omega) ?_ | refine sg_iinc (pc := 118) (dc_X5_withTrack_97.2.1.1.2) rfl (by decide) (by decide) ?_
                    refine sg_goto (pc := 121) (tgt := 43) (dc_X5_withTrack_97.2.1.2.1) (by decide) ?_
                    refine sg_lsub (lv' := [(7, _), (5, _), (0, _), (3, _), (4, _)]) ⟨rfl, rfl, rfl, rfl, rfl, trivial⟩ ?_
                    exact ih _ _ (by omega) (by first | exact jl_m1 hm (by omega) | exact jl_m2 hm (by omega) | omega)
                  · refine sg_lload (pc := 81) (dc_X5_withTrack_66.2.1.1.1) rfl ?_
                    refine sg_aload_n (pc := 83) (j := 0) (dc_X5_withTrack_66.2.1.1.2) rfl rfl ?_
                    refine sg_iload (pc := 84) (dc_X5_withTrack_66.2.1.2.1) rfl ?_
                    refine sg_iload (pc := 86) (dc_X5_withTrack_66.2.1.2.2) rfl ?_
                    refine sg_cE2 (pc := 88) (d' := d - 1) (mc' := 0) (ms' := 0) 6 g (dc_X5_withTrack_66.2.2.1.1) cb_X5_ofUnit ml_X5_356 mn_X5_ofUnit rfl mv_X5_ofUnit (Nat.le_of_ble_eq_true rfl) (ck_oc (by assumption)) (Nat.le_of_ble_eq_true rfl) (by first | exact jl_d0 hd rfl | omega) (by first | exact Nat.le_of_ble_eq_true rfl | omega) (by first | exact Nat.le_of_ble_eq_true rfl | omega) ?_
                    refine s_X5_ofUnit_N g (by first | exact jl_d1 hd rfl | omega) (by omega) (fun v88 n88 e88 => sg_K1 ?_)
                    refine sg_i2l (pc := 91) (dc_X5_withTrack_66.2.2.1.2) ?_
                    refine sg_cS2 (pc := 92) (d' := d - 1) (mc' := 0) (ms' := 0) g (dc_X5_withTrack_66.2.2.2.1) cb_X5_with ml_X5_293 ms_X5_with (Nat.le_of_ble_eq_true rfl) (by first | exact jl_d0 hd rfl | omega) (by first | exact Nat.le_of_ble_eq_true rfl | omega) (by first | exact Nat.le_of_ble_eq_true rfl | omega) ?_
                    refine s_X5_with g (by first | exact jl_d1 hd rfl | omega) (fun z92 h92 => sg_K1 ?_)
                    refine sg_lstore (pc := 95) (dc_X5_withTrack_66.2.2.2.2) (by decide) ?_
                    first | refine sg_iincB (pc := 97) (dc_X5_withTrack_97.1.1.1.1) rfl (by decide) (by decide) (by omega) (by omega) ?_ | refine sg_iinc (pc := 97) (dc_X5_withTrack_97.1.1.1.1) rfl (by decide) (by decide) ?_
                    refine sg_goto (pc := 100) (tgt := 75) (dc_X5_withTrack_97.1.1.1.2) (by decide) ?_
                    refine sg_lsub (lv' := [(9, _), (5, _), (7, _), (8, _), (0, _), (3, _), (4, _)]) ⟨rfl, rfl, rfl, rfl, rfl, rfl, rfl, trivial⟩ ?_
                    exact ihb _ _ (by omega) (by first | exact jl_m1 hm (by omega) | exact jl_m2 hm (by omega) | omega)
              refine sg_lsub (lv' := [(9, _), (5, _), (7, _), (8, _), (0, _), (3, _), (4, _)]) ⟨rfl, rfl, rfl, rfl, rfl, rfl, rfl, trivial⟩ ?_
              exact loop75 _ _ _ (by omega) (Nat.lt_succ_self _)
        refine sg_lsub (lv' := [(7, _), (5, _), (0, _), (3, _), (4, _)]) ⟨rfl, rfl, rfl, rfl, rfl, trivial⟩ ?_
        exact loop43 _ _ _ (by omega) (Nat.lt_succ_self _)
      · refine sg_lload (pc := 19) (dc_X5_withTrack_0.2.1.2.2) rfl ?_
        refine sg_aload (pc := 21) (dc_X5_withTrack_0.2.2.1.1) rfl ?_
        refine sg_iload (pc := 23) (dc_X5_withTrack_0.2.2.1.2) rfl ?_
        refine sg_cS2 (pc := 25) (d' := d - 1) (mc' := 0) (ms' := 0) g (dc_X5_withTrack_0.2.2.2.1) cb_X4_howMany ml_X5_180 ms_X4_howMany (Nat.le_of_ble_eq_true rfl) (by first | exact jl_d0 hd rfl | omega) (by first | exact Nat.le_of_ble_eq_true rfl | omega) (by first | exact Nat.le_of_ble_eq_true rfl | omega) ?_
        refine s_X4_howMany g (by first | exact jl_d1 hd rfl | omega) (by assumption) (by assumption) (fun z25 => sg_K1 ?_)
        refine sg_i2l (pc := 28) (dc_X5_withTrack_0.2.2.2.2) ?_
        refine sg_cS2 (pc := 29) (d' := d - 1) (mc' := 0) (ms' := 0) g (dc_X5_withTrack_29.1.1.1.1) cb_X5_with ml_X5_293 ms_X5_with (Nat.le_of_ble_eq_true rfl) (by first | exact jl_d0 hd rfl | omega) (by first | exact Nat.le_of_ble_eq_true rfl | omega) (by first | exact Nat.le_of_ble_eq_true rfl | omega) ?_
        refine s_X5_with g (by first | exact jl_d1 hd rfl | omega) (fun z29 h29 => sg_K1 ?_)
        refine sg_lstore (pc := 32) (dc_X5_withTrack_29.1.1.1.2) (by decide) ?_
        first | refine sg_iincB (pc := 34) (dc_X5_withTrack_29.1.1.2.1) rfl (by decide) (by decide) (by omega) (by omega) ?_ | refine sg_iinc (pc := 34) (dc_X5_withTrack_29.1.1.2.1) rfl (by decide) (by decide) ?_
        refine sg_goto (pc := 37) (tgt := 13) (dc_X5_withTrack_29.1.1.2.2) (by decide) ?_
        refine sg_lsub (lv' := [(7, _), (5, _), (0, _), (3, _), (4, _)]) ⟨rfl, rfl, rfl, rfl, rfl, trivial⟩ ?_
        exact ih _ _ (by omega) (by first | exact jl_m1 hm (by omega) | exact jl_m2 hm (by omega) | omega)
  refine sg_lsub (lv' := [(7, _), (5, _), (0, _), (3, _), (4, _)]) ⟨rfl, rfl, rfl, rfl, rfl, trivial⟩ ?_
  exact loop13 _ _ _ (by omega) (Nat.lt_succ_self _)

set_option maxRecDepth 100000 in
theorem s_X5_digest {w : sg_W} {Q : sg_O → sg_H → Prop} {h : sg_H} (g : sg_G w) {d : Nat} (hd : 16 ≤ d) {B : Nat} (hx : ck_X h B) (hQ : ∀ v : Int, Q (.inl (some (sg_l v))) h) : sg_C w mi_X5_digest d 0 0 [sg_r B] h Q := by
  refine sg_of pn_X5 (Nat.le_of_ble_eq_true rfl) ?_
  have y0 := ck_Y0 hx
  refine sg_ldc2 (pc := 0) (z := 7707) g (dc_X5_digest_0.1.1.1.1) cn_X5_284 (by decide) ?_
  refine sg_lstore_n (pc := 3) (j := 1) (dc_X5_digest_0.1.1.1.2) rfl (by decide) ?_
  refine sg_iconst (pc := 4) (z := 0) (dc_X5_digest_0.1.1.2.1) (by decide) ?_
  refine sg_istore_n (pc := 5) (j := 3) (dc_X5_digest_0.1.1.2.2) rfl (by decide) ?_
  have loop6 : ∀ (N : Nat) (p s : Int), (0 ≤ p) → (4 - p).toNat < N → sg_R w mi_X5_digest d 0 0 Q 6 [(3, sg_i p), (1, sg_l s), (0, sg_r B)] [] h 0 0 := by
    intro N
    induction N with
    | zero => intro p s p0 hm; exact absurd hm (Nat.not_lt_zero _)
    | succ N ih =>
      intro p s p0 hm
      refine sg_iload_n (pc := 6) (j := 3) (dc_X5_digest_0.1.2.1.1) rfl rfl ?_
      refine sg_iconst (pc := 7) (z := 4) (dc_X5_digest_0.1.2.1.2) (by decide) ?_
      refine sg_icmp_ge (pc := 8) (tgt := 24) (dc_X5_digest_0.1.2.2.1) (by decide) (fun c8 => ?_) (fun c8 => ?_)
      · refine sg_lload_n (pc := 24) (j := 1) (dc_X5_digest_0.2.2.2.1) rfl rfl ?_
        refine sg_aload_n (pc := 25) (j := 0) (dc_X5_digest_0.2.2.2.2) rfl rfl ?_
        refine sg_iconst (pc := 26) (z := 0) (dc_X5_digest_26.1.1.1.1) (by decide) ?_
        refine sg_iconst (pc := 27) (z := 1) (dc_X5_digest_26.1.1.1.2) (by decide) ?_
        refine sg_cE2 (pc := 28) (d' := d - 1) (mc' := 0) (ms' := 0) 6 g (dc_X5_digest_26.1.1.2.1) cb_X5_order ml_X5_290 mn_X5_order rfl mv_X5_order (Nat.le_of_ble_eq_true rfl) (ck_oc (by assumption)) (Nat.le_of_ble_eq_true rfl) (by first | exact jl_d0 hd rfl | omega) (by first | exact Nat.le_of_ble_eq_true rfl | omega) (by first | exact Nat.le_of_ble_eq_true rfl | omega) ?_
        refine s_X5_order_N g (by first | exact jl_d1 hd rfl | omega) (by assumption) (by omega) (fun v28 => sg_K1 ?_)
        refine sg_i2l (pc := 31) (dc_X5_digest_26.1.1.2.2) ?_
        refine sg_cS2 (pc := 32) (d' := d - 1) (mc' := 0) (ms' := 0) g (dc_X5_digest_26.1.2.1.1) cb_X5_with ml_X5_293 ms_X5_with (Nat.le_of_ble_eq_true rfl) (by first | exact jl_d0 hd rfl | omega) (by first | exact Nat.le_of_ble_eq_true rfl | omega) (by first | exact Nat.le_of_ble_eq_true rfl | omega) ?_
        refine s_X5_with g (by first | exact jl_d1 hd rfl | omega) (fun z32 h32 => sg_K1 ?_)
        refine sg_lstore_n (pc := 35) (j := 1) (dc_X5_digest_26.1.2.1.2) rfl (by decide) ?_
        refine sg_lload_n (pc := 36) (j := 1) (dc_X5_digest_26.1.2.2.1) rfl rfl ?_
        refine sg_aload_n (pc := 37) (j := 0) (dc_X5_digest_26.1.2.2.2) rfl rfl ?_
        refine sg_iconst (pc := 38) (z := 2) (dc_X5_digest_26.2.1.1.1) (by decide) ?_
        refine sg_iconst (pc := 39) (z := 3) (dc_X5_digest_26.2.1.1.2) (by decide) ?_
        refine sg_cE2 (pc := 40) (d' := d - 1) (mc' := 0) (ms' := 0) 6 g (dc_X5_digest_26.2.1.2.1) cb_X5_order ml_X5_290 mn_X5_order rfl mv_X5_order (Nat.le_of_ble_eq_true rfl) (ck_oc (by assumption)) (Nat.le_of_ble_eq_true rfl) (by first | exact jl_d0 hd rfl | omega) (by first | exact Nat.le_of_ble_eq_true rfl | omega) (by first | exact Nat.le_of_ble_eq_true rfl | omega) ?_
        refine s_X5_order_N g (by first | exact jl_d1 hd rfl | omega) (by assumption) (by omega) (fun v40 => sg_K1 ?_)
        refine sg_i2l (pc := 43) (dc_X5_digest_26.2.1.2.2) ?_
        refine sg_cS2 (pc := 44) (d' := d - 1) (mc' := 0) (ms' := 0) g (dc_X5_digest_26.2.2.1.1) cb_X5_with ml_X5_293 ms_X5_with (Nat.le_of_ble_eq_true rfl) (by first | exact jl_d0 hd rfl | omega) (by first | exact Nat.le_of_ble_eq_true rfl | omega) (by first | exact Nat.le_of_ble_eq_true rfl | omega) ?_
        refine s_X5_with g (by first | exact jl_d1 hd rfl | omega) (fun z44 h44 => sg_K1 ?_)
        refine sg_lstore_n (pc := 47) (j := 1) (dc_X5_digest_26.2.2.1.2) rfl (by decide) ?_
        refine sg_lload_n (pc := 48) (j := 1) (dc_X5_digest_26.2.2.2.1) rfl rfl ?_
        refine sg_aload_n (pc := 49) (j := 0) (dc_X5_digest_26.2.2.2.2) rfl rfl ?_
        refine sg_iconst (pc := 50) (z := 0) (dc_X5_digest_50.1.1.1.1) (by decide) ?_
        refine sg_iconst (pc := 51) (z := 1) (dc_X5_digest_50.1.1.1.2) (by decide) ?_
        refine sg_cE2 (pc := 52) (d' := d - 1) (mc' := 0) (ms' := 0) 6 g (dc_X5_digest_50.1.1.2.1) cb_X5_isAlike ml_X5_297 mn_X5_isAlike rfl mv_X5_isAlike (Nat.le_of_ble_eq_true rfl) (ck_oc (by assumption)) (Nat.le_of_ble_eq_true rfl) (by first | exact jl_d0 hd rfl | omega) (by first | exact Nat.le_of_ble_eq_true rfl | omega) (by first | exact Nat.le_of_ble_eq_true rfl | omega) ?_
        refine s_X5_isAlike_N g (by first | exact jl_d1 hd rfl | omega) (by assumption) (by omega) (fun v52 b52 => sg_K1 ?_)
        refine sg_if_eq (pc := 55) (tgt := 62) (dc_X5_digest_50.1.1.2.2) (by decide) (fun c55 => ?_) (fun c55 => ?_)
        · refine sg_lconst (pc := 62) (z := 0) (dc_X5_digest_50.1.2.2.1) (by decide) ?_
          refine sg_cS2 (pc := 63) (d' := d - 1) (mc' := 0) (ms' := 0) g (dc_X5_digest_50.1.2.2.2) cb_X5_with ml_X5_293 ms_X5_with (Nat.le_of_ble_eq_true rfl) (by first | exact jl_d0 hd rfl | omega) (by first | exact Nat.le_of_ble_eq_true rfl | omega) (by first | exact Nat.le_of_ble_eq_true rfl | omega) ?_
          refine s_X5_with g (by first | exact jl_d1 hd rfl | omega) (fun z63 h63 => sg_K1 ?_)
          refine sg_lstore_n (pc := 66) (j := 1) (dc_X5_digest_50.2.1.1.1) rfl (by decide) ?_
          refine sg_iconst (pc := 67) (z := 0) (dc_X5_digest_50.2.1.1.2) (by decide) ?_
          refine sg_istore_n (pc := 68) (j := 3) (dc_X5_digest_50.2.1.2.1) rfl (by decide) ?_
          have loop69 : ∀ (N : Nat) (p s : Int), (0 ≤ p) → (2 - p).toNat < N → sg_R w mi_X5_digest d 0 0 Q 69 [(3, sg_i p), (1, sg_l s), (0, sg_r B)] [] h 0 0 := by
            intro N
            induction N with
            | zero => intro p s p0 hm; exact absurd hm (Nat.not_lt_zero _)
            | succ N ih =>
              intro p s p0 hm
              refine sg_iload_n (pc := 69) (j := 3) (dc_X5_digest_50.2.1.2.2) rfl rfl ?_
              refine sg_iconst (pc := 70) (z := 2) (dc_X5_digest_50.2.2.1.1) (by decide) ?_
              refine sg_icmp_ge (pc := 71) (tgt := 87) (dc_X5_digest_50.2.2.1.2) (by decide) (fun c71 => ?_) (fun c71 => ?_)
              · refine sg_iconst (pc := 87) (z := 0) (dc_X5_digest_76.1.2.1.2) (by decide) ?_
                refine sg_istore_n (pc := 88) (j := 3) (dc_X5_digest_76.1.2.2.1) rfl (by decide) ?_
                have loop89 : ∀ (N : Nat) (p s : Int), (0 ≤ p) → (4 - p).toNat < N → sg_R w mi_X5_digest d 0 0 Q 89 [(3, sg_i p), (1, sg_l s), (0, sg_r B)] [] h 0 0 := by
                  intro N
                  induction N with
                  | zero => intro p s p0 hm; exact absurd hm (Nat.not_lt_zero _)
                  | succ N ih =>
                    intro p s p0 hm
                    refine sg_iload_n (pc := 89) (j := 3) (dc_X5_digest_76.1.2.2.2) rfl rfl ?_
                    refine sg_iconst (pc := 90) (z := 3) (dc_X5_digest_76.2.1.1.1) (by decide) ?_
                    refine sg_icmp_gt (pc := 91) (tgt := 111) (dc_X5_digest_76.2.1.1.2) (by decide) (fun c91 => ?_) (fun c91 => ?_)
                    · refine sg_lload_n (pc := 111) (j := 1) (dc_X5_digest_104.1.1.2.2) rfl rfl ?_
                      refine sg_aload_n (pc := 112) (j := 0) (dc_X5_digest_104.1.2.1.1) rfl rfl ?_
                      refine sg_cE0 (pc := 113) (d' := d - 1) (mc' := 0) (ms' := 0) 6 g (dc_X5_digest_104.1.2.1.2) cb_X5_isSound ml_X5_306 mn_X5_isSound rfl mv_X5_isSound (Nat.le_of_ble_eq_true rfl) (ck_oc (by assumption)) (Nat.le_of_ble_eq_true rfl) (by first | exact jl_d0 hd rfl | omega) (by first | exact Nat.le_of_ble_eq_true rfl | omega) (by first | exact Nat.le_of_ble_eq_true rfl | omega) ?_
                      refine s_X5_isSound g (by first | exact jl_d1 hd rfl | omega) (by assumption) (fun v113 b113 => sg_K1 ?_)
                      refine sg_if_eq (pc := 116) (tgt := 123) (dc_X5_digest_104.1.2.2.1) (by decide) (fun c116 => ?_) (fun c116 => ?_)
                      · refine sg_lconst (pc := 123) (z := 0) (dc_X5_digest_104.2.1.1.2) (by decide) ?_
                        refine sg_cS2 (pc := 124) (d' := d - 1) (mc' := 0) (ms' := 0) g (dc_X5_digest_104.2.1.2.1) cb_X5_with ml_X5_293 ms_X5_with (Nat.le_of_ble_eq_true rfl) (by first | exact jl_d0 hd rfl | omega) (by first | exact Nat.le_of_ble_eq_true rfl | omega) (by first | exact Nat.le_of_ble_eq_true rfl | omega) ?_
                        refine s_X5_with g (by first | exact jl_d1 hd rfl | omega) (fun z124 h124 => sg_K1 ?_)
                        refine sg_lret (pc := 127) (dc_X5_digest_104.2.1.2.2) rfl (by first | exact Nat.le_of_ble_eq_true rfl | omega) (by first | exact Nat.le_of_ble_eq_true rfl | omega) ?_
                        exact hQ _
                      · refine sg_lconst (pc := 119) (z := 1) (dc_X5_digest_104.1.2.2.2) (by decide) ?_
                        refine sg_goto (pc := 120) (tgt := 124) (dc_X5_digest_104.2.1.1.1) (by decide) ?_
                        refine sg_cS2 (pc := 124) (d' := d - 1) (mc' := 0) (ms' := 0) g (dc_X5_digest_104.2.1.2.1) cb_X5_with ml_X5_293 ms_X5_with (Nat.le_of_ble_eq_true rfl) (by first | exact jl_d0 hd rfl | omega) (by first | exact Nat.le_of_ble_eq_true rfl | omega) (by first | exact Nat.le_of_ble_eq_true rfl | omega) ?_
                        refine s_X5_with g (by first | exact jl_d1 hd rfl | omega) (fun z124 h124 => sg_K1 ?_)
                        refine sg_lret (pc := 127) (dc_X5_digest_104.2.1.2.2) rfl (by first | exact Nat.le_of_ble_eq_true rfl | omega) (by first | exact Nat.le_of_ble_eq_true rfl | omega) ?_
                        exact hQ _
                    · refine sg_lload_n (pc := 94) (j := 1) (dc_X5_digest_76.2.1.2.1) rfl rfl ?_
                      refine sg_aload_n (pc := 95) (j := 0) (dc_X5_digest_76.2.1.2.2) rfl rfl ?_
                      refine sg_iload_n (pc := 96) (j := 3) (dc_X5_digest_76.2.2.1.1) rfl rfl ?_
                      refine sg_cE1 (pc := 97) (d' := d - 1) (mc' := 0) (ms' := 0) 6 g (dc_X5_digest_76.2.2.1.2) cb_X5_house ml_X5_303 mn_X5_house rfl mv_X5_house (Nat.le_of_ble_eq_true rfl) (ck_oc (by assumption)) (Nat.le_of_ble_eq_true rfl) (by first | exact jl_d0 hd rfl | omega) (by first | exact Nat.le_of_ble_eq_true rfl | omega) (by first | exact Nat.le_of_ble_eq_true rfl | omega) ?_
                      refine s_X5_house_N g (by first | exact jl_d1 hd rfl | omega) (by assumption) (by omega) (fun v97 => sg_K1 ?_)
                      refine sg_i2l (pc := 100) (dc_X5_digest_76.2.2.2.1) ?_
                      refine sg_cS2 (pc := 101) (d' := d - 1) (mc' := 0) (ms' := 0) g (dc_X5_digest_76.2.2.2.2) cb_X5_with ml_X5_293 ms_X5_with (Nat.le_of_ble_eq_true rfl) (by first | exact jl_d0 hd rfl | omega) (by first | exact Nat.le_of_ble_eq_true rfl | omega) (by first | exact Nat.le_of_ble_eq_true rfl | omega) ?_
                      refine s_X5_with g (by first | exact jl_d1 hd rfl | omega) (fun z101 h101 => sg_K1 ?_)
                      refine sg_lstore_n (pc := 104) (j := 1) (dc_X5_digest_104.1.1.1.1) rfl (by decide) ?_
                      first | refine sg_iincB (pc := 105) (dc_X5_digest_104.1.1.1.2) rfl (by decide) (by decide) (by omega) (by omega) ?_ | refine sg_iinc (pc := 105) (dc_X5_digest_104.1.1.1.2) rfl (by decide) (by decide) ?_
                      refine sg_goto (pc := 108) (tgt := 89) (dc_X5_digest_104.1.1.2.1) (by decide) ?_
                      refine sg_lsub (lv' := [(3, _), (1, _), (0, _)]) ⟨rfl, rfl, rfl, trivial⟩ ?_
                      exact ih _ _ (by omega) (by first | exact jl_m1 hm (by omega) | exact jl_m2 hm (by omega) | omega)
                refine sg_lsub (lv' := [(3, _), (1, _), (0, _)]) ⟨rfl, rfl, rfl, trivial⟩ ?_
                exact loop89 _ _ _ (by omega) (Nat.lt_succ_self _)
              · refine sg_aload_n (pc := 74) (j := 0) (dc_X5_digest_50.2.2.2.1) rfl rfl ?_
                refine sg_lload_n (pc := 75) (j := 1) (dc_X5_digest_50.2.2.2.2) rfl rfl ?_
                refine sg_iload_n (pc := 76) (j := 3) (dc_X5_digest_76.1.1.1.1) rfl rfl ?_
                refine sg_cE2 (pc := 77) (d' := d - 1) (mc' := 0) (ms' := 0) 6 g (dc_X5_digest_76.1.1.1.2) cb_X5_withTrack ml_X5_300 mn_X5_withTrack rfl mv_X5_withTrack (Nat.le_of_ble_eq_true rfl) (ck_oc (by assumption)) (Nat.le_of_ble_eq_true rfl) (by first | exact jl_d0 hd rfl | omega) (by first | exact Nat.le_of_ble_eq_true rfl | omega) (by first | exact Nat.le_of_ble_eq_true rfl | omega) ?_
                refine s_X5_withTrack g (by first | exact jl_d1 hd rfl | omega) (by assumption) (by omega) (fun v77 => sg_K1 ?_)
                refine sg_lstore_n (pc := 80) (j := 1) (dc_X5_digest_76.1.1.2.1) rfl (by decide) ?_
                first | refine sg_iincB (pc := 81) (dc_X5_digest_76.1.1.2.2) rfl (by decide) (by decide) (by omega) (by omega) ?_ | refine sg_iinc (pc := 81) (dc_X5_digest_76.1.1.2.2) rfl (by decide) (by decide) ?_
                refine sg_goto (pc := 84) (tgt := 69) (dc_X5_digest_76.1.2.1.1) (by decide) ?_
                refine sg_lsub (lv' := [(3, _), (1, _), (0, _)]) ⟨rfl, rfl, rfl, trivial⟩ ?_
                exact ih _ _ (by omega) (by first | exact jl_m1 hm (by omega) | exact jl_m2 hm (by omega) | omega)
          refine sg_lsub (lv' := [(3, _), (1, _), (0, _)]) ⟨rfl, rfl, rfl, trivial⟩ ?_
          exact loop69 _ _ _ (by omega) (Nat.lt_succ_self _)
        · refine sg_lconst (pc := 58) (z := 1) (dc_X5_digest_50.1.2.1.1) (by decide) ?_
          refine sg_goto (pc := 59) (tgt := 63) (dc_X5_digest_50.1.2.1.2) (by decide) ?_
          refine sg_cS2 (pc := 63) (d' := d - 1) (mc' := 0) (ms' := 0) g (dc_X5_digest_50.1.2.2.2) cb_X5_with ml_X5_293 ms_X5_with (Nat.le_of_ble_eq_true rfl) (by first | exact jl_d0 hd rfl | omega) (by first | exact Nat.le_of_ble_eq_true rfl | omega) (by first | exact Nat.le_of_ble_eq_true rfl | omega) ?_
          refine s_X5_with g (by first | exact jl_d1 hd rfl | omega) (fun z63 h63 => sg_K1 ?_)
          refine sg_lstore_n (pc := 66) (j := 1) (dc_X5_digest_50.2.1.1.1) rfl (by decide) ?_
          refine sg_iconst (pc := 67) (z := 0) (dc_X5_digest_50.2.1.1.2) (by decide) ?_
          refine sg_istore_n (pc := 68) (j := 3) (dc_X5_digest_50.2.1.2.1) rfl (by decide) ?_
          have loop69 : ∀ (N : Nat) (p s : Int), (0 ≤ p) → (2 - p).toNat < N → sg_R w mi_X5_digest d 0 0 Q 69 [(3, sg_i p), (1, sg_l s), (0, sg_r B)] [] h 0 0 := by
            intro N
            induction N with
            | zero => intro p s p0 hm; exact absurd hm (Nat.not_lt_zero _)
            | succ N ih =>
              intro p s p0 hm
              refine sg_iload_n (pc := 69) (j := 3) (dc_X5_digest_50.2.1.2.2) rfl rfl ?_
              refine sg_iconst (pc := 70) (z := 2) (dc_X5_digest_50.2.2.1.1) (by decide) ?_
              refine sg_icmp_ge (pc := 71) (tgt := 87) (dc_X5_digest_50.2.2.1.2) (by decide) (fun c71 => ?_) (fun c71 => ?_)
              · refine sg_iconst (pc := 87) (z := 0) (dc_X5_digest_76.1.2.1.2) (by decide) ?_
                refine sg_istore_n (pc := 88) (j := 3) (dc_X5_digest_76.1.2.2.1) rfl (by decide) ?_
                have loop89 : ∀ (N : Nat) (p s : Int), (0 ≤ p) → (4 - p).toNat < N → sg_R w mi_X5_digest d 0 0 Q 89 [(3, sg_i p), (1, sg_l s), (0, sg_r B)] [] h 0 0 := by
                  intro N
                  induction N with
                  | zero => intro p s p0 hm; exact absurd hm (Nat.not_lt_zero _)
                  | succ N ih =>
                    intro p s p0 hm
                    refine sg_iload_n (pc := 89) (j := 3) (dc_X5_digest_76.1.2.2.2) rfl rfl ?_
                    refine sg_iconst (pc := 90) (z := 3) (dc_X5_digest_76.2.1.1.1) (by decide) ?_
                    refine sg_icmp_gt (pc := 91) (tgt := 111) (dc_X5_digest_76.2.1.1.2) (by decide) (fun c91 => ?_) (fun c91 => ?_)
                    · refine sg_lload_n (pc := 111) (j := 1) (dc_X5_digest_104.1.1.2.2) rfl rfl ?_
                      refine sg_aload_n (pc := 112) (j := 0) (dc_X5_digest_104.1.2.1.1) rfl rfl ?_
                      refine sg_cE0 (pc := 113) (d' := d - 1) (mc' := 0) (ms' := 0) 6 g (dc_X5_digest_104.1.2.1.2) cb_X5_isSound ml_X5_306 mn_X5_isSound rfl mv_X5_isSound (Nat.le_of_ble_eq_true rfl) (ck_oc (by assumption)) (Nat.le_of_ble_eq_true rfl) (by first | exact jl_d0 hd rfl | omega) (by first | exact Nat.le_of_ble_eq_true rfl | omega) (by first | exact Nat.le_of_ble_eq_true rfl | omega) ?_
                      refine s_X5_isSound g (by first | exact jl_d1 hd rfl | omega) (by assumption) (fun v113 b113 => sg_K1 ?_)
                      refine sg_if_eq (pc := 116) (tgt := 123) (dc_X5_digest_104.1.2.2.1) (by decide) (fun c116 => ?_) (fun c116 => ?_)
                      · refine sg_lconst (pc := 123) (z := 0) (dc_X5_digest_104.2.1.1.2) (by decide) ?_
                        refine sg_cS2 (pc := 124) (d' := d - 1) (mc' := 0) (ms' := 0) g (dc_X5_digest_104.2.1.2.1) cb_X5_with ml_X5_293 ms_X5_with (Nat.le_of_ble_eq_true rfl) (by first | exact jl_d0 hd rfl | omega) (by first | exact Nat.le_of_ble_eq_true rfl | omega) (by first | exact Nat.le_of_ble_eq_true rfl | omega) ?_
                        refine s_X5_with g (by first | exact jl_d1 hd rfl | omega) (fun z124 h124 => sg_K1 ?_)
                        refine sg_lret (pc := 127) (dc_X5_digest_104.2.1.2.2) rfl (by first | exact Nat.le_of_ble_eq_true rfl | omega) (by first | exact Nat.le_of_ble_eq_true rfl | omega) ?_
                        exact hQ _
                      · refine sg_lconst (pc := 119) (z := 1) (dc_X5_digest_104.1.2.2.2) (by decide) ?_
                        refine sg_goto (pc := 120) (tgt := 124) (dc_X5_digest_104.2.1.1.1) (by decide) ?_
                        refine sg_cS2 (pc := 124) (d' := d - 1) (mc' := 0) (ms' := 0) g (dc_X5_digest_104.2.1.2.1) cb_X5_with ml_X5_293 ms_X5_with (Nat.le_of_ble_eq_true rfl) (by first | exact jl_d0 hd rfl | omega) (by first | exact Nat.le_of_ble_eq_true rfl | omega) (by first | exact Nat.le_of_ble_eq_true rfl | omega) ?_
                        refine s_X5_with g (by first | exact jl_d1 hd rfl | omega) (fun z124 h124 => sg_K1 ?_)
                        refine sg_lret (pc := 127) (dc_X5_digest_104.2.1.2.2) rfl (by first | exact Nat.le_of_ble_eq_true rfl | omega) (by first | exact Nat.le_of_ble_eq_true rfl | omega) ?_
                        exact hQ _
                    · refine sg_lload_n (pc := 94) (j := 1) (dc_X5_digest_76.2.1.2.1) rfl rfl ?_
                      refine sg_aload_n (pc := 95) (j := 0) (dc_X5_digest_76.2.1.2.2) rfl rfl ?_
                      refine sg_iload_n (pc := 96) (j := 3) (dc_X5_digest_76.2.2.1.1) rfl rfl ?_
                      refine sg_cE1 (pc := 97) (d' := d - 1) (mc' := 0) (ms' := 0) 6 g (dc_X5_digest_76.2.2.1.2) cb_X5_house ml_X5_303 mn_X5_house rfl mv_X5_house (Nat.le_of_ble_eq_true rfl) (ck_oc (by assumption)) (Nat.le_of_ble_eq_true rfl) (by first | exact jl_d0 hd rfl | omega) (by first | exact Nat.le_of_ble_eq_true rfl | omega) (by first | exact Nat.le_of_ble_eq_true rfl | omega) ?_
                      refine s_X5_house_N g (by first | exact jl_d1 hd rfl | omega) (by assumption) (by omega) (fun v97 => sg_K1 ?_)
                      refine sg_i2l (pc := 100) (dc_X5_digest_76.2.2.2.1) ?_
                      refine sg_cS2 (pc := 101) (d' := d - 1) (mc' := 0) (ms' := 0) g (dc_X5_digest_76.2.2.2.2) cb_X5_with ml_X5_293 ms_X5_with (Nat.le_of_ble_eq_true rfl) (by first | exact jl_d0 hd rfl | omega) (by first | exact Nat.le_of_ble_eq_true rfl | omega) (by first | exact Nat.le_of_ble_eq_true rfl | omega) ?_
                      refine s_X5_with g (by first | exact jl_d1 hd rfl | omega) (fun z101 h101 => sg_K1 ?_)
                      refine sg_lstore_n (pc := 104) (j := 1) (dc_X5_digest_104.1.1.1.1) rfl (by decide) ?_
                      first | refine sg_iincB (pc := 105) (dc_X5_digest_104.1.1.1.2) rfl (by decide) (by decide) (by omega) (by omega) ?_ | refine sg_iinc (pc := 105) (dc_X5_digest_104.1.1.1.2) rfl (by decide) (by decide) ?_
                      refine sg_goto (pc := 108) (tgt := 89) (dc_X5_digest_104.1.1.2.1) (by decide) ?_
                      refine sg_lsub (lv' := [(3, _), (1, _), (0, _)]) ⟨rfl, rfl, rfl, trivial⟩ ?_
                      exact ih _ _ (by omega) (by first | exact jl_m1 hm (by omega) | exact jl_m2 hm (by omega) | omega)
                refine sg_lsub (lv' := [(3, _), (1, _), (0, _)]) ⟨rfl, rfl, rfl, trivial⟩ ?_
                exact loop89 _ _ _ (by omega) (Nat.lt_succ_self _)
              · refine sg_aload_n (pc := 74) (j := 0) (dc_X5_digest_50.2.2.2.1) rfl rfl ?_
                refine sg_lload_n (pc := 75) (j := 1) (dc_X5_digest_50.2.2.2.2) rfl rfl ?_
                refine sg_iload_n (pc := 76) (j := 3) (dc_X5_digest_76.1.1.1.1) rfl rfl ?_
                refine sg_cE2 (pc := 77) (d' := d - 1) (mc' := 0) (ms' := 0) 6 g (dc_X5_digest_76.1.1.1.2) cb_X5_withTrack ml_X5_300 mn_X5_withTrack rfl mv_X5_withTrack (Nat.le_of_ble_eq_true rfl) (ck_oc (by assumption)) (Nat.le_of_ble_eq_true rfl) (by first | exact jl_d0 hd rfl | omega) (by first | exact Nat.le_of_ble_eq_true rfl | omega) (by first | exact Nat.le_of_ble_eq_true rfl | omega) ?_
                refine s_X5_withTrack g (by first | exact jl_d1 hd rfl | omega) (by assumption) (by omega) (fun v77 => sg_K1 ?_)
                refine sg_lstore_n (pc := 80) (j := 1) (dc_X5_digest_76.1.1.2.1) rfl (by decide) ?_
                first | refine sg_iincB (pc := 81) (dc_X5_digest_76.1.1.2.2) rfl (by decide) (by decide) (by omega) (by omega) ?_ | refine sg_iinc (pc := 81) (dc_X5_digest_76.1.1.2.2) rfl (by decide) (by decide) ?_
                refine sg_goto (pc := 84) (tgt := 69) (dc_X5_digest_76.1.2.1.1) (by decide) ?_
                refine sg_lsub (lv' := [(3, _), (1, _), (0, _)]) ⟨rfl, rfl, rfl, trivial⟩ ?_
                exact ih _ _ (by omega) (by first | exact jl_m1 hm (by omega) | exact jl_m2 hm (by omega) | omega)
          refine sg_lsub (lv' := [(3, _), (1, _), (0, _)]) ⟨rfl, rfl, rfl, trivial⟩ ?_
          exact loop69 _ _ _ (by omega) (Nat.lt_succ_self _)
      · refine sg_aload_n (pc := 11) (j := 0) (dc_X5_digest_0.1.2.2.2) rfl rfl ?_
        refine sg_lload_n (pc := 12) (j := 1) (dc_X5_digest_0.2.1.1.1) rfl rfl ?_
        refine sg_iload_n (pc := 13) (j := 3) (dc_X5_digest_0.2.1.1.2) rfl rfl ?_
        refine sg_cE2 (pc := 14) (d' := d - 1) (mc' := 0) (ms' := 0) 6 g (dc_X5_digest_0.2.1.2.1) cb_X5_withRow ml_X5_286 mn_X5_withRow rfl mv_X5_withRow (Nat.le_of_ble_eq_true rfl) (ck_oc (by assumption)) (Nat.le_of_ble_eq_true rfl) (by first | exact jl_d0 hd rfl | omega) (by first | exact Nat.le_of_ble_eq_true rfl | omega) (by first | exact Nat.le_of_ble_eq_true rfl | omega) ?_
        refine s_X5_withRow g (by first | exact jl_d1 hd rfl | omega) (by assumption) (by omega) (fun v14 => sg_K1 ?_)
        refine sg_lstore_n (pc := 17) (j := 1) (dc_X5_digest_0.2.1.2.2) rfl (by decide) ?_
        first | refine sg_iincB (pc := 18) (dc_X5_digest_0.2.2.1.1) rfl (by decide) (by decide) (by omega) (by omega) ?_ | refine sg_iinc (pc := 18) (dc_X5_digest_0.2.2.1.1) rfl (by decide) (by decide) ?_
        refine sg_goto (pc := 21) (tgt := 6) (dc_X5_digest_0.2.2.1.2) (by decide) ?_
        refine sg_lsub (lv' := [(3, _), (1, _), (0, _)]) ⟨rfl, rfl, rfl, trivial⟩ ?_
        exact ih _ _ (by omega) (by first | exact jl_m1 hm (by omega) | exact jl_m2 hm (by omega) | omega)
  refine sg_lsub (lv' := [(3, _), (1, _), (0, _)]) ⟨rfl, rfl, rfl, trivial⟩ ?_
  exact loop6 _ _ _ (by omega) (Nat.lt_succ_self _)

