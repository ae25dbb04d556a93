set_option maxRecDepth 100000 in
theorem s_X5_isDigit {w : sg_W} {Q : sg_O → sg_H → Prop} {h : sg_H} (g : sg_G w) {d : Nat} (hd : 14 ≤ d) {B : Nat} {x : Int} (hQ : ∀ v : Int, ¬ (x < 0 ∨ 255 < x) → (v = fn_isOf x 0 ∧ (v = 0 ∨ v = 1)) → Q (.inl (some (sg_i v))) h) (hX : (x < 0 ∨ 255 < x) → ∀ z, h.1 ≤ z → Q (.inr e_A) (z, h.2)) : sg_C w mi_X5_isDigit d 8 48 [sg_r B, sg_i x] h Q := by
  refine sg_of pn_X5 (Nat.le_of_ble_eq_true rfl) ?_
  refine sg_iload_n (pc := 0) (j := 1) (dc_X5_isDigit_0.1.1.1) rfl rfl ?_
  refine sg_cS1 (pc := 1) (d' := d - 1) (mc' := 1) (ms' := 6) g (dc_X5_isDigit_0.1.1.2) cb_X5_checkSign ml_X5_189 ms_X5_checkSign (Nat.le_of_ble_eq_true rfl) (by first | exact jl_d0 hd rfl | omega) (by first | exact Nat.le_of_ble_eq_true rfl | omega) (by first | exact Nat.le_of_ble_eq_true rfl | omega) ?_
  refine s_X5_checkSign g (by first | exact jl_d1 hd rfl | omega) (fun v1 => sg_K0 ?_) (fun v1 z1 w1 => sg_KX (by first | exact Nat.le_of_ble_eq_true rfl | omega) (by first | exact Nat.le_of_ble_eq_true rfl | omega) (hX (by omega) z1 w1))
  refine sg_iload_n (pc := 4) (j := 1) (dc_X5_isDigit_0.1.2.1) rfl rfl ?_
  refine sg_iconst (pc := 5) (z := 0) (dc_X5_isDigit_0.1.2.2) (by decide) ?_
  refine sg_cS2 (pc := 6) (d' := d - 1) (mc' := 0) (ms' := 0) g (dc_X5_isDigit_0.2.1.1) cb_X2_isOf ml_X5_96 ms_X2_isOf (Nat.le_of_ble_eq_true rfl) (by first | exact jl_d0 hd rfl | omega) (by first | exact Nat.le_of_ble_eq_true rfl | omega) (by first | exact Nat.le_of_ble_eq_true rfl | omega) ?_
  refine s_X2_isOf g (by first | exact jl_d1 hd rfl | omega) (fun z6 h6 b6 => sg_K1 ?_)
  refine sg_zret (pc := 9) (dc_X5_isDigit_0.2.1.2) rfl (by first | exact Or.inl rfl | exact Or.inr rfl | omega | assumption) (by first | exact Nat.le_of_ble_eq_true rfl | omega) (by first | exact Nat.le_of_ble_eq_true rfl | omega) ?_
  exact hQ _ (by omega) ⟨by assumption, by assumption⟩

set_option maxRecDepth 100000 in
theorem s_X5_isLetter {w : sg_W} {Q : sg_O → sg_H → Prop} {h : sg_H} (g : sg_G w) {d : Nat} (hd : 14 ≤ d) {B : Nat} {x : Int} (hQ : ∀ v : Int, ¬ (x < 0 ∨ 255 < x) → (v = fn_isOf x 1 ∧ (v = 0 ∨ v = 1)) → Q (.inl (some (sg_i v))) h) (hX : (x < 0 ∨ 255 < x) → ∀ z, h.1 ≤ z → Q (.inr e_A) (z, h.2)) : sg_C w mi_X5_isLetter d 8 48 [sg_r B, sg_i x] h Q := by
  refine sg_of pn_X5 (Nat.le_of_ble_eq_true rfl) ?_
  refine sg_iload_n (pc := 0) (j := 1) (dc_X5_isLetter_0.1.1.1) rfl rfl ?_
  refine sg_cS1 (pc := 1) (d' := d - 1) (mc' := 1) (ms' := 6) g (dc_X5_isLetter_0.1.1.2) cb_X5_checkSign ml_X5_189 ms_X5_checkSign (Nat.le_of_ble_eq_true rfl) (by first | exact jl_d0 hd rfl | omega) (by first | exact Nat.le_of_ble_eq_true rfl | omega) (by first | exact Nat.le_of_ble_eq_true rfl | omega) ?_
  refine s_X5_checkSign g (by first | exact jl_d1 hd rfl | omega) (fun v1 => sg_K0 ?_) (fun v1 z1 w1 => sg_KX (by first | exact Nat.le_of_ble_eq_true rfl | omega) (by first | exact Nat.le_of_ble_eq_true rfl | omega) (hX (by omega) z1 w1))
  refine sg_iload_n (pc := 4) (j := 1) (dc_X5_isLetter_0.1.2.1) rfl rfl ?_
  refine sg_iconst (pc := 5) (z := 1) (dc_X5_isLetter_0.1.2.2) (by decide) ?_
  refine sg_cS2 (pc := 6) (d' := d - 1) (mc' := 0) (ms' := 0) g (dc_X5_isLetter_0.2.1.1) cb_X2_isOf ml_X5_96 ms_X2_isOf (Nat.le_of_ble_eq_true rfl) (by first | exact jl_d0 hd rfl | omega) (by first | exact Nat.le_of_ble_eq_true rfl | omega) (by first | exact Nat.le_of_ble_eq_true rfl | omega) ?_
  refine s_X2_isOf g (by first | exact jl_d1 hd rfl | omega) (fun z6 h6 b6 => sg_K1 ?_)
  refine sg_zret (pc := 9) (dc_X5_isLetter_0.2.1.2) rfl (by first | exact Or.inl rfl | exact Or.inr rfl | omega | assumption) (by first | exact Nat.le_of_ble_eq_true rfl | omega) (by first | exact Nat.le_of_ble_eq_true rfl | omega) ?_
  exact hQ _ (by omega) ⟨by assumption, by assumption⟩

set_option maxRecDepth 100000 in
theorem s_X5_isLetterOrDigit {w : sg_W} {Q : sg_O → sg_H → Prop} {h : sg_H} (g : sg_G w) {d : Nat} (hd : 14 ≤ d) {B : Nat} {x : Int} (hQ : ∀ v : Int, ¬ (x < 0 ∨ 255 < x) → (v = fn_isOf x 2 ∧ (v = 0 ∨ v = 1)) → Q (.inl (some (sg_i v))) h) (hX : (x < 0 ∨ 255 < x) → ∀ z, h.1 ≤ z → Q (.inr e_A) (z, h.2)) : sg_C w mi_X5_isLetterOrDigit d 8 48 [sg_r B, sg_i x] h Q := by
  refine sg_of pn_X5 (Nat.le_of_ble_eq_true rfl) ?_
  refine sg_iload_n (pc := 0) (j := 1) (dc_X5_isLetterOrDigit_0.1.1.1) rfl rfl ?_
  refine sg_cS1 (pc := 1) (d' := d - 1) (mc' := 1) (ms' := 6) g (dc_X5_isLetterOrDigit_0.1.1.2) cb_X5_checkSign ml_X5_189 ms_X5_checkSign (Nat.le_of_ble_eq_true rfl) (by first | exact jl_d0 hd rfl | omega) (by first | exact Nat.le_of_ble_eq_true rfl | omega) (by first | exact Nat.le_of_ble_eq_true rfl | omega) ?_
  refine s_X5_checkSign g (by first | exact jl_d1 hd rfl | omega) (fun v1 => sg_K0 ?_) (fun v1 z1 w1 => sg_KX (by first | exact Nat.le_of_ble_eq_true rfl | omega) (by first | exact Nat.le_of_ble_eq_true rfl | omega) (hX (by omega) z1 w1))
  refine sg_iload_n (pc := 4) (j := 1) (dc_X5_isLetterOrDigit_0.1.2.1) rfl rfl ?_
  refine sg_iconst (pc := 5) (z := 2) (dc_X5_isLetterOrDigit_0.1.2.2) (by decide) ?_
  refine sg_cS2 (pc := 6) (d' := d - 1) (mc' := 0) (ms' := 0) g (dc_X5_isLetterOrDigit_0.2.1.1) cb_X2_isOf ml_X5_96 ms_X2_isOf (Nat.le_of_ble_eq_true rfl) (by first | exact jl_d0 hd rfl | omega) (by first | exact Nat.le_of_ble_eq_true rfl | omega) (by first | exact Nat.le_of_ble_eq_true rfl | omega) ?_
  refine s_X2_isOf g (by first | exact jl_d1 hd rfl | omega) (fun z6 h6 b6 => sg_K1 ?_)
  refine sg_zret (pc := 9) (dc_X5_isLetterOrDigit_0.2.1.2) rfl (by first | exact Or.inl rfl | exact Or.inr rfl | omega | assumption) (by first | exact Nat.le_of_ble_eq_true rfl | omega) (by first | exact Nat.le_of_ble_eq_true rfl | omega) ?_
  exact hQ _ (by omega) ⟨by assumption, by assumption⟩

set_option maxRecDepth 100000 in
theorem s_X5_isWhite {w : sg_W} {Q : sg_O → sg_H → Prop} {h : sg_H} (g : sg_G w) {d : Nat} (hd : 14 ≤ d) {B : Nat} {x : Int} (hQ : ∀ v : Int, ¬ (x < 0 ∨ 255 < x) → (v = fn_isOf x 3 ∧ (v = 0 ∨ v = 1)) → Q (.inl (some (sg_i v))) h) (hX : (x < 0 ∨ 255 < x) → ∀ z, h.1 ≤ z → Q (.inr e_A) (z, h.2)) : sg_C w mi_X5_isWhite d 8 48 [sg_r B, sg_i x] h Q := by
  refine sg_of pn_X5 (Nat.le_of_ble_eq_true rfl) ?_
  refine sg_iload_n (pc := 0) (j := 1) (dc_X5_isWhite_0.1.1.1) rfl rfl ?_
  refine sg_cS1 (pc := 1) (d' := d - 1) (mc' := 1) (ms' := 6) g (dc_X5_isWhite_0.1.1.2) cb_X5_checkSign ml_X5_189 ms_X5_checkSign (Nat.le_of_ble_eq_true rfl) (by first | exact jl_d0 hd rfl | omega) (by first | exact Nat.le_of_ble_eq_true rfl | omega) (by first | exact Nat.le_of_ble_eq_true rfl | omega) ?_
  refine s_X5_checkSign g (by first | exact jl_d1 hd rfl | omega) (fun v1 => sg_K0 ?_) (fun v1 z1 w1 => sg_KX (by first | exact Nat.le_of_ble_eq_true rfl | omega) (by first | exact Nat.le_of_ble_eq_true rfl | omega) (hX (by omega) z1 w1))
  refine sg_iload_n (pc := 4) (j := 1) (dc_X5_isWhite_0.1.2.1) rfl rfl ?_
  refine sg_iconst (pc := 5) (z := 3) (dc_X5_isWhite_0.1.2.2) (by decide) ?_
  refine sg_cS2 (pc := 6) (d' := d - 1) (mc' := 0) (ms' := 0) g (dc_X5_isWhite_0.2.1.1) cb_X2_isOf ml_X5_96 ms_X2_isOf (Nat.le_of_ble_eq_true rfl) (by first | exact jl_d0 hd rfl | omega) (by first | exact Nat.le_of_ble_eq_true rfl | omega) (by first | exact Nat.le_of_ble_eq_true rfl | omega) ?_
  refine s_X2_isOf g (by first | exact jl_d1 hd rfl | omega) (fun z6 h6 b6 => sg_K1 ?_)
  refine sg_zret (pc := 9) (dc_X5_isWhite_0.2.1.2) rfl (by first | exact Or.inl rfl | exact Or.inr rfl | omega | assumption) (by first | exact Nat.le_of_ble_eq_true rfl | omega) (by first | exact Nat.le_of_ble_eq_true rfl | omega) ?_
  exact hQ _ (by omega) ⟨by assumption, by assumption⟩

set_option maxRecDepth 100000 in
theorem s_X5_isGreat {w : sg_W} {Q : sg_O → sg_H → Prop} {h : sg_H} (g : sg_G w) {d : Nat} (hd : 14 ≤ d) {B : Nat} {x : Int} (hQ : ∀ v : Int, ¬ (x < 0 ∨ 255 < x) → (v = fn_isOf x 4 ∧ (v = 0 ∨ v = 1)) → Q (.inl (some (sg_i v))) h) (hX : (x < 0 ∨ 255 < x) → ∀ z, h.1 ≤ z → Q (.inr e_A) (z, h.2)) : sg_C w mi_X5_isGreat d 8 48 [sg_r B, sg_i x] h Q := by
  refine sg_of pn_X5 (Nat.le_of_ble_eq_true rfl) ?_
  refine sg_iload_n (pc := 0) (j := 1) (dc_X5_isGreat_0.1.1.1) rfl rfl ?_
  refine sg_cS1 (pc := 1) (d' := d - 1) (mc' := 1) (ms' := 6) g (dc_X5_isGreat_0.1.1.2) cb_X5_checkSign ml_X5_189 ms_X5_checkSign (Nat.le_of_ble_eq_true rfl) (by first | exact jl_d0 hd rfl | omega) (by first | exact Nat.le_of_ble_eq_true rfl | omega) (by first | exact Nat.le_of_ble_eq_true rfl | omega) ?_
  refine s_X5_checkSign g (by first | exact jl_d1 hd rfl | omega) (fun v1 => sg_K0 ?_) (fun v1 z1 w1 => sg_KX (by first | exact Nat.le_of_ble_eq_true rfl | omega) (by first | exact Nat.le_of_ble_eq_true rfl | omega) (hX (by omega) z1 w1))
  refine sg_iload_n (pc := 4) (j := 1) (dc_X5_isGreat_0.1.2.1) rfl rfl ?_
  refine sg_iconst (pc := 5) (z := 4) (dc_X5_isGreat_0.1.2.2) (by decide) ?_
  refine sg_cS2 (pc := 6) (d' := d - 1) (mc' := 0) (ms' := 0) g (dc_X5_isGreat_0.2.1.1) cb_X2_isOf ml_X5_96 ms_X2_isOf (Nat.le_of_ble_eq_true rfl) (by first | exact jl_d0 hd rfl | omega) (by first | exact Nat.le_of_ble_eq_true rfl | omega) (by first | exact Nat.le_of_ble_eq_true rfl | omega) ?_
  refine s_X2_isOf g (by first | exact jl_d1 hd rfl | omega) (fun z6 h6 b6 => sg_K1 ?_)
  refine sg_zret (pc := 9) (dc_X5_isGreat_0.2.1.2) rfl (by first | exact Or.inl rfl | exact Or.inr rfl | omega | assumption) (by first | exact Nat.le_of_ble_eq_true rfl | omega) (by first | exact Nat.le_of_ble_eq_true rfl | omega) ?_
  exact hQ _ (by omega) ⟨by assumption, by assumption⟩

set_option maxRecDepth 100000 in
theorem s_X5_kinds {w : sg_W} {Q : sg_O → sg_H → Prop} {h : sg_H} (g : sg_G w) {d : Nat} (hd : 14 ≤ d) {B : Nat} {x : Int} (hQ : ∀ v : Int, ¬ (x < 0 ∨ 255 < x) → v = fn_kinds x → Q (.inl (some (sg_i v))) h) (hX : (x < 0 ∨ 255 < x) → ∀ z, h.1 ≤ z → Q (.inr e_A) (z, h.2)) : sg_C w mi_X5_kinds d 8 48 [sg_r B, sg_i x] h Q := by
  refine sg_of pn_X5 (Nat.le_of_ble_eq_true rfl) ?_
  refine sg_iload_n (pc := 0) (j := 1) (dc_X5_kinds_0.1.1.1) rfl rfl ?_
  refine sg_cS1 (pc := 1) (d' := d - 1) (mc' := 1) (ms' := 6) g (dc_X5_kinds_0.1.1.2) cb_X5_checkSign ml_X5_189 ms_X5_checkSign (Nat.le_of_ble_eq_true rfl) (by first | exact jl_d0 hd rfl | omega) (by first | exact Nat.le_of_ble_eq_true rfl | omega) (by first | exact Nat.le_of_ble_eq_true rfl | omega) ?_
  refine s_X5_checkSign g (by first | exact jl_d1 hd rfl | omega) (fun v1 => sg_K0 ?_) (fun v1 z1 w1 => sg_KX (by first | exact Nat.le_of_ble_eq_true rfl | omega) (by first | exact Nat.le_of_ble_eq_true rfl | omega) (hX (by omega) z1 w1))
  refine sg_iload_n (pc := 4) (j := 1) (dc_X5_kinds_0.1.2.1) rfl rfl ?_
  refine sg_cS1 (pc := 5) (d' := d - 1) (mc' := 0) (ms' := 0) g (dc_X5_kinds_0.1.2.2) cb_X2_kindsOf ml_X5_192 ms_X2_kindsOf (Nat.le_of_ble_eq_true rfl) (by first | exact jl_d0 hd rfl | omega) (by first | exact Nat.le_of_ble_eq_true rfl | omega) (by first | exact Nat.le_of_ble_eq_true rfl | omega) ?_
  refine s_X2_kindsOf g (by first | exact jl_d1 hd rfl | omega) (fun z5 h5 => sg_K1 ?_)
  refine sg_iret (pc := 8) (dc_X5_kinds_0.2.1.1) rfl (by first | exact Nat.le_of_ble_eq_true rfl | omega) (by first | exact Nat.le_of_ble_eq_true rfl | omega) ?_
  first | exact hQ _ (by omega) (by assumption) | exact hQ _ (by omega) (by omega) | exact hQ _ (by omega) (fun _ => by omega)

set_option maxRecDepth 100000 in
theorem s_X5_upper {w : sg_W} {Q : sg_O → sg_H → Prop} {h : sg_H} (g : sg_G w) {d : Nat} (hd : 14 ≤ d) {B : Nat} {x c : Int} (hQ : ∀ v : Int, ¬ (x < 0 ∨ 255 < x) → v = fn_upper x → Q (.inl (some (sg_i v))) h) (hX : (x < 0 ∨ 255 < x) → ∀ z, h.1 ≤ z → Q (.inr e_A) (z, h.2)) : sg_C w mi_X5_upper d 8 48 [sg_r B, sg_i x, sg_i c] h Q := by
  refine sg_of pn_X5 (Nat.le_of_ble_eq_true rfl) ?_
  refine sg_iload_n (pc := 0) (j := 1) (dc_X5_upper_0.1.1.1) rfl rfl ?_
  refine sg_cS1 (pc := 1) (d' := d - 1) (mc' := 1) (ms' := 6) g (dc_X5_upper_0.1.1.2) cb_X5_checkSign ml_X5_189 ms_X5_checkSign (Nat.le_of_ble_eq_true rfl) (by first | exact jl_d0 hd rfl | omega) (by first | exact Nat.le_of_ble_eq_true rfl | omega) (by first | exact Nat.le_of_ble_eq_true rfl | omega) ?_
  refine s_X5_checkSign g (by first | exact jl_d1 hd rfl | omega) (fun v1 => sg_K0 ?_) (fun v1 z1 w1 => sg_KX (by first | exact Nat.le_of_ble_eq_true rfl | omega) (by first | exact Nat.le_of_ble_eq_true rfl | omega) (hX (by omega) z1 w1))
  refine sg_iload_n (pc := 4) (j := 1) (dc_X5_upper_0.1.2.1) rfl rfl ?_
  refine sg_cS1 (pc := 5) (d' := d - 1) (mc' := 0) (ms' := 0) g (dc_X5_upper_0.1.2.2) cb_X2_upperOf ml_X5_78 ms_X2_upperOf (Nat.le_of_ble_eq_true rfl) (by first | exact jl_d0 hd rfl | omega) (by first | exact Nat.le_of_ble_eq_true rfl | omega) (by first | exact Nat.le_of_ble_eq_true rfl | omega) ?_
  refine s_X2_upperOf g (by first | exact jl_d1 hd rfl | omega) (fun z5 h5 => sg_K1 ?_)
  refine sg_iret (pc := 8) (dc_X5_upper_0.2.1.1) rfl (by first | exact Nat.le_of_ble_eq_true rfl | omega) (by first | exact Nat.le_of_ble_eq_true rfl | omega) ?_
  first | exact hQ _ (by omega) (by assumption) | exact hQ _ (by omega) (by omega) | exact hQ _ (by omega) (fun _ => by omega)

set_option maxRecDepth 100000 in
theorem s_X5_lower {w : sg_W} {Q : sg_O → sg_H → Prop} {h : sg_H} (g : sg_G w) {d : Nat} (hd : 14 ≤ d) {B : Nat} {x c : Int} (hQ : ∀ v : Int, ¬ (x < 0 ∨ 255 < x) → v = fn_lower x → Q (.inl (some (sg_i v))) h) (hX : (x < 0 ∨ 255 < x) → ∀ z, h.1 ≤ z → Q (.inr e_A) (z, h.2)) : sg_C w mi_X5_lower d 8 48 [sg_r B, sg_i x, sg_i c] h Q := by
  refine sg_of pn_X5 (Nat.le_of_ble_eq_true rfl) ?_
  refine sg_iload_n (pc := 0) (j := 1) (dc_X5_lower_0.1.1.1) rfl rfl ?_
  refine sg_cS1 (pc := 1) (d' := d - 1) (mc' := 1) (ms' := 6) g (dc_X5_lower_0.1.1.2) cb_X5_checkSign ml_X5_189 ms_X5_checkSign (Nat.le_of_ble_eq_true rfl) (by first | exact jl_d0 hd rfl | omega) (by first | exact Nat.le_of_ble_eq_true rfl | omega) (by first | exact Nat.le_of_ble_eq_true rfl | omega) ?_
  refine s_X5_checkSign g (by first | exact jl_d1 hd rfl | omega) (fun v1 => sg_K0 ?_) (fun v1 z1 w1 => sg_KX (by first | exact Nat.le_of_ble_eq_true rfl | omega) (by first | exact Nat.le_of_ble_eq_true rfl | omega) (hX (by omega) z1 w1))
  refine sg_iload_n (pc := 4) (j := 1) (dc_X5_lower_0.1.2.1) rfl rfl ?_
  refine sg_cS1 (pc := 5) (d' := d - 1) (mc' := 0) (ms' := 0) g (dc_X5_lower_0.1.2.2) cb_X2_lowerOf ml_X5_90 ms_X2_lowerOf (Nat.le_of_ble_eq_true rfl) (by first | exact jl_d0 hd rfl | omega) (by first | exact Nat.le_of_ble_eq_true rfl | omega) (by first | exact Nat.le_of_ble_eq_true rfl | omega) ?_
  refine s_X2_lowerOf g (by first | exact jl_d1 hd rfl | omega) (fun z5 h5 => sg_K1 ?_)
  refine sg_iret (pc := 8) (dc_X5_lower_0.2.1.1) rfl (by first | exact Nat.le_of_ble_eq_true rfl | omega) (by first | exact Nat.le_of_ble_eq_true rfl | omega) ?_
  first | exact hQ _ (by omega) (by assumption) | exact hQ _ (by omega) (by omega) | exact hQ _ (by omega) (fun _ => by omega)

set_option maxRecDepth 100000 in
theorem s_X5_value {w : sg_W} {Q : sg_O → sg_H → Prop} {h : sg_H} (g : sg_G w) {d : Nat} (hd : 14 ≤ d) {B : Nat} {x c : Int} (hQ : ∀ v : Int, ¬ (x < 0 ∨ 255 < x) → v = fn_val x → Q (.inl (some (sg_i v))) h) (hX : (x < 0 ∨ 255 < x) → ∀ z, h.1 ≤ z → Q (.inr e_A) (z, h.2)) : sg_C w mi_X5_value d 8 48 [sg_r B, sg_i x, sg_i c] h Q := by
  refine sg_of pn_X5 (Nat.le_of_ble_eq_true rfl) ?_
  refine sg_iload_n (pc := 0) (j := 1) (dc_X5_value_0.1.1.1) rfl rfl ?_
  refine sg_cS1 (pc := 1) (d' := d - 1) (mc' := 1) (ms' := 6) g (dc_X5_value_0.1.1.2) cb_X5_checkSign ml_X5_189 ms_X5_checkSign (Nat.le_of_ble_eq_true rfl) (by first | exact jl_d0 hd rfl | omega) (by first | exact Nat.le_of_ble_eq_true rfl | omega) (by first | exact Nat.le_of_ble_eq_true rfl | omega) ?_
  refine s_X5_checkSign g (by first | exact jl_d1 hd rfl | omega) (fun v1 => sg_K0 ?_) (fun v1 z1 w1 => sg_KX (by first | exact Nat.le_of_ble_eq_true rfl | omega) (by first | exact Nat.le_of_ble_eq_true rfl | omega) (hX (by omega) z1 w1))
  refine sg_iload_n (pc := 4) (j := 1) (dc_X5_value_0.1.2.1) rfl rfl ?_
  refine sg_cS1 (pc := 5) (d' := d - 1) (mc' := 0) (ms' := 0) g (dc_X5_value_0.1.2.2) cb_X2_signValue ml_X5_195 ms_X2_signValue (Nat.le_of_ble_eq_true rfl) (by first | exact jl_d0 hd rfl | omega) (by first | exact Nat.le_of_ble_eq_true rfl | omega) (by first | exact Nat.le_of_ble_eq_true rfl | omega) ?_
  refine s_X2_signValue g (by first | exact jl_d1 hd rfl | omega) (fun z5 h5 => sg_K1 ?_)
  refine sg_iret (pc := 8) (dc_X5_value_0.2.1.1) rfl (by first | exact Nat.le_of_ble_eq_true rfl | omega) (by first | exact Nat.le_of_ble_eq_true rfl | omega) ?_
  first | exact hQ _ (by omega) (by assumption) | exact hQ _ (by omega) (by omega) | exact hQ _ (by omega) (fun _ => by omega)

set_option maxRecDepth 100000 in
theorem s_X5_number {w : sg_W} {Q : sg_O → sg_H → Prop} {h : sg_H} (g : sg_G w) {d : Nat} (hd : 14 ≤ d) {B : Nat} {x r c : Int} (hQ : ∀ v : Int, ¬ (x < 0 ∨ 255 < x) → v = fn_num x r → Q (.inl (some (sg_i v))) h) (hX : (x < 0 ∨ 255 < x) → ∀ z, h.1 ≤ z → Q (.inr e_A) (z, h.2)) : sg_C w mi_X5_number d 8 48 [sg_r B, sg_i x, sg_i r, sg_i c] h Q := by
  refine sg_of pn_X5 (Nat.le_of_ble_eq_true rfl) ?_
  refine sg_iload_n (pc := 0) (j := 1) (dc_X5_number_0.1.1.1) rfl rfl ?_
  refine sg_cS1 (pc := 1) (d' := d - 1) (mc' := 1) (ms' := 6) g (dc_X5_number_0.1.1.2) cb_X5_checkSign ml_X5_189 ms_X5_checkSign (Nat.le_of_ble_eq_true rfl) (by first | exact jl_d0 hd rfl | omega) (by first | exact Nat.le_of_ble_eq_true rfl | omega) (by first | exact Nat.le_of_ble_eq_true rfl | omega) ?_
  refine s_X5_checkSign g (by first | exact jl_d1 hd rfl | omega) (fun v1 => sg_K0 ?_) (fun v1 z1 w1 => sg_KX (by first | exact Nat.le_of_ble_eq_true rfl | omega) (by first | exact Nat.le_of_ble_eq_true rfl | omega) (hX (by omega) z1 w1))
  refine sg_iload_n (pc := 4) (j := 1) (dc_X5_number_0.1.2.1) rfl rfl ?_
  refine sg_iload_n (pc := 5) (j := 2) (dc_X5_number_0.1.2.2) rfl rfl ?_
  refine sg_cS2 (pc := 6) (d' := d - 1) (mc' := 0) (ms' := 0) g (dc_X5_number_0.2.1.1) cb_X2_numberOf ml_X5_148 ms_X2_numberOf (Nat.le_of_ble_eq_true rfl) (by first | exact jl_d0 hd rfl | omega) (by first | exact Nat.le_of_ble_eq_true rfl | omega) (by first | exact Nat.le_of_ble_eq_true rfl | omega) ?_
  refine s_X2_numberOf g (by first | exact jl_d1 hd rfl | omega) (fun z6 h6 => sg_K1 ?_)
  refine sg_iret (pc := 9) (dc_X5_number_0.2.1.2) rfl (by first | exact Nat.le_of_ble_eq_true rfl | omega) (by first | exact Nat.le_of_ble_eq_true rfl | omega) ?_
  first | exact hQ _ (by omega) (by assumption) | exact hQ _ (by omega) (by omega) | exact hQ _ (by omega) (fun _ => by omega)

set_option maxRecDepth 100000 in
theorem s_X5_digit {w : sg_W} {Q : sg_O → sg_H → Prop} {h : sg_H} (g : sg_G w) {d : Nat} (hd : 14 ≤ d) {B : Nat} {x r : Int} (hQ : ∀ v : Int, v = fn_digit x r → Q (.inl (some (sg_i v))) h) : sg_C w mi_X5_digit d 0 0 [sg_r B, sg_i x, sg_i r] h Q := by
  refine sg_of pn_X5 (Nat.le_of_ble_eq_true rfl) ?_
  refine sg_iload_n (pc := 0) (j := 1) (dc_X5_digit_0.1.1) rfl rfl ?_
  refine sg_iload_n (pc := 1) (j := 2) (dc_X5_digit_0.1.2) rfl rfl ?_
  refine sg_cS2 (pc := 2) (d' := d - 1) (mc' := 0) (ms' := 0) g (dc_X5_digit_0.2.1) cb_X2_digitOf ml_X5_126 ms_X2_digitOf (Nat.le_of_ble_eq_true rfl) (by first | exact jl_d0 hd rfl | omega) (by first | exact Nat.le_of_ble_eq_true rfl | omega) (by first | exact Nat.le_of_ble_eq_true rfl | omega) ?_
  refine s_X2_digitOf g (by first | exact jl_d1 hd rfl | omega) (fun z2 h2 => sg_K1 ?_)
  refine sg_iret (pc := 5) (dc_X5_digit_0.2.2) rfl (by first | exact Nat.le_of_ble_eq_true rfl | omega) (by first | exact Nat.le_of_ble_eq_true rfl | omega) ?_
  first | exact hQ _ (by assumption) | exact hQ _ (by omega) | exact hQ _ (fun _ => by omega)

set_option maxRecDepth 100000 in
theorem s_X5_isCode {w : sg_W} {Q : sg_O → sg_H → Prop} {h : sg_H} (g : sg_G w) {d : Nat} (hd : 14 ≤ d) {B : Nat} {x : Int} (hQ : ∀ v : Int, (v = fn_code x ∧ (v = 0 ∨ v = 1)) → Q (.inl (some (sg_i v))) h) : sg_C w mi_X5_isCode d 0 0 [sg_r B, sg_i x] h Q := by
  refine sg_of pn_X5 (Nat.le_of_ble_eq_true rfl) ?_
  refine sg_iload_n (pc := 0) (j := 1) (dc_X5_isCode_0.1.1) rfl rfl ?_
  refine sg_cS1 (pc := 1) (d' := d - 1) (mc' := 0) (ms' := 0) g (dc_X5_isCode_0.1.2) cb_X4_isAnyCode ml_X5_154 ms_X4_isAnyCode (Nat.le_of_ble_eq_true rfl) (by first | exact jl_d0 hd rfl | omega) (by first | exact Nat.le_of_ble_eq_true rfl | omega) (by first | exact Nat.le_of_ble_eq_true rfl | omega) ?_
  refine s_X4_isAnyCode g (by first | exact jl_d1 hd rfl | omega) (fun z1 h1 b1 => sg_K1 ?_)
  refine sg_zret (pc := 4) (dc_X5_isCode_0.2.1) rfl (by first | exact Or.inl rfl | exact Or.inr rfl | omega | assumption) (by first | exact Nat.le_of_ble_eq_true rfl | omega) (by first | exact Nat.le_of_ble_eq_true rfl | omega) ?_
  exact hQ _ ⟨by assumption, by assumption⟩

set_option maxRecDepth 100000 in
theorem s_X5_isPlain {w : sg_W} {Q : sg_O → sg_H → Prop} {h : sg_H} (g : sg_G w) {d : Nat} (hd : 14 ≤ d) {B : Nat} {x : Int} (hQ : ∀ v : Int, (v = fn_unit x ∧ (v = 0 ∨ v = 1)) → Q (.inl (some (sg_i v))) h) : sg_C w mi_X5_isPlain d 0 0 [sg_r B, sg_i x] h Q := by
  refine sg_of pn_X5 (Nat.le_of_ble_eq_true rfl) ?_
  refine sg_iload_n (pc := 0) (j := 1) (dc_X5_isPlain_0.1.1) rfl rfl ?_
  refine sg_cS1 (pc := 1) (d' := d - 1) (mc' := 0) (ms' := 0) g (dc_X5_isPlain_0.1.2) cb_X4_isUnit ml_X5_234 ms_X4_isUnit (Nat.le_of_ble_eq_true rfl) (by first | exact jl_d0 hd rfl | omega) (by first | exact Nat.le_of_ble_eq_true rfl | omega) (by first | exact Nat.le_of_ble_eq_true rfl | omega) ?_
  refine s_X4_isUnit g (by first | exact jl_d1 hd rfl | omega) (fun z1 h1 b1 => sg_K1 ?_)
  refine sg_zret (pc := 4) (dc_X5_isPlain_0.2.1) rfl (by first | exact Or.inl rfl | exact Or.inr rfl | omega | assumption) (by first | exact Nat.le_of_ble_eq_true rfl | omega) (by first | exact Nat.le_of_ble_eq_true rfl | omega) ?_
  exact hQ _ ⟨by assumption, by assumption⟩

set_option maxRecDepth 100000 in
theorem s_X5_isWide {w : sg_W} {Q : sg_O → sg_H → Prop} {h : sg_H} (g : sg_G w) {d : Nat} (hd : 14 ≤ d) {B : Nat} {x : Int} (hQ : ∀ v : Int, (v = fn_wide x ∧ (v = 0 ∨ v = 1)) → Q (.inl (some (sg_i v))) h) : sg_C w mi_X5_isWide d 0 0 [sg_r B, sg_i x] h Q := by
  refine sg_of pn_X5 (Nat.le_of_ble_eq_true rfl) ?_
  refine sg_iload_n (pc := 0) (j := 1) (dc_X5_isWide_0.1.1) rfl rfl ?_
  refine sg_cS1 (pc := 1) (d' := d - 1) (mc' := 0) (ms' := 0) g (dc_X5_isWide_0.1.2) cb_X4_isWideCode ml_X5_237 ms_X4_isWideCode (Nat.le_of_ble_eq_true rfl) (by first | exact jl_d0 hd rfl | omega) (by first | exact Nat.le_of_ble_eq_true rfl | omega) (by first | exact Nat.le_of_ble_eq_true rfl | omega) ?_
  refine s_X4_isWideCode g (by first | exact jl_d1 hd rfl | omega) (fun z1 h1 b1 => sg_K1 ?_)
  refine sg_zret (pc := 4) (dc_X5_isWide_0.2.1) rfl (by first | exact Or.inl rfl | exact Or.inr rfl | omega | assumption) (by first | exact Nat.le_of_ble_eq_true rfl | omega) (by first | exact Nat.le_of_ble_eq_true rfl | omega) ?_
  exact hQ _ ⟨by assumption, by assumption⟩

set_option maxRecDepth 100000 in
theorem s_X5_units {w : sg_W} {Q : sg_O → sg_H → Prop} {h : sg_H} (g : sg_G w) {d : Nat} (hd : 14 ≤ d) {B : Nat} {x : Int} (hQ : ∀ v : Int, v = fn_units x → Q (.inl (some (sg_i v))) h) : sg_C w mi_X5_units d 0 0 [sg_r B, sg_i x] h Q := by
  refine sg_of pn_X5 (Nat.le_of_ble_eq_true rfl) ?_
  refine sg_iload_n (pc := 0) (j := 1) (dc_X5_units_0.1.1) rfl rfl ?_
  refine sg_cS1 (pc := 1) (d' := d - 1) (mc' := 0) (ms' := 0) g (dc_X5_units_0.1.2) cb_X4_unitsOf ml_X5_161 ms_X4_unitsOf (Nat.le_of_ble_eq_true rfl) (by first | exact jl_d0 hd rfl | omega) (by first | exact Nat.le_of_ble_eq_true rfl | omega) (by first | exact Nat.le_of_ble_eq_true rfl | omega) ?_
  refine s_X4_unitsOf g (by first | exact jl_d1 hd rfl | omega) (fun z1 h1 => sg_K1 ?_)
  refine sg_iret (pc := 4) (dc_X5_units_0.2.1) rfl (by first | exact Nat.le_of_ble_eq_true rfl | omega) (by first | exact Nat.le_of_ble_eq_true rfl | omega) ?_
  first | exact hQ _ (by assumption) | exact hQ _ (by omega) | exact hQ _ (fun _ => by omega)

set_option maxRecDepth 100000 in
theorem s_X5_half {w : sg_W} {Q : sg_O → sg_H → Prop} {h : sg_H} (g : sg_G w) {d : Nat} (hd : 14 ≤ d) {B : Nat} {x p : Int} (hQ : ∀ v : Int, ¬ (x < 65536 ∨ 1114111 < x) → v = (if p = 0 then 56320 + (x - 65536) % 1024 else 55296 + (x - 65536) / 1024) → Q (.inl (some (sg_i v))) h) (hX : (x < 65536 ∨ 1114111 < x) → ∀ z, h.1 ≤ z → Q (.inr e_A) (z, h.2)) : sg_C w mi_X5_half d 8 48 [sg_r B, sg_i x, sg_i p] h Q := by
  refine sg_of pn_X5 (Nat.le_of_ble_eq_true rfl) ?_
  refine sg_iload_n (pc := 0) (j := 1) (dc_X5_half_0.1.1.1.1) rfl rfl ?_
  refine sg_cS1 (pc := 1) (d' := d - 1) (mc' := 0) (ms' := 0) g (dc_X5_half_0.1.1.1.2) cb_X4_isWideCode ml_X5_237 ms_X4_isWideCode (Nat.le_of_ble_eq_true rfl) (by first | exact jl_d0 hd rfl | omega) (by first | exact Nat.le_of_ble_eq_true rfl | omega) (by first | exact Nat.le_of_ble_eq_true rfl | omega) ?_
  refine s_X4_isWideCode g (by first | exact jl_d1 hd rfl | omega) (fun z1 h1 b1 => sg_K1 ?_)
  (try simp only [fn_wide] at h1)
  refine sg_if_ne (pc := 4) (tgt := 17) (dc_X5_half_0.1.1.2.1) (by decide) (fun c4 => ?_) (fun c4 => ?_)
  · refine sg_iload_n (pc := 17) (j := 2) (dc_X5_half_0.2.1.1.1) rfl rfl ?_
    refine sg_if_eq (pc := 18) (tgt := 28) (dc_X5_half_0.2.1.1.2) (by decide) (fun c18 => ?_) (fun c18 => ?_)
    · refine sg_iload_n (pc := 28) (j := 1) (dc_X5_half_0.2.2.1.2) rfl rfl ?_
      refine sg_cS1 (pc := 29) (d' := d - 1) (mc' := 0) (ms' := 0) g (dc_X5_half_0.2.2.2.1) cb_X4_lowOf ml_X5_245 ms_X4_lowOf (Nat.le_of_ble_eq_true rfl) (by first | exact jl_d0 hd rfl | omega) (by first | exact Nat.le_of_ble_eq_true rfl | omega) (by first | exact Nat.le_of_ble_eq_true rfl | omega) ?_
      refine s_X4_lowOf g (by first | exact jl_d1 hd rfl | omega) (fun z29 h29 => sg_K1 ?_)
      refine sg_iret (pc := 32) (dc_X5_half_0.2.2.2.2) rfl (by first | exact Nat.le_of_ble_eq_true rfl | omega) (by first | exact Nat.le_of_ble_eq_true rfl | omega) ?_
      first | exact hQ _ (by omega) (by omega) | exact hQ _ (by omega) (by (repeat' split) <;> omega)
    · refine sg_iload_n (pc := 21) (j := 1) (dc_X5_half_0.2.1.2.1) rfl rfl ?_
      refine sg_cS1 (pc := 22) (d' := d - 1) (mc' := 0) (ms' := 0) g (dc_X5_half_0.2.1.2.2) cb_X4_highOf ml_X5_242 ms_X4_highOf (Nat.le_of_ble_eq_true rfl) (by first | exact jl_d0 hd rfl | omega) (by first | exact Nat.le_of_ble_eq_true rfl | omega) (by first | exact Nat.le_of_ble_eq_true rfl | omega) ?_
      refine s_X4_highOf g (by first | exact jl_d1 hd rfl | omega) (fun z22 h22 => sg_K1 ?_)
      refine sg_goto (pc := 25) (tgt := 32) (dc_X5_half_0.2.2.1.1) (by decide) ?_
      refine sg_iret (pc := 32) (dc_X5_half_0.2.2.2.2) rfl (by first | exact Nat.le_of_ble_eq_true rfl | omega) (by first | exact Nat.le_of_ble_eq_true rfl | omega) ?_
      first | exact hQ _ (by omega) (by omega) | exact hQ _ (by omega) (by (repeat' split) <;> omega)
  · refine sg_throw (pc := 7) g th_X5_110_240 (dc_X5_half_0.1.1.2.2) (dc_X5_half_0.1.2.1.1) (dc_X5_half_0.1.2.1.2) (dc_X5_half_0.1.2.2.1) (dc_X5_half_0.1.2.2.2) (by first | exact Nat.le_trans (Nat.le_of_ble_eq_true rfl) hd | omega) (Nat.le_of_ble_eq_true rfl) (by first | exact Nat.le_of_ble_eq_true rfl | omega) (by first | exact Nat.le_of_ble_eq_true rfl | omega) ?_
    exact fun z hz => hX (by omega) z hz

set_option maxRecDepth 100000 in
theorem s_X5_code {w : sg_W} {Q : sg_O → sg_H → Prop} {h : sg_H} (g : sg_G w) {d : Nat} (hd : 14 ≤ d) {B : Nat} {x y : Int} (hQ : ∀ v : Int, ¬ (x < 55296 ∨ 56320 ≤ x ∨ y < 56320 ∨ 57344 ≤ y) → v = 65536 + (x - 55296) * 1024 + (y - 56320) → Q (.inl (some (sg_i v))) h) (hX : (x < 55296 ∨ 56320 ≤ x ∨ y < 56320 ∨ 57344 ≤ y) → ∀ z, h.1 ≤ z → Q (.inr e_A) (z, h.2)) : sg_C w mi_X5_code d 8 48 [sg_r B, sg_i x, sg_i y] h Q := by
  refine sg_of pn_X5 (Nat.le_of_ble_eq_true rfl) ?_
  refine sg_iload_n (pc := 0) (j := 1) (dc_X5_code_0.1.1.1.1) rfl rfl ?_
  refine sg_cS1 (pc := 1) (d' := d - 1) (mc' := 0) (ms' := 0) g (dc_X5_code_0.1.1.1.2) cb_X4_isHigh ml_X5_248 ms_X4_isHigh (Nat.le_of_ble_eq_true rfl) (by first | exact jl_d0 hd rfl | omega) (by first | exact Nat.le_of_ble_eq_true rfl | omega) (by first | exact Nat.le_of_ble_eq_true rfl | omega) ?_
  refine s_X4_isHigh g (by first | exact jl_d1 hd rfl | omega) (fun z1 h1 b1 => sg_K1 ?_)
  (try simp only [fn_high, fn_low] at h1)
  refine sg_if_eq (pc := 4) (tgt := 14) (dc_X5_code_0.1.1.2.1) (by decide) (fun c4 => ?_) (fun c4 => ?_)
  · refine sg_throw (pc := 14) g th_X5_110_254 (dc_X5_code_0.1.2.2.1) (dc_X5_code_0.1.2.2.2) (dc_X5_code_0.2.1.1.1) (dc_X5_code_0.2.1.1.2) (dc_X5_code_0.2.1.2.1) (by first | exact Nat.le_trans (Nat.le_of_ble_eq_true rfl) hd | omega) (Nat.le_of_ble_eq_true rfl) (by first | exact Nat.le_of_ble_eq_true rfl | omega) (by first | exact Nat.le_of_ble_eq_true rfl | omega) ?_
    exact fun z hz => hX (by omega) z hz
  · refine sg_iload_n (pc := 7) (j := 2) (dc_X5_code_0.1.1.2.2) rfl rfl ?_
    refine sg_cS1 (pc := 8) (d' := d - 1) (mc' := 0) (ms' := 0) g (dc_X5_code_0.1.2.1.1) cb_X4_isLow ml_X5_251 ms_X4_isLow (Nat.le_of_ble_eq_true rfl) (by first | exact jl_d0 hd rfl | omega) (by first | exact Nat.le_of_ble_eq_true rfl | omega) (by first | exact Nat.le_of_ble_eq_true rfl | omega) ?_
    refine s_X4_isLow g (by first | exact jl_d1 hd rfl | omega) (fun z8 h8 b8 => sg_K1 ?_)
    (try simp only [fn_high, fn_low] at h8)
    refine sg_if_ne (pc := 11) (tgt := 24) (dc_X5_code_0.1.2.1.2) (by decide) (fun c11 => ?_) (fun c11 => ?_)
    · refine sg_iload_n (pc := 24) (j := 1) (dc_X5_code_0.2.1.2.2) rfl rfl ?_
      refine sg_iload_n (pc := 25) (j := 2) (dc_X5_code_0.2.2.1.1) rfl rfl ?_
      refine sg_cS2 (pc := 26) (d' := d - 1) (mc' := 0) (ms' := 0) g (dc_X5_code_0.2.2.1.2) cb_X4_codeOf ml_X5_256 ms_X4_codeOf (Nat.le_of_ble_eq_true rfl) (by first | exact jl_d0 hd rfl | omega) (by first | exact Nat.le_of_ble_eq_true rfl | omega) (by first | exact Nat.le_of_ble_eq_true rfl | omega) ?_
      refine s_X4_codeOf g (by first | exact jl_d1 hd rfl | omega) (fun z26 h26 => sg_K1 ?_)
      refine sg_iret (pc := 29) (dc_X5_code_0.2.2.2.1) rfl (by first | exact Nat.le_of_ble_eq_true rfl | omega) (by first | exact Nat.le_of_ble_eq_true rfl | omega) ?_
      exact hQ _ (by omega) (by omega)
    · refine sg_throw (pc := 14) g th_X5_110_254 (dc_X5_code_0.1.2.2.1) (dc_X5_code_0.1.2.2.2) (dc_X5_code_0.2.1.1.1) (dc_X5_code_0.2.1.1.2) (dc_X5_code_0.2.1.2.1) (by first | exact Nat.le_trans (Nat.le_of_ble_eq_true rfl) hd | omega) (Nat.le_of_ble_eq_true rfl) (by first | exact Nat.le_of_ble_eq_true rfl | omega) (by first | exact Nat.le_of_ble_eq_true rfl | omega) ?_
      exact fun z hz => hX (by omega) z hz

set_option maxRecDepth 100000 in
theorem s_X5_ofUnit {w : sg_W} {Q : sg_O → sg_H → Prop} {h : sg_H} (g : sg_G w) {d : Nat} (hd : 14 ≤ d) {B : Nat} {x what : Int} (hQ : ∀ v : Int, ¬ (x < 0 ∨ 65536 ≤ x ∨ what < 0 ∨ 3 < what) → ((what = 0 → v = fn_half x) ∧ (what = 1 → v = fn_high x) ∧ (what = 2 → v = fn_low x) ∧ (what = 3 → v = x % 256 * 256 + x / 256)) → Q (.inl (some (sg_i v))) h) (hX : (x < 0 ∨ 65536 ≤ x ∨ what < 0 ∨ 3 < what) → ∀ z, h.1 ≤ z → Q (.inr e_A) (z, h.2)) : sg_C w mi_X5_ofUnit d 8 48 [sg_r B, sg_i x, sg_i what] h Q := by
  refine sg_of pn_X5 (Nat.le_of_ble_eq_true rfl) ?_
  refine sg_iload_n (pc := 0) (j := 1) (dc_X5_ofUnit_0.1.1.1.1) rfl rfl ?_
  refine sg_cS1 (pc := 1) (d' := d - 1) (mc' := 1) (ms' := 6) g (dc_X5_ofUnit_0.1.1.1.2) cb_X5_checkUnit ml_X5_167 ms_X5_checkUnit (Nat.le_of_ble_eq_true rfl) (by first | exact jl_d0 hd rfl | omega) (by first | exact Nat.le_of_ble_eq_true rfl | omega) (by first | exact Nat.le_of_ble_eq_true rfl | omega) ?_
  refine s_X5_checkUnit g (by first | exact jl_d1 hd rfl | omega) (fun v1 => sg_K0 ?_) (fun v1 z1 w1 => sg_KX (by first | exact Nat.le_of_ble_eq_true rfl | omega) (by first | exact Nat.le_of_ble_eq_true rfl | omega) (hX (by omega) z1 w1))
  refine sg_iload_n (pc := 4) (j := 2) (dc_X5_ofUnit_0.1.1.2.1) rfl rfl ?_
  by_cases cs : what < 0 ∨ 3 < what
  · refine sg_tsOut (pc := 5) (tgt := 80) (dc_X5_ofUnit_0.1.1.2.2) cs (by decide) ?_
    refine sg_throwW (pc := 80) g th_X5_110_259 (dc_X5_ofUnit_60.2.2.1.1) (dc_X5_ofUnit_60.2.2.1.2) (dc_X5_ofUnit_60.2.2.2.1) (dc_X5_ofUnit_60.2.2.2.2) dc_X5_ofUnit_90 (by first | exact Nat.le_trans (Nat.le_of_ble_eq_true rfl) hd | omega) (Nat.le_of_ble_eq_true rfl) (by first | exact Nat.le_of_ble_eq_true rfl | omega) (by first | exact Nat.le_of_ble_eq_true rfl | omega) ?_
    exact fun z hz => hX (by omega) z hz
  · rcases (show what = 0 ∨ what = 1 ∨ what = 2 ∨ what = 3 by omega) with rfl | rfl | rfl | rfl
    · refine sg_tsIn (pc := 5) (tgt := 36) (dc_X5_ofUnit_0.1.1.2.2) (by omega) (by omega) rfl (by decide) ?_
      refine sg_iload_n (pc := 36) (j := 1) (dc_X5_ofUnit_0.1.2.1.1) rfl rfl ?_
      refine sg_cS1 (pc := 37) (d' := d - 1) (mc' := 0) (ms' := 0) g (dc_X5_ofUnit_0.1.2.1.2) cb_X4_isHalf ml_X5_173 ms_X4_isHalf (Nat.le_of_ble_eq_true rfl) (by first | exact jl_d0 hd rfl | omega) (by first | exact Nat.le_of_ble_eq_true rfl | omega) (by first | exact Nat.le_of_ble_eq_true rfl | omega) ?_
      refine s_X4_isHalf g (by first | exact jl_d1 hd rfl | omega) (fun z37 h37 b37 => sg_K1 ?_)
      refine sg_if_eq (pc := 40) (tgt := 47) (dc_X5_ofUnit_0.1.2.2.1) (by decide) (fun c40 => ?_) (fun c40 => ?_)
      · refine sg_iconst (pc := 47) (z := 0) (dc_X5_ofUnit_0.2.1.1.2) (by decide) ?_
        refine sg_iret (pc := 48) (dc_X5_ofUnit_0.2.1.2.1) rfl (by first | exact Nat.le_of_ble_eq_true rfl | omega) (by first | exact Nat.le_of_ble_eq_true rfl | omega) ?_
        exact hQ _ (by omega) (by refine ⟨?_, ?_, ?_, ?_⟩ <;> intro qw <;> first | (exact absurd qw (by decide)) | (simp only [fn_half, fn_high, fn_low] at *; omega))
      · refine sg_iconst (pc := 43) (z := 1) (dc_X5_ofUnit_0.1.2.2.2) (by decide) ?_
        refine sg_goto (pc := 44) (tgt := 48) (dc_X5_ofUnit_0.2.1.1.1) (by decide) ?_
        refine sg_iret (pc := 48) (dc_X5_ofUnit_0.2.1.2.1) rfl (by first | exact Nat.le_of_ble_eq_true rfl | omega) (by first | exact Nat.le_of_ble_eq_true rfl | omega) ?_
        exact hQ _ (by omega) (by refine ⟨?_, ?_, ?_, ?_⟩ <;> intro qw <;> first | (exact absurd qw (by decide)) | (simp only [fn_half, fn_high, fn_low] at *; omega))
    · refine sg_tsIn (pc := 5) (tgt := 49) (dc_X5_ofUnit_0.1.1.2.2) (by omega) (by omega) rfl (by decide) ?_
      refine sg_iload_n (pc := 49) (j := 1) (dc_X5_ofUnit_0.2.1.2.2) rfl rfl ?_
      refine sg_cS1 (pc := 50) (d' := d - 1) (mc' := 0) (ms' := 0) g (dc_X5_ofUnit_0.2.2.1.1) cb_X4_isHigh ml_X5_248 ms_X4_isHigh (Nat.le_of_ble_eq_true rfl) (by first | exact jl_d0 hd rfl | omega) (by first | exact Nat.le_of_ble_eq_true rfl | omega) (by first | exact Nat.le_of_ble_eq_true rfl | omega) ?_
      refine s_X4_isHigh g (by first | exact jl_d1 hd rfl | omega) (fun z50 h50 b50 => sg_K1 ?_)
      refine sg_if_eq (pc := 53) (tgt := 60) (dc_X5_ofUnit_0.2.2.1.2) (by decide) (fun c53 => ?_) (fun c53 => ?_)
      · refine sg_iconst (pc := 60) (z := 0) (dc_X5_ofUnit_60.1.1.1.1) (by decide) ?_
        refine sg_iret (pc := 61) (dc_X5_ofUnit_60.1.1.1.2) rfl (by first | exact Nat.le_of_ble_eq_true rfl | omega) (by first | exact Nat.le_of_ble_eq_true rfl | omega) ?_
        exact hQ _ (by omega) (by refine ⟨?_, ?_, ?_, ?_⟩ <;> intro qw <;> first | (exact absurd qw (by decide)) | (simp only [fn_half, fn_high, fn_low] at *; omega))
      · refine sg_iconst (pc := 56) (z := 1) (dc_X5_ofUnit_0.2.2.2.1) (by decide) ?_
        refine sg_goto (pc := 57) (tgt := 61) (dc_X5_ofUnit_0.2.2.2.2) (by decide) ?_
        refine sg_iret (pc := 61) (dc_X5_ofUnit_60.1.1.1.2) rfl (by first | exact Nat.le_of_ble_eq_true rfl | omega) (by first | exact Nat.le_of_ble_eq_true rfl | omega) ?_
        exact hQ _ (by omega) (by refine ⟨?_, ?_, ?_, ?_⟩ <;> intro qw <;> first | (exact absurd qw (by decide)) | (simp only [fn_half, fn_high, fn_low] at *; omega))
    · refine sg_tsIn (pc := 5) (tgt := 62) (dc_X5_ofUnit_0.1.1.2.2) (by omega) (by omega) rfl (by decide) ?_
      refine sg_iload_n (pc := 62) (j := 1) (dc_X5_ofUnit_60.1.1.2.1) rfl rfl ?_
      refine sg_cS1 (pc := 63) (d' := d - 1) (mc' := 0) (ms' := 0) g (dc_X5_ofUnit_60.1.1.2.2) cb_X4_isLow ml_X5_251 ms_X4_isLow (Nat.le_of_ble_eq_true rfl) (by first | exact jl_d0 hd rfl | omega) (by first | exact Nat.le_of_ble_eq_true rfl | omega) (by first | exact Nat.le_of_ble_eq_true rfl | omega) ?_
      refine s_X4_isLow g (by first | exact jl_d1 hd rfl | omega) (fun z63 h63 b63 => sg_K1 ?_)
      refine sg_if_eq (pc := 66) (tgt := 73) (dc_X5_ofUnit_60.1.2.1.1) (by decide) (fun c66 => ?_) (fun c66 => ?_)
      · refine sg_iconst (pc := 73) (z := 0) (dc_X5_ofUnit_60.1.2.2.2) (by decide) ?_
        refine sg_iret (pc := 74) (dc_X5_ofUnit_60.2.1.1.1) rfl (by first | exact Nat.le_of_ble_eq_true rfl | omega) (by first | exact Nat.le_of_ble_eq_true rfl | omega) ?_
        exact hQ _ (by omega) (by refine ⟨?_, ?_, ?_, ?_⟩ <;> intro qw <;> first | (exact absurd qw (by decide)) | (simp only [fn_half, fn_high, fn_low] at *; omega))
      · refine sg_iconst (pc := 69) (z := 1) (dc_X5_ofUnit_60.1.2.1.2) (by decide) ?_
        refine sg_goto (pc := 70) (tgt := 74) (dc_X5_ofUnit_60.1.2.2.1) (by decide) ?_
        refine sg_iret (pc := 74) (dc_X5_ofUnit_60.2.1.1.1) rfl (by first | exact Nat.le_of_ble_eq_true rfl | omega) (by first | exact Nat.le_of_ble_eq_true rfl | omega) ?_
        exact hQ _ (by omega) (by refine ⟨?_, ?_, ?_, ?_⟩ <;> intro qw <;> first | (exact absurd qw (by decide)) | (simp only [fn_half, fn_high, fn_low] at *; omega))
    · refine sg_tsIn (pc := 5) (tgt := 75) (dc_X5_ofUnit_0.1.1.2.2) (by omega) (by omega) rfl (by decide) ?_
      refine sg_iload_n (pc := 75) (j := 1) (dc_X5_ofUnit_60.2.1.1.2) rfl rfl ?_
      refine sg_cS1 (pc := 76) (d' := d - 1) (mc' := 0) (ms' := 0) g (dc_X5_ofUnit_60.2.1.2.1) cb_X4_turned ml_X5_170 ms_X4_turned (Nat.le_of_ble_eq_true rfl) (by first | exact jl_d0 hd rfl | omega) (by first | exact Nat.le_of_ble_eq_true rfl | omega) (by first | exact Nat.le_of_ble_eq_true rfl | omega) ?_
      refine s_X4_turned g (by first | exact jl_d1 hd rfl | omega) (fun z76 h76 => sg_K1 ?_)
      refine sg_iret (pc := 79) (dc_X5_ofUnit_60.2.1.2.2) rfl (by first | exact Nat.le_of_ble_eq_true rfl | omega) (by first | exact Nat.le_of_ble_eq_true rfl | omega) ?_
      exact hQ _ (by omega) (by refine ⟨?_, ?_, ?_, ?_⟩ <;> intro qw <;> first | (exact absurd qw (by decide)) | (simp only [fn_half, fn_high, fn_low] at *; omega))

set_option maxRecDepth 100000 in
theorem s_X5_ofUnit_N {w : sg_W} {Q : sg_O → sg_H → Prop} {h : sg_H} (g : sg_G w) {d : Nat} (hd : 14 ≤ d) {B : Nat} {x what : Int} (hv : ¬ (x < 0 ∨ 65536 ≤ x ∨ what < 0 ∨ 3 < what)) (hQ : ∀ v : Int, ¬ (x < 0 ∨ 65536 ≤ x ∨ what < 0 ∨ 3 < what) → ((what = 0 → v = fn_half x) ∧ (what = 1 → v = fn_high x) ∧ (what = 2 → v = fn_low x) ∧ (what = 3 → v = x % 256 * 256 + x / 256)) → Q (.inl (some (sg_i v))) h) : sg_C w mi_X5_ofUnit d 0 0 [sg_r B, sg_i x, sg_i what] h Q := by
  refine sg_of pn_X5 (Nat.le_of_ble_eq_true rfl) ?_
  refine sg_iload_n (pc := 0) (j := 1) (dc_X5_ofUnit_0.1.1.1.1) rfl rfl ?_
  refine sg_cS1 (pc := 1) (d' := d - 1) (mc' := 0) (ms' := 0) g (dc_X5_ofUnit_0.1.1.1.2) cb_X5_checkUnit ml_X5_167 ms_X5_checkUnit (Nat.le_of_ble_eq_true rfl) (by first | exact jl_d0 hd rfl | omega) (by first | exact Nat.le_of_ble_eq_true rfl | omega) (by first | exact Nat.le_of_ble_eq_true rfl | omega) ?_
  refine s_X5_checkUnit_N g (by first | exact jl_d1 hd rfl | omega) (by omega) (sg_K0 ?_)
  refine sg_iload_n (pc := 4) (j := 2) (dc_X5_ofUnit_0.1.1.2.1) rfl rfl ?_
  by_cases cs : what < 0 ∨ 3 < what
  · refine sg_tsOut (pc := 5) (tgt := 80) (dc_X5_ofUnit_0.1.1.2.2) cs (by decide) ?_
    exfalso; omega
  · rcases (show what = 0 ∨ what = 1 ∨ what = 2 ∨ what = 3 by omega) with rfl | rfl | rfl | rfl
    · refine sg_tsIn (pc := 5) (tgt := 36) (dc_X5_ofUnit_0.1.1.2.2) (by omega) (by omega) rfl (by decide) ?_
      refine sg_iload_n (pc := 36) (j := 1) (dc_X5_ofUnit_0.1.2.1.1) rfl rfl ?_
      refine sg_cS1 (pc := 37) (d' := d - 1) (mc' := 0) (ms' := 0) g (dc_X5_ofUnit_0.1.2.1.2) cb_X4_isHalf ml_X5_173 ms_X4_isHalf (Nat.le_of_ble_eq_true rfl) (by first | exact jl_d0 hd rfl | omega) (by first | exact Nat.le_of_ble_eq_true rfl | omega) (by first | exact Nat.le_of_ble_eq_true rfl | omega) ?_
      refine s_X4_isHalf g (by first | exact jl_d1 hd rfl | omega) (fun z37 h37 b37 => sg_K1 ?_)
      refine sg_if_eq (pc := 40) (tgt := 47) (dc_X5_ofUnit_0.1.2.2.1) (by decide) (fun c40 => ?_) (fun c40 => ?_)
      · refine sg_iconst (pc := 47) (z := 0) (dc_X5_ofUnit_0.2.1.1.2) (by decide) ?_
        refine sg_iret (pc := 48) (dc_X5_ofUnit_0.2.1.2.1) rfl (by first | exact Nat.le_of_ble_eq_true rfl | omega) (by first | exact Nat.le_of_ble_eq_true rfl | omega) ?_
        exact hQ _ (by omega) (by refine ⟨?_, ?_, ?_, ?_⟩ <;> intro qw <;> first | (exact absurd qw (by decide)) | (simp only [fn_half, fn_high, fn_low] at *; omega))
      · refine sg_iconst (pc := 43) (z := 1) (dc_X5_ofUnit_0.1.2.2.2) (by decide) ?_
        refine sg_goto (pc := 44) (tgt := 48) (dc_X5_ofUnit_0.2.1.1.1) (by decide) ?_
        refine sg_iret (pc := 48) (dc_X5_ofUnit_0.2.1.2.1) rfl (by first | exact Nat.le_of_ble_eq_true rfl | omega) (by first | exact Nat.le_of_ble_eq_true rfl | omega) ?_
        exact hQ _ (by omega) (by refine ⟨?_, ?_, ?_, ?_⟩ <;> intro qw <;> first | (exact absurd qw (by decide)) | (simp only [fn_half, fn_high, fn_low] at *; omega))
    · refine sg_tsIn (pc := 5) (tgt := 49) (dc_X5_ofUnit_0.1.1.2.2) (by omega) (by omega) rfl (by decide) ?_
      refine sg_iload_n (pc := 49) (j := 1) (dc_X5_ofUnit_0.2.1.2.2) rfl rfl ?_
      refine sg_cS1 (pc := 50) (d' := d - 1) (mc' := 0) (ms' := 0) g (dc_X5_ofUnit_0.2.2.1.1) cb_X4_isHigh ml_X5_248 ms_X4_isHigh (Nat.le_of_ble_eq_true rfl) (by first | exact jl_d0 hd rfl | omega) (by first | exact Nat.le_of_ble_eq_true rfl | omega) (by first | exact Nat.le_of_ble_eq_true rfl | omega) ?_
      refine s_X4_isHigh g (by first | exact jl_d1 hd rfl | omega) (fun z50 h50 b50 => sg_K1 ?_)
      refine sg_if_eq (pc := 53) (tgt := 60) (dc_X5_ofUnit_0.2.2.1.2) (by decide) (fun c53 => ?_) (fun c53 => ?_)
      · refine sg_iconst (pc := 60) (z := 0) (dc_X5_ofUnit_60.1.1.1.1) (by decide) ?_
        refine sg_iret (pc := 61) (dc_X5_ofUnit_60.1.1.1.2) rfl (by first | exact Nat.le_of_ble_eq_true rfl | omega) (by first | exact Nat.le_of_ble_eq_true rfl | omega) ?_
        exact hQ _ (by omega) (by refine ⟨?_, ?_, ?_, ?_⟩ <;> intro qw <;> first | (exact absurd qw (by decide)) | (simp only [fn_half, fn_high, fn_low] at *; omega))
      · refine sg_iconst (pc := 56) (z := 1) (dc_X5_ofUnit_0.2.2.2.1) (by decide) ?_
        refine sg_goto (pc := 57) (tgt := 61) (dc_X5_ofUnit_0.2.2.2.2) (by decide) ?_
        refine sg_iret (pc := 61) (dc_X5_ofUnit_60.1.1.1.2) rfl (by first | exact Nat.le_of_ble_eq_true rfl | omega) (by first | exact Nat.le_of_ble_eq_true rfl | omega) ?_
        exact hQ _ (by omega) (by refine ⟨?_, ?_, ?_, ?_⟩ <;> intro qw <;> first | (exact absurd qw (by decide)) | (simp only [fn_half, fn_high, fn_low] at *; omega))
    · refine sg_tsIn (pc := 5) (tgt := 62) (dc_X5_ofUnit_0.1.1.2.2) (by omega) (by omega) rfl (by decide) ?_
      refine sg_iload_n (pc := 62) (j := 1) (dc_X5_ofUnit_60.1.1.2.1) rfl rfl ?_
      refine sg_cS1 (pc := 63) (d' := d - 1) (mc' := 0) (ms' := 0) g (dc_X5_ofUnit_60.1.1.2.2) cb_X4_isLow ml_X5_251 ms_X4_isLow (Nat.le_of_ble_eq_true rfl) (by first | exact jl_d0 hd rfl | omega) (by first | exact Nat.le_of_ble_eq_true rfl | omega) (by first | exact Nat.le_of_ble_eq_true rfl | omega) ?_
      refine s_X4_isLow g (by first | exact jl_d1 hd rfl | omega) (fun z63 h63 b63 => sg_K1 ?_)
      refine sg_if_eq (pc := 66) (tgt := 73) (dc_X5_ofUnit_60.1.2.1.1) (by decide) (fun c66 => ?_) (fun c66 => ?_)
      · refine sg_iconst (pc := 73) (z := 0) (dc_X5_ofUnit_60.1.2.2.2) (by decide) ?_
        refine sg_iret (pc := 74) (dc_X5_ofUnit_60.2.1.1.1) rfl (by first | exact Nat.le_of_ble_eq_true rfl | omega) (by first | exact Nat.le_of_ble_eq_true rfl | omega) ?_
        exact hQ _ (by omega) (by refine ⟨?_, ?_, ?_, ?_⟩ <;> intro qw <;> first | (exact absurd qw (by decide)) | (simp only [fn_half, fn_high, fn_low] at *; omega))
      · refine sg_iconst (pc := 69) (z := 1) (dc_X5_ofUnit_60.1.2.1.2) (by decide) ?_
        refine sg_goto (pc := 70) (tgt := 74) (dc_X5_ofUnit_60.1.2.2.1) (by decide) ?_
        refine sg_iret (pc := 74) (dc_X5_ofUnit_60.2.1.1.1) rfl (by first | exact Nat.le_of_ble_eq_true rfl | omega) (by first | exact Nat.le_of_ble_eq_true rfl | omega) ?_
        exact hQ _ (by omega) (by refine ⟨?_, ?_, ?_, ?_⟩ <;> intro qw <;> first | (exact absurd qw (by decide)) | (simp only [fn_half, fn_high, fn_low] at *; omega))
    · refine sg_tsIn (pc := 5) (tgt := 75) (dc_X5_ofUnit_0.1.1.2.2) (by omega) (by omega) rfl (by decide) ?_
      refine sg_iload_n (pc := 75) (j := 1) (dc_X5_ofUnit_60.2.1.1.2) rfl rfl ?_
      refine sg_cS1 (pc := 76) (d' := d - 1) (mc' := 0) (ms' := 0) g (dc_X5_ofUnit_60.2.1.2.1) cb_X4_turned ml_X5_170 ms_X4_turned (Nat.le_of_ble_eq_true rfl) (by first | exact jl_d0 hd rfl | omega) (by first | exact Nat.le_of_ble_eq_true rfl | omega) (by first | exact Nat.le_of_ble_eq_true rfl | omega) ?_
      refine s_X4_turned g (by first | exact jl_d1 hd rfl | omega) (fun z76 h76 => sg_K1 ?_)
      refine sg_iret (pc := 79) (dc_X5_ofUnit_60.2.1.2.2) rfl (by first | exact Nat.le_of_ble_eq_true rfl | omega) (by first | exact Nat.le_of_ble_eq_true rfl | omega) ?_
      exact hQ _ (by omega) (by refine ⟨?_, ?_, ?_, ?_⟩ <;> intro qw <;> first | (exact absurd qw (by decide)) | (simp only [fn_half, fn_high, fn_low] at *; omega))

set_option maxRecDepth 100000 in
theorem s_X5_compare {w : sg_W} {Q : sg_O → sg_H → Prop} {h : sg_H} (g : sg_G w) {d : Nat} (hd : 14 ≤ d) {B : Nat} {x y : Int} (hQ : ∀ v : Int, ¬ (x < 0 ∨ 65536 ≤ x ∨ y < 0 ∨ 65536 ≤ y) → v = (if x = y then 0 else if x < y then -1 else 1) → Q (.inl (some (sg_i v))) h) (hX : (x < 0 ∨ 65536 ≤ x ∨ y < 0 ∨ 65536 ≤ y) → ∀ z, h.1 ≤ z → Q (.inr e_A) (z, h.2)) : sg_C w mi_X5_compare d 8 48 [sg_r B, sg_i x, sg_i y] h Q := by
  refine sg_of pn_X5 (Nat.le_of_ble_eq_true rfl) ?_
  refine sg_iload_n (pc := 0) (j := 1) (dc_X5_compare_0.1.1.1) rfl rfl ?_
  refine sg_cS1 (pc := 1) (d' := d - 1) (mc' := 1) (ms' := 6) g (dc_X5_compare_0.1.1.2) cb_X5_checkUnit ml_X5_167 ms_X5_checkUnit (Nat.le_of_ble_eq_true rfl) (by first | exact jl_d0 hd rfl | omega) (by first | exact Nat.le_of_ble_eq_true rfl | omega) (by first | exact Nat.le_of_ble_eq_true rfl | omega) ?_
  refine s_X5_checkUnit g (by first | exact jl_d1 hd rfl | omega) (fun v1 => sg_K0 ?_) (fun v1 z1 w1 => sg_KX (by first | exact Nat.le_of_ble_eq_true rfl | omega) (by first | exact Nat.le_of_ble_eq_true rfl | omega) (hX (by omega) z1 w1))
  refine sg_iload_n (pc := 4) (j := 2) (dc_X5_compare_0.1.2.1) rfl rfl ?_
  refine sg_cS1 (pc := 5) (d' := d - 1) (mc' := 1) (ms' := 6) g (dc_X5_compare_0.1.2.2) cb_X5_checkUnit ml_X5_167 ms_X5_checkUnit (Nat.le_of_ble_eq_true rfl) (by first | exact jl_d0 hd rfl | omega) (by first | exact Nat.le_of_ble_eq_true rfl | omega) (by first | exact Nat.le_of_ble_eq_true rfl | omega) ?_
  refine s_X5_checkUnit g (by first | exact jl_d1 hd rfl | omega) (fun v5 => sg_K0 ?_) (fun v5 z5 w5 => sg_KX (by first | exact Nat.le_of_ble_eq_true rfl | omega) (by first | exact Nat.le_of_ble_eq_true rfl | omega) (hX (by omega) z5 w5))
  refine sg_iload_n (pc := 8) (j := 1) (dc_X5_compare_0.2.1.1) rfl rfl ?_
  refine sg_iload_n (pc := 9) (j := 2) (dc_X5_compare_0.2.1.2) rfl rfl ?_
  refine sg_cS2 (pc := 10) (d' := d - 1) (mc' := 0) (ms' := 0) g (dc_X5_compare_0.2.2.1) cb_X5_ahead ml_X5_231 ms_X5_ahead (Nat.le_of_ble_eq_true rfl) (by first | exact jl_d0 hd rfl | omega) (by first | exact Nat.le_of_ble_eq_true rfl | omega) (by first | exact Nat.le_of_ble_eq_true rfl | omega) ?_
  refine s_X5_ahead g (by first | exact jl_d1 hd rfl | omega) (fun z10 h10 => sg_K1 ?_)
  refine sg_iret (pc := 13) (dc_X5_compare_0.2.2.2) rfl (by first | exact Nat.le_of_ble_eq_true rfl | omega) (by first | exact Nat.le_of_ble_eq_true rfl | omega) ?_
  exact hQ _ (by omega) (by assumption)

set_option maxRecDepth 100000 in
theorem s_X5_isSound {w : sg_W} {Q : sg_O → sg_H → Prop} {h : sg_H} (g : sg_G w) {d : Nat} (hd : 14 ≤ d) {B : Nat} (hx : ck_X h B) (hQ : ∀ v : Int, (v = 0 ∨ v = 1) → Q (.inl (some (sg_i v))) h) : sg_C w mi_X5_isSound d 0 0 [sg_r B] h Q := by
  refine sg_of pn_X5 (Nat.le_of_ble_eq_true rfl) ?_
  have y0 := ck_Y0 hx
  refine sg_iconst (pc := 0) (z := 0) (dc_X5_isSound_0.1.1.1.1) (by decide) ?_
  refine sg_istore_n (pc := 1) (j := 1) (dc_X5_isSound_0.1.1.1.2) rfl (by decide) ?_
  have loop2 : ∀ (N : Nat) (p : Int), (0 ≤ p) → (4 - p).toNat < N → sg_R w mi_X5_isSound d 0 0 Q 2 [(1, sg_i p), (0, sg_r B)] [] h 0 0 := by
    intro N
    induction N with
    | zero => intro p p0 hm; exact absurd hm (Nat.not_lt_zero _)
    | succ N ih =>
      intro p p0 hm
      refine sg_iload_n (pc := 2) (j := 1) (dc_X5_isSound_0.1.1.2.1) rfl rfl ?_
      refine sg_iconst (pc := 3) (z := 4) (dc_X5_isSound_0.1.1.2.2) (by decide) ?_
      refine sg_icmp_ge (pc := 4) (tgt := 26) (dc_X5_isSound_0.1.2.1.1) (by decide) (fun c4 => ?_) (fun c4 => ?_)
      · refine sg_iconst (pc := 26) (z := 0) (dc_X5_isSound_0.2.2.2.1) (by decide) ?_
        refine sg_istore_n (pc := 27) (j := 1) (dc_X5_isSound_0.2.2.2.2) rfl (by decide) ?_
        have loop28 : ∀ (N : Nat) (p : Int), (0 ≤ p) → (2 - p).toNat < N → sg_R w mi_X5_isSound d 0 0 Q 28 [(1, sg_i p), (0, sg_r B)] [] h 0 0 := by
          intro N
          induction N with
          | zero => intro p p0 hm; exact absurd hm (Nat.not_lt_zero _)
          | succ N ih =>
            intro p p0 hm
            refine sg_iload_n (pc := 28) (j := 1) (dc_X5_isSound_28.1.1.1.1) rfl rfl ?_
            refine sg_iconst (pc := 29) (z := 2) (dc_X5_isSound_28.1.1.1.2) (by decide) ?_
            refine sg_icmp_ge (pc := 30) (tgt := 52) (dc_X5_isSound_28.1.1.2.1) (by decide) (fun c30 => ?_) (fun c30 => ?_)
            · refine sg_iconst (pc := 52) (z := 1) (dc_X5_isSound_28.2.2.1.1) (by decide) ?_
              refine sg_zret (pc := 53) (dc_X5_isSound_28.2.2.1.2) rfl (by first | exact Or.inl rfl | exact Or.inr rfl | omega | assumption) (by first | exact Nat.le_of_ble_eq_true rfl | omega) (by first | exact Nat.le_of_ble_eq_true rfl | omega) ?_
              exact hQ _ (by first | exact Or.inl rfl | exact Or.inr rfl | omega | assumption)
            · refine sg_aload_n (pc := 33) (j := 0) (dc_X5_isSound_28.1.1.2.2) rfl rfl ?_
              refine sg_iload_n (pc := 34) (j := 1) (dc_X5_isSound_28.1.2.1.1) rfl rfl ?_
              refine sg_cE1 (pc := 35) (d' := d - 1) (mc' := 0) (ms' := 0) 6 g (dc_X5_isSound_28.1.2.1.2) cb_X5_trackOf ml_X5_151 mn_X5_trackOf rfl mv_X5_trackOf (Nat.le_of_ble_eq_true rfl) (ck_oc (by assumption)) (Nat.le_of_ble_eq_true rfl) (by first | exact jl_d0 hd rfl | omega) (by first | exact Nat.le_of_ble_eq_true rfl | omega) (by first | exact Nat.le_of_ble_eq_true rfl | omega) ?_
              refine s_X5_trackOf_N g (by first | exact jl_d1 hd rfl | omega) (by assumption) (by omega) (fun a35 l35 r35 r35b => sg_K1 ?_)
              refine sg_cS1 (pc := 38) (d' := d - 1) (mc' := 0) (ms' := 0) g (dc_X5_isSound_28.1.2.2.1) cb_X5_isSoundTrack ml_X5_281 ms_X5_isSoundTrack (Nat.le_of_ble_eq_true rfl) (by first | exact jl_d0 hd rfl | omega) (by first | exact Nat.le_of_ble_eq_true rfl | omega) (by first | exact Nat.le_of_ble_eq_true rfl | omega) ?_
              refine s_X5_isSoundTrack g (by first | exact jl_d1 hd rfl | omega) (by assumption) (by assumption) (fun v38 b38 => sg_K1 ?_)
              refine sg_if_ne (pc := 41) (tgt := 46) (dc_X5_isSound_28.1.2.2.2) (by decide) (fun c41 => ?_) (fun c41 => ?_)
              · first | refine sg_iincB (pc := 46) (dc_X5_isSound_28.2.1.2.1) rfl (by decide) (by decide) (by omega) (by omega) ?_ | refine sg_iinc (pc := 46) (dc_X5_isSound_28.2.1.2.1) rfl (by decide) (by decide) ?_
                refine sg_goto (pc := 49) (tgt := 28) (dc_X5_isSound_28.2.1.2.2) (by decide) ?_
                refine sg_lsub (lv' := [(1, _), (0, _)]) ⟨rfl, rfl, trivial⟩ ?_
                exact ih _ (by omega) (by first | exact jl_m1 hm (by omega) | exact jl_m2 hm (by omega) | omega)
              · refine sg_iconst (pc := 44) (z := 0) (dc_X5_isSound_28.2.1.1.1) (by decide) ?_
                refine sg_zret (pc := 45) (dc_X5_isSound_28.2.1.1.2) rfl (by first | exact Or.inl rfl | exact Or.inr rfl | omega | assumption) (by first | exact Nat.le_of_ble_eq_true rfl | omega) (by first | exact Nat.le_of_ble_eq_true rfl | omega) ?_
                exact hQ _ (by first | exact Or.inl rfl | exact Or.inr rfl | omega | assumption)
        refine sg_lsub (lv' := [(1, _), (0, _)]) ⟨rfl, rfl, trivial⟩ ?_
        exact loop28 _ _ (by omega) (Nat.lt_succ_self _)
      · refine sg_aload_n (pc := 7) (j := 0) (dc_X5_isSound_0.1.2.1.2) rfl rfl ?_
        refine sg_iload_n (pc := 8) (j := 1) (dc_X5_isSound_0.1.2.2.1) rfl rfl ?_
        refine sg_cE1 (pc := 9) (d' := d - 1) (mc' := 0) (ms' := 0) 6 g (dc_X5_isSound_0.1.2.2.2) cb_X5_rowOf ml_X5_36 mn_X5_rowOf rfl mv_X5_rowOf (Nat.le_of_ble_eq_true rfl) (ck_oc (by assumption)) (Nat.le_of_ble_eq_true rfl) (by first | exact jl_d0 hd rfl | omega) (by first | exact Nat.le_of_ble_eq_true rfl | omega) (by first | exact Nat.le_of_ble_eq_true rfl | omega) ?_
        refine s_X5_rowOf_N g (by first | exact jl_d1 hd rfl | omega) (by assumption) (by omega) (fun a9 l9 r9 r9b => sg_K1 ?_)
        refine sg_cS1 (pc := 12) (d' := d - 1) (mc' := 0) (ms' := 0) g (dc_X5_isSound_0.2.1.1.1) cb_X5_isSoundRow ml_X5_278 ms_X5_isSoundRow (Nat.le_of_ble_eq_true rfl) (by first | exact jl_d0 hd rfl | omega) (by first | exact Nat.le_of_ble_eq_true rfl | omega) (by first | exact Nat.le_of_ble_eq_true rfl | omega) ?_
        refine s_X5_isSoundRow g (by first | exact jl_d1 hd rfl | omega) (by assumption) (by assumption) (fun v12 b12 => sg_K1 ?_)
        refine sg_if_ne (pc := 15) (tgt := 20) (dc_X5_isSound_0.2.1.1.2) (by decide) (fun c15 => ?_) (fun c15 => ?_)
        · first | refine sg_iincB (pc := 20) (dc_X5_isSound_0.2.2.1.1) rfl (by decide) (by decide) (by omega) (by omega) ?_ | refine sg_iinc (pc := 20) (dc_X5_isSound_0.2.2.1.1) rfl (by decide) (by decide) ?_
          refine sg_goto (pc := 23) (tgt := 2) (dc_X5_isSound_0.2.2.1.2) (by decide) ?_
          refine sg_lsub (lv' := [(1, _), (0, _)]) ⟨rfl, rfl, trivial⟩ ?_
          exact ih _ (by omega) (by first | exact jl_m1 hm (by omega) | exact jl_m2 hm (by omega) | omega)
        · refine sg_iconst (pc := 18) (z := 0) (dc_X5_isSound_0.2.1.2.1) (by decide) ?_
          refine sg_zret (pc := 19) (dc_X5_isSound_0.2.1.2.2) rfl (by first | exact Or.inl rfl | exact Or.inr rfl | omega | assumption) (by first | exact Nat.le_of_ble_eq_true rfl | omega) (by first | exact Nat.le_of_ble_eq_true rfl | omega) ?_
          exact hQ _ (by first | exact Or.inl rfl | exact Or.inr rfl | omega | assumption)
  refine sg_lsub (lv' := [(1, _), (0, _)]) ⟨rfl, rfl, trivial⟩ ?_
  exact loop2 _ _ (by omega) (Nat.lt_succ_self _)

