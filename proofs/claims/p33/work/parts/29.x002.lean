set_option maxRecDepth 100000 in
theorem s_X5_isGreat {w : sg_W} {Q : sg_O → sg_H → Prop} {h : sg_H} (g : sg_G w) {d : Nat} (hd : 14 ≤ d) {B : Nat} {x : Int} (hQ : ∀ v : Int, ¬ (x < 0 ∨ 255 < x) → (v = fn_isOf x 4 ∧ (v = 0 ∨ v = 1)) → Q (.inl (some (sg_i v))) h) (hX : (x < 0 ∨ 255 < x) → ∀ z, h.1 ≤ z → Q (.inr e_A) (z, h.2)) : sg_C w mi_X5_isGreat d 8 48 [sg_r B, sg_i x] h Q := by
  refine sg_of pn_X5 (Nat.le_of_ble_eq_true rfl) ?_
  refine sg_iload_n (pc := 0) (j := 1) (dc_X5_isGreat_0.1.1.1) rfl rfl ?_
  refine sg_cS1 (pc := 1) (d' := d - 1) (mc' := 1) (ms' := 6) g (dc_X5_isGreat_0.1.1.2) cb_X5_checkSign ml_X5_189 ms_X5_checkSign (Nat.le_of_ble_eq_true rfl) (by first | exact jl_d0 hd rfl | omega) (by first | exact Nat.le_of_ble_eq_true rfl | omega) (by first | exact Nat.le_of_ble_eq_true rfl | omega) ?_
  refine s_X5_checkSign g (by first | exact jl_d1 hd rfl | omega) (fun v1 => sg_K0 ?_) (fun v1 z1 w1 => sg_KX (by first | exact Nat.le_of_ble_eq_true rfl | omega) (by first | exact Nat.le_of_ble_eq_true rfl | omega) (hX (by omega) z1 w1))
  refine sg_iload_n (pc := 4) (j := 1) (dc_X5_isGreat_0.1.2.1) rfl rfl ?_
  refine sg_iconst (pc := 5) (z := 4) (dc_X5_isGreat_0.1.2.2) (by decide) ?_
  refine sg_cS2 (pc := 6) (d' := d - 1) (mc' := 0) (ms' := 0) g (dc_X5_isGreat_0.2.1.1) cb_X2_isOf ml_X5_96 ms_X2_isOf (Nat.le_of_ble_eq_true rfl) (by first | exact jl_d0 hd rfl | omega) (by first | exact Nat.le_of_ble_eq_true rfl | omega) (by first | exact Nat.le_of_ble_eq_true rfl | omega) ?_
  refine s_X2_isOf g (by first | exact jl_d1 hd rfl | omega) (fun z6 h6 b6 => sg_K1 ?_)
  refine sg_zret (pc := 9) (dc_X5_isGreat_0.2.1.2) rfl (by first | exact Or.inl rfl | exact Or.inr rfl | omega | assumption) (by first | exact Nat.le_of_ble_eq_true rfl | omega) (by first | exact Nat.le_of_ble_eq_true rfl | omega) ?_
  exact hQ _ (by omega) ⟨by assumption, by assumption⟩

set_option maxRecDepth 100000 in
theorem s_X5_kinds {w : sg_W} {Q : sg_O → sg_H → Prop} {h : sg_H} (g : sg_G w) {d : Nat} (hd : 14 ≤ d) {B : Nat} {x : Int} (hQ : ∀ v : Int, ¬ (x < 0 ∨ 255 < x) → v = fn_kinds x → Q (.inl (some (sg_i v))) h) (hX : (x < 0 ∨ 255 < x) → ∀ z, h.1 ≤ z → Q (.inr e_A) (z, h.2)) : sg_C w mi_X5_kinds d 8 48 [sg_r B, sg_i x] h Q := by
  refine sg_of pn_X5 (Nat.le_of_ble_eq_true rfl) ?_
  refine sg_iload_n (pc := 0) (j := 1) (dc_X5_kinds_0.1.1.1) rfl rfl ?_
  refine sg_cS1 (pc := 1) (d' := d - 1) (mc' := 1) (ms' := 6) g (dc_X5_kinds_0.1.1.2) cb_X5_checkSign ml_X5_189 ms_X5_checkSign (Nat.le_of_ble_eq_true rfl) (by first | exact jl_d0 hd rfl | omega) (by first | exact Nat.le_of_ble_eq_true rfl | omega) (by first | exact Nat.le_of_ble_eq_true rfl | omega) ?_
  refine s_X5_checkSign g (by first | exact jl_d1 hd rfl | omega) (fun v1 => sg_K0 ?_) (fun v1 z1 w1 => sg_KX (by first | exact Nat.le_of_ble_eq_true rfl | omega) (by first | exact Nat.le_of_ble_eq_true rfl | omega) (hX (by omega) z1 w1))
  refine sg_iload_n (pc := 4) (j := 1) (dc_X5_kinds_0.1.2.1) rfl rfl ?_
  refine sg_cS1 (pc := 5) (d' := d - 1) (mc' := 0) (ms' := 0) g (dc_X5_kinds_0.1.2.2) cb_X2_kindsOf ml_X5_192 ms_X2_kindsOf (Nat.le_of_ble_eq_true rfl) (by first | exact jl_d0 hd rfl | omega) (by first | exact Nat.le_of_ble_eq_true rfl | omega) (by first | exact Nat.le_of_ble_eq_true rfl | omega) ?_
  refine s_X2_kindsOf g (by first | exact jl_d1 hd rfl | omega) (fun z5 h5 => sg_K1 ?_)
  refine sg_iret (pc := 8) (dc_X5_kinds_0.2.1.1) rfl (by first | exact Nat.le_of_ble_eq_true rfl | omega) (by first | exact Nat.le_of_ble_eq_true rfl | omega) ?_
  first | exact hQ _ (by omega) (by assumption) | exact hQ _ (by omega) (by omega) | exact hQ _ (by omega) (fun _ => by omega)

