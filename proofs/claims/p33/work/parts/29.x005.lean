set_option maxRecDepth 100000 in
theorem s_X5_digit {w : sg_W} {Q : sg_O → sg_H → Prop} {h : sg_H} (g : sg_G w) {d : Nat} (hd : 14 ≤ d) {B : Nat} {x r : Int} (hQ : ∀ v : Int, v = fn_digit x r → Q (.inl (some (sg_i v))) h) : sg_C w mi_X5_digit d 0 0 [sg_r B, sg_i x, sg_i r] h Q := by
  refine sg_of pn_X5 (Nat.le_of_ble_eq_true rfl) ?_
  refine sg_iload_n (pc := 0) (j := 1) (dc_X5_digit_0.1.1) rfl rfl ?_
  refine sg_iload_n (pc := 1) (j := 2) (dc_X5_digit_0.1.2) rfl rfl ?_
  refine sg_cS2 (pc := 2) (d' := d - 1) (mc' := 0) (ms' := 0) g (dc_X5_digit_0.2.1) cb_X2_digitOf ml_X5_126 ms_X2_digitOf (Nat.le_of_ble_eq_true rfl) (by first | exact jl_d0 hd rfl | omega) (by first | exact Nat.le_of_ble_eq_true rfl | omega) (by first | exact Nat.le_of_ble_eq_true rfl | omega) ?_
  refine s_X2_digitOf g (by first | exact jl_d1 hd rfl | omega) (fun z2 h2 => sg_K1 ?_)
  refine sg_iret (pc := 5) (dc_X5_digit_0.2.2) rfl (by first | exact Nat.le_of_ble_eq_true rfl | omega) (by first | exact Nat.le_of_ble_eq_true rfl | omega) ?_
  first | exact hQ _ (by assumption) | exact hQ _ (by omega) | exact hQ _ (fun _ => by omega)

set_option maxRecDepth 100000 in
theorem s_X5_isCode {w : sg_W} {Q : sg_O → sg_H → Prop} {h : sg_H} (g : sg_G w) {d : Nat} (hd : 14 ≤ d) {B : Nat} {x : Int} (hQ : ∀ v : Int, (v = fn_code x ∧ (v = 0 ∨ v = 1)) → Q (.inl (some (sg_i v))) h) : sg_C w mi_X5_isCode d 0 0 [sg_r B, sg_i x] h Q := by
  refine sg_of pn_X5 (Nat.le_of_ble_eq_true rfl) ?_
  refine sg_iload_n (pc := 0) (j := 1) (dc_X5_isCode_0.1.1) rfl rfl ?_
  refine sg_cS1 (pc := 1) (d' := d - 1) (mc' := 0) (ms' := 0) g (dc_X5_isCode_0.1.2) cb_X4_isAnyCode ml_X5_154 ms_X4_isAnyCode (Nat.le_of_ble_eq_true rfl) (by first | exact jl_d0 hd rfl | omega) (by first | exact Nat.le_of_ble_eq_true rfl | omega) (by first | exact Nat.le_of_ble_eq_true rfl | omega) ?_
  refine s_X4_isAnyCode g (by first | exact jl_d1 hd rfl | omega) (fun z1 h1 b1 => sg_K1 ?_)
  refine sg_zret (pc := 4) (dc_X5_isCode_0.2.1) rfl (by first | exact Or.inl rfl | exact Or.inr rfl | omega | assumption) (by first | exact Nat.le_of_ble_eq_true rfl | omega) (by first | exact Nat.le_of_ble_eq_true rfl | omega) ?_
  exact hQ _ ⟨by assumption, by assumption⟩

