set_option maxRecDepth 100000 in
theorem s_X5_isPlain {w : sg_W} {Q : sg_O → sg_H → Prop} {h : sg_H} (g : sg_G w) {d : Nat} (hd : 14 ≤ d) {B : Nat} {x : Int} (hQ : ∀ v : Int, (v = fn_unit x ∧ (v = 0 ∨ v = 1)) → Q (.inl (some (sg_i v))) h) : sg_C w mi_X5_isPlain d 0 0 [sg_r B, sg_i x] h Q := by
  refine sg_of pn_X5 (Nat.le_of_ble_eq_true rfl) ?_
  refine sg_iload_n (pc := 0) (j := 1) (dc_X5_isPlain_0.1.1) rfl rfl ?_
  refine sg_cS1 (pc := 1) (d' := d - 1) (mc' := 0) (ms' := 0) g (dc_X5_isPlain_0.1.2) cb_X4_isUnit ml_X5_234 ms_X4_isUnit (Nat.le_of_ble_eq_true rfl) (by first | exact jl_d0 hd rfl | omega) (by first | exact Nat.le_of_ble_eq_true rfl | omega) (by first | exact Nat.le_of_ble_eq_true rfl | omega) ?_
  refine s_X4_isUnit g (by first | exact jl_d1 hd rfl | omega) (fun z1 h1 b1 => sg_K1 ?_)
  refine sg_zret (pc := 4) (dc_X5_isPlain_0.2.1) rfl (by first | exact Or.inl rfl | exact Or.inr rfl | omega | assumption) (by first | exact Nat.le_of_ble_eq_true rfl | omega) (by first | exact Nat.le_of_ble_eq_true rfl | omega) ?_
  exact hQ _ ⟨by assumption, by assumption⟩

set_option maxRecDepth 100000 in
theorem s_X5_isWide {w : sg_W} {Q : sg_O → sg_H → Prop} {h : sg_H} (g : sg_G w) {d : Nat} (hd : 14 ≤ d) {B : Nat} {x : Int} (hQ : ∀ v : Int, (v = fn_wide x ∧ (v = 0 ∨ v = 1)) → Q (.inl (some (sg_i v))) h) : sg_C w mi_X5_isWide d 0 0 [sg_r B, sg_i x] h Q := by
  refine sg_of pn_X5 (Nat.le_of_ble_eq_true rfl) ?_
  refine sg_iload_n (pc := 0) (j := 1) (dc_X5_isWide_0.1.1) rfl rfl ?_
  refine sg_cS1 (pc := 1) (d' := d - 1) (mc' := 0) (ms' := 0) g (dc_X5_isWide_0.1.2) cb_X4_isWideCode ml_X5_237 ms_X4_isWideCode (Nat.le_of_ble_eq_true rfl) (by first | exact jl_d0 hd rfl | omega) (by first | exact Nat.le_of_ble_eq_true rfl | omega) (by first | exact Nat.le_of_ble_eq_true rfl | omega) ?_
  refine s_X4_isWideCode g (by first | exact jl_d1 hd rfl | omega) (fun z1 h1 b1 => sg_K1 ?_)
  refine sg_zret (pc := 4) (dc_X5_isWide_0.2.1) rfl (by first | exact Or.inl rfl | exact Or.inr rfl | omega | assumption) (by first | exact Nat.le_of_ble_eq_true rfl | omega) (by first | exact Nat.le_of_ble_eq_true rfl | omega) ?_
  exact hQ _ ⟨by assumption, by assumption⟩

