set_option maxRecDepth 100000 in
theorem s_X1_size {w : sg_W} {Q : sg_O → sg_H → Prop} {h : sg_H} (g : sg_G w) {d : Nat} (hd : 1 ≤ d) {B : Nat} (hx : ck_X h B) (hQ : ∀ z : Int, Q (.inl (some (sg_i z))) h) : sg_C w mi_X1_size d 0 0 [sg_r (B + 16)] h Q := by
  refine sg_of pn_X1 (Nat.le_of_ble_eq_true rfl) ?_
  obtain ⟨z, vs, hP, hV, hvl, hvs⟩ := ck_psx hx
  refine sg_aload_n (pc := 0) (j := 0) (dc_X1_size_0.1.1) rfl rfl ?_
  refine sg_getf (pc := 1) g (dc_X1_size_0.1.2) fk_X1_18 hP rfl rfl ?_
  refine sg_iret (pc := 4) (dc_X1_size_0.2.1) rfl (by first | exact Nat.le_of_ble_eq_true rfl | omega) (by first | exact Nat.le_of_ble_eq_true rfl | omega) ?_
  exact hQ _


