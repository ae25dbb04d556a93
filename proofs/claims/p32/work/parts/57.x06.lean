set_option maxRecDepth 100000 in
theorem s_Si {w : sg_W} {Q : sg_O → sg_H → Prop} {h : sg_H} (g : sg_G w) {d : Nat} (hd : 5 ≤ d) (hJ : jz w) {a : Nat} {p q : sg_V} (ha : h.2 a = some (0, [sg_n, sg_i 0, p, q])) {h0 : sg_H} {b cap n : Nat} (hB : jb_B h0 h b cap (n : Int)) (hQ : ∀ f : Nat → Option sg_E, f a = some (0, [sg_r h.1, sg_i 0, p, q]) → (∃ ys, f h.1 = some (102, ys) ∧ ys.length = n ∧ jy ys) → (∀ q, q ≠ a → q ≠ h.1 → f q = h.2 q) → Q (.inl none) (h.1 + 1, f)) : sg_C w mi_J0_init_81219 d 1 n [sg_r a, sg_r b] h Q := by
  refine sg_of pn_J0 (Nat.le_of_ble_eq_true rfl) ?_
  refine sg_aload_n (pc := 0) (j := 0) (dc_J0_init_81219_0.1.1.1) rfl rfl ?_
  refine sg_aload_n (pc := 1) (j := 1) (dc_J0_init_81219_0.1.1.2) rfl rfl ?_
  refine sg_null (pc := 2) (dc_J0_init_81219_0.1.2.1) ?_
  refine sg_cI2 (pc := 3) (d' := d - 1) (mc' := 1) (ms' := n) g (dc_J0_init_81219_0.1.2.2) cb_J0_init_db425 rfl rfl ml_J0_489 mn_J0_init_db425 (Nat.le_of_ble_eq_true rfl) (by first | exact jl_d0 hd rfl | omega) (by first | exact Nat.le_of_ble_eq_true rfl | omega) (by first | exact Nat.le_of_ble_eq_true rfl | omega) ?_
  refine s_Sib g (by first | exact jl_d1 hd rfl | omega) hJ ha hB (fun f f1 f2 f3 => ?_)
  refine sg_K0 ?_
  refine sg_vret (pc := 6) (dc_J0_init_81219_0.2.1.1) rfl (by first | exact Nat.le_of_ble_eq_true rfl | omega) (by first | exact Nat.le_of_ble_eq_true rfl | omega) ?_
  exact hQ f f1 f2 f3

set_option maxRecDepth 100000 in
theorem s_toS {w : sg_W} {Q : sg_O → sg_H → Prop} {h : sg_H} (g : sg_G w) {d : Nat} (hd : 6 ≤ d) (hJ : jz w) {h0 : sg_H} {b cap n : Nat} (hB : jb_B h0 h b cap (n : Int)) (hQ : ∀ (h' : sg_H) (a : Nat), md_E h0 h' → js_S h' a n → Q (.inl (some (sg_r a))) h') : sg_C w mi_J4_toString_0e30d d 2 (n + 4) [sg_r b] h Q := by
  refine sg_of pn_J4 (Nat.le_of_ble_eq_true rfl) ?_
  refine sg_frs (fun hf => ?_)
  have hB0 := hB
  obtain ⟨b0, E, c0, c1, c2, v, xs, x, v0, hb, hv, hl, hy⟩ := hB
  have hbl := hf _ _ hb
  have hvl := hf _ _ hv
  have hB2 : jb_B h0 (h.1 + 1, sg_up h.2 h.1 (0, [sg_n, sg_i 0, sg_i 0, sg_i 0])) b cap (n : Int) := ⟨b0, ⟨by have := E.1; show _ ≤ h.1 + 1; omega, fun q hq => (sg_up_n (by have := E.1; omega)).trans (E.2 q hq)⟩, c0, c1, c2, v, xs, x, v0, (sg_up_n (by omega)).trans hb, (sg_up_n (by omega)).trans hv, hl, hy⟩
  refine sg_new (pc := 0) g (dc_J4_toString_0e30d_0.1.1.1) nk_J4_18 (by first | exact Nat.le_of_ble_eq_true rfl | omega) (by first | exact Nat.le_of_ble_eq_true rfl | omega) ?_
  try dsimp only
  refine sg_dup (pc := 3) (dc_J4_toString_0e30d_0.1.1.2) rfl ?_
  refine sg_aload_n (pc := 4) (j := 0) (dc_J4_toString_0e30d_0.1.2.1) rfl rfl ?_
  refine sg_cI1 (pc := 5) (d' := d - 1) (mc' := 1) (ms' := n) g (dc_J4_toString_0e30d_0.1.2.2) cb_J0_init_81219 rfl rfl ml_J4_137 mn_J0_init_81219 (Nat.le_of_ble_eq_true rfl) (by first | exact jl_d0 hd rfl | omega) (by first | exact Nat.le_of_ble_eq_true rfl | omega) (by first | exact Nat.le_of_ble_eq_true rfl | omega) ?_
  refine s_Si g (by first | exact jl_d1 hd rfl | omega) hJ (by with_reducible exact sg_up_s) (h0 := h0) hB2 (fun f f1 f2 f3 => ?_)
  refine sg_K0 ?_
  refine sg_aret (pc := 8) (dc_J4_toString_0e30d_0.2.1.1) rfl (by first | exact Or.inl ⟨_, rfl⟩ | exact Or.inr ⟨_, rfl⟩) (by first | exact Nat.le_of_ble_eq_true rfl | omega) (by first | exact Nat.le_of_ble_eq_true rfl | omega) ?_
  obtain ⟨ys, f4, f5, f6⟩ := f2
  refine hQ _ _ ⟨by have := E.1; show _ ≤ h.1 + 1 + 1; omega, fun q hq => ?_⟩ ⟨by show h.1 < h.1 + 1 + 1; omega, 0, h.1 + 1, _, f1, rfl, by show h.1 + 1 < h.1 + 1 + 1; omega, 102, ys, f4, rfl, f5, f6⟩
  have := E.1
  exact (f3 q (by omega) (by show q ≠ h.1 + 1; omega)).trans ((sg_up_n (by omega)).trans (E.2 q hq))


