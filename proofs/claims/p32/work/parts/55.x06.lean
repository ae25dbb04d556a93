set_option maxRecDepth 100000 in
theorem s_al_addR {w : sg_W} {Q : sg_O → sg_H → Prop} {h : sg_H} (g : sg_G w) {d : Nat} (hd : 3 ≤ d) {b E : Nat} {m sz : Int} (hb : h.2 b = some (2, [sg_i m, sg_r E, sg_i sz])) {xs : List sg_V} (hE : h.2 E = some (113, xs)) (s0 : 0 ≤ sz) (s1 : sz < (xs.length : Int)) (s2 : xs.length ≤ 1000) {x u : Nat} {us : List sg_V} (hx : h.2 x = some (u, us)) (nxb : x ≠ b) (has : sg_as 113 (u % 200)) (hwk : sg_wk u = false) (hQ : ∀ (m1 : Int) (f : Nat → Option sg_E), f b = some (2, [sg_i m1, sg_r E, sg_i (sz + 1)]) → f E = some (113, xs.set sz.toNat (sg_r x)) → (∀ q, q ≠ b → q ≠ E → f q = h.2 q) → Q (.inl (some (sg_i 1))) (h.1, f)) : sg_C w mi_Jx4a65c_add_9ea2d d 0 0 [sg_r b, sg_r x] h Q := by
  refine sg_of pn_Jx4a65c (Nat.le_of_ble_eq_true rfl) ?_
  have nbE : b ≠ E := fun q => by rw [q, hE] at hb; cases hb
  refine sg_aload_n (pc := 0) (j := 0) (dc_Jx4a65c_add_9ea2d_0.1.1.1.1) rfl rfl ?_
  refine sg_dup (pc := 1) (dc_Jx4a65c_add_9ea2d_0.1.1.1.2) rfl ?_
  refine sg_getf (pc := 2) g (dc_Jx4a65c_add_9ea2d_0.1.1.2.1) fk_Jx4a65c_63 hb rfl rfl ?_
  refine sg_iconst (pc := 5) (z := 1) (dc_Jx4a65c_add_9ea2d_0.1.1.2.2) (by decide) ?_
  first | refine sg_iaddB (pc := 6) (dc_Jx4a65c_add_9ea2d_0.1.2.1.1) (by omega) (by omega) ?_ | refine sg_iadd (pc := 6) (dc_Jx4a65c_add_9ea2d_0.1.2.1.1) ?_
  refine sg_putf (pc := 7) g (dc_Jx4a65c_add_9ea2d_0.1.2.1.2) fk_Jx4a65c_63 hb sg_ft_i ?_
  try dsimp only
  refine sg_aload_n (pc := 10) (j := 0) (dc_Jx4a65c_add_9ea2d_0.1.2.2.1) rfl rfl ?_
  refine sg_aload_n (pc := 11) (j := 1) (dc_Jx4a65c_add_9ea2d_0.1.2.2.2) rfl rfl ?_
  refine sg_aload_n (pc := 12) (j := 0) (dc_Jx4a65c_add_9ea2d_0.2.1.1.1) rfl rfl ?_
  refine sg_getf (pc := 13) g (dc_Jx4a65c_add_9ea2d_0.2.1.1.2) fk_Jx4a65c_9 (by first | assumption | (repeat (first | with_reducible exact sg_up_s | with_reducible refine (sg_up_n (by omega)).trans ?_)) <;> assumption) (by rfl) (by rfl) ?_
  refine sg_aload_n (pc := 16) (j := 0) (dc_Jx4a65c_add_9ea2d_0.2.1.2.1) rfl rfl ?_
  refine sg_getf (pc := 17) g (dc_Jx4a65c_add_9ea2d_0.2.1.2.2) fk_Jx4a65c_48 (by first | assumption | (repeat (first | with_reducible exact sg_up_s | with_reducible refine (sg_up_n (by omega)).trans ?_)) <;> assumption) (by rfl) (by rfl) ?_
  refine sg_cV3 (pc := 20) (d' := d - 1) (mc' := 0) (ms' := 0) g (dc_Jx4a65c_add_9ea2d_0.2.2.1.1) cb_Jx4a65c_add_72be8 ml_Jx4a65c_131 mn_Jx4a65c_add_72be8 mv_Jx4a65c_add_72be8 (by first | assumption | (repeat (first | with_reducible exact sg_up_s | with_reducible refine (sg_up_n (by omega)).trans ?_)) <;> assumption) (Nat.le_of_ble_eq_true rfl) rfl (Nat.le_of_ble_eq_true rfl) (by first | exact jl_d0 hd rfl | omega) (by first | exact Nat.le_of_ble_eq_true rfl | omega) (by first | exact Nat.le_of_ble_eq_true rfl | omega) ?_
  refine s_ad3R g (by first | exact jl_d1 hd rfl | omega) sg_up_s ((sg_up_n (Ne.symm nbE)).trans hE) s0 s1 s2 ((sg_up_n nxb).trans hx) nxb has hwk (fun f f1 f2 f3 => ?_)
  refine sg_K0 ?_
  try dsimp only
  refine sg_iconst (pc := 23) (z := 1) (dc_Jx4a65c_add_9ea2d_0.2.2.1.2) (by decide) ?_
  refine sg_zret (pc := 24) (dc_Jx4a65c_add_9ea2d_0.2.2.2.1) rfl (by first | exact Or.inl rfl | exact Or.inr rfl | omega | assumption) (by first | exact Nat.le_of_ble_eq_true rfl | omega) (by first | exact Nat.le_of_ble_eq_true rfl | omega) ?_
  exact hQ _ f f1 f2 (fun q h1 h2 => (f3 q h1 h2).trans (sg_up_n h1))

