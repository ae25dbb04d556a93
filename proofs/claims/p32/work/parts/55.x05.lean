set_option maxRecDepth 100000 in
theorem s_ad3N {w : sg_W} {Q : sg_O → sg_H → Prop} {h : sg_H} (g : sg_G w) {d : Nat} (hd : 7 ≤ d) {qm : Nat} (hM : va_Mi "[Ljava/lang/Object;" qm w.2.1) {b E : Nat} {m sz : Int} (hb : h.2 b = some (2, [sg_i m, sg_r E, sg_i sz])) {xs : List sg_V} (hE : h.2 E = some (113, xs)) (l2 : 2 ≤ xs.length) (l3 : xs.length ≤ 200) (hel : ∀ i : Nat, i < xs.length → sg_el h 113 (xs.getD i sg_n)) (s0 : sz = (xs.length : Int)) {x u : Nat} {us : List sg_V} (hx : h.2 x = some (u, us)) (nxb : x ≠ b) (has : sg_as 113 (u % 200)) (hwk : sg_wk u = false) (hQ : ∀ (f : Nat → Option sg_E), f b = some (2, [sg_i m, sg_r h.1, sg_i (sz + 1)]) → f h.1 = some (113, (sg_cp xs (List.replicate (xs.length + xs.length / 2) sg_n) 0 0 (min xs.length (xs.length + xs.length / 2))).set sz.toNat (sg_r x)) → (∀ q, q ≠ b → q ≠ h.1 → f q = h.2 q) → Q (.inl none) ((h.1 + 1), f)) : sg_C w mi_Jx4a65c_add_72be8 d 1 (xs.length + xs.length / 2) [sg_r b, sg_r x, sg_r E, sg_i sz] h Q := by
  refine sg_of pn_Jx4a65c (Nat.le_of_ble_eq_true rfl) ?_
  refine sg_frs (fun hf => ?_)
  have hbl := hf _ _ hb
  have nbE : b ≠ E := fun q => by rw [q, hE] at hb; cases hb
  have hxl := hf _ _ hx
  refine sg_iload_n (pc := 0) (j := 3) (dc_Jx4a65c_add_72be8_0.1.1.1.1) rfl rfl ?_
  refine sg_aload_n (pc := 1) (j := 2) (dc_Jx4a65c_add_72be8_0.1.1.1.2) rfl rfl ?_
  refine sg_alen (pc := 2) (dc_Jx4a65c_add_72be8_0.1.1.2.1) hE (Nat.le_of_ble_eq_true rfl) (by omega) ?_
  refine sg_icmp_ne (pc := 3) (tgt := 11) (dc_Jx4a65c_add_72be8_0.1.1.2.2) (by decide) (fun cu => absurd cu (by omega)) (fun cu => ?_)
  refine sg_aload_n (pc := 6) (j := 0) (dc_Jx4a65c_add_72be8_0.1.2.1.1) rfl rfl ?_
  refine sg_cV0 (pc := 7) (d' := d - 1) (mc' := 1) (ms' := (xs.length + xs.length / 2)) g (dc_Jx4a65c_add_72be8_0.1.2.1.2) cb_Jx4a65c_grow_d5877 ml_Jx4a65c_129 mn_Jx4a65c_grow_d5877 mv_Jx4a65c_grow_d5877 hb (Nat.le_of_ble_eq_true rfl) rfl (Nat.le_of_ble_eq_true rfl) (by first | exact jl_d0 hd rfl | omega) (by first | exact Nat.le_of_ble_eq_true rfl | omega) (by first | exact Nat.le_of_ble_eq_true rfl | omega) ?_
  refine s_grN0 g (by first | exact jl_d1 hd rfl | omega) hM hb hE l2 l3 hel (by omega) ?_
  refine sg_K1 ?_
  try dsimp only
  refine sg_astore_n (pc := 10) (j := 2) (dc_Jx4a65c_add_72be8_0.1.2.2.1) rfl (by decide) ?_
  refine sg_aload_n (pc := 11) (j := 2) (dc_Jx4a65c_add_72be8_0.1.2.2.2) rfl rfl ?_
  refine sg_iload_n (pc := 12) (j := 3) (dc_Jx4a65c_add_72be8_0.2.1.1.1) rfl rfl ?_
  refine sg_aload_n (pc := 13) (j := 1) (dc_Jx4a65c_add_72be8_0.2.1.1.2) rfl rfl ?_
  refine sg_aast (pc := 14) g (dc_Jx4a65c_add_72be8_0.2.1.2.1) ((sg_up_n (by omega)).trans sg_up_s) ((sg_up_n (by omega)).trans ((sg_up_n (by omega)).trans ((sg_up_n (by omega)).trans hx))) (by decide) (by decide) has (by omega) (by first | (rw [List.length_replicate]; omega) | (rw [sg_cp_len, List.length_replicate]; omega) | omega) ?_
  try dsimp only
  refine sg_aload_n (pc := 15) (j := 0) (dc_Jx4a65c_add_72be8_0.2.1.2.2) rfl rfl ?_
  refine sg_iload_n (pc := 16) (j := 3) (dc_Jx4a65c_add_72be8_0.2.2.1.1) rfl rfl ?_
  refine sg_iconst (pc := 17) (z := 1) (dc_Jx4a65c_add_72be8_0.2.2.1.2) (by decide) ?_
  first | refine sg_iaddB (pc := 18) (dc_Jx4a65c_add_72be8_0.2.2.2.1) (by omega) (by omega) ?_ | refine sg_iadd (pc := 18) (dc_Jx4a65c_add_72be8_0.2.2.2.1) ?_
  refine sg_putf (pc := 19) g (dc_Jx4a65c_add_72be8_0.2.2.2.2) fk_Jx4a65c_48 (by first | assumption | (repeat (first | with_reducible exact sg_up_s | with_reducible refine (sg_up_n (by omega)).trans ?_)) <;> assumption) sg_ft_i ?_
  try dsimp only
  refine sg_vret (pc := 22) dc_Jx4a65c_add_72be8_22 rfl (by first | exact Nat.le_of_ble_eq_true rfl | omega) (by first | exact Nat.le_of_ble_eq_true rfl | omega) ?_
  refine hQ _ sg_up_s ?_ (fun q h1 h2 => ?_)
  · (repeat (with_reducible refine (sg_up_n (by omega)).trans ?_))
    exact sg_up_s
  · (repeat (with_reducible refine (sg_up_n (by omega)).trans ?_))
    rfl

