set_option maxRecDepth 100000 in
theorem s_apS {w : sg_W} {Q : sg_O → sg_H → Prop} {h : sg_H} (g : sg_G w) {d : Nat} (hd : 6 ≤ d) (hJ : jz w) {h0 : sg_H} {b cap cap' m1 s1 : Nat} {c : Int} (hB : jb_B h0 h b cap c) {n : Nat} {a : Nat} (hS : js_S h0 a n) (hc : jb_c (c + (n : Int)).toNat cap cap' m1 s1) (hc2 : cap' ≤ 1000) (hQ : ∀ h' : sg_H, jb_B h0 h' b cap' (c + (n : Int)) → Q (.inl (some (sg_r b))) h') : sg_C w mi_J5_append_cf1ce d m1 s1 [sg_r b, sg_r a] h Q := by
  refine sg_of pn_J5 (Nat.le_of_ble_eq_true rfl) ?_
  have hB0 := hB
  obtain ⟨b0, E, c0, c1, c2, v, xs, x, v0, hb, hv, hl, hy⟩ := hB
  have hS0 := hS
  obtain ⟨hS1, t, u, ps, ha0, ht, hu1, tu, us, hu0, htu, hul, huy⟩ := hS
  have ha := (E.2 a hS1).trans ha0
  have hu := (E.2 u hu1).trans hu0
  have hn : n ≤ 1000 := by unfold jb_c at hc; omega
  have hc9 : c + (n : Int) ≤ (cap' : Int) := by unfold jb_c at hc; omega
  subst hul
  replace hB := hB0
  refine sg_aload_n (pc := 0) (j := 1) (dc_J5_append_cf1ce_0.1.1.1.1) rfl rfl ?_
  refine sg_ifnonnull (pc := 1) (tgt := 9) (dc_J5_append_cf1ce_0.1.1.1.2) (by decide) ?_
  refine sg_aload_n (pc := 9) (j := 1) (dc_J5_append_cf1ce_0.1.2.1.2) rfl rfl ?_
  refine sg_callV (q := (RJ0, TJ0, 4)) (as := []) (d' := d - 1) (mc' := 0) (ms' := 0) (pc := 10) g (dc_J5_append_cf1ce_0.1.2.2.1) cb_J0_length_8abf5 ml_J5_32 mn_J0_length_8abf5 mv_J0_length_8abf5 (by rw [ht]; rfl) (by omega) rfl ha rfl (Nat.le_of_ble_eq_true rfl) (by omega) (by omega) (by omega) ?_
  refine s_strlen g (by first | exact jl_d1 hd rfl | omega) hJ ha ht hu htu (by omega) ?_
  refine sg_K1 ?_
  refine sg_istore_n (pc := 13) (j := 2) (dc_J5_append_cf1ce_0.1.2.2.2) rfl (by decide) ?_
  refine sg_aload_n (pc := 14) (j := 0) (dc_J5_append_cf1ce_0.2.1.1.1) rfl rfl ?_
  refine sg_aload_n (pc := 15) (j := 0) (dc_J5_append_cf1ce_0.2.1.1.2) rfl rfl ?_
  refine sg_getf (pc := 16) g (dc_J5_append_cf1ce_0.2.1.2.1) fk_J5_79 hb rfl rfl ?_
  refine sg_iload_n (pc := 19) (j := 2) (dc_J5_append_cf1ce_0.2.1.2.2) rfl rfl ?_
  first | refine sg_iaddB (pc := 20) (dc_J5_append_cf1ce_0.2.2.1.1) (by omega) (by omega) ?_ | refine sg_iadd (pc := 20) (dc_J5_append_cf1ce_0.2.2.1.1) ?_
  refine sg_cP1 (pc := 21) (d' := d - 1) (mc' := m1) (ms' := s1) g (dc_J5_append_cf1ce_0.2.2.1.2) cb_J5_ensureCapacityInternal_d00df ml_J5_100 mn_J5_ensureCapacityInternal_d00df (sl_J5_ensureCapacityInternal_d00df g) (by first | assumption | (repeat (first | with_reducible exact sg_up_s | with_reducible refine (sg_up_n (by omega)).trans ?_)) <;> assumption) (Nat.le_of_ble_eq_true rfl) rfl (Nat.le_of_ble_eq_true rfl) (by first | exact jl_d0 hd rfl | omega) (by first | exact Nat.le_of_ble_eq_true rfl | omega) (by first | exact Nat.le_of_ble_eq_true rfl | omega) ?_
  refine s_ens g (by first | exact jl_d1 hd rfl | omega) hB hc hc2 (by omega) (fun h1 hB1 => ?_)
  refine sg_K0 ?_
  obtain ⟨-, E1, c01, c11, c21, v1, xs1, x1, v01, hb1, hv1, hl1, hy1⟩ := hB1
  refine sg_aload_n (pc := 24) (j := 0) (dc_J5_append_cf1ce_0.2.2.2.1) rfl rfl ?_
  refine sg_aload_n (pc := 25) (j := 0) (dc_J5_append_cf1ce_0.2.2.2.2) rfl rfl ?_
  refine sg_getf (pc := 26) g (dc_J5_append_cf1ce_26.1.1.1.1) fk_J5_79 hb1 rfl rfl ?_
  refine sg_aload_n (pc := 29) (j := 1) (dc_J5_append_cf1ce_26.1.1.1.2) rfl rfl ?_
  refine sg_cP2 (pc := 30) (d' := d - 1) (mc' := 0) (ms' := 0) g (dc_J5_append_cf1ce_26.1.1.2.1) cb_J5_putStringAt_47b60 ml_J5_208 mn_J5_putStringAt_47b60 (sl_J5_putStringAt_47b60 g) hb1 (Nat.le_of_ble_eq_true rfl) rfl (Nat.le_of_ble_eq_true rfl) (by first | exact jl_d0 hd rfl | omega) (by first | exact Nat.le_of_ble_eq_true rfl | omega) (by first | exact Nat.le_of_ble_eq_true rfl | omega) ?_
  refine s_put g (by first | exact jl_d1 hd rfl | omega) hJ hb1 ((E1.2 a hS1).trans ha0) ht ((E1.2 u hu1).trans hu0) htu (by omega) huy hv1 (by omega) (by omega) (by omega) ?_
  refine sg_K0 ?_
  try dsimp only
  refine sg_aload_n (pc := 33) (j := 0) (dc_J5_append_cf1ce_26.1.1.2.2) rfl rfl ?_
  refine sg_dup (pc := 34) (dc_J5_append_cf1ce_26.1.2.1.1) rfl ?_
  refine sg_getf (pc := 35) g (dc_J5_append_cf1ce_26.1.2.1.2) fk_J5_79 ((sg_up_n (fun q => by rw [q, hv1] at hb1; cases hb1)).trans hb1) rfl rfl ?_
  refine sg_iload_n (pc := 38) (j := 2) (dc_J5_append_cf1ce_26.1.2.2.1) rfl rfl ?_
  first | refine sg_iaddB (pc := 39) (dc_J5_append_cf1ce_26.1.2.2.2) (by omega) (by omega) ?_ | refine sg_iadd (pc := 39) (dc_J5_append_cf1ce_26.1.2.2.2) ?_
  refine sg_putf (pc := 40) g (dc_J5_append_cf1ce_26.2.1.1.1) fk_J5_79 ((sg_up_n (fun q => by rw [q, hv1] at hb1; cases hb1)).trans hb1) sg_ft_i ?_
  try dsimp only
  refine sg_aload_n (pc := 43) (j := 0) (dc_J5_append_cf1ce_26.2.1.1.2) rfl rfl ?_
  refine sg_aret (pc := 44) (dc_J5_append_cf1ce_26.2.1.2.1) rfl (by first | exact Or.inl ⟨_, rfl⟩ | exact Or.inr ⟨_, rfl⟩) (by first | exact Nat.le_of_ble_eq_true rfl | omega) (by first | exact Nat.le_of_ble_eq_true rfl | omega) ?_
  refine hQ _ ⟨b0, ⟨E1.1, fun q hq => ?_⟩, by omega, by omega, by omega, v1, sg_cp us xs1 0 c.toNat us.length, x1, v01, sg_up_s, ?_, ?_, ?_⟩
  · (repeat (with_reducible refine (sg_up_n (by omega)).trans ?_))
    exact E1.2 q hq
  · refine (sg_up_n (fun q => by rw [q, hb1] at hv1; cases hv1)).trans ?_
    exact sg_up_s
  · rw [sg_cp_len]; exact hl1
  · exact jy_cp huy hy1 (by omega)

