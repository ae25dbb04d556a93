set_option maxRecDepth 100000 in
theorem s_apS4 {w : sg_W} {Q : sg_O → sg_H → Prop} {h : sg_H} (g : sg_G w) {d : Nat} (hd : 7 ≤ d) (hJ : jz w) {h0 : sg_H} {b cap cap' m1 s1 : Nat} {c : Int} (hB : jb_B h0 h b cap c) {n : Nat} {a : Nat} (hS : js_S h0 a n) (hc : jb_c (c + (n : Int)).toNat cap cap' m1 s1) (hc2 : cap' ≤ 1000) (hQ : ∀ h' : sg_H, jb_B h0 h' b cap' (c + (n : Int)) → Q (.inl (some (sg_r b))) h') : sg_C w mi_J4_append_15ec4 d m1 s1 [sg_r b, sg_r a] h Q := by
  refine sg_of pn_J4 (Nat.le_of_ble_eq_true rfl) ?_
  obtain ⟨v, x, hb⟩ : ∃ (v : Nat) (x : Int), h.2 b = some (1, [sg_r v, sg_i 0, sg_i x, sg_i c]) := by obtain ⟨b0, E, c0, c1, c2, v, xs, x, v0, hb, -⟩ := hB; exact ⟨v, x, hb⟩
  refine sg_aload_n (pc := 0) (j := 0) (dc_J4_append_15ec4_0.1.1.1) rfl rfl ?_
  refine sg_aload_n (pc := 1) (j := 1) (dc_J4_append_15ec4_0.1.1.2) rfl rfl ?_
  refine sg_cU1 (pc := 2) (d' := d - 1) (mc' := m1) (ms' := s1) g (dc_J4_append_15ec4_0.1.2.1) cb_J5_append_cf1ce ml_J4_29 mn_J5_append_cf1ce mq_J5_append_cf1ce su_J4 (by decide +kernel) hb (Nat.le_of_ble_eq_true rfl) rfl (Nat.le_of_ble_eq_true rfl) (by first | exact jl_d0 hd rfl | omega) (by first | exact Nat.le_of_ble_eq_true rfl | omega) (by first | exact Nat.le_of_ble_eq_true rfl | omega) ?_
  refine s_apS g (by first | exact jl_d1 hd rfl | omega) hJ hB hS hc hc2 (fun h1 hB1 => ?_)
  refine sg_K1 ?_
  refine sg_pop (pc := 5) (dc_J4_append_15ec4_0.1.2.2) rfl ?_
  refine sg_aload_n (pc := 6) (j := 0) (dc_J4_append_15ec4_0.2.1.1) rfl rfl ?_
  refine sg_aret (pc := 7) (dc_J4_append_15ec4_0.2.1.2) rfl (by first | exact Or.inl ⟨_, rfl⟩ | exact Or.inr ⟨_, rfl⟩) (by first | exact Nat.le_of_ble_eq_true rfl | omega) (by first | exact Nat.le_of_ble_eq_true rfl | omega) ?_
  exact hQ h1 hB1

set_option maxRecDepth 100000 in
theorem s_apC {w : sg_W} {Q : sg_O → sg_H → Prop} {h : sg_H} (g : sg_G w) {d : Nat} (hd : 6 ≤ d) (hJ : jz w) {h0 : sg_H} {b cap cap' m1 s1 : Nat} {c : Int} (hB : jb_B h0 h b cap c) {z : Int} (z0 : 0 ≤ z) (z1 : z ≤ 255) (hc : jb_c (c + 1).toNat cap cap' m1 s1) (hc2 : cap' ≤ 1000) (hQ : ∀ h' : sg_H, jb_B h0 h' b cap' (c + 1) → Q (.inl (some (sg_r b))) h') : sg_C w mi_J5_append_3fe6f d m1 s1 [sg_r b, sg_i z] h Q := by
  refine sg_of pn_J5 (Nat.le_of_ble_eq_true rfl) ?_
  have hB0 := hB
  obtain ⟨b0, E, c0, c1, c2, v, xs, x, v0, hb, hv, hl, hy⟩ := hB
  have hc9 : c + 1 ≤ (cap' : Int) := by unfold jb_c at hc; omega
  replace hB := hB0
  refine sg_aload_n (pc := 0) (j := 0) (dc_J5_append_3fe6f_0.1.1.1.1) rfl rfl ?_
  refine sg_aload_n (pc := 1) (j := 0) (dc_J5_append_3fe6f_0.1.1.1.2) rfl rfl ?_
  refine sg_getf (pc := 2) g (dc_J5_append_3fe6f_0.1.1.2.1) fk_J5_79 hb rfl rfl ?_
  refine sg_iconst (pc := 5) (z := 1) (dc_J5_append_3fe6f_0.1.1.2.2) (by decide) ?_
  first | refine sg_iaddB (pc := 6) (dc_J5_append_3fe6f_0.1.2.1.1) (by omega) (by omega) ?_ | refine sg_iadd (pc := 6) (dc_J5_append_3fe6f_0.1.2.1.1) ?_
  refine sg_cP1 (pc := 7) (d' := d - 1) (mc' := m1) (ms' := s1) g (dc_J5_append_3fe6f_0.1.2.1.2) cb_J5_ensureCapacityInternal_d00df ml_J5_100 mn_J5_ensureCapacityInternal_d00df (sl_J5_ensureCapacityInternal_d00df g) (by first | assumption | (repeat (first | with_reducible exact sg_up_s | with_reducible refine (sg_up_n (by omega)).trans ?_)) <;> assumption) (Nat.le_of_ble_eq_true rfl) rfl (Nat.le_of_ble_eq_true rfl) (by first | exact jl_d0 hd rfl | omega) (by first | exact Nat.le_of_ble_eq_true rfl | omega) (by first | exact Nat.le_of_ble_eq_true rfl | omega) ?_
  refine s_ens g (by first | exact jl_d1 hd rfl | omega) hB hc hc2 (by omega) (fun h1 hB1 => ?_)
  refine sg_K0 ?_
  obtain ⟨-, E1, c01, c11, c21, v1, xs1, x1, v01, hb1, hv1, hl1, hy1⟩ := hB1
  refine sg_aload_n (pc := 10) (j := 0) (dc_J5_append_3fe6f_0.1.2.2.1) rfl rfl ?_
  refine sg_cV0 (pc := 11) (d' := d - 1) (mc' := 0) (ms' := 0) g (dc_J5_append_3fe6f_0.1.2.2.2) cb_J5_isLatin1_aae02 ml_J5_83 mn_J5_isLatin1_aae02 mv_J5_isLatin1_aae02 hb1 (Nat.le_of_ble_eq_true rfl) rfl (Nat.le_of_ble_eq_true rfl) (by first | exact jl_d0 hd rfl | omega) (by first | exact Nat.le_of_ble_eq_true rfl | omega) (by first | exact Nat.le_of_ble_eq_true rfl | omega) ?_
  refine s_isLatin1 g (by first | exact jl_d1 hd rfl | omega) hJ hb1 ?_
  refine sg_K1 ?_
  refine sg_if_eq (pc := 14) (tgt := 45) (dc_J5_append_3fe6f_0.2.1.1.1) (by decide) (fun cu => absurd cu (by omega)) (fun cu => ?_)
  refine sg_iload_n (pc := 17) (j := 1) (dc_J5_append_3fe6f_0.2.1.1.2) rfl rfl ?_
  refine sg_cS1 (pc := 18) (d' := d - 1) (mc' := 0) (ms' := 0) g (dc_J5_append_3fe6f_0.2.1.2.1) cb_J1_canEncode_fc78d ml_J5_191 ms_J1_canEncode_fc78d (Nat.le_of_ble_eq_true rfl) (by first | exact jl_d0 hd rfl | omega) (by first | exact Nat.le_of_ble_eq_true rfl | omega) (by first | exact Nat.le_of_ble_eq_true rfl | omega) ?_
  refine s_canEncode g (by first | exact jl_d1 hd rfl | omega) z0 z1 ?_
  refine sg_K1 ?_
  refine sg_if_eq (pc := 21) (tgt := 45) (dc_J5_append_3fe6f_0.2.1.2.2) (by decide) (fun cu => absurd cu (by omega)) (fun cu => ?_)
  refine sg_aload_n (pc := 24) (j := 0) (dc_J5_append_3fe6f_0.2.2.1.1) rfl rfl ?_
  refine sg_getf (pc := 25) g (dc_J5_append_3fe6f_0.2.2.1.2) fk_J5_15 hb1 rfl rfl ?_
  refine sg_aload_n (pc := 28) (j := 0) (dc_J5_append_3fe6f_0.2.2.2.1) rfl rfl ?_
  refine sg_dup (pc := 29) (dc_J5_append_3fe6f_0.2.2.2.2) rfl ?_
  refine sg_getf (pc := 30) g (dc_J5_append_3fe6f_30.1.1.1.1) fk_J5_79 hb1 rfl rfl ?_
  refine sg_dup_x1 (pc := 33) (dc_J5_append_3fe6f_30.1.1.1.2) rfl rfl ?_
  refine sg_iconst (pc := 34) (z := 1) (dc_J5_append_3fe6f_30.1.1.2.1) (by decide) ?_
  first | refine sg_iaddB (pc := 35) (dc_J5_append_3fe6f_30.1.1.2.2) (by omega) (by omega) ?_ | refine sg_iadd (pc := 35) (dc_J5_append_3fe6f_30.1.1.2.2) ?_
  refine sg_putf (pc := 36) g (dc_J5_append_3fe6f_30.1.2.1.1) fk_J5_79 hb1 sg_ft_i ?_
  try dsimp only
  refine sg_iload_n (pc := 39) (j := 1) (dc_J5_append_3fe6f_30.1.2.1.2) rfl rfl ?_
  refine sg_i2b (pc := 40) (dc_J5_append_3fe6f_30.1.2.2.1) ?_
  refine sg_bast (pc := 41) (dc_J5_append_3fe6f_30.1.2.2.2) ((sg_up_n (fun q => by rw [q, hb1] at hv1; cases hv1)).trans hv1) (by omega) (by omega) ?_
  try dsimp only
  refine sg_goto (pc := 42) (tgt := 75) (dc_J5_append_3fe6f_30.2.1.1.1) (by decide) ?_
  refine sg_aload_n (pc := 75) (j := 0) (dc_J5_append_3fe6f_60.2.1.1.2) rfl rfl ?_
  refine sg_aret (pc := 76) (dc_J5_append_3fe6f_60.2.1.2.1) rfl (by first | exact Or.inl ⟨_, rfl⟩ | exact Or.inr ⟨_, rfl⟩) (by first | exact Nat.le_of_ble_eq_true rfl | omega) (by first | exact Nat.le_of_ble_eq_true rfl | omega) ?_
  refine hQ _ ⟨b0, ⟨E1.1, fun q hq => ?_⟩, by omega, by omega, by omega, v1, _, x1, v01, ?_, sg_up_s, ?_, jy_set hy1⟩
  · (repeat (with_reducible refine (sg_up_n (by omega)).trans ?_))
    exact E1.2 q hq
  · refine (sg_up_n (fun q => by rw [q, hv1] at hb1; cases hb1)).trans ?_
    exact sg_up_s
  · rw [List.length_set]; exact hl1

