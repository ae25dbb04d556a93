set_option maxRecDepth 100000 in
theorem s_J4i {w : sg_W} {Q : sg_O → sg_H → Prop} {h : sg_H} (g : sg_G w) {d : Nat} (hd : 3 ≤ d) (hJ : jz w) {h0 : sg_H} {b : Nat} (b0 : h0.1 ≤ b) (E : md_E h0 h) (hb : h.2 b = some (1, [sg_n, sg_i 0, sg_i 0, sg_i 0])) (hQ : ∀ h' : sg_H, jb_B h0 h' b 16 0 → Q (.inl none) h') : sg_C w mi_J4_init_da8c8 d 1 16 [sg_r b] h Q := by
  refine sg_of pn_J4 (Nat.le_of_ble_eq_true rfl) ?_
  refine sg_aload_n (pc := 0) (j := 0) (dc_J4_init_da8c8_0.1.1) rfl rfl ?_
  refine sg_bipush (pc := 1) (z := 16) (dc_J4_init_da8c8_0.1.2) (by decide) ?_
  refine sg_cI1 (pc := 3) (d' := d - 1) (mc' := 1) (ms' := 16) g (dc_J4_init_da8c8_0.2.1) cb_J5_init_d00df rfl rfl ml_J4_1 mn_J5_init_d00df (Nat.le_of_ble_eq_true rfl) (by first | exact jl_d0 hd rfl | omega) (by first | exact Nat.le_of_ble_eq_true rfl | omega) (by first | exact Nat.le_of_ble_eq_true rfl | omega) ?_
  refine s_J5i g (by first | exact jl_d1 hd rfl | omega) hJ hb (fun f f1 f2 f3 => ?_)
  refine sg_K0 ?_
  try dsimp only
  refine sg_vret (pc := 6) (dc_J4_init_da8c8_0.2.2) rfl (by first | exact Nat.le_of_ble_eq_true rfl | omega) (by first | exact Nat.le_of_ble_eq_true rfl | omega) ?_
  refine hQ _ ⟨b0, ⟨by have := E.1; show _ ≤ h.1 + 1; omega, fun q hq => (f3 q (by omega) (by have := E.1; omega)).trans (E.2 q hq)⟩, by decide, by decide, by decide, h.1, _, 0, E.1, f1, f2, by rw [List.length_replicate], jy_rep⟩

set_option maxRecDepth 100000 in
theorem s_ens {w : sg_W} {Q : sg_O → sg_H → Prop} {h : sg_H} (g : sg_G w) {d : Nat} (hd : 5 ≤ d) {h0 : sg_H} {b cap cap' m1 s1 : Nat} {c : Int} (hB : jb_B h0 h b cap c) {q : Int} (hc : jb_c q.toNat cap cap' m1 s1) (hc2 : cap' ≤ 1000) (q0 : 0 ≤ q) (hQ : ∀ h' : sg_H, jb_B h0 h' b cap' c → Q (.inl none) h') : sg_C w mi_J5_ensureCapacityInternal_d00df d m1 s1 [sg_r b, sg_i q] h Q := by
  refine sg_of pn_J5 (Nat.le_of_ble_eq_true rfl) ?_
  refine sg_frs (fun hf => ?_)
  obtain ⟨b0, E, c0, c1, c2, v, xs, x, v0, hb, hv, hl, hy⟩ := hB
  have hbl := hf _ _ hb
  have hvl := hf _ _ hv
  unfold jb_c at hc
  have hq9 : q ≤ 1000 := by omega
  refine sg_aload_n (pc := 0) (j := 0) (dc_J5_ensureCapacityInternal_d00df_0.1.1.1.1) rfl rfl ?_
  refine sg_getf (pc := 1) g (dc_J5_ensureCapacityInternal_d00df_0.1.1.1.2) fk_J5_15 hb rfl rfl ?_
  refine sg_alen (pc := 4) (dc_J5_ensureCapacityInternal_d00df_0.1.1.2.1) hv (by decide) (by omega) ?_
  refine sg_aload_n (pc := 5) (j := 0) (dc_J5_ensureCapacityInternal_d00df_0.1.1.2.2) rfl rfl ?_
  refine sg_getf (pc := 6) g (dc_J5_ensureCapacityInternal_d00df_0.1.2.1.1) fk_J5_22 hb rfl rfl ?_
  first | refine sg_ishr0 (pc := 9) (dc_J5_ensureCapacityInternal_d00df_0.1.2.1.2) (by omega) (by omega) ?_ | refine sg_ishr1 (pc := 9) (dc_J5_ensureCapacityInternal_d00df_0.1.2.1.2) (by omega) (by omega) ?_ | refine sg_ishr (pc := 9) (dc_J5_ensureCapacityInternal_d00df_0.1.2.1.2) ?_
  refine sg_istore_n (pc := 10) (j := 2) (dc_J5_ensureCapacityInternal_d00df_0.1.2.2.1) rfl (by decide) ?_
  refine sg_iload_n (pc := 11) (j := 1) (dc_J5_ensureCapacityInternal_d00df_0.1.2.2.2) rfl rfl ?_
  refine sg_iload_n (pc := 12) (j := 2) (dc_J5_ensureCapacityInternal_d00df_0.2.1.1.1) rfl rfl ?_
  first | refine sg_isubB (pc := 13) (dc_J5_ensureCapacityInternal_d00df_0.2.1.1.2) (by omega) (by omega) ?_ | refine sg_isub (pc := 13) (dc_J5_ensureCapacityInternal_d00df_0.2.1.1.2) ?_
  refine sg_if_le (pc := 14) (tgt := 38) (dc_J5_ensureCapacityInternal_d00df_0.2.1.2.1) (by decide) (fun c14 => ?_) (fun c14 => ?_)
  · refine sg_vret (pc := 38) (dc_J5_ensureCapacityInternal_d00df_24.2.2.1) rfl (by first | exact Nat.le_of_ble_eq_true rfl | omega) (by first | exact Nat.le_of_ble_eq_true rfl | omega) ?_
    have e1 : cap' = cap := by omega
    subst e1
    exact hQ _ ⟨b0, E, c0, c1, c2, v, xs, x, v0, hb, hv, hl, hy⟩
  · refine sg_aload_n (pc := 17) (j := 0) (dc_J5_ensureCapacityInternal_d00df_0.2.1.2.2) rfl rfl ?_
    refine sg_aload_n (pc := 18) (j := 0) (dc_J5_ensureCapacityInternal_d00df_0.2.2.1.1) rfl rfl ?_
    refine sg_getf (pc := 19) g (dc_J5_ensureCapacityInternal_d00df_0.2.2.1.2) fk_J5_15 hb rfl rfl ?_
    refine sg_aload_n (pc := 22) (j := 0) (dc_J5_ensureCapacityInternal_d00df_0.2.2.2.1) rfl rfl ?_
    refine sg_iload_n (pc := 23) (j := 1) (dc_J5_ensureCapacityInternal_d00df_0.2.2.2.2) rfl rfl ?_
    refine sg_cP1 (pc := 24) (d' := d - 1) (mc' := 0) (ms' := 0) g (dc_J5_ensureCapacityInternal_d00df_24.1.1.1) cb_J5_newCapacity_0f7a4 ml_J5_104 mn_J5_newCapacity_0f7a4 (sl_J5_newCapacity_0f7a4 g) hb (Nat.le_of_ble_eq_true rfl) rfl (Nat.le_of_ble_eq_true rfl) (by first | exact jl_d0 hd rfl | omega) (by first | exact Nat.le_of_ble_eq_true rfl | omega) (by first | exact Nat.le_of_ble_eq_true rfl | omega) ?_
    refine s_newCap g (by first | exact jl_d1 hd rfl | omega) hb hv (by omega) (by omega) (by omega) (fun y24 e24 => ?_)
    refine sg_K1 ?_
    refine sg_aload_n (pc := 27) (j := 0) (dc_J5_ensureCapacityInternal_d00df_24.1.1.2) rfl rfl ?_
    refine sg_getf (pc := 28) g (dc_J5_ensureCapacityInternal_d00df_24.1.2.1) fk_J5_22 hb rfl rfl ?_
    first | refine sg_ishl0 (pc := 31) (dc_J5_ensureCapacityInternal_d00df_24.1.2.2) (by omega) (by omega) ?_ | refine sg_ishl1 (pc := 31) (dc_J5_ensureCapacityInternal_d00df_24.1.2.2) (by omega) (by omega) ?_ | refine sg_ishl (pc := 31) (dc_J5_ensureCapacityInternal_d00df_24.1.2.2) ?_
    refine sg_cS2 (pc := 32) (d' := d - 1) (mc' := 1) (ms' := cap') g (dc_J5_ensureCapacityInternal_d00df_24.2.1.1) cb_J7_copyOf_9075b ml_J5_108 ms_J7_copyOf_9075b (Nat.le_of_ble_eq_true rfl) (by first | exact jl_d0 hd rfl | omega) (by first | exact Nat.le_of_ble_eq_true rfl | omega) (by first | exact Nat.le_of_ble_eq_true rfl | omega) ?_
    refine s_cpB (N := cap') g (by first | exact jl_d1 hd rfl | omega) hv (by omega) hy (by omega) (by omega) (by omega) (fun ys y1 y2 => ?_)
    refine sg_K1 ?_
    try dsimp only
    refine sg_putf (pc := 35) g (dc_J5_ensureCapacityInternal_d00df_24.2.1.2) fk_J5_15 (by first | assumption | (repeat (first | with_reducible exact sg_up_s | with_reducible refine (sg_up_n (by omega)).trans ?_)) <;> assumption) sg_ft_a ?_
    try dsimp only
    refine sg_vret (pc := 38) (dc_J5_ensureCapacityInternal_d00df_24.2.2.1) rfl (by first | exact Nat.le_of_ble_eq_true rfl | omega) (by first | exact Nat.le_of_ble_eq_true rfl | omega) ?_
    refine hQ _ ⟨b0, ⟨by have := E.1; show _ ≤ h.1 + 1; omega, fun q hq => ?_⟩, c0, by omega, by omega, h.1, ys, x, E.1, sg_up_s, ?_, y1, y2⟩
    · have := E.1
      (repeat (with_reducible refine (sg_up_n (by omega)).trans ?_))
      exact E.2 q hq
    · (repeat (with_reducible refine (sg_up_n (by omega)).trans ?_))
      exact sg_up_s

