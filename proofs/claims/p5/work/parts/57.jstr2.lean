set_option maxRecDepth 100000 in
theorem s_J5i {w : sg_W} {Q : sg_O → sg_H → Prop} {h : sg_H} (g : sg_G w) {d : Nat} (hd : 2 ≤ d) (hJ : jz w) {b : Nat} {v : sg_V} {y c : Int} (hb : h.2 b = some (1, [v, sg_i 0, sg_i y, sg_i c])) (hQ : ∀ f : Nat → Option sg_E, f b = some (1, [sg_r h.1, sg_i 0, sg_i y, sg_i c]) → f h.1 = some (102, List.replicate 16 (sg_i 0)) → (∀ q, q ≠ b → q ≠ h.1 → f q = h.2 q) → Q (.inl none) (h.1 + 1, f)) : sg_C w mi_J5_init_d00df d 1 16 [sg_r b, sg_i 16] h Q := by
  refine sg_of pn_J5 (Nat.le_of_ble_eq_true rfl) ?_
  refine sg_frs (fun hf => ?_)
  have hbl := hf _ _ hb
  refine sg_aload_n (pc := 0) (j := 0) (dc_J5_init_d00df_0.1.1.1.1) rfl rfl ?_
  refine sg_objInit (pc := 1) g (dc_J5_init_d00df_0.1.1.1.2) mo_J5_3 mo_in mo_co (Nat.le_of_ble_eq_true rfl) (by omega) ?_
  refine sg_gets (v := sg_i 1) (pc := 4) g (dc_J5_init_d00df_0.1.1.2.1) hJ ⟨1, rfl, rfl⟩ kl_J5_18 ?_
  refine sg_if_eq (pc := 7) (tgt := 25) (dc_J5_init_d00df_0.1.1.2.2) (by decide) (fun cu => absurd cu (by omega)) (fun cu => ?_)
  refine sg_aload_n (pc := 10) (j := 0) (dc_J5_init_d00df_0.1.2.1.1) rfl rfl ?_
  refine sg_iload_n (pc := 11) (j := 1) (dc_J5_init_d00df_0.1.2.1.2) rfl rfl ?_
  refine sg_newa (t := 102) (N := 16) (pc := 12) g (dc_J5_init_d00df_0.1.2.2.1) ac_byte rfl (by decide) (by decide) rfl rfl (by decide) (by omega) (by omega) (by omega) (by omega) ?_
  try dsimp only
  refine sg_putf (pc := 14) g (dc_J5_init_d00df_0.1.2.2.2) fk_J5_15 (by first | assumption | (repeat (first | with_reducible exact sg_up_s | with_reducible refine (sg_up_n (by omega)).trans ?_)) <;> assumption) sg_ft_a ?_
  try dsimp only
  refine sg_aload_n (pc := 17) (j := 0) (dc_J5_init_d00df_0.2.1.1.1) rfl rfl ?_
  refine sg_iconst (pc := 18) (z := 0) (dc_J5_init_d00df_0.2.1.1.2) (by decide) ?_
  refine sg_putf (pc := 19) g (dc_J5_init_d00df_0.2.1.2.1) fk_J5_22 (by first | assumption | (repeat (first | with_reducible exact sg_up_s | with_reducible refine (sg_up_n (by omega)).trans ?_)) <;> assumption) sg_ft_b0 ?_
  try dsimp only
  refine sg_goto (pc := 22) (tgt := 38) (dc_J5_init_d00df_0.2.1.2.2) (by decide) ?_
  refine sg_vret (pc := 38) (dc_J5_init_d00df_33.2.2) rfl (by first | exact Nat.le_of_ble_eq_true rfl | omega) (by first | exact Nat.le_of_ble_eq_true rfl | omega) ?_
  refine hQ _ sg_up_s ?_ (fun q h1 h2 => ?_)
  · (repeat (with_reducible refine (sg_up_n (by omega)).trans ?_))
    exact sg_up_s
  · (repeat (with_reducible refine (sg_up_n (by omega)).trans ?_))
    rfl

set_option maxRecDepth 100000 in
theorem s_J4i {w : sg_W} {Q : sg_O → sg_H → Prop} {h : sg_H} (g : sg_G w) {d : Nat} (hd : 3 ≤ d) (hJ : jz w) {h0 : sg_H} {b : Nat} (b0 : h0.1 ≤ b) (E : md_E h0 h) (hb : h.2 b = some (1, [sg_n, sg_i 0, sg_i 0, sg_i 0])) (hQ : ∀ h' : sg_H, jb_B h0 h' b 16 0 → Q (.inl none) h') : sg_C w mi_J4_init_da8c8 d 1 16 [sg_r b] h Q := by
  refine sg_of pn_J4 (Nat.le_of_ble_eq_true rfl) ?_
  refine sg_aload_n (pc := 0) (j := 0) (dc_J4_init_da8c8_0.1.1) rfl rfl ?_
  refine sg_bipush (pc := 1) (z := 16) (dc_J4_init_da8c8_0.1.2) (by decide) ?_
  refine sg_cI1 (pc := 3) (d' := d - 1) (mc' := 1) (ms' := 16) g (dc_J4_init_da8c8_0.2.1) cb_J5_init_d00df rfl rfl ml_J4_1 mn_J5_init_d00df (Nat.le_of_ble_eq_true rfl) (by first | exact jl_d0 hd rfl | omega) (by first | exact Nat.le_of_ble_eq_true rfl | omega) (by first | exact Nat.le_of_ble_eq_true rfl | omega) ?_
  refine s_J5i g (by first | exact jl_d1 hd rfl | omega) hJ hb (fun f f1 f2 f3 => ?_)
  refine sg_K0 ?_
  try dsimp only
  refine sg_vret (pc := 6) (dc_J4_init_da8c8_0.2.2) rfl (by first | exact Nat.le_of_ble_eq_true rfl | omega) (by first | exact Nat.le_of_ble_eq_true rfl | omega) ?_
  refine hQ _ ⟨b0, ⟨by have := E.1; show _ ≤ h.1 + 1; omega, fun q hq => (f3 q (by omega) (by have := E.1; omega)).trans (E.2 q hq)⟩, by decide, by decide, by decide, h.1, _, 0, E.1, f1, f2, by rw [List.length_replicate], jy_rep⟩

set_option maxRecDepth 100000 in
theorem s_ens {w : sg_W} {Q : sg_O → sg_H → Prop} {h : sg_H} (g : sg_G w) {d : Nat} (hd : 5 ≤ d) {h0 : sg_H} {b cap cap' m1 s1 : Nat} {c : Int} (hB : jb_B h0 h b cap c) {q : Int} (hc : jb_c q.toNat cap cap' m1 s1) (hc2 : cap' ≤ 1000) (q0 : 0 ≤ q) (hQ : ∀ h' : sg_H, jb_B h0 h' b cap' c → Q (.inl none) h') : sg_C w mi_J5_ensureCapacityInternal_d00df d m1 s1 [sg_r b, sg_i q] h Q := by
  refine sg_of pn_J5 (Nat.le_of_ble_eq_true rfl) ?_
  refine sg_frs (fun hf => ?_)
  obtain ⟨b0, E, c0, c1, c2, v, xs, x, v0, hb, hv, hl, hy⟩ := hB
  have hbl := hf _ _ hb
  have hvl := hf _ _ hv
  unfold jb_c at hc
  have hq9 : q ≤ 1000 := by omega
  refine sg_aload_n (pc := 0) (j := 0) (dc_J5_ensureCapacityInternal_d00df_0.1.1.1.1) rfl rfl ?_
  refine sg_getf (pc := 1) g (dc_J5_ensureCapacityInternal_d00df_0.1.1.1.2) fk_J5_15 hb rfl rfl ?_
  refine sg_alen (pc := 4) (dc_J5_ensureCapacityInternal_d00df_0.1.1.2.1) hv (by decide) (by omega) ?_
  refine sg_aload_n (pc := 5) (j := 0) (dc_J5_ensureCapacityInternal_d00df_0.1.1.2.2) rfl rfl ?_
  refine sg_getf (pc := 6) g (dc_J5_ensureCapacityInternal_d00df_0.1.2.1.1) fk_J5_22 hb rfl rfl ?_
  first | refine sg_ishr0 (pc := 9) (dc_J5_ensureCapacityInternal_d00df_0.1.2.1.2) (by omega) (by omega) ?_ | refine sg_ishr1 (pc := 9) (dc_J5_ensureCapacityInternal_d00df_0.1.2.1.2) (by omega) (by omega) ?_ | refine sg_ishr (pc := 9) (dc_J5_ensureCapacityInternal_d00df_0.1.2.1.2) ?_
  refine sg_istore_n (pc := 10) (j := 2) (dc_J5_ensureCapacityInternal_d00df_0.1.2.2.1) rfl (by decide) ?_
  refine sg_iload_n (pc := 11) (j := 1) (dc_J5_ensureCapacityInternal_d00df_0.1.2.2.2) rfl rfl ?_
  refine sg_iload_n (pc := 12) (j := 2) (dc_J5_ensureCapacityInternal_d00df_0.2.1.1.1) rfl rfl ?_
  first | refine sg_isubB (pc := 13) (dc_J5_ensureCapacityInternal_d00df_0.2.1.1.2) (by omega) (by omega) ?_ | refine sg_isub (pc := 13) (dc_J5_ensureCapacityInternal_d00df_0.2.1.1.2) ?_
  refine sg_if_le (pc := 14) (tgt := 38) (dc_J5_ensureCapacityInternal_d00df_0.2.1.2.1) (by decide) (fun c14 => ?_) (fun c14 => ?_)
  · refine sg_vret (pc := 38) (dc_J5_ensureCapacityInternal_d00df_24.2.2.1) rfl (by first | exact Nat.le_of_ble_eq_true rfl | omega) (by first | exact Nat.le_of_ble_eq_true rfl | omega) ?_
    have e1 : cap' = cap := by omega
    subst e1
    exact hQ _ ⟨b0, E, c0, c1, c2, v, xs, x, v0, hb, hv, hl, hy⟩
  · refine sg_aload_n (pc := 17) (j := 0) (dc_J5_ensureCapacityInternal_d00df_0.2.1.2.2) rfl rfl ?_
    refine sg_aload_n (pc := 18) (j := 0) (dc_J5_ensureCapacityInternal_d00df_0.2.2.1.1) rfl rfl ?_
    refine sg_getf (pc := 19) g (dc_J5_ensureCapacityInternal_d00df_0.2.2.1.2) fk_J5_15 hb rfl rfl ?_
    refine sg_aload_n (pc := 22) (j := 0) (dc_J5_ensureCapacityInternal_d00df_0.2.2.2.1) rfl rfl ?_
    refine sg_iload_n (pc := 23) (j := 1) (dc_J5_ensureCapacityInternal_d00df_0.2.2.2.2) rfl rfl ?_
    refine sg_cP1 (pc := 24) (d' := d - 1) (mc' := 0) (ms' := 0) g (dc_J5_ensureCapacityInternal_d00df_24.1.1.1) cb_J5_newCapacity_0f7a4 ml_J5_104 mn_J5_newCapacity_0f7a4 (sl_J5_newCapacity_0f7a4 g) hb (Nat.le_of_ble_eq_true rfl) rfl (Nat.le_of_ble_eq_true rfl) (by first | exact jl_d0 hd rfl | omega) (by first | exact Nat.le_of_ble_eq_true rfl | omega) (by first | exact Nat.le_of_ble_eq_true rfl | omega) ?_
    refine s_newCap g (by first | exact jl_d1 hd rfl | omega) hb hv (by omega) (by omega) (by omega) (fun y24 e24 => ?_)
    refine sg_K1 ?_
    refine sg_aload_n (pc := 27) (j := 0) (dc_J5_ensureCapacityInternal_d00df_24.1.1.2) rfl rfl ?_
    refine sg_getf (pc := 28) g (dc_J5_ensureCapacityInternal_d00df_24.1.2.1) fk_J5_22 hb rfl rfl ?_
    first | refine sg_ishl0 (pc := 31) (dc_J5_ensureCapacityInternal_d00df_24.1.2.2) (by omega) (by omega) ?_ | refine sg_ishl1 (pc := 31) (dc_J5_ensureCapacityInternal_d00df_24.1.2.2) (by omega) (by omega) ?_ | refine sg_ishl (pc := 31) (dc_J5_ensureCapacityInternal_d00df_24.1.2.2) ?_
    refine sg_cS2 (pc := 32) (d' := d - 1) (mc' := 1) (ms' := cap') g (dc_J5_ensureCapacityInternal_d00df_24.2.1.1) cb_J7_copyOf_9075b ml_J5_108 ms_J7_copyOf_9075b (Nat.le_of_ble_eq_true rfl) (by first | exact jl_d0 hd rfl | omega) (by first | exact Nat.le_of_ble_eq_true rfl | omega) (by first | exact Nat.le_of_ble_eq_true rfl | omega) ?_
    refine s_cpB (N := cap') g (by first | exact jl_d1 hd rfl | omega) hv (by omega) hy (by omega) (by omega) (by omega) (fun ys y1 y2 => ?_)
    refine sg_K1 ?_
    try dsimp only
    refine sg_putf (pc := 35) g (dc_J5_ensureCapacityInternal_d00df_24.2.1.2) fk_J5_15 (by first | assumption | (repeat (first | with_reducible exact sg_up_s | with_reducible refine (sg_up_n (by omega)).trans ?_)) <;> assumption) sg_ft_a ?_
    try dsimp only
    refine sg_vret (pc := 38) (dc_J5_ensureCapacityInternal_d00df_24.2.2.1) rfl (by first | exact Nat.le_of_ble_eq_true rfl | omega) (by first | exact Nat.le_of_ble_eq_true rfl | omega) ?_
    refine hQ _ ⟨b0, ⟨by have := E.1; show _ ≤ h.1 + 1; omega, fun q hq => ?_⟩, c0, by omega, by omega, h.1, ys, x, E.1, sg_up_s, ?_, y1, y2⟩
    · have := E.1
      (repeat (with_reducible refine (sg_up_n (by omega)).trans ?_))
      exact E.2 q hq
    · (repeat (with_reducible refine (sg_up_n (by omega)).trans ?_))
      exact sg_up_s

set_option maxRecDepth 100000 in
theorem s_infl {w : sg_W} {Q : sg_O → sg_H → Prop} {h : sg_H} (g : sg_G w) {d : Nat} (hd : 2 ≤ d) (hJ : jz w) {b v : Nat} {c x : Int} (hb : h.2 b = some (1, [sg_r v, sg_i 0, sg_i x, sg_i c])) {a t u : Nat} {ps : List sg_V} (ha : h.2 a = some (t, sg_r u :: sg_i 0 :: ps)) (ht : t % 200 = 0) (hQ : Q (.inl none) h) : sg_C w mi_J5_inflateIfNeededFor_a7421 d 0 0 [sg_r b, sg_r a] h Q := by
  refine sg_of pn_J5 (Nat.le_of_ble_eq_true rfl) ?_
  refine sg_gets (v := sg_i 1) (pc := 0) g (dc_J5_inflateIfNeededFor_a7421_0.1.1.1.1) hJ ⟨1, rfl, rfl⟩ kl_J5_18 ?_
  refine sg_if_eq (pc := 3) (tgt := 21) (dc_J5_inflateIfNeededFor_a7421_0.1.1.1.2) (by decide) (fun cu => absurd cu (by omega)) (fun cu => ?_)
  refine sg_aload_n (pc := 6) (j := 0) (dc_J5_inflateIfNeededFor_a7421_0.1.1.2.1) rfl rfl ?_
  refine sg_getf (pc := 7) g (dc_J5_inflateIfNeededFor_a7421_0.1.1.2.2) fk_J5_22 hb rfl rfl ?_
  refine sg_aload_n (pc := 10) (j := 1) (dc_J5_inflateIfNeededFor_a7421_0.1.2.1.1) rfl rfl ?_
  refine sg_callV (q := (RJ0, TJ0, 4)) (as := []) (d' := d - 1) (mc' := 0) (ms' := 0) (pc := 11) g (dc_J5_inflateIfNeededFor_a7421_0.1.2.1.2) cb_J0_coder_7d493 ml_J5_40 mn_J0_coder_7d493 mv_J0_coder_7d493 (by rw [ht]; rfl) (by omega) rfl ha rfl (Nat.le_of_ble_eq_true rfl) (by omega) (by omega) (by omega) ?_
  refine s_coder g (by first | exact jl_d1 hd rfl | omega) hJ ha ht ?_
  refine sg_K1 ?_
  refine sg_icmp_eq (pc := 14) (tgt := 21) (dc_J5_inflateIfNeededFor_a7421_0.1.2.2.1) (by decide) (fun cu => ?_) (fun cu => absurd cu (by omega))
  refine sg_vret (pc := 21) (dc_J5_inflateIfNeededFor_a7421_0.2.1.1.2) rfl (by first | exact Nat.le_of_ble_eq_true rfl | omega) (by first | exact Nat.le_of_ble_eq_true rfl | omega) ?_
  exact hQ

set_option maxRecDepth 100000 in
theorem s_put {w : sg_W} {Q : sg_O → sg_H → Prop} {h : sg_H} (g : sg_G w) {d : Nat} (hd : 3 ≤ d) (hJ : jz w) {b v : Nat} {c x : Int} (hb : h.2 b = some (1, [sg_r v, sg_i 0, sg_i x, sg_i c])) {a t u : Nat} {ps : List sg_V} (ha : h.2 a = some (t, sg_r u :: sg_i 0 :: ps)) (ht : t % 200 = 0) {tu : Nat} {us : List sg_V} (hu : h.2 u = some (tu, us)) (htu : tu % 200 = 102) (hul : us.length ≤ 1000) (huy : jy us) {xs : List sg_V} (hv : h.2 v = some (102, xs)) (hl : xs.length ≤ 2000) {z : Int} (z0 : 0 ≤ z) (z1 : z + (us.length : Int) ≤ (xs.length : Int)) (hQ : Q (.inl none) (h.1, sg_up h.2 v (102, sg_cp us xs 0 z.toNat us.length))) : sg_C w mi_J5_putStringAt_47b60 d 0 0 [sg_r b, sg_i z, sg_r a] h Q := by
  refine sg_of pn_J5 (Nat.le_of_ble_eq_true rfl) ?_
  refine sg_aload_n (pc := 0) (j := 0) (dc_J5_putStringAt_47b60_0.1.1.1.1) rfl rfl ?_
  refine sg_aload_n (pc := 1) (j := 2) (dc_J5_putStringAt_47b60_0.1.1.1.2) rfl rfl ?_
  refine sg_cP1 (pc := 2) (d' := d - 1) (mc' := 0) (ms' := 0) g (dc_J5_putStringAt_47b60_0.1.1.2.1) cb_J5_inflateIfNeededFor_a7421 ml_J5_397 mn_J5_inflateIfNeededFor_a7421 (sl_J5_inflateIfNeededFor_a7421 g) hb (Nat.le_of_ble_eq_true rfl) rfl (Nat.le_of_ble_eq_true rfl) (by first | exact jl_d0 hd rfl | omega) (by first | exact Nat.le_of_ble_eq_true rfl | omega) (by first | exact Nat.le_of_ble_eq_true rfl | omega) ?_
  refine s_infl g (by first | exact jl_d1 hd rfl | omega) hJ hb ha ht ?_
  refine sg_K0 ?_
  refine sg_aload_n (pc := 5) (j := 2) (dc_J5_putStringAt_47b60_0.1.1.2.2) rfl rfl ?_
  refine sg_aload_n (pc := 6) (j := 0) (dc_J5_putStringAt_47b60_0.1.2.1.1) rfl rfl ?_
  refine sg_getf (pc := 7) g (dc_J5_putStringAt_47b60_0.1.2.1.2) fk_J5_15 hb rfl rfl ?_
  refine sg_iload_n (pc := 10) (j := 1) (dc_J5_putStringAt_47b60_0.1.2.2.1) rfl rfl ?_
  refine sg_aload_n (pc := 11) (j := 0) (dc_J5_putStringAt_47b60_0.1.2.2.2) rfl rfl ?_
  refine sg_getf (pc := 12) g (dc_J5_putStringAt_47b60_0.2.1.1.1) fk_J5_22 hb rfl rfl ?_
  refine sg_callV (q := (RJ0, TJ0, 4)) (as := [sg_r v, sg_i z, sg_i 0]) (d' := d - 1) (mc' := 0) (ms' := 0) (pc := 15) g (dc_J5_putStringAt_47b60_0.2.1.1.2) cb_J0_getBytes_840e7 ml_J5_399 mn_J0_getBytes_840e7 mv_J0_getBytes_840e7 (by rw [ht]; rfl) (by omega) rfl ha rfl (Nat.le_of_ble_eq_true rfl) (by omega) (by omega) (by omega) ?_
  refine s_getBytes g (by first | exact jl_d1 hd rfl | omega) hJ ha ht hu htu hul huy hv z0 z1 hl ?_
  refine sg_K0 ?_
  try dsimp only
  refine sg_vret (pc := 18) (dc_J5_putStringAt_47b60_0.2.1.2.1) rfl (by first | exact Nat.le_of_ble_eq_true rfl | omega) (by first | exact Nat.le_of_ble_eq_true rfl | omega) ?_
  exact hQ

set_option maxRecDepth 100000 in
theorem s_apS {w : sg_W} {Q : sg_O → sg_H → Prop} {h : sg_H} (g : sg_G w) {d : Nat} (hd : 6 ≤ d) (hJ : jz w) {h0 : sg_H} {b cap cap' m1 s1 : Nat} {c : Int} (hB : jb_B h0 h b cap c) {n : Nat} {a : Nat} (hS : js_S h0 a n) (hc : jb_c (c + (n : Int)).toNat cap cap' m1 s1) (hc2 : cap' ≤ 1000) (hQ : ∀ h' : sg_H, jb_B h0 h' b cap' (c + (n : Int)) → Q (.inl (some (sg_r b))) h') : sg_C w mi_J5_append_cf1ce d m1 s1 [sg_r b, sg_r a] h Q := by
  refine sg_of pn_J5 (Nat.le_of_ble_eq_true rfl) ?_
  have hB0 := hB
  obtain ⟨b0, E, c0, c1, c2, v, xs, x, v0, hb, hv, hl, hy⟩ := hB
  have hS0 := hS
  obtain ⟨hS1, t, u, ps, ha0, ht, hu1, tu, us, hu0, htu, hul, huy⟩ := hS
  have ha := (E.2 a hS1).trans ha0
  have hu := (E.2 u hu1).trans hu0
  have hn : n ≤ 1000 := by unfold jb_c at hc; omega
  have hc9 : c + (n : Int) ≤ (cap' : Int) := by unfold jb_c at hc; omega
  subst hul
  replace hB := hB0
  refine sg_aload_n (pc := 0) (j := 1) (dc_J5_append_cf1ce_0.1.1.1.1) rfl rfl ?_
  refine sg_ifnonnull (pc := 1) (tgt := 9) (dc_J5_append_cf1ce_0.1.1.1.2) (by decide) ?_
  refine sg_aload_n (pc := 9) (j := 1) (dc_J5_append_cf1ce_0.1.2.1.2) rfl rfl ?_
  refine sg_callV (q := (RJ0, TJ0, 4)) (as := []) (d' := d - 1) (mc' := 0) (ms' := 0) (pc := 10) g (dc_J5_append_cf1ce_0.1.2.2.1) cb_J0_length_8abf5 ml_J5_32 mn_J0_length_8abf5 mv_J0_length_8abf5 (by rw [ht]; rfl) (by omega) rfl ha rfl (Nat.le_of_ble_eq_true rfl) (by omega) (by omega) (by omega) ?_
  refine s_strlen g (by first | exact jl_d1 hd rfl | omega) hJ ha ht hu htu (by omega) ?_
  refine sg_K1 ?_
  refine sg_istore_n (pc := 13) (j := 2) (dc_J5_append_cf1ce_0.1.2.2.2) rfl (by decide) ?_
  refine sg_aload_n (pc := 14) (j := 0) (dc_J5_append_cf1ce_0.2.1.1.1) rfl rfl ?_
  refine sg_aload_n (pc := 15) (j := 0) (dc_J5_append_cf1ce_0.2.1.1.2) rfl rfl ?_
  refine sg_getf (pc := 16) g (dc_J5_append_cf1ce_0.2.1.2.1) fk_J5_79 hb rfl rfl ?_
  refine sg_iload_n (pc := 19) (j := 2) (dc_J5_append_cf1ce_0.2.1.2.2) rfl rfl ?_
  first | refine sg_iaddB (pc := 20) (dc_J5_append_cf1ce_0.2.2.1.1) (by omega) (by omega) ?_ | refine sg_iadd (pc := 20) (dc_J5_append_cf1ce_0.2.2.1.1) ?_
  refine sg_cP1 (pc := 21) (d' := d - 1) (mc' := m1) (ms' := s1) g (dc_J5_append_cf1ce_0.2.2.1.2) cb_J5_ensureCapacityInternal_d00df ml_J5_100 mn_J5_ensureCapacityInternal_d00df (sl_J5_ensureCapacityInternal_d00df g) (by first | assumption | (repeat (first | with_reducible exact sg_up_s | with_reducible refine (sg_up_n (by omega)).trans ?_)) <;> assumption) (Nat.le_of_ble_eq_true rfl) rfl (Nat.le_of_ble_eq_true rfl) (by first | exact jl_d0 hd rfl | omega) (by first | exact Nat.le_of_ble_eq_true rfl | omega) (by first | exact Nat.le_of_ble_eq_true rfl | omega) ?_
  refine s_ens g (by first | exact jl_d1 hd rfl | omega) hB hc hc2 (by omega) (fun h1 hB1 => ?_)
  refine sg_K0 ?_
  obtain ⟨-, E1, c01, c11, c21, v1, xs1, x1, v01, hb1, hv1, hl1, hy1⟩ := hB1
  refine sg_aload_n (pc := 24) (j := 0) (dc_J5_append_cf1ce_0.2.2.2.1) rfl rfl ?_
  refine sg_aload_n (pc := 25) (j := 0) (dc_J5_append_cf1ce_0.2.2.2.2) rfl rfl ?_
  refine sg_getf (pc := 26) g (dc_J5_append_cf1ce_26.1.1.1.1) fk_J5_79 hb1 rfl rfl ?_
  refine sg_aload_n (pc := 29) (j := 1) (dc_J5_append_cf1ce_26.1.1.1.2) rfl rfl ?_
  refine sg_cP2 (pc := 30) (d' := d - 1) (mc' := 0) (ms' := 0) g (dc_J5_append_cf1ce_26.1.1.2.1) cb_J5_putStringAt_47b60 ml_J5_208 mn_J5_putStringAt_47b60 (sl_J5_putStringAt_47b60 g) hb1 (Nat.le_of_ble_eq_true rfl) rfl (Nat.le_of_ble_eq_true rfl) (by first | exact jl_d0 hd rfl | omega) (by first | exact Nat.le_of_ble_eq_true rfl | omega) (by first | exact Nat.le_of_ble_eq_true rfl | omega) ?_
  refine s_put g (by first | exact jl_d1 hd rfl | omega) hJ hb1 ((E1.2 a hS1).trans ha0) ht ((E1.2 u hu1).trans hu0) htu (by omega) huy hv1 (by omega) (by omega) (by omega) ?_
  refine sg_K0 ?_
  try dsimp only
  refine sg_aload_n (pc := 33) (j := 0) (dc_J5_append_cf1ce_26.1.1.2.2) rfl rfl ?_
  refine sg_dup (pc := 34) (dc_J5_append_cf1ce_26.1.2.1.1) rfl ?_
  refine sg_getf (pc := 35) g (dc_J5_append_cf1ce_26.1.2.1.2) fk_J5_79 ((sg_up_n (fun q => by rw [q, hv1] at hb1; cases hb1)).trans hb1) rfl rfl ?_
  refine sg_iload_n (pc := 38) (j := 2) (dc_J5_append_cf1ce_26.1.2.2.1) rfl rfl ?_
  first | refine sg_iaddB (pc := 39) (dc_J5_append_cf1ce_26.1.2.2.2) (by omega) (by omega) ?_ | refine sg_iadd (pc := 39) (dc_J5_append_cf1ce_26.1.2.2.2) ?_
  refine sg_putf (pc := 40) g (dc_J5_append_cf1ce_26.2.1.1.1) fk_J5_79 ((sg_up_n (fun q => by rw [q, hv1] at hb1; cases hb1)).trans hb1) sg_ft_i ?_
  try dsimp only
  refine sg_aload_n (pc := 43) (j := 0) (dc_J5_append_cf1ce_26.2.1.1.2) rfl rfl ?_
  refine sg_aret (pc := 44) (dc_J5_append_cf1ce_26.2.1.2.1) rfl (by first | exact Or.inl ⟨_, rfl⟩ | exact Or.inr ⟨_, rfl⟩) (by first | exact Nat.le_of_ble_eq_true rfl | omega) (by first | exact Nat.le_of_ble_eq_true rfl | omega) ?_
  refine hQ _ ⟨b0, ⟨E1.1, fun q hq => ?_⟩, by omega, by omega, by omega, v1, sg_cp us xs1 0 c.toNat us.length, x1, v01, sg_up_s, ?_, ?_, ?_⟩
  · (repeat (with_reducible refine (sg_up_n (by omega)).trans ?_))
    exact E1.2 q hq
  · refine (sg_up_n (fun q => by rw [q, hb1] at hv1; cases hv1)).trans ?_
    exact sg_up_s
  · rw [sg_cp_len]; exact hl1
  · exact jy_cp huy hy1 (by omega)

set_option maxRecDepth 100000 in
theorem s_apS4 {w : sg_W} {Q : sg_O → sg_H → Prop} {h : sg_H} (g : sg_G w) {d : Nat} (hd : 7 ≤ d) (hJ : jz w) {h0 : sg_H} {b cap cap' m1 s1 : Nat} {c : Int} (hB : jb_B h0 h b cap c) {n : Nat} {a : Nat} (hS : js_S h0 a n) (hc : jb_c (c + (n : Int)).toNat cap cap' m1 s1) (hc2 : cap' ≤ 1000) (hQ : ∀ h' : sg_H, jb_B h0 h' b cap' (c + (n : Int)) → Q (.inl (some (sg_r b))) h') : sg_C w mi_J4_append_15ec4 d m1 s1 [sg_r b, sg_r a] h Q := by
  refine sg_of pn_J4 (Nat.le_of_ble_eq_true rfl) ?_
  obtain ⟨v, x, hb⟩ : ∃ (v : Nat) (x : Int), h.2 b = some (1, [sg_r v, sg_i 0, sg_i x, sg_i c]) := by obtain ⟨b0, E, c0, c1, c2, v, xs, x, v0, hb, -⟩ := hB; exact ⟨v, x, hb⟩
  refine sg_aload_n (pc := 0) (j := 0) (dc_J4_append_15ec4_0.1.1.1) rfl rfl ?_
  refine sg_aload_n (pc := 1) (j := 1) (dc_J4_append_15ec4_0.1.1.2) rfl rfl ?_
  refine sg_cU1 (pc := 2) (d' := d - 1) (mc' := m1) (ms' := s1) g (dc_J4_append_15ec4_0.1.2.1) cb_J5_append_cf1ce ml_J4_29 mn_J5_append_cf1ce mq_J5_append_cf1ce su_J4 (by decide +kernel) hb (Nat.le_of_ble_eq_true rfl) rfl (Nat.le_of_ble_eq_true rfl) (by first | exact jl_d0 hd rfl | omega) (by first | exact Nat.le_of_ble_eq_true rfl | omega) (by first | exact Nat.le_of_ble_eq_true rfl | omega) ?_
  refine s_apS g (by first | exact jl_d1 hd rfl | omega) hJ hB hS hc hc2 (fun h1 hB1 => ?_)
  refine sg_K1 ?_
  refine sg_pop (pc := 5) (dc_J4_append_15ec4_0.1.2.2) rfl ?_
  refine sg_aload_n (pc := 6) (j := 0) (dc_J4_append_15ec4_0.2.1.1) rfl rfl ?_
  refine sg_aret (pc := 7) (dc_J4_append_15ec4_0.2.1.2) rfl (by first | exact Or.inl ⟨_, rfl⟩ | exact Or.inr ⟨_, rfl⟩) (by first | exact Nat.le_of_ble_eq_true rfl | omega) (by first | exact Nat.le_of_ble_eq_true rfl | omega) ?_
  exact hQ h1 hB1

set_option maxRecDepth 100000 in
theorem s_apC {w : sg_W} {Q : sg_O → sg_H → Prop} {h : sg_H} (g : sg_G w) {d : Nat} (hd : 6 ≤ d) (hJ : jz w) {h0 : sg_H} {b cap cap' m1 s1 : Nat} {c : Int} (hB : jb_B h0 h b cap c) {z : Int} (z0 : 0 ≤ z) (z1 : z ≤ 255) (hc : jb_c (c + 1).toNat cap cap' m1 s1) (hc2 : cap' ≤ 1000) (hQ : ∀ h' : sg_H, jb_B h0 h' b cap' (c + 1) → Q (.inl (some (sg_r b))) h') : sg_C w mi_J5_append_3fe6f d m1 s1 [sg_r b, sg_i z] h Q := by
  refine sg_of pn_J5 (Nat.le_of_ble_eq_true rfl) ?_
  have hB0 := hB
  obtain ⟨b0, E, c0, c1, c2, v, xs, x, v0, hb, hv, hl, hy⟩ := hB
  have hc9 : c + 1 ≤ (cap' : Int) := by unfold jb_c at hc; omega
  replace hB := hB0
  refine sg_aload_n (pc := 0) (j := 0) (dc_J5_append_3fe6f_0.1.1.1.1) rfl rfl ?_
  refine sg_aload_n (pc := 1) (j := 0) (dc_J5_append_3fe6f_0.1.1.1.2) rfl rfl ?_
  refine sg_getf (pc := 2) g (dc_J5_append_3fe6f_0.1.1.2.1) fk_J5_79 hb rfl rfl ?_
  refine sg_iconst (pc := 5) (z := 1) (dc_J5_append_3fe6f_0.1.1.2.2) (by decide) ?_
  first | refine sg_iaddB (pc := 6) (dc_J5_append_3fe6f_0.1.2.1.1) (by omega) (by omega) ?_ | refine sg_iadd (pc := 6) (dc_J5_append_3fe6f_0.1.2.1.1) ?_
  refine sg_cP1 (pc := 7) (d' := d - 1) (mc' := m1) (ms' := s1) g (dc_J5_append_3fe6f_0.1.2.1.2) cb_J5_ensureCapacityInternal_d00df ml_J5_100 mn_J5_ensureCapacityInternal_d00df (sl_J5_ensureCapacityInternal_d00df g) (by first | assumption | (repeat (first | with_reducible exact sg_up_s | with_reducible refine (sg_up_n (by omega)).trans ?_)) <;> assumption) (Nat.le_of_ble_eq_true rfl) rfl (Nat.le_of_ble_eq_true rfl) (by first | exact jl_d0 hd rfl | omega) (by first | exact Nat.le_of_ble_eq_true rfl | omega) (by first | exact Nat.le_of_ble_eq_true rfl | omega) ?_
  refine s_ens g (by first | exact jl_d1 hd rfl | omega) hB hc hc2 (by omega) (fun h1 hB1 => ?_)
  refine sg_K0 ?_
  obtain ⟨-, E1, c01, c11, c21, v1, xs1, x1, v01, hb1, hv1, hl1, hy1⟩ := hB1
  refine sg_aload_n (pc := 10) (j := 0) (dc_J5_append_3fe6f_0.1.2.2.1) rfl rfl ?_
  refine sg_cV0 (pc := 11) (d' := d - 1) (mc' := 0) (ms' := 0) g (dc_J5_append_3fe6f_0.1.2.2.2) cb_J5_isLatin1_aae02 ml_J5_83 mn_J5_isLatin1_aae02 mv_J5_isLatin1_aae02 hb1 (Nat.le_of_ble_eq_true rfl) rfl (Nat.le_of_ble_eq_true rfl) (by first | exact jl_d0 hd rfl | omega) (by first | exact Nat.le_of_ble_eq_true rfl | omega) (by first | exact Nat.le_of_ble_eq_true rfl | omega) ?_
  refine s_isLatin1 g (by first | exact jl_d1 hd rfl | omega) hJ hb1 ?_
  refine sg_K1 ?_
  refine sg_if_eq (pc := 14) (tgt := 45) (dc_J5_append_3fe6f_0.2.1.1.1) (by decide) (fun cu => absurd cu (by omega)) (fun cu => ?_)
  refine sg_iload_n (pc := 17) (j := 1) (dc_J5_append_3fe6f_0.2.1.1.2) rfl rfl ?_
  refine sg_cS1 (pc := 18) (d' := d - 1) (mc' := 0) (ms' := 0) g (dc_J5_append_3fe6f_0.2.1.2.1) cb_J1_canEncode_fc78d ml_J5_191 ms_J1_canEncode_fc78d (Nat.le_of_ble_eq_true rfl) (by first | exact jl_d0 hd rfl | omega) (by first | exact Nat.le_of_ble_eq_true rfl | omega) (by first | exact Nat.le_of_ble_eq_true rfl | omega) ?_
  refine s_canEncode g (by first | exact jl_d1 hd rfl | omega) z0 z1 ?_
  refine sg_K1 ?_
  refine sg_if_eq (pc := 21) (tgt := 45) (dc_J5_append_3fe6f_0.2.1.2.2) (by decide) (fun cu => absurd cu (by omega)) (fun cu => ?_)
  refine sg_aload_n (pc := 24) (j := 0) (dc_J5_append_3fe6f_0.2.2.1.1) rfl rfl ?_
  refine sg_getf (pc := 25) g (dc_J5_append_3fe6f_0.2.2.1.2) fk_J5_15 hb1 rfl rfl ?_
  refine sg_aload_n (pc := 28) (j := 0) (dc_J5_append_3fe6f_0.2.2.2.1) rfl rfl ?_
  refine sg_dup (pc := 29) (dc_J5_append_3fe6f_0.2.2.2.2) rfl ?_
  refine sg_getf (pc := 30) g (dc_J5_append_3fe6f_30.1.1.1.1) fk_J5_79 hb1 rfl rfl ?_
  refine sg_dup_x1 (pc := 33) (dc_J5_append_3fe6f_30.1.1.1.2) rfl rfl ?_
  refine sg_iconst (pc := 34) (z := 1) (dc_J5_append_3fe6f_30.1.1.2.1) (by decide) ?_
  first | refine sg_iaddB (pc := 35) (dc_J5_append_3fe6f_30.1.1.2.2) (by omega) (by omega) ?_ | refine sg_iadd (pc := 35) (dc_J5_append_3fe6f_30.1.1.2.2) ?_
  refine sg_putf (pc := 36) g (dc_J5_append_3fe6f_30.1.2.1.1) fk_J5_79 hb1 sg_ft_i ?_
  try dsimp only
  refine sg_iload_n (pc := 39) (j := 1) (dc_J5_append_3fe6f_30.1.2.1.2) rfl rfl ?_
  refine sg_i2b (pc := 40) (dc_J5_append_3fe6f_30.1.2.2.1) ?_
  refine sg_bast (pc := 41) (dc_J5_append_3fe6f_30.1.2.2.2) ((sg_up_n (fun q => by rw [q, hb1] at hv1; cases hv1)).trans hv1) (by omega) (by omega) ?_
  try dsimp only
  refine sg_goto (pc := 42) (tgt := 75) (dc_J5_append_3fe6f_30.2.1.1.1) (by decide) ?_
  refine sg_aload_n (pc := 75) (j := 0) (dc_J5_append_3fe6f_60.2.1.1.2) rfl rfl ?_
  refine sg_aret (pc := 76) (dc_J5_append_3fe6f_60.2.1.2.1) rfl (by first | exact Or.inl ⟨_, rfl⟩ | exact Or.inr ⟨_, rfl⟩) (by first | exact Nat.le_of_ble_eq_true rfl | omega) (by first | exact Nat.le_of_ble_eq_true rfl | omega) ?_
  refine hQ _ ⟨b0, ⟨E1.1, fun q hq => ?_⟩, by omega, by omega, by omega, v1, _, x1, v01, ?_, sg_up_s, ?_, jy_set hy1⟩
  · (repeat (with_reducible refine (sg_up_n (by omega)).trans ?_))
    exact E1.2 q hq
  · refine (sg_up_n (fun q => by rw [q, hv1] at hb1; cases hb1)).trans ?_
    exact sg_up_s
  · rw [List.length_set]; exact hl1

set_option maxRecDepth 100000 in
theorem s_apC4 {w : sg_W} {Q : sg_O → sg_H → Prop} {h : sg_H} (g : sg_G w) {d : Nat} (hd : 7 ≤ d) (hJ : jz w) {h0 : sg_H} {b cap cap' m1 s1 : Nat} {c : Int} (hB : jb_B h0 h b cap c) {z : Int} (z0 : 0 ≤ z) (z1 : z ≤ 255) (hc : jb_c (c + 1).toNat cap cap' m1 s1) (hc2 : cap' ≤ 1000) (hQ : ∀ h' : sg_H, jb_B h0 h' b cap' (c + 1) → Q (.inl (some (sg_r b))) h') : sg_C w mi_J4_append_cf468 d m1 s1 [sg_r b, sg_i z] h Q := by
  refine sg_of pn_J4 (Nat.le_of_ble_eq_true rfl) ?_
  obtain ⟨v, x, hb⟩ : ∃ (v : Nat) (x : Int), h.2 b = some (1, [sg_r v, sg_i 0, sg_i x, sg_i c]) := by obtain ⟨b0, E, c0, c1, c2, v, xs, x, v0, hb, -⟩ := hB; exact ⟨v, x, hb⟩
  refine sg_aload_n (pc := 0) (j := 0) (dc_J4_append_cf468_0.1.1.1) rfl rfl ?_
  refine sg_iload_n (pc := 1) (j := 1) (dc_J4_append_cf468_0.1.1.2) rfl rfl ?_
  refine sg_cU1 (pc := 2) (d' := d - 1) (mc' := m1) (ms' := s1) g (dc_J4_append_cf468_0.1.2.1) cb_J5_append_3fe6f ml_J4_50 mn_J5_append_3fe6f mq_J5_append_3fe6f su_J4 (by decide +kernel) hb (Nat.le_of_ble_eq_true rfl) rfl (Nat.le_of_ble_eq_true rfl) (by first | exact jl_d0 hd rfl | omega) (by first | exact Nat.le_of_ble_eq_true rfl | omega) (by first | exact Nat.le_of_ble_eq_true rfl | omega) ?_
  refine s_apC g (by first | exact jl_d1 hd rfl | omega) hJ hB z0 z1 hc hc2 (fun h1 hB1 => ?_)
  refine sg_K1 ?_
  refine sg_pop (pc := 5) (dc_J4_append_cf468_0.1.2.2) rfl ?_
  refine sg_aload_n (pc := 6) (j := 0) (dc_J4_append_cf468_0.2.1.1) rfl rfl ?_
  refine sg_aret (pc := 7) (dc_J4_append_cf468_0.2.1.2) rfl (by first | exact Or.inl ⟨_, rfl⟩ | exact Or.inr ⟨_, rfl⟩) (by first | exact Nat.le_of_ble_eq_true rfl | omega) (by first | exact Nat.le_of_ble_eq_true rfl | omega) ?_
  exact hQ h1 hB1

set_option maxRecDepth 100000 in
theorem s_Sib {w : sg_W} {Q : sg_O → sg_H → Prop} {h : sg_H} (g : sg_G w) {d : Nat} (hd : 4 ≤ d) (hJ : jz w) {a : Nat} {p q : sg_V} (ha : h.2 a = some (0, [sg_n, sg_i 0, p, q])) {h0 : sg_H} {b cap n : Nat} (hB : jb_B h0 h b cap (n : Int)) (hQ : ∀ f : Nat → Option sg_E, f a = some (0, [sg_r h.1, sg_i 0, p, q]) → (∃ ys, f h.1 = some (102, ys) ∧ ys.length = n ∧ jy ys) → (∀ q, q ≠ a → q ≠ h.1 → f q = h.2 q) → Q (.inl none) (h.1 + 1, f)) : sg_C w mi_J0_init_db425 d 1 n [sg_r a, sg_r b, sg_n] h Q := by
  refine sg_of pn_J0 (Nat.le_of_ble_eq_true rfl) ?_
  refine sg_frs (fun hf => ?_)
  obtain ⟨b0, E, c0, c1, c2, v, xs, x, v0, hb, hv, hl, hy⟩ := hB
  have hal := hf _ _ ha
  have nva : v ≠ a := fun q => by rw [q, ha] at hv; cases hv
  refine sg_aload_n (pc := 0) (j := 0) (dc_J0_init_db425_0.1.1.1.1) rfl rfl ?_
  refine sg_objInit (pc := 1) g (dc_J0_init_db425_0.1.1.1.2) mo_J0_1 mo_in mo_co (Nat.le_of_ble_eq_true rfl) (by omega) ?_
  refine sg_aload_n (pc := 4) (j := 1) (dc_J0_init_db425_0.1.1.2.1) rfl rfl ?_
  refine sg_cV0 (pc := 5) (d' := d - 1) (mc' := 0) (ms' := 0) g (dc_J0_init_db425_0.1.1.2.2) cb_J5_getValue_6d5f1 ml_J0_552 mn_J5_getValue_6d5f1 mv_J5_getValue_6d5f1 hb (Nat.le_of_ble_eq_true rfl) rfl (Nat.le_of_ble_eq_true rfl) (by first | exact jl_d0 hd rfl | omega) (by first | exact Nat.le_of_ble_eq_true rfl | omega) (by first | exact Nat.le_of_ble_eq_true rfl | omega) ?_
  refine s_getValue g (by first | exact jl_d1 hd rfl | omega) hb ?_
  refine sg_K1 ?_
  refine sg_astore_n (pc := 8) (j := 3) (dc_J0_init_db425_0.1.2.1.1) rfl (by decide) ?_
  refine sg_aload_n (pc := 9) (j := 1) (dc_J0_init_db425_0.1.2.1.2) rfl rfl ?_
  refine sg_callU (x := yJ5_length_8abf5) (mi' := mi_J4_length_8abf5) (as := []) (d' := d - 1) (mc' := 0) (ms' := 0) (pc := 10) (q := (RJ4, TJ4, 4)) g (dc_J0_init_db425_0.1.2.2.1) cb_J4_length_8abf5 ml_J0_549 mq_J5_length_8abf5 mn_J5_length_8abf5 cb_J5_length_8abf5.1 ⟨⟨by decide +kernel, by decide +kernel⟩, by decide +kernel⟩ mn_J4_length_8abf5 mw_J5_length_8abf5 rfl (Nat.le_of_ble_eq_true rfl) rfl hb rfl (Nat.le_of_ble_eq_true rfl) (by omega) (by omega) (by omega) ?_
  refine s_blen2 g (by first | exact jl_d1 hd rfl | omega) hb ?_
  refine sg_K1 ?_
  refine sg_istore (pc := 13) (dc_J0_init_db425_0.1.2.2.2) (by decide) ?_
  refine sg_aload_n (pc := 15) (j := 1) (dc_J0_init_db425_0.2.1.1.1) rfl rfl ?_
  refine sg_cV0 (pc := 16) (d' := d - 1) (mc' := 0) (ms' := 0) g (dc_J0_init_db425_0.2.1.1.2) cb_J5_isLatin1_aae02 ml_J0_1047 mn_J5_isLatin1_aae02 mv_J5_isLatin1_aae02 hb (Nat.le_of_ble_eq_true rfl) rfl (Nat.le_of_ble_eq_true rfl) (by first | exact jl_d0 hd rfl | omega) (by first | exact Nat.le_of_ble_eq_true rfl | omega) (by first | exact Nat.le_of_ble_eq_true rfl | omega) ?_
  refine s_isLatin1 g (by first | exact jl_d1 hd rfl | omega) hJ hb ?_
  refine sg_K1 ?_
  refine sg_if_eq (pc := 19) (tgt := 41) (dc_J0_init_db425_0.2.1.2.1) (by decide) (fun cu => absurd cu (by omega)) (fun cu => ?_)
  refine sg_aload_n (pc := 22) (j := 0) (dc_J0_init_db425_0.2.1.2.2) rfl rfl ?_
  refine sg_iconst (pc := 23) (z := 0) (dc_J0_init_db425_0.2.2.1.1) (by decide) ?_
  refine sg_putF (pc := 24) g (dc_J0_init_db425_0.2.2.1.2) fk_J0_15 rfl ha sg_ft_b0 ?_
  try dsimp only
  refine sg_aload_n (pc := 27) (j := 0) (dc_J0_init_db425_0.2.2.2.1) rfl rfl ?_
  refine sg_aload_n (pc := 28) (j := 3) (dc_J0_init_db425_0.2.2.2.2) rfl rfl ?_
  refine sg_iconst (pc := 29) (z := 0) (dc_J0_init_db425_29.1.1.1.1) (by decide) ?_
  refine sg_iload (pc := 30) (dc_J0_init_db425_29.1.1.1.2) rfl ?_
  refine sg_cS3 (pc := 32) (d' := d - 1) (mc' := 1) (ms' := n) g (dc_J0_init_db425_29.1.1.2.1) cb_J7_copyOfRange_39247 ml_J0_54 ms_J7_copyOfRange_39247 (Nat.le_of_ble_eq_true rfl) (by first | exact jl_d0 hd rfl | omega) (by first | exact Nat.le_of_ble_eq_true rfl | omega) (by first | exact Nat.le_of_ble_eq_true rfl | omega) ?_
  refine s_cr (N := n) g (by first | exact jl_d1 hd rfl | omega) ((sg_up_n nva).trans hv) (by omega) hy rfl (by omega) (fun f ys y1 y2 y3 y4 => ?_)
  refine sg_K1 ?_
  try dsimp only
  refine sg_putF (pc := 35) g (dc_J0_init_db425_29.1.1.2.2) fk_J0_9 rfl ((y4 a (by omega)).trans sg_up_s) sg_ft_a ?_
  try dsimp only
  refine sg_goto (pc := 38) (tgt := 97) (dc_J0_init_db425_29.1.2.1.1) (by decide) ?_
  refine sg_vret (pc := 97) (dc_J0_init_db425_91.2.1) rfl (by first | exact Nat.le_of_ble_eq_true rfl | omega) (by first | exact Nat.le_of_ble_eq_true rfl | omega) ?_
  refine hQ _ sg_up_s ⟨ys, (sg_up_n (by omega)).trans y3, y1, y2⟩ (fun q h1 h2 => ?_)
  refine (sg_up_n h1).trans ((y4 q h2).trans (sg_up_n h1))

set_option maxRecDepth 100000 in
theorem s_Si {w : sg_W} {Q : sg_O → sg_H → Prop} {h : sg_H} (g : sg_G w) {d : Nat} (hd : 5 ≤ d) (hJ : jz w) {a : Nat} {p q : sg_V} (ha : h.2 a = some (0, [sg_n, sg_i 0, p, q])) {h0 : sg_H} {b cap n : Nat} (hB : jb_B h0 h b cap (n : Int)) (hQ : ∀ f : Nat → Option sg_E, f a = some (0, [sg_r h.1, sg_i 0, p, q]) → (∃ ys, f h.1 = some (102, ys) ∧ ys.length = n ∧ jy ys) → (∀ q, q ≠ a → q ≠ h.1 → f q = h.2 q) → Q (.inl none) (h.1 + 1, f)) : sg_C w mi_J0_init_81219 d 1 n [sg_r a, sg_r b] h Q := by
  refine sg_of pn_J0 (Nat.le_of_ble_eq_true rfl) ?_
  refine sg_aload_n (pc := 0) (j := 0) (dc_J0_init_81219_0.1.1.1) rfl rfl ?_
  refine sg_aload_n (pc := 1) (j := 1) (dc_J0_init_81219_0.1.1.2) rfl rfl ?_
  refine sg_null (pc := 2) (dc_J0_init_81219_0.1.2.1) ?_
  refine sg_cI2 (pc := 3) (d' := d - 1) (mc' := 1) (ms' := n) g (dc_J0_init_81219_0.1.2.2) cb_J0_init_db425 rfl rfl ml_J0_489 mn_J0_init_db425 (Nat.le_of_ble_eq_true rfl) (by first | exact jl_d0 hd rfl | omega) (by first | exact Nat.le_of_ble_eq_true rfl | omega) (by first | exact Nat.le_of_ble_eq_true rfl | omega) ?_
  refine s_Sib g (by first | exact jl_d1 hd rfl | omega) hJ ha hB (fun f f1 f2 f3 => ?_)
  refine sg_K0 ?_
  refine sg_vret (pc := 6) (dc_J0_init_81219_0.2.1.1) rfl (by first | exact Nat.le_of_ble_eq_true rfl | omega) (by first | exact Nat.le_of_ble_eq_true rfl | omega) ?_
  exact hQ f f1 f2 f3

set_option maxRecDepth 100000 in
theorem s_toS {w : sg_W} {Q : sg_O → sg_H → Prop} {h : sg_H} (g : sg_G w) {d : Nat} (hd : 6 ≤ d) (hJ : jz w) {h0 : sg_H} {b cap n : Nat} (hB : jb_B h0 h b cap (n : Int)) (hQ : ∀ (h' : sg_H) (a : Nat), md_E h0 h' → js_S h' a n → Q (.inl (some (sg_r a))) h') : sg_C w mi_J4_toString_0e30d d 2 (n + 4) [sg_r b] h Q := by
  refine sg_of pn_J4 (Nat.le_of_ble_eq_true rfl) ?_
  refine sg_frs (fun hf => ?_)
  have hB0 := hB
  obtain ⟨b0, E, c0, c1, c2, v, xs, x, v0, hb, hv, hl, hy⟩ := hB
  have hbl := hf _ _ hb
  have hvl := hf _ _ hv
  have hB2 : jb_B h0 (h.1 + 1, sg_up h.2 h.1 (0, [sg_n, sg_i 0, sg_i 0, sg_i 0])) b cap (n : Int) := ⟨b0, ⟨by have := E.1; show _ ≤ h.1 + 1; omega, fun q hq => (sg_up_n (by have := E.1; omega)).trans (E.2 q hq)⟩, c0, c1, c2, v, xs, x, v0, (sg_up_n (by omega)).trans hb, (sg_up_n (by omega)).trans hv, hl, hy⟩
  refine sg_new (pc := 0) g (dc_J4_toString_0e30d_0.1.1.1) nk_J4_18 (by first | exact Nat.le_of_ble_eq_true rfl | omega) (by first | exact Nat.le_of_ble_eq_true rfl | omega) ?_
  try dsimp only
  refine sg_dup (pc := 3) (dc_J4_toString_0e30d_0.1.1.2) rfl ?_
  refine sg_aload_n (pc := 4) (j := 0) (dc_J4_toString_0e30d_0.1.2.1) rfl rfl ?_
  refine sg_cI1 (pc := 5) (d' := d - 1) (mc' := 1) (ms' := n) g (dc_J4_toString_0e30d_0.1.2.2) cb_J0_init_81219 rfl rfl ml_J4_137 mn_J0_init_81219 (Nat.le_of_ble_eq_true rfl) (by first | exact jl_d0 hd rfl | omega) (by first | exact Nat.le_of_ble_eq_true rfl | omega) (by first | exact Nat.le_of_ble_eq_true rfl | omega) ?_
  refine s_Si g (by first | exact jl_d1 hd rfl | omega) hJ (by with_reducible exact sg_up_s) (h0 := h0) hB2 (fun f f1 f2 f3 => ?_)
  refine sg_K0 ?_
  refine sg_aret (pc := 8) (dc_J4_toString_0e30d_0.2.1.1) rfl (by first | exact Or.inl ⟨_, rfl⟩ | exact Or.inr ⟨_, rfl⟩) (by first | exact Nat.le_of_ble_eq_true rfl | omega) (by first | exact Nat.le_of_ble_eq_true rfl | omega) ?_
  obtain ⟨ys, f4, f5, f6⟩ := f2
  refine hQ _ _ ⟨by have := E.1; show _ ≤ h.1 + 1 + 1; omega, fun q hq => ?_⟩ ⟨by show h.1 < h.1 + 1 + 1; omega, 0, h.1 + 1, _, f1, rfl, by show h.1 + 1 < h.1 + 1 + 1; omega, 102, ys, f4, rfl, f5, f6⟩
  have := E.1
  exact (f3 q (by omega) (by show q ≠ h.1 + 1; omega)).trans ((sg_up_n (by omega)).trans (E.2 q hq))

