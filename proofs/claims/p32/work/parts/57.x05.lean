set_option maxRecDepth 100000 in
theorem s_apC4 {w : sg_W} {Q : sg_O → sg_H → Prop} {h : sg_H} (g : sg_G w) {d : Nat} (hd : 7 ≤ d) (hJ : jz w) {h0 : sg_H} {b cap cap' m1 s1 : Nat} {c : Int} (hB : jb_B h0 h b cap c) {z : Int} (z0 : 0 ≤ z) (z1 : z ≤ 255) (hc : jb_c (c + 1).toNat cap cap' m1 s1) (hc2 : cap' ≤ 1000) (hQ : ∀ h' : sg_H, jb_B h0 h' b cap' (c + 1) → Q (.inl (some (sg_r b))) h') : sg_C w mi_J4_append_cf468 d m1 s1 [sg_r b, sg_i z] h Q := by
  refine sg_of pn_J4 (Nat.le_of_ble_eq_true rfl) ?_
  obtain ⟨v, x, hb⟩ : ∃ (v : Nat) (x : Int), h.2 b = some (1, [sg_r v, sg_i 0, sg_i x, sg_i c]) := by obtain ⟨b0, E, c0, c1, c2, v, xs, x, v0, hb, -⟩ := hB; exact ⟨v, x, hb⟩
  refine sg_aload_n (pc := 0) (j := 0) (dc_J4_append_cf468_0.1.1.1) rfl rfl ?_
  refine sg_iload_n (pc := 1) (j := 1) (dc_J4_append_cf468_0.1.1.2) rfl rfl ?_
  refine sg_cU1 (pc := 2) (d' := d - 1) (mc' := m1) (ms' := s1) g (dc_J4_append_cf468_0.1.2.1) cb_J5_append_3fe6f ml_J4_50 mn_J5_append_3fe6f mq_J5_append_3fe6f su_J4 (by decide +kernel) hb (Nat.le_of_ble_eq_true rfl) rfl (Nat.le_of_ble_eq_true rfl) (by first | exact jl_d0 hd rfl | omega) (by first | exact Nat.le_of_ble_eq_true rfl | omega) (by first | exact Nat.le_of_ble_eq_true rfl | omega) ?_
  refine s_apC g (by first | exact jl_d1 hd rfl | omega) hJ hB z0 z1 hc hc2 (fun h1 hB1 => ?_)
  refine sg_K1 ?_
  refine sg_pop (pc := 5) (dc_J4_append_cf468_0.1.2.2) rfl ?_
  refine sg_aload_n (pc := 6) (j := 0) (dc_J4_append_cf468_0.2.1.1) rfl rfl ?_
  refine sg_aret (pc := 7) (dc_J4_append_cf468_0.2.1.2) rfl (by first | exact Or.inl ⟨_, rfl⟩ | exact Or.inr ⟨_, rfl⟩) (by first | exact Nat.le_of_ble_eq_true rfl | omega) (by first | exact Nat.le_of_ble_eq_true rfl | omega) ?_
  exact hQ h1 hB1

set_option maxRecDepth 100000 in
theorem s_Sib {w : sg_W} {Q : sg_O → sg_H → Prop} {h : sg_H} (g : sg_G w) {d : Nat} (hd : 4 ≤ d) (hJ : jz w) {a : Nat} {p q : sg_V} (ha : h.2 a = some (0, [sg_n, sg_i 0, p, q])) {h0 : sg_H} {b cap n : Nat} (hB : jb_B h0 h b cap (n : Int)) (hQ : ∀ f : Nat → Option sg_E, f a = some (0, [sg_r h.1, sg_i 0, p, q]) → (∃ ys, f h.1 = some (102, ys) ∧ ys.length = n ∧ jy ys) → (∀ q, q ≠ a → q ≠ h.1 → f q = h.2 q) → Q (.inl none) (h.1 + 1, f)) : sg_C w mi_J0_init_db425 d 1 n [sg_r a, sg_r b, sg_n] h Q := by
  refine sg_of pn_J0 (Nat.le_of_ble_eq_true rfl) ?_
  refine sg_frs (fun hf => ?_)
  obtain ⟨b0, E, c0, c1, c2, v, xs, x, v0, hb, hv, hl, hy⟩ := hB
  have hal := hf _ _ ha
  have nva : v ≠ a := fun q => by rw [q, ha] at hv; cases hv
  refine sg_aload_n (pc := 0) (j := 0) (dc_J0_init_db425_0.1.1.1.1) rfl rfl ?_
  refine sg_objInit (pc := 1) g (dc_J0_init_db425_0.1.1.1.2) mo_J0_1 mo_in mo_co (Nat.le_of_ble_eq_true rfl) (by omega) ?_
  refine sg_aload_n (pc := 4) (j := 1) (dc_J0_init_db425_0.1.1.2.1) rfl rfl ?_
  refine sg_cV0 (pc := 5) (d' := d - 1) (mc' := 0) (ms' := 0) g (dc_J0_init_db425_0.1.1.2.2) cb_J5_getValue_6d5f1 ml_J0_552 mn_J5_getValue_6d5f1 mv_J5_getValue_6d5f1 hb (Nat.le_of_ble_eq_true rfl) rfl (Nat.le_of_ble_eq_true rfl) (by first | exact jl_d0 hd rfl | omega) (by first | exact Nat.le_of_ble_eq_true rfl | omega) (by first | exact Nat.le_of_ble_eq_true rfl | omega) ?_
  refine s_getValue g (by first | exact jl_d1 hd rfl | omega) hb ?_
  refine sg_K1 ?_
  refine sg_astore_n (pc := 8) (j := 3) (dc_J0_init_db425_0.1.2.1.1) rfl (by decide) ?_
  refine sg_aload_n (pc := 9) (j := 1) (dc_J0_init_db425_0.1.2.1.2) rfl rfl ?_
  refine sg_callU (x := yJ5_length_8abf5) (mi' := mi_J4_length_8abf5) (as := []) (d' := d - 1) (mc' := 0) (ms' := 0) (pc := 10) (q := (RJ4, TJ4, 4)) g (dc_J0_init_db425_0.1.2.2.1) cb_J4_length_8abf5 ml_J0_549 mq_J5_length_8abf5 mn_J5_length_8abf5 cb_J5_length_8abf5.1 ⟨⟨by decide +kernel, by decide +kernel⟩, by decide +kernel⟩ mn_J4_length_8abf5 mw_J5_length_8abf5 rfl (Nat.le_of_ble_eq_true rfl) rfl hb rfl (Nat.le_of_ble_eq_true rfl) (by omega) (by omega) (by omega) ?_
  refine s_blen2 g (by first | exact jl_d1 hd rfl | omega) hb ?_
  refine sg_K1 ?_
  refine sg_istore (pc := 13) (dc_J0_init_db425_0.1.2.2.2) (by decide) ?_
  refine sg_aload_n (pc := 15) (j := 1) (dc_J0_init_db425_0.2.1.1.1) rfl rfl ?_
  refine sg_cV0 (pc := 16) (d' := d - 1) (mc' := 0) (ms' := 0) g (dc_J0_init_db425_0.2.1.1.2) cb_J5_isLatin1_aae02 ml_J0_1047 mn_J5_isLatin1_aae02 mv_J5_isLatin1_aae02 hb (Nat.le_of_ble_eq_true rfl) rfl (Nat.le_of_ble_eq_true rfl) (by first | exact jl_d0 hd rfl | omega) (by first | exact Nat.le_of_ble_eq_true rfl | omega) (by first | exact Nat.le_of_ble_eq_true rfl | omega) ?_
  refine s_isLatin1 g (by first | exact jl_d1 hd rfl | omega) hJ hb ?_
  refine sg_K1 ?_
  refine sg_if_eq (pc := 19) (tgt := 41) (dc_J0_init_db425_0.2.1.2.1) (by decide) (fun cu => absurd cu (by omega)) (fun cu => ?_)
  refine sg_aload_n (pc := 22) (j := 0) (dc_J0_init_db425_0.2.1.2.2) rfl rfl ?_
  refine sg_iconst (pc := 23) (z := 0) (dc_J0_init_db425_0.2.2.1.1) (by decide) ?_
  refine sg_putF (pc := 24) g (dc_J0_init_db425_0.2.2.1.2) fk_J0_15 rfl ha sg_ft_b0 ?_
  try dsimp only
  refine sg_aload_n (pc := 27) (j := 0) (dc_J0_init_db425_0.2.2.2.1) rfl rfl ?_
  refine sg_aload_n (pc := 28) (j := 3) (dc_J0_init_db425_0.2.2.2.2) rfl rfl ?_
  refine sg_iconst (pc := 29) (z := 0) (dc_J0_init_db425_29.1.1.1.1) (by decide) ?_
  refine sg_iload (pc := 30) (dc_J0_init_db425_29.1.1.1.2) rfl ?_
  refine sg_cS3 (pc := 32) (d' := d - 1) (mc' := 1) (ms' := n) g (dc_J0_init_db425_29.1.1.2.1) cb_J7_copyOfRange_39247 ml_J0_54 ms_J7_copyOfRange_39247 (Nat.le_of_ble_eq_true rfl) (by first | exact jl_d0 hd rfl | omega) (by first | exact Nat.le_of_ble_eq_true rfl | omega) (by first | exact Nat.le_of_ble_eq_true rfl | omega) ?_
  refine s_cr (N := n) g (by first | exact jl_d1 hd rfl | omega) ((sg_up_n nva).trans hv) (by omega) hy rfl (by omega) (fun f ys y1 y2 y3 y4 => ?_)
  refine sg_K1 ?_
  try dsimp only
  refine sg_putF (pc := 35) g (dc_J0_init_db425_29.1.1.2.2) fk_J0_9 rfl ((y4 a (by omega)).trans sg_up_s) sg_ft_a ?_
  try dsimp only
  refine sg_goto (pc := 38) (tgt := 97) (dc_J0_init_db425_29.1.2.1.1) (by decide) ?_
  refine sg_vret (pc := 97) (dc_J0_init_db425_91.2.1) rfl (by first | exact Nat.le_of_ble_eq_true rfl | omega) (by first | exact Nat.le_of_ble_eq_true rfl | omega) ?_
  refine hQ _ sg_up_s ⟨ys, (sg_up_n (by omega)).trans y3, y1, y2⟩ (fun q h1 h2 => ?_)
  refine (sg_up_n h1).trans ((y4 q h2).trans (sg_up_n h1))

