set_option maxRecDepth 100000 in
set_option maxHeartbeats 800000 in
theorem s_X7_init {w : sg_W} {Q : sg_O → sg_H → Prop} {h : sg_H} (g : sg_G w) {d : Nat} (hd : 6 ≤ d) {M : Nat} (hM : h.2 M = some (8, [sg_i 0, sg_n, sg_n, sg_i 0])) (hk : md_K w h) (hQ : ∀ f' : Nat → Option sg_E, md_M w (h.1 + 8, f') M → (∀ i : Int, 0 ≤ i → i < 6 → md_n (h.1 + 8, f') (md_a (h.1 + 8, f') (md_r (h.1 + 8, f') M) i) = 0) → md_ab (h.1 + 8, f') M = ([[], [], [], [], [], []], ([], 0)) → (∀ q, q ≠ M → q < h.1 → f' q = h.2 q) → Q (.inl none) (h.1 + 8, f')) : sg_C w mi_X7_init d 8 9 [sg_r M] h Q := by
  refine sg_of pn_X7 (Nat.le_of_ble_eq_true rfl) ?_
  obtain ⟨D, hZ, hD1, hD⟩ := hk.2.2.2.1
  refine sg_frs (fun hf => ?_)
  have hMl := hf _ _ hM
  refine sg_aload_n (pc := 0) (j := 0) (dc_X7_init_0.1.1.1.1) rfl rfl ?_
  refine sg_objInit (pc := 1) g (dc_X7_init_0.1.1.1.2) mo_X7_1 mo_in mo_co (Nat.le_of_ble_eq_true rfl) (by omega) ?_
  refine sg_aload_n (pc := 4) (j := 0) (dc_X7_init_0.1.1.2.1) rfl rfl ?_
  refine sg_bipush (pc := 5) (z := 6) (dc_X7_init_0.1.1.2.2) (by decide) ?_
  refine sg_anewA (t := 110) (N := 6) (T := .int) (pc := 7) g (dc_X7_init_0.1.2.1.1) cl_X7_7 av_110 rfl (by decide) (by decide) (by omega) (by omega) (by omega) (by omega) ?_
  try dsimp only
  refine sg_dup (pc := 10) (dc_X7_init_0.1.2.1.2) rfl ?_
  refine sg_iconst (pc := 11) (z := 0) (dc_X7_init_0.1.2.2.1) (by decide) ?_
  refine sg_iconst (pc := 12) (z := 0) (dc_X7_init_0.1.2.2.2) (by decide) ?_
  refine sg_newa (t := 100) (N := 0) (pc := 13) g (dc_X7_init_0.2.1.1.1) ac_int rfl (by decide) (by decide) rfl rfl (by decide) (by omega) (by omega) (by omega) (by omega) ?_
  try dsimp only
  refine sg_aast (pc := 15) g (dc_X7_init_0.2.1.1.2) (by first | assumption | (repeat (first | with_reducible exact sg_up_s | with_reducible refine (sg_up_n (by omega)).trans ?_)) <;> assumption) (by first | assumption | (repeat (first | with_reducible exact sg_up_s | with_reducible refine (sg_up_n (by omega)).trans ?_)) <;> assumption) (by decide) (by decide) md_as (by decide) (Nat.le_of_ble_eq_true rfl) ?_
  try dsimp only
  refine sg_dup (pc := 16) (dc_X7_init_0.2.1.2.1) rfl ?_
  refine sg_iconst (pc := 17) (z := 1) (dc_X7_init_0.2.1.2.2) (by decide) ?_
  refine sg_iconst (pc := 18) (z := 0) (dc_X7_init_0.2.2.1.1) (by decide) ?_
  refine sg_newa (t := 100) (N := 0) (pc := 19) g (dc_X7_init_0.2.2.1.2) ac_int rfl (by decide) (by decide) rfl rfl (by decide) (by omega) (by omega) (by omega) (by omega) ?_
  try dsimp only
  refine sg_aast (pc := 21) g (dc_X7_init_0.2.2.2.1) (by first | assumption | (repeat (first | with_reducible exact sg_up_s | with_reducible refine (sg_up_n (by omega)).trans ?_)) <;> assumption) (by first | assumption | (repeat (first | with_reducible exact sg_up_s | with_reducible refine (sg_up_n (by omega)).trans ?_)) <;> assumption) (by decide) (by decide) md_as (by decide) (Nat.le_of_ble_eq_true rfl) ?_
  try dsimp only
  refine sg_dup (pc := 22) (dc_X7_init_0.2.2.2.2) rfl ?_
  refine sg_iconst (pc := 23) (z := 2) (dc_X7_init_23.1.1.1.1) (by decide) ?_
  refine sg_iconst (pc := 24) (z := 0) (dc_X7_init_23.1.1.1.2) (by decide) ?_
  refine sg_newa (t := 100) (N := 0) (pc := 25) g (dc_X7_init_23.1.1.2.1) ac_int rfl (by decide) (by decide) rfl rfl (by decide) (by omega) (by omega) (by omega) (by omega) ?_
  try dsimp only
  refine sg_aast (pc := 27) g (dc_X7_init_23.1.1.2.2) (by first | assumption | (repeat (first | with_reducible exact sg_up_s | with_reducible refine (sg_up_n (by omega)).trans ?_)) <;> assumption) (by first | assumption | (repeat (first | with_reducible exact sg_up_s | with_reducible refine (sg_up_n (by omega)).trans ?_)) <;> assumption) (by decide) (by decide) md_as (by decide) (Nat.le_of_ble_eq_true rfl) ?_
  try dsimp only
  refine sg_dup (pc := 28) (dc_X7_init_23.1.2.1.1) rfl ?_
  refine sg_iconst (pc := 29) (z := 3) (dc_X7_init_23.1.2.1.2) (by decide) ?_
  refine sg_iconst (pc := 30) (z := 0) (dc_X7_init_23.1.2.2.1) (by decide) ?_
  refine sg_newa (t := 100) (N := 0) (pc := 31) g (dc_X7_init_23.1.2.2.2) ac_int rfl (by decide) (by decide) rfl rfl (by decide) (by omega) (by omega) (by omega) (by omega) ?_
  try dsimp only
  refine sg_aast (pc := 33) g (dc_X7_init_23.2.1.1.1) (by first | assumption | (repeat (first | with_reducible exact sg_up_s | with_reducible refine (sg_up_n (by omega)).trans ?_)) <;> assumption) (by first | assumption | (repeat (first | with_reducible exact sg_up_s | with_reducible refine (sg_up_n (by omega)).trans ?_)) <;> assumption) (by decide) (by decide) md_as (by decide) (Nat.le_of_ble_eq_true rfl) ?_
  try dsimp only
  refine sg_dup (pc := 34) (dc_X7_init_23.2.1.1.2) rfl ?_
  refine sg_iconst (pc := 35) (z := 4) (dc_X7_init_23.2.1.2.1) (by decide) ?_
  refine sg_iconst (pc := 36) (z := 0) (dc_X7_init_23.2.1.2.2) (by decide) ?_
  refine sg_newa (t := 100) (N := 0) (pc := 37) g (dc_X7_init_23.2.2.1.1) ac_int rfl (by decide) (by decide) rfl rfl (by decide) (by omega) (by omega) (by omega) (by omega) ?_
  try dsimp only
  refine sg_aast (pc := 39) g (dc_X7_init_23.2.2.1.2) (by first | assumption | (repeat (first | with_reducible exact sg_up_s | with_reducible refine (sg_up_n (by omega)).trans ?_)) <;> assumption) (by first | assumption | (repeat (first | with_reducible exact sg_up_s | with_reducible refine (sg_up_n (by omega)).trans ?_)) <;> assumption) (by decide) (by decide) md_as (by decide) (Nat.le_of_ble_eq_true rfl) ?_
  try dsimp only
  refine sg_dup (pc := 40) (dc_X7_init_23.2.2.2.1) rfl ?_
  refine sg_iconst (pc := 41) (z := 5) (dc_X7_init_23.2.2.2.2) (by decide) ?_
  refine sg_iconst (pc := 42) (z := 0) (dc_X7_init_42.1.1.1.1) (by decide) ?_
  refine sg_newa (t := 100) (N := 0) (pc := 43) g (dc_X7_init_42.1.1.1.2) ac_int rfl (by decide) (by decide) rfl rfl (by decide) (by omega) (by omega) (by omega) (by omega) ?_
  try dsimp only
  refine sg_aast (pc := 45) g (dc_X7_init_42.1.1.2.1) (by first | assumption | (repeat (first | with_reducible exact sg_up_s | with_reducible refine (sg_up_n (by omega)).trans ?_)) <;> assumption) (by first | assumption | (repeat (first | with_reducible exact sg_up_s | with_reducible refine (sg_up_n (by omega)).trans ?_)) <;> assumption) (by decide) (by decide) md_as (by decide) (Nat.le_of_ble_eq_true rfl) ?_
  try dsimp only
  refine sg_putf (pc := 46) g (dc_X7_init_42.1.1.2.2) fk_X7_9 (by first | assumption | (repeat (first | with_reducible exact sg_up_s | with_reducible refine (sg_up_n (by omega)).trans ?_)) <;> assumption) sg_ft_a ?_
  try dsimp only
  refine sg_aload_n (pc := 49) (j := 0) (dc_X7_init_42.1.2.1.1) rfl rfl ?_
  refine sg_new (pc := 50) g (dc_X7_init_42.1.2.1.2) nk_X7_15 (by first | exact Nat.le_of_ble_eq_true rfl | omega) (by first | exact Nat.le_of_ble_eq_true rfl | omega) ?_
  try dsimp only
  refine sg_dup (pc := 53) (dc_X7_init_42.1.2.2.1) rfl ?_
  refine sg_cI0 (pc := 54) (d' := d - 1) (mc' := 0) (ms' := 0) g (dc_X7_init_42.1.2.2.2) cb_Jx4a65c_init_da8c8 rfl rfl ml_X7_17 mn_Jx4a65c_init_da8c8 (Nat.le_of_ble_eq_true rfl) (by first | exact jl_d0 hd rfl | omega) (by first | exact Nat.le_of_ble_eq_true rfl | omega) (by first | exact Nat.le_of_ble_eq_true rfl | omega) ?_
  refine s_al_init g (by first | exact jl_d1 hd rfl | omega) hZ (by with_reducible exact sg_up_s) (fun f f1 f2 => ?_)
  refine sg_K0 ?_
  try dsimp only
  have fM : f M = some (8, [sg_i 0, sg_r h.1, sg_n, sg_i 0]) := (f2 M (by omega)).trans ((sg_up_n (by omega)).trans sg_up_s)
  have fR : f h.1 = some (110, [sg_r (h.1 + 1), sg_r (h.1 + 2), sg_r (h.1 + 3), sg_r (h.1 + 4), sg_r (h.1 + 5), sg_r (h.1 + 6)]) := (f2 h.1 (by omega)).trans ((sg_up_n (by omega)).trans ((sg_up_n (by omega)).trans sg_up_s))
  have fA : ∀ i : Nat, 1 ≤ i → i ≤ 6 → f (h.1 + i) = some (100, []) := by
    intro i i1 i6
    refine (f2 (h.1 + i) (by omega)).trans ?_
    rcases (show i = 1 ∨ i = 2 ∨ i = 3 ∨ i = 4 ∨ i = 5 ∨ i = 6 by omega) with rfl | rfl | rfl | rfl | rfl | rfl <;> (repeat (with_reducible refine (sg_up_n (by omega)).trans ?_)) <;> exact sg_up_s
  have fO : ∀ q, q ≠ M → q < h.1 → f q = h.2 q := by
    intro q q1 q2
    refine (f2 q (by omega)).trans ?_
    (repeat (with_reducible refine (sg_up_n (by omega)).trans ?_))
    rfl
  refine sg_putF (pc := 57) g (dc_X7_init_42.2.1.1.1) fk_X7_18 rfl fM sg_ft_o ?_
  try dsimp only
  refine sg_vret (pc := 60) (dc_X7_init_42.2.1.1.2) rfl (by first | exact Nat.le_of_ble_eq_true rfl | omega) (by first | exact Nat.le_of_ble_eq_true rfl | omega) ?_
  have nM : M < h.1 + 8 := by omega
  have kp : ∀ q e, h.2 q = some e → e.1 ≠ 8 → sg_up f M (8, [sg_i 0, sg_r h.1, sg_r (h.1 + 7), sg_i 0]) q = some e := fun q e he n8 => by
    have ql := hf q e he
    have nq : q ≠ M := fun z => by rw [z, hM] at he; cases he; exact n8 rfl
    exact (sg_up_n nq).trans ((fO q nq ql).trans he)
  have hP : md_P h (h.1 + 8, sg_up f M (8, [sg_i 0, sg_r h.1, sg_r (h.1 + 7), sg_i 0])) := ⟨Nat.le_add_right _ _, fun q hq e he n1 => kp q e he (fun z => by rw [z] at n1; exact absurd n1 (by simp))⟩
  have aA : ∀ (c i : Nat), 1 ≤ i → i ≤ 6 → md_A c (h.1 + 8, sg_up f M (8, [sg_i 0, sg_r h.1, sg_r (h.1 + 7), sg_i 0])) (h.1 + i) 0 := fun c i i1 i6 => ⟨by show h.1 + i < h.1 + 8; omega, [], rfl, fun z hz => (nomatch hz), (sg_up_n (by omega)).trans (fA i i1 i6)⟩
  have hR : md_R (h.1 + 8, sg_up f M (8, [sg_i 0, sg_r h.1, sg_r (h.1 + 7), sg_i 0])) h.1 := ⟨by show h.1 < h.1 + 8; omega, fun i => h.1 + (i + 1), fun _ => 0, (sg_up_n (by omega)).trans fR, fun i hi => ⟨aA 0 (i + 1) (by omega) (by omega), Nat.zero_le _⟩, fun i hi hj => ⟨aA 1 (i + 1) (by omega) (by omega), Nat.zero_le _⟩⟩
  have hL : md_L w (h.1 + 8, sg_up f M (8, [sg_i 0, sg_r h.1, sg_r (h.1 + 7), sg_i 0])) (h.1 + 7) := ⟨by show h.1 + 7 < h.1 + 8; omega, 0, 0, D, 313, [], (sg_up_n (by omega)).trans f1, by have := hD1; show (D : Nat) < h.1 + 8; exact Nat.lt_add_right 8 hD1, kp D _ hD (by decide), Or.inr ⟨rfl, rfl, hZ⟩, by decide, by decide, by decide, fun j hj => absurd hj (by omega)⟩
  have nl : ∀ i : Nat, 1 ≤ i → i ≤ 6 → md_l (h.1 + 8, sg_up f M (8, [sg_i 0, sg_r h.1, sg_r (h.1 + 7), sg_i 0])) (h.1 + i) = [] := fun i i1 i6 => List.eq_nil_of_length_eq_zero (md_Al (aA 0 i i1 i6)).1
  have gR : ((h.1 + 8, sg_up f M (8, [sg_i 0, sg_r h.1, sg_r (h.1 + 7), sg_i 0])) : sg_H).2 h.1 = some (110, [sg_r (h.1 + 1), sg_r (h.1 + 2), sg_r (h.1 + 3), sg_r (h.1 + 4), sg_r (h.1 + 5), sg_r (h.1 + 6)]) := (sg_up_n (by omega)).trans fR
  have hab : md_ab (h.1 + 8, sg_up f M (8, [sg_i 0, sg_r h.1, sg_r (h.1 + 7), sg_i 0])) M = ([[], [], [], [], [], []], ([], 0)) := by
    rw [md_abe (h := (h.1 + 8, sg_up f M (8, [sg_i 0, sg_r h.1, sg_r (h.1 + 7), sg_i 0]))) sg_up_s, md_ble (h := (h.1 + 8, sg_up f M (8, [sg_i 0, sg_r h.1, sg_r (h.1 + 7), sg_i 0]))) ((sg_up_n (by omega)).trans f1) (kp D _ hD (by decide))]
    unfold md_s
    rw [md_ae (i := 0) gR rfl, md_ae (i := 1) gR rfl, md_ae (i := 2) gR rfl, md_ae (i := 3) gR rfl, md_ae (i := 4) gR rfl, md_ae (i := 5) gR rfl, nl 1 (by decide) (by decide), nl 2 (by decide) (by decide), nl 3 (by decide) (by decide), nl 4 (by decide) (by decide), nl 5 (by decide) (by decide), nl 6 (by decide) (by decide)]
    rfl
  refine hQ (sg_up f M (8, [sg_i 0, sg_r h.1, sg_r (h.1 + 7), sg_i 0])) ⟨nM, md_KP hk hP, 0, 0, h.1, h.1 + 7, sg_up_s, by decide, hR, hL⟩ (fun i i0 i1 => ?_) hab (fun q q1 q2 => (sg_up_n q1).trans (fO q q1 q2))
  rw [md_re (h := (h.1 + 8, sg_up f M (8, [sg_i 0, sg_r h.1, sg_r (h.1 + 7), sg_i 0]))) sg_up_s]
  obtain ⟨c, L, a, n, p1, p2, p3, p4⟩ := md_any hR i0 i1
  rw [md_ae p1 p3, md_ne p4]
  have pL : L = [sg_r (h.1 + 1), sg_r (h.1 + 2), sg_r (h.1 + 3), sg_r (h.1 + 4), sg_r (h.1 + 5), sg_r (h.1 + 6)] := by
    have := p1.symm.trans ((sg_up_n (by omega)).trans fR)
    cases this; rfl
  have ea : ∃ j, 1 ≤ j ∧ j ≤ 6 ∧ a = h.1 + j := by
    subst pL
    rcases (show i = 0 ∨ i = 1 ∨ i = 2 ∨ i = 3 ∨ i = 4 ∨ i = 5 by omega) with rfl | rfl | rfl | rfl | rfl | rfl
    · cases p3; exact ⟨1, by decide, by decide, rfl⟩
    · cases p3; exact ⟨2, by decide, by decide, rfl⟩
    · cases p3; exact ⟨3, by decide, by decide, rfl⟩
    · cases p3; exact ⟨4, by decide, by decide, rfl⟩
    · cases p3; exact ⟨5, by decide, by decide, rfl⟩
    · cases p3; exact ⟨6, by decide, by decide, rfl⟩
  obtain ⟨j, j1, j6, rfl⟩ := ea
  have e0 := (aA 0 j j1 j6)
  have e1 := md_ne e0
  rw [← md_ne p4, e1]

