theorem ck_XE {B : Nat} {h h1 : sg_H} (x : ck_X h B) (hf : ∀ q e, h.2 q = some e → q < h.1) (E : md_E h h1) : ck_X h1 B := by
  intro i hi
  obtain ⟨e, p1, p2⟩ := x i hi
  exact ⟨e, (E.2 _ (hf _ _ p1)).trans p1, p2⟩

theorem ck_caps {c cap cap' m1 s1 k n : Nat} (x : ((cap = 16 ∧ c ≤ 16 ∧ k = 2 ∧ n = 20) ∨ (cap = 34 ∧ 16 < c ∧ c ≤ 34 ∧ k = 3 ∧ n = 54) ∨ (cap = 70 ∧ 34 < c ∧ c ≤ 70 ∧ k = 4 ∧ n = 124) ∨ (cap = 142 ∧ 70 < c ∧ c ≤ 142 ∧ k = 5 ∧ n = 266))) (hc : jb_c (c + 1) cap cap' m1 s1) (hb : c + 1 ≤ 142) : ((cap' = 16 ∧ (c + 1) ≤ 16 ∧ (k + m1) = 2 ∧ (n + s1) = 20) ∨ (cap' = 34 ∧ 16 < (c + 1) ∧ (c + 1) ≤ 34 ∧ (k + m1) = 3 ∧ (n + s1) = 54) ∨ (cap' = 70 ∧ 34 < (c + 1) ∧ (c + 1) ≤ 70 ∧ (k + m1) = 4 ∧ (n + s1) = 124) ∨ (cap' = 142 ∧ 70 < (c + 1) ∧ (c + 1) ≤ 142 ∧ (k + m1) = 5 ∧ (n + s1) = 266)) := by
  unfold jb_c at hc
  rcases x with x | x | x | x <;> rcases hc with q | ⟨q1, q | q, q3⟩ <;> omega

set_option maxRecDepth 100000 in
set_option maxHeartbeats 1000000 in
theorem s_X5_forms {w : sg_W} {Q : sg_O → sg_H → Prop} {h : sg_H} (g : sg_G w) {d : Nat} (hd : 12 ≤ d) (hJ : jz w) {B : Nat} (hx : ck_X h B) {row : Int} (hQ : ∀ (a : Nat) (h' : sg_H), md_E h h' → ck_X h' B → Q (.inl (some (sg_r a))) h') (hX : (row < 0 ∨ 4 ≤ row) → ∀ z, h.1 ≤ z → Q (.inr e_I) (z, h.2)) : sg_C w mi_X5_forms d 6 168 [sg_r B, sg_i row] h Q := by
  refine sg_of pn_X5 (Nat.le_of_ble_eq_true rfl) ?_
  refine sg_frs (fun hf => ?_)
  have y0 := ck_Y0 hx
  refine sg_aload_n (pc := 0) (j := 0) (dc_X5_forms_0.1.1.1.1) rfl rfl ?_
  refine sg_iload_n (pc := 1) (j := 1) (dc_X5_forms_0.1.1.1.2) rfl rfl ?_
  by_cases hv : 0 ≤ row ∧ row < 4
  · skip
    refine sg_cE1 (pc := 2) (d' := d - 1) (mc' := 0) (ms' := 0) 6 g (dc_X5_forms_0.1.1.2.1) cb_X5_rowOf ml_X5_36 mn_X5_rowOf rfl mv_X5_rowOf (Nat.le_of_ble_eq_true rfl) (ck_oc (by assumption)) (Nat.le_of_ble_eq_true rfl) (by first | exact jl_d0 hd rfl | omega) (by first | exact Nat.le_of_ble_eq_true rfl | omega) (by first | exact Nat.le_of_ble_eq_true rfl | omega) ?_
    refine s_X5_rowOf_N g (by first | exact jl_d1 hd rfl | omega) (by assumption) (by omega) (fun a2 l2 r2 r2b => sg_K1 ?_)
    refine sg_astore_n (pc := 5) (j := 2) (dc_X5_forms_0.1.1.2.2) rfl (by decide) ?_
    refine sg_new (pc := 6) g (dc_X5_forms_0.1.2.1.1) nk_X5_203 (by first | exact Nat.le_of_ble_eq_true rfl | omega) (by first | exact Nat.le_of_ble_eq_true rfl | omega) ?_
    refine sg_dup (pc := 9) (dc_X5_forms_0.1.2.1.2) rfl ?_
    refine sg_cI0 (pc := 10) (d' := d - 1) (mc' := 1) (ms' := 16) g (dc_X5_forms_0.1.2.2.1) cb_J4_init_da8c8 rfl rfl ml_X5_205 mn_J4_init_da8c8 (Nat.le_of_ble_eq_true rfl) (by first | exact jl_d0 hd rfl | omega) (by first | exact Nat.le_of_ble_eq_true rfl | omega) (by first | exact Nat.le_of_ble_eq_true rfl | omega) ?_
    refine s_J4i (h0 := h) g (by first | exact jl_d1 hd rfl | omega) hJ (Nat.le_refl _) ⟨Nat.le_succ _, fun q hq => sg_up_n (Nat.ne_of_lt hq)⟩ sg_up_s (fun h3 B3 => ?_)
    refine sg_K0 ?_
    refine sg_astore_n (pc := 13) (j := 3) (dc_X5_forms_0.1.2.2.2) rfl (by decide) ?_
    refine sg_iconst (pc := 14) (z := 0) (dc_X5_forms_0.2.1.1.1) (by decide) ?_
    refine sg_istore (pc := 15) (dc_X5_forms_0.2.1.1.2) (by decide) ?_
    have loop17 : ∀ (N : Nat) (h1 : sg_H) (p cap k1 n1 : Nat), (jb_B h h1 h.1 cap ((p : Nat) : Int)) → (p ≤ 40) → (((cap = 16 ∧ p ≤ 16 ∧ k1 = 2 ∧ n1 = 20) ∨ (cap = 34 ∧ 16 < p ∧ p ≤ 34 ∧ k1 = 3 ∧ n1 = 54) ∨ (cap = 70 ∧ 34 < p ∧ p ≤ 70 ∧ k1 = 4 ∧ n1 = 124) ∨ (cap = 142 ∧ 70 < p ∧ p ≤ 142 ∧ k1 = 5 ∧ n1 = 266))) → (40 - p) < N → sg_R w mi_X5_forms d 6 168 Q 17 [(4, sg_i (p : Int)), (0, sg_r B), (2, sg_r a2), (3, sg_r h.1)] [] h1 k1 n1 := by
      intro N
      induction N with
      | zero => intro h1 p cap k1 n1 B1 p1 cc hm; exact absurd hm (Nat.not_lt_zero _)
      | succ N ih =>
        intro h1 p cap k1 n1 B1 p1 cc hm
        have E1 := jb_E (h' := h1) B1
        have x1 : ck_X h1 B := ck_XE hx hf E1
        obtain ⟨v3, y3, hb3⟩ : ∃ (v : Nat) (x : Int), h1.2 h.1 = some (1, [sg_r v, sg_i 0, sg_i x, sg_i ((p : Nat) : Int)]) := by obtain ⟨-, -, -, -, -, v, xs, x, -, hb, -⟩ := B1; exact ⟨v, x, hb⟩
        refine sg_iload (pc := 17) (dc_X5_forms_0.2.1.2.1) rfl ?_
        refine sg_aload_n (pc := 19) (j := 2) (dc_X5_forms_0.2.1.2.2) rfl rfl ?_
        refine sg_cE0 (pc := 20) (d' := d - 1) (mc' := 0) (ms' := 0) 3 g (dc_X5_forms_0.2.2.1.1) cb_X0_size ml_X5_63 mn_X0_size rfl mv_X0_size (Nat.le_of_ble_eq_true rfl) (ck_lc (by assumption) (by first | assumption | exact ck_rev)) (Nat.le_of_ble_eq_true rfl) (by first | exact jl_d0 hd rfl | omega) (by first | exact Nat.le_of_ble_eq_true rfl | omega) (by first | exact Nat.le_of_ble_eq_true rfl | omega) ?_
        refine s_X0_size g (by first | exact jl_d1 hd rfl | omega) (by assumption) (by first | assumption | exact ck_rev) (fun z20 l20 u20 N20 => sg_K1 ?_)
        refine sg_icmp_ge (pc := 23) (tgt := 46) (dc_X5_forms_0.2.2.1.2) (by decide) (fun c23 => ?_) (fun c23 => ?_)
        · refine sg_aload_n (pc := 46) (j := 3) (dc_X5_forms_28.1.2.2.2) rfl rfl ?_
          refine sg_cV0 (pc := 47) (d' := d - 1) (mc' := 2) (ms' := (p + 4)) g (dc_X5_forms_28.2.1.1.1) cb_J4_toString_0e30d ml_X5_214 mn_J4_toString_0e30d mv_J4_toString_0e30d hb3 (Nat.le_of_ble_eq_true rfl) rfl (Nat.le_of_ble_eq_true rfl) (by first | exact jl_d0 hd rfl | omega) (by first | exact Nat.le_of_ble_eq_true rfl | omega) (by first | exact Nat.le_of_ble_eq_true rfl | omega) ?_
          refine s_toS (n := p) g (by first | exact jl_d1 hd rfl | omega) hJ B1 (fun h7 a7 Et St => ?_)
          refine sg_K1 ?_
          refine sg_aret (pc := 50) (dc_X5_forms_28.2.1.1.2) rfl (by first | exact Or.inl ⟨_, rfl⟩ | exact Or.inr ⟨_, rfl⟩) (by first | exact Nat.le_of_ble_eq_true rfl | omega) (by first | exact Nat.le_of_ble_eq_true rfl | omega) ?_
          exact hQ _ _ Et (ck_XE hx hf Et)
        · refine sg_aload_n (pc := 26) (j := 3) (dc_X5_forms_0.2.2.2.1) rfl rfl ?_
          refine sg_aload_n (pc := 27) (j := 2) (dc_X5_forms_0.2.2.2.2) rfl rfl ?_
          refine sg_iload (pc := 28) (dc_X5_forms_28.1.1.1.1) rfl ?_
          refine sg_cE1 (pc := 30) (d' := d - 1) (mc' := 0) (ms' := 0) 3 g (dc_X5_forms_28.1.1.1.2) cb_X0_get ml_X5_75 mn_X0_get rfl mv_X0_get (Nat.le_of_ble_eq_true rfl) (ck_lc (by assumption) (by first | assumption | exact ck_rev)) (Nat.le_of_ble_eq_true rfl) (by first | exact jl_d0 hd rfl | omega) (by first | exact Nat.le_of_ble_eq_true rfl | omega) (by first | exact Nat.le_of_ble_eq_true rfl | omega) ?_
          refine s_X0_get g (by first | exact jl_d1 hd rfl | omega) (by assumption) (by first | assumption | exact ck_rev) (fun z30 G30 v30 => sg_K1 ?_)
          refine sg_cS1 (pc := 33) (d' := d - 1) (mc' := 0) (ms' := 0) g (dc_X5_forms_28.1.1.2.1) cb_X2_formOf ml_X5_206 ms_X2_formOf (Nat.le_of_ble_eq_true rfl) (by first | exact jl_d0 hd rfl | omega) (by first | exact Nat.le_of_ble_eq_true rfl | omega) (by first | exact Nat.le_of_ble_eq_true rfl | omega) ?_
          refine s_X2_formOf g (by first | exact jl_d1 hd rfl | omega) (fun z33 l33 u33 => sg_K1 ?_)
          obtain ⟨c1, m1, s1, hc1⟩ := jb_cx (p + 1) cap
          have cc1 := ck_caps cc hc1 (by omega)
          refine sg_cV1 (pc := 36) (d' := d - 1) (mc' := m1) (ms' := s1) g (dc_X5_forms_28.1.1.2.2) cb_J4_append_cf468 ml_X5_210 mn_J4_append_cf468 mv_J4_append_cf468 hb3 (Nat.le_of_ble_eq_true rfl) rfl (Nat.le_of_ble_eq_true rfl) (by first | exact jl_d0 hd rfl | omega) (by first | exact Nat.le_of_ble_eq_true rfl | omega) (by first | exact Nat.le_of_ble_eq_true rfl | omega) ?_
          refine s_apC4 g (by first | exact jl_d1 hd rfl | omega) hJ B1 (by omega) (by omega) hc1 (by omega) (fun h5 B5 => ?_)
          refine sg_K1 ?_
          rw [show (((p : Nat) : Int) + 1) = (((p + 1) : Nat) : Int) by omega] at B5
          refine sg_pop (pc := 39) (dc_X5_forms_28.1.2.1.1) rfl ?_
          first | refine sg_iincB (pc := 40) (dc_X5_forms_28.1.2.1.2) rfl (by decide) (by decide) (by omega) (by omega) ?_ | refine sg_iinc (pc := 40) (dc_X5_forms_28.1.2.1.2) rfl (by decide) (by decide) ?_
          refine sg_goto (pc := 43) (tgt := 17) (dc_X5_forms_28.1.2.2.1) (by decide) ?_
          refine sg_lsub (lv' := [(4, _), (0, _), (2, _), (3, _)]) ⟨rfl, rfl, rfl, rfl, trivial⟩ ?_
          exact ih _ (p + 1) _ _ _ B5 (by omega) (by omega) (by first | exact jl_m1 hm (by omega) | exact jl_m2 hm (by omega) | omega)
    refine sg_lsub (lv' := [(4, _), (0, _), (2, _), (3, _)]) ⟨rfl, rfl, rfl, rfl, trivial⟩ ?_
    exact loop17 _ _ 0 16 2 20 B3 (by omega) (Or.inl ⟨rfl, by decide, rfl, rfl⟩) (Nat.lt_succ_self _)
  · refine sg_cE1 (pc := 2) (d' := d - 1) (mc' := 1) (ms' := 6) 6 g (dc_X5_forms_0.1.1.2.1) cb_X5_rowOf ml_X5_36 mn_X5_rowOf rfl mv_X5_rowOf (Nat.le_of_ble_eq_true rfl) (ck_oc (by assumption)) (Nat.le_of_ble_eq_true rfl) (by first | exact jl_d0 hd rfl | omega) (by first | exact Nat.le_of_ble_eq_true rfl | omega) (by first | exact Nat.le_of_ble_eq_true rfl | omega) ?_
    refine f_X5_rowOf g (by first | exact jl_d1 hd rfl | omega) (by assumption) (fun r2 r2b l2 => absurd ⟨r2, r2b⟩ hv) (fun t2 z2 w2 => sg_KX (by first | exact Nat.le_of_ble_eq_true rfl | omega) (by first | exact Nat.le_of_ble_eq_true rfl | omega) (hX t2 z2 w2))

set_option maxRecDepth 100000 in
set_option maxHeartbeats 1000000 in
theorem s_X5_spelled {w : sg_W} {Q : sg_O → sg_H → Prop} {h : sg_H} (g : sg_G w) {d : Nat} (hd : 12 ≤ d) (hJ : jz w) {B : Nat} (hx : ck_X h B) {row : Int} (hQ : ∀ (a : Nat) (h' : sg_H), md_E h h' → ck_X h' B → Q (.inl (some (sg_r a))) h') (hX : (row < 0 ∨ 4 ≤ row) → ∀ z, h.1 ≤ z → Q (.inr e_I) (z, h.2)) : sg_C w mi_X5_spelled d 7 350 [sg_r B, sg_i row] h Q := by
  refine sg_of pn_X5 (Nat.le_of_ble_eq_true rfl) ?_
  refine sg_frs (fun hf => ?_)
  have y0 := ck_Y0 hx
  refine sg_aload_n (pc := 0) (j := 0) (dc_X5_spelled_0.1.1.1.1) rfl rfl ?_
  refine sg_iload_n (pc := 1) (j := 1) (dc_X5_spelled_0.1.1.1.2) rfl rfl ?_
  by_cases hv : 0 ≤ row ∧ row < 4
  · skip
    refine sg_cE1 (pc := 2) (d' := d - 1) (mc' := 0) (ms' := 0) 6 g (dc_X5_spelled_0.1.1.2.1) cb_X5_rowOf ml_X5_36 mn_X5_rowOf rfl mv_X5_rowOf (Nat.le_of_ble_eq_true rfl) (ck_oc (by assumption)) (Nat.le_of_ble_eq_true rfl) (by first | exact jl_d0 hd rfl | omega) (by first | exact Nat.le_of_ble_eq_true rfl | omega) (by first | exact Nat.le_of_ble_eq_true rfl | omega) ?_
    refine s_X5_rowOf_N g (by first | exact jl_d1 hd rfl | omega) (by assumption) (by omega) (fun a2 l2 r2 r2b => sg_K1 ?_)
    refine sg_astore_n (pc := 5) (j := 2) (dc_X5_spelled_0.1.1.2.2) rfl (by decide) ?_
    refine sg_new (pc := 6) g (dc_X5_spelled_0.1.2.1.1) nk_X5_203 (by first | exact Nat.le_of_ble_eq_true rfl | omega) (by first | exact Nat.le_of_ble_eq_true rfl | omega) ?_
    refine sg_dup (pc := 9) (dc_X5_spelled_0.1.2.1.2) rfl ?_
    refine sg_cI0 (pc := 10) (d' := d - 1) (mc' := 1) (ms' := 16) g (dc_X5_spelled_0.1.2.2.1) cb_J4_init_da8c8 rfl rfl ml_X5_205 mn_J4_init_da8c8 (Nat.le_of_ble_eq_true rfl) (by first | exact jl_d0 hd rfl | omega) (by first | exact Nat.le_of_ble_eq_true rfl | omega) (by first | exact Nat.le_of_ble_eq_true rfl | omega) ?_
    refine s_J4i (h0 := h) g (by first | exact jl_d1 hd rfl | omega) hJ (Nat.le_refl _) ⟨Nat.le_succ _, fun q hq => sg_up_n (Nat.ne_of_lt hq)⟩ sg_up_s (fun h3 B3 => ?_)
    refine sg_K0 ?_
    refine sg_astore_n (pc := 13) (j := 3) (dc_X5_spelled_0.1.2.2.2) rfl (by decide) ?_
    refine sg_iconst (pc := 14) (z := 0) (dc_X5_spelled_0.2.1.1.1) (by decide) ?_
    refine sg_istore (pc := 15) (dc_X5_spelled_0.2.1.1.2) (by decide) ?_
    have loop17 : ∀ (N : Nat) (h1 : sg_H) (p cap k1 n1 : Nat), (jb_B h h1 h.1 cap (((2 * p) : Nat) : Int)) → (p ≤ 40) → (((cap = 16 ∧ (2 * p) ≤ 16 ∧ k1 = 2 ∧ n1 = 20) ∨ (cap = 34 ∧ 16 < (2 * p) ∧ (2 * p) ≤ 34 ∧ k1 = 3 ∧ n1 = 54) ∨ (cap = 70 ∧ 34 < (2 * p) ∧ (2 * p) ≤ 70 ∧ k1 = 4 ∧ n1 = 124) ∨ (cap = 142 ∧ 70 < (2 * p) ∧ (2 * p) ≤ 142 ∧ k1 = 5 ∧ n1 = 266))) → (40 - p) < N → sg_R w mi_X5_spelled d 7 350 Q 17 [(4, sg_i (p : Int)), (0, sg_r B), (2, sg_r a2), (3, sg_r h.1)] [] h1 k1 n1 := by
      intro N
      induction N with
      | zero => intro h1 p cap k1 n1 B1 p1 cc hm; exact absurd hm (Nat.not_lt_zero _)
      | succ N ih =>
        intro h1 p cap k1 n1 B1 p1 cc hm
        have E1 := jb_E (h' := h1) B1
        have x1 : ck_X h1 B := ck_XE hx hf E1
        obtain ⟨v3, y3, hb3⟩ : ∃ (v : Nat) (x : Int), h1.2 h.1 = some (1, [sg_r v, sg_i 0, sg_i x, sg_i (((2 * p) : Nat) : Int)]) := by obtain ⟨-, -, -, -, -, v, xs, x, -, hb, -⟩ := B1; exact ⟨v, x, hb⟩
        refine sg_iload (pc := 17) (dc_X5_spelled_0.2.1.2.1) rfl ?_
        refine sg_aload_n (pc := 19) (j := 2) (dc_X5_spelled_0.2.1.2.2) rfl rfl ?_
        refine sg_cE0 (pc := 20) (d' := d - 1) (mc' := 0) (ms' := 0) 3 g (dc_X5_spelled_0.2.2.1.1) cb_X0_size ml_X5_63 mn_X0_size rfl mv_X0_size (Nat.le_of_ble_eq_true rfl) (ck_lc (by assumption) (by first | assumption | exact ck_rev)) (Nat.le_of_ble_eq_true rfl) (by first | exact jl_d0 hd rfl | omega) (by first | exact Nat.le_of_ble_eq_true rfl | omega) (by first | exact Nat.le_of_ble_eq_true rfl | omega) ?_
        refine s_X0_size g (by first | exact jl_d1 hd rfl | omega) (by assumption) (by first | assumption | exact ck_rev) (fun z20 l20 u20 N20 => sg_K1 ?_)
        refine sg_icmp_ge (pc := 23) (tgt := 62) (dc_X5_spelled_0.2.2.1.2) (by decide) (fun c23 => ?_) (fun c23 => ?_)
        · refine sg_aload_n (pc := 62) (j := 3) (dc_X5_spelled_62.1.1) rfl rfl ?_
          refine sg_cV0 (pc := 63) (d' := d - 1) (mc' := 2) (ms' := ((2 * p) + 4)) g (dc_X5_spelled_62.1.2) cb_J4_toString_0e30d ml_X5_214 mn_J4_toString_0e30d mv_J4_toString_0e30d hb3 (Nat.le_of_ble_eq_true rfl) rfl (Nat.le_of_ble_eq_true rfl) (by first | exact jl_d0 hd rfl | omega) (by first | exact Nat.le_of_ble_eq_true rfl | omega) (by first | exact Nat.le_of_ble_eq_true rfl | omega) ?_
          refine s_toS (n := (2 * p)) g (by first | exact jl_d1 hd rfl | omega) hJ B1 (fun h7 a7 Et St => ?_)
          refine sg_K1 ?_
          refine sg_aret (pc := 66) (dc_X5_spelled_62.2.1) rfl (by first | exact Or.inl ⟨_, rfl⟩ | exact Or.inr ⟨_, rfl⟩) (by first | exact Nat.le_of_ble_eq_true rfl | omega) (by first | exact Nat.le_of_ble_eq_true rfl | omega) ?_
          exact hQ _ _ Et (ck_XE hx hf Et)
        · refine sg_aload_n (pc := 26) (j := 3) (dc_X5_spelled_0.2.2.2.1) rfl rfl ?_
          refine sg_aload_n (pc := 27) (j := 2) (dc_X5_spelled_0.2.2.2.2) rfl rfl ?_
          refine sg_iload (pc := 28) (dc_X5_spelled_28.1.1.1.1) rfl ?_
          refine sg_cE1 (pc := 30) (d' := d - 1) (mc' := 0) (ms' := 0) 3 g (dc_X5_spelled_28.1.1.1.2) cb_X0_get ml_X5_75 mn_X0_get rfl mv_X0_get (Nat.le_of_ble_eq_true rfl) (ck_lc (by assumption) (by first | assumption | exact ck_rev)) (Nat.le_of_ble_eq_true rfl) (by first | exact jl_d0 hd rfl | omega) (by first | exact Nat.le_of_ble_eq_true rfl | omega) (by first | exact Nat.le_of_ble_eq_true rfl | omega) ?_
          refine s_X0_get g (by first | exact jl_d1 hd rfl | omega) (by assumption) (by first | assumption | exact ck_rev) (fun z30 G30 v30 => sg_K1 ?_)
          refine sg_cS1 (pc := 33) (d' := d - 1) (mc' := 0) (ms' := 0) g (dc_X5_spelled_28.1.1.2.1) cb_X2_firstSpelled ml_X5_138 ms_X2_firstSpelled (Nat.le_of_ble_eq_true rfl) (by first | exact jl_d0 hd rfl | omega) (by first | exact Nat.le_of_ble_eq_true rfl | omega) (by first | exact Nat.le_of_ble_eq_true rfl | omega) ?_
          refine s_X2_firstSpelled g (by first | exact jl_d1 hd rfl | omega) (fun z33 l33 u33 => sg_K1 ?_)
          refine sg_i2c (pc := 36) (dc_X5_spelled_28.1.1.2.2) ?_
          rw [sg_chrB (by omega) (by omega)]
          obtain ⟨c1, m1, s1, hc1⟩ := jb_cx ((2 * p) + 1) cap
          have cc1 := ck_caps cc hc1 (by omega)
          refine sg_cV1 (pc := 37) (d' := d - 1) (mc' := m1) (ms' := s1) g (dc_X5_spelled_28.1.2.1.1) cb_J4_append_cf468 ml_X5_210 mn_J4_append_cf468 mv_J4_append_cf468 hb3 (Nat.le_of_ble_eq_true rfl) rfl (Nat.le_of_ble_eq_true rfl) (by first | exact jl_d0 hd rfl | omega) (by first | exact Nat.le_of_ble_eq_true rfl | omega) (by first | exact Nat.le_of_ble_eq_true rfl | omega) ?_
          refine s_apC4 g (by first | exact jl_d1 hd rfl | omega) hJ B1 (by omega) (by omega) hc1 (by omega) (fun h5 B5 => ?_)
          refine sg_K1 ?_
          rw [show ((((2 * p) : Nat) : Int) + 1) = (((2 * p + 1) : Nat) : Int) by omega] at B5
          have E5 := jb_E (h' := h5) B5
          have x5 : ck_X h5 B := ck_XE hx hf E5
          obtain ⟨v5, y5, hb5⟩ : ∃ (v : Nat) (x : Int), h5.2 h.1 = some (1, [sg_r v, sg_i 0, sg_i x, sg_i (((2 * p + 1) : Nat) : Int)]) := by obtain ⟨-, -, -, -, -, v, xs, x, -, hb, -⟩ := B5; exact ⟨v, x, hb⟩
          refine sg_pop (pc := 40) (dc_X5_spelled_28.1.2.1.2) rfl ?_
          refine sg_aload_n (pc := 41) (j := 3) (dc_X5_spelled_28.1.2.2.1) rfl rfl ?_
          refine sg_aload_n (pc := 42) (j := 2) (dc_X5_spelled_28.1.2.2.2) rfl rfl ?_
          refine sg_iload (pc := 43) (dc_X5_spelled_28.2.1.1.1) rfl ?_
          refine sg_cE1 (pc := 45) (d' := d - 1) (mc' := 0) (ms' := 0) 3 g (dc_X5_spelled_28.2.1.1.2) cb_X0_get ml_X5_75 mn_X0_get rfl mv_X0_get (Nat.le_of_ble_eq_true rfl) (ck_lc (by assumption) (by first | assumption | exact ck_rev)) (Nat.le_of_ble_eq_true rfl) (by first | exact jl_d0 hd rfl | omega) (by first | exact Nat.le_of_ble_eq_true rfl | omega) (by first | exact Nat.le_of_ble_eq_true rfl | omega) ?_
          refine s_X0_get g (by first | exact jl_d1 hd rfl | omega) (by assumption) (by first | assumption | exact ck_rev) (fun z45 G45 v45 => sg_K1 ?_)
          refine sg_cS1 (pc := 48) (d' := d - 1) (mc' := 0) (ms' := 0) g (dc_X5_spelled_28.2.1.2.1) cb_X2_secondSpelled ml_X5_141 ms_X2_secondSpelled (Nat.le_of_ble_eq_true rfl) (by first | exact jl_d0 hd rfl | omega) (by first | exact Nat.le_of_ble_eq_true rfl | omega) (by first | exact Nat.le_of_ble_eq_true rfl | omega) ?_
          refine s_X2_secondSpelled g (by first | exact jl_d1 hd rfl | omega) (fun z48 l48 u48 => sg_K1 ?_)
          refine sg_i2c (pc := 51) (dc_X5_spelled_28.2.1.2.2) ?_
          rw [sg_chrB (by omega) (by omega)]
          obtain ⟨c2, m2, s2, hc2⟩ := jb_cx ((2 * p + 1) + 1) c1
          have cc2 := ck_caps cc1 hc2 (by omega)
          rw [show 2 * p + 1 + 1 = 2 * (p + 1) by omega] at cc2
          refine sg_cV1 (pc := 52) (d' := d - 1) (mc' := m2) (ms' := s2) g (dc_X5_spelled_28.2.2.1.1) cb_J4_append_cf468 ml_X5_210 mn_J4_append_cf468 mv_J4_append_cf468 hb5 (Nat.le_of_ble_eq_true rfl) rfl (Nat.le_of_ble_eq_true rfl) (by first | exact jl_d0 hd rfl | omega) (by first | exact Nat.le_of_ble_eq_true rfl | omega) (by first | exact Nat.le_of_ble_eq_true rfl | omega) ?_
          refine s_apC4 g (by first | exact jl_d1 hd rfl | omega) hJ B5 (by omega) (by omega) hc2 (by omega) (fun h6 B6 => ?_)
          refine sg_K1 ?_
          rw [show ((((2 * p + 1) : Nat) : Int) + 1) = (((2 * (p + 1)) : Nat) : Int) by omega] at B6
          refine sg_pop (pc := 55) (dc_X5_spelled_28.2.2.1.2) rfl ?_
          first | refine sg_iincB (pc := 56) (dc_X5_spelled_28.2.2.2.1) rfl (by decide) (by decide) (by omega) (by omega) ?_ | refine sg_iinc (pc := 56) (dc_X5_spelled_28.2.2.2.1) rfl (by decide) (by decide) ?_
          refine sg_goto (pc := 59) (tgt := 17) (dc_X5_spelled_28.2.2.2.2) (by decide) ?_
          refine sg_lsub (lv' := [(4, _), (0, _), (2, _), (3, _)]) ⟨rfl, rfl, rfl, rfl, trivial⟩ ?_
          exact ih _ (p + 1) _ _ _ B6 (by omega) (by omega) (by first | exact jl_m1 hm (by omega) | exact jl_m2 hm (by omega) | omega)
    refine sg_lsub (lv' := [(4, _), (0, _), (2, _), (3, _)]) ⟨rfl, rfl, rfl, rfl, trivial⟩ ?_
    exact loop17 _ _ 0 16 2 20 B3 (by omega) (Or.inl ⟨rfl, by decide, rfl, rfl⟩) (Nat.lt_succ_self _)
  · refine sg_cE1 (pc := 2) (d' := d - 1) (mc' := 1) (ms' := 6) 6 g (dc_X5_spelled_0.1.1.2.1) cb_X5_rowOf ml_X5_36 mn_X5_rowOf rfl mv_X5_rowOf (Nat.le_of_ble_eq_true rfl) (ck_oc (by assumption)) (Nat.le_of_ble_eq_true rfl) (by first | exact jl_d0 hd rfl | omega) (by first | exact Nat.le_of_ble_eq_true rfl | omega) (by first | exact Nat.le_of_ble_eq_true rfl | omega) ?_
    refine f_X5_rowOf g (by first | exact jl_d1 hd rfl | omega) (by assumption) (fun r2 r2b l2 => absurd ⟨r2, r2b⟩ hv) (fun t2 z2 w2 => sg_KX (by first | exact Nat.le_of_ble_eq_true rfl | omega) (by first | exact Nat.le_of_ble_eq_true rfl | omega) (hX t2 z2 w2))

