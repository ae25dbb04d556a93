theorem fn_numb (x : Int) : -1 ≤ fn_num x 16 ∧ fn_num x 16 ≤ 15 := by
  unfold fn_num fn_plain fn_radix
  (repeat' split) <;> omega

set_option maxRecDepth 100000 in
theorem f_X5_spell {w : sg_W} {Q : sg_O → sg_H → Prop} {h : sg_H} (g : sg_G w) {d : Nat} (hd : 14 ≤ d) {B : Nat} {A : fa_A} (hx : cf_X h B A) (ok : fa_ok A) {fr to : Int} {L : List Int} (hL : fa_L A fr.toNat = L) {M : List Int} (hM : fa_L A to.toNat = M) (hQ : ¬ (fr < 0 ∨ 4 ≤ fr ∨ to < 0 ∨ 4 ≤ to) → ¬ (fr = to) → ∀ (v : Int) (h' : sg_H), ((40 < 2 * L.length ∧ v = -9 ∧ cf_X h' B A) ∨ (2 * L.length ≤ 40 ∧ v = 2 * (L.length : Int) ∧ cf_X h' B (fa_put A to.toNat (fs_spell L)))) → ck_F B h h' → Q (.inl (some (sg_i v))) h') (hXI : (fr < 0 ∨ 4 ≤ fr ∨ to < 0 ∨ 4 ≤ to) → ∀ z, h.1 ≤ z → Q (.inr e_I) (z, h.2)) (hXA : ¬ (fr < 0 ∨ 4 ≤ fr ∨ to < 0 ∨ 4 ≤ to) → (fr = to) → ∀ z, h.1 ≤ z → Q (.inr e_A) (z, h.2)) : sg_C w mi_X5_spell d 8 48 [sg_r B, sg_i fr, sg_i to] h Q := by
  refine sg_of pn_X5 (Nat.le_of_ble_eq_true rfl) ?_
  obtain ⟨x0, ho, hS, hP, hK⟩ := id hx
  have y0 := ck_Y0 x0
  refine sg_aload_n (pc := 0) (j := 0) (dc_X5_spell_0.1.1.1.1) rfl rfl ?_
  refine sg_iload_n (pc := 1) (j := 1) (dc_X5_spell_0.1.1.1.2) rfl rfl ?_
  refine sg_cE1 (pc := 2) (d' := d - 1) (mc' := 1) (ms' := 6) 6 g (dc_X5_spell_0.1.1.2.1) cb_X5_rowOf ml_X5_36 mn_X5_rowOf rfl mv_X5_rowOf (Nat.le_of_ble_eq_true rfl) (ck_oc (by assumption)) (Nat.le_of_ble_eq_true rfl) (by first | exact jl_d0 hd rfl | omega) (by first | exact Nat.le_of_ble_eq_true rfl | omega) (by first | exact Nat.le_of_ble_eq_true rfl | omega) ?_
  refine f_X5_rowOf g (by first | exact jl_d1 hd rfl | omega) (by assumption) (fun l2 r2 L2 => sg_K1 ?_) (fun t2 z2 w2 => sg_KX (by first | exact Nat.le_of_ble_eq_true rfl | omega) (by first | exact Nat.le_of_ble_eq_true rfl | omega) (hXI (by omega) z2 w2))
  obtain ⟨a2, ea2⟩ : ∃ a, a = B + 1 + 3 + 2 * fr.toNat := ⟨_, rfl⟩
  rw [← ea2] at L2 ⊢
  have k2 : cf_l h a2 = L := by rw [ea2, cf_rl hx (by omega)]; exact hL
  have r42 := fa_row ok (i := fr.toNat) (by omega)
  rw [hL] at r42
  refine sg_astore_n (pc := 5) (j := 3) (dc_X5_spell_0.1.1.2.2) rfl (by decide) ?_
  refine sg_aload_n (pc := 6) (j := 0) (dc_X5_spell_0.1.2.1.1) rfl rfl ?_
  refine sg_iload_n (pc := 7) (j := 2) (dc_X5_spell_0.1.2.1.2) rfl rfl ?_
  refine sg_cE1 (pc := 8) (d' := d - 1) (mc' := 1) (ms' := 6) 6 g (dc_X5_spell_0.1.2.2.1) cb_X5_rowOf ml_X5_36 mn_X5_rowOf rfl mv_X5_rowOf (Nat.le_of_ble_eq_true rfl) (ck_oc (by assumption)) (Nat.le_of_ble_eq_true rfl) (by first | exact jl_d0 hd rfl | omega) (by first | exact Nat.le_of_ble_eq_true rfl | omega) (by first | exact Nat.le_of_ble_eq_true rfl | omega) ?_
  refine f_X5_rowOf g (by first | exact jl_d1 hd rfl | omega) (by assumption) (fun l8 r8 L8 => sg_K1 ?_) (fun t8 z8 w8 => sg_KX (by first | exact Nat.le_of_ble_eq_true rfl | omega) (by first | exact Nat.le_of_ble_eq_true rfl | omega) (hXI (by omega) z8 w8))
  obtain ⟨a8, ea8⟩ : ∃ a, a = B + 1 + 3 + 2 * to.toNat := ⟨_, rfl⟩
  rw [← ea8] at L8 ⊢
  have k8 : cf_l h a8 = M := by rw [ea8, cf_rl hx (by omega)]; exact hM
  have r48 := fa_row ok (i := to.toNat) (by omega)
  rw [hM] at r48
  refine sg_astore (pc := 11) (dc_X5_spell_0.1.2.2.2) (by decide) ?_
  refine sg_iload_n (pc := 13) (j := 1) (dc_X5_spell_0.2.1.1.1) rfl rfl ?_
  refine sg_iload_n (pc := 14) (j := 2) (dc_X5_spell_0.2.1.1.2) rfl rfl ?_
  refine sg_cS2 (pc := 15) (d' := d - 1) (mc' := 1) (ms' := 6) g (dc_X5_spell_0.2.1.2.1) cb_X5_checkAreTwo ml_X5_132 ms_X5_checkAreTwo (Nat.le_of_ble_eq_true rfl) (by first | exact jl_d0 hd rfl | omega) (by first | exact Nat.le_of_ble_eq_true rfl | omega) (by first | exact Nat.le_of_ble_eq_true rfl | omega) ?_
  refine s_X5_checkAreTwo g (by first | exact jl_d1 hd rfl | omega) (fun v15 => sg_K0 ?_) (fun t15 z15 w15 => sg_KX (by first | exact Nat.le_of_ble_eq_true rfl | omega) (by first | exact Nat.le_of_ble_eq_true rfl | omega) (hXA (by omega) (by omega) z15 w15))
  refine sg_aload_n (pc := 18) (j := 3) (dc_X5_spell_0.2.1.2.2) rfl rfl ?_
  refine sg_cE0 (pc := 19) (d' := d - 1) (mc' := 0) (ms' := 0) 3 g (dc_X5_spell_0.2.2.1.1) cb_X0_size ml_X5_63 mn_X0_size rfl mv_X0_size (Nat.le_of_ble_eq_true rfl) (ck_lc (by assumption) (by first | assumption | exact ck_rev)) (Nat.le_of_ble_eq_true rfl) (by first | exact jl_d0 hd rfl | omega) (by first | exact Nat.le_of_ble_eq_true rfl | omega) (by first | exact Nat.le_of_ble_eq_true rfl | omega) ?_
  refine f_X0_size g (by first | exact jl_d1 hd rfl | omega) (by assumption) L2 (fun z19 e19 l019 u19 => sg_K1 ?_)
  rw [k2] at e19
  try rw [fa_tlen] at e19
  refine sg_iconst (pc := 22) (z := 2) (dc_X5_spell_0.2.2.1.2) (by decide) ?_
  first | refine sg_imulB (pc := 23) (dc_X5_spell_0.2.2.2.1) (by omega) (by omega) ?_ | refine sg_imul (pc := 23) (dc_X5_spell_0.2.2.2.1) ?_
  refine sg_bipush (pc := 24) (z := 40) (dc_X5_spell_0.2.2.2.2) (by decide) ?_
  refine sg_icmp_le (pc := 26) (tgt := 32) (dc_X5_spell_26.1.1.1.1) (by decide) (fun c26 => ?_) (fun c26 => ?_)
  · refine sg_aload_n (pc := 32) (j := 0) (dc_X5_spell_26.1.1.2.2) rfl rfl ?_
    refine ck_gob (pc := 33) g (dc_X5_spell_26.1.2.1.1) fk_X5_19 (by assumption) (fun _ => rfl) ?_
    refine sg_aload_n (pc := 36) (j := 0) (dc_X5_spell_26.1.2.1.2) rfl rfl ?_
    refine ck_gob (pc := 37) g (dc_X5_spell_26.1.2.2.1) fk_X5_10 (by assumption) (fun _ => rfl) ?_
    refine sg_cE1 (pc := 40) (d' := d - 1) (mc' := 0) (ms' := 0) 4 g (dc_X5_spell_26.1.2.2.2) cb_X1_keep ml_X5_55 mn_X1_keep rfl mv_X1_keep (Nat.le_of_ble_eq_true rfl) (ck_pc (by assumption)) (Nat.le_of_ble_eq_true rfl) (by first | exact jl_d0 hd rfl | omega) (by first | exact Nat.le_of_ble_eq_true rfl | omega) (by first | exact Nat.le_of_ble_eq_true rfl | omega) ?_
    refine f_X1_keep g (by first | exact jl_d1 hd rfl | omega) x0 ho (fun h40 x40 F40 fr40 ho40 P40 => sg_K0 ?_)
    have y40 : ck_Y h h40 B := ⟨x40, F40⟩
    have q40a2 : cf_l h40 a2 = cf_l h a2 := cf_lq (fr40 _ (by omega)) (fr40 _ (by omega))
    rw [k2] at q40a2
    have q40a8 : cf_l h40 a8 = cf_l h a8 := cf_lq (fr40 _ (by omega)) (fr40 _ (by omega))
    rw [k8] at q40a8
    refine sg_aload (pc := 43) (dc_X5_spell_26.2.1.1.1) rfl ?_
    refine sg_cE0 (pc := 45) (d' := d - 1) (mc' := 0) (ms' := 0) 3 g (dc_X5_spell_26.2.1.1.2) cb_X0_clear ml_X5_135 mn_X0_clear rfl mv_X0_clear (Nat.le_of_ble_eq_true rfl) (ck_lc (by assumption) (by first | assumption | exact ck_rev)) (Nat.le_of_ble_eq_true rfl) (by first | exact jl_d0 hd rfl | omega) (by first | exact Nat.le_of_ble_eq_true rfl | omega) (by first | exact Nat.le_of_ble_eq_true rfl | omega) ?_
    refine f_X0_clear g (by first | exact jl_d1 hd rfl | omega) (by assumption) L8 (fun h45 x45 f45 n45 w45 l45 => sg_K0 ?_)
    have y45 := ck_Yt (h0 := h) (by assumption) x45 f45.1
    refine sg_iconst (pc := 48) (z := 0) (dc_X5_spell_26.2.1.2.1) (by decide) ?_
    refine sg_istore (pc := 49) (dc_X5_spell_26.2.1.2.2) (by decide) ?_
    have loop51 : ∀ (N : Nat) (h1 : sg_H) (p : Int), (ck_X h1 B) → (ck_G B a8 h40 h1) → (0 ≤ p ∧ p ≤ (L.length : Int)) → (cf_l h1 a8 = tt_b (2 * p.toNat) (fs_sp L)) → ((L.length : Int) - p).toNat < N → sg_R w mi_X5_spell d 8 48 Q 51 [(5, sg_i p), (0, sg_r B), (3, sg_r a2), (4, sg_r a8)] [] h1 3 18 := by
      intro N
      induction N with
      | zero => intro h1 p x1 G1 p0 l1 hm; exact absurd hm (Nat.not_lt_zero _)
      | succ N ih =>
        intro h1 p x1 G1 p0 l1 hm
        have y1 : ck_Y h h1 B := ⟨x1, ck_Ft F40 G1.1⟩
        have m1 : cf_l h1 a2 = L := (cf_fr G1 (by unfold cf_ap; omega)).1.trans q40a2
        refine sg_iload (pc := 51) (dc_X5_spell_26.2.2.1.1) rfl ?_
        refine sg_aload_n (pc := 53) (j := 3) (dc_X5_spell_26.2.2.1.2) rfl rfl ?_
        refine sg_cE0 (pc := 54) (d' := d - 1) (mc' := 0) (ms' := 0) 3 g (dc_X5_spell_26.2.2.2.1) cb_X0_size ml_X5_63 mn_X0_size rfl mv_X0_size (Nat.le_of_ble_eq_true rfl) (ck_lc (by assumption) (by first | assumption | exact ck_rev)) (Nat.le_of_ble_eq_true rfl) (by first | exact jl_d0 hd rfl | omega) (by first | exact Nat.le_of_ble_eq_true rfl | omega) (by first | exact Nat.le_of_ble_eq_true rfl | omega) ?_
        refine f_X0_size g (by first | exact jl_d1 hd rfl | omega) (by assumption) L2 (fun z54 e54 l054 u54 => sg_K1 ?_)
        rw [m1] at e54
        try rw [fa_tlen] at e54
        refine sg_icmp_ge (pc := 57) (tgt := 94) (dc_X5_spell_26.2.2.2.2) (by decide) (fun c57 => ?_) (fun c57 => ?_)
        · refine sg_aload (pc := 94) (dc_X5_spell_60.2.2.2.1) rfl ?_
          refine sg_cE0 (pc := 96) (d' := d - 1) (mc' := 0) (ms' := 0) 3 g (dc_X5_spell_60.2.2.2.2) cb_X0_size ml_X5_63 mn_X0_size rfl mv_X0_size (Nat.le_of_ble_eq_true rfl) (ck_lc (by assumption) (by first | assumption | exact ck_rev)) (Nat.le_of_ble_eq_true rfl) (by first | exact jl_d0 hd rfl | omega) (by first | exact Nat.le_of_ble_eq_true rfl | omega) (by first | exact Nat.le_of_ble_eq_true rfl | omega) ?_
          refine f_X0_size g (by first | exact jl_d1 hd rfl | omega) (by assumption) L8 (fun z96 e96 l096 u96 => sg_K1 ?_)
          rw [l1] at e96
          try rw [fa_tlen] at e96
          refine sg_iret (pc := 99) dc_X5_spell_99 rfl (by first | exact Nat.le_of_ble_eq_true rfl | omega) (by first | exact Nat.le_of_ble_eq_true rfl | omega) ?_
          first
            | (exact hQ (by omega) (by omega) _ _ (Or.inl ⟨by omega, rfl, hx⟩) ck_F0)
            | (exact hQ (by omega) (by omega) _ _ (Or.inr ⟨by omega, by rw [tt_len] at e96; omega, cf_put (i := to.toNat) hx fr40 ho40 P40 x1 G1 (by omega) (by omega) (by rw [l1, show p.toNat = L.length by omega]; rfl)⟩) (ck_Ft F40 G1.1))
        · refine sg_aload (pc := 60) (dc_X5_spell_60.1.1.1.1) rfl ?_
          refine sg_aload_n (pc := 62) (j := 3) (dc_X5_spell_60.1.1.1.2) rfl rfl ?_
          refine sg_iload (pc := 63) (dc_X5_spell_60.1.1.2.1) rfl ?_
          refine sg_cE1 (pc := 65) (d' := d - 1) (mc' := 0) (ms' := 0) 3 g (dc_X5_spell_60.1.1.2.2) cb_X0_get ml_X5_75 mn_X0_get rfl mv_X0_get (Nat.le_of_ble_eq_true rfl) (ck_lc (by assumption) (by first | assumption | exact ck_rev)) (Nat.le_of_ble_eq_true rfl) (by first | exact jl_d0 hd rfl | omega) (by first | exact Nat.le_of_ble_eq_true rfl | omega) (by first | exact Nat.le_of_ble_eq_true rfl | omega) ?_
          refine f_X0_get g (by first | exact jl_d1 hd rfl | omega) (by assumption) L2 (fun z65 e65 v65 => sg_K1 ?_)
          rw [m1] at e65
          rw [m1] at v65
          try rw [fa_tg (by omega) (by omega)] at e65
          rw [gg_in (by omega) (by omega)] at e65
          have g65 := r42.2 _ (gd_mem (L := L) (j := p.toNat) (d := 0) (by omega))
          subst e65
          refine sg_cS1 (pc := 68) (d' := d - 1) (mc' := 0) (ms' := 0) g (dc_X5_spell_60.1.2.1.1) cb_X2_firstSpelled ml_X5_138 ms_X2_firstSpelled (Nat.le_of_ble_eq_true rfl) (by first | exact jl_d0 hd rfl | omega) (by first | exact Nat.le_of_ble_eq_true rfl | omega) (by first | exact Nat.le_of_ble_eq_true rfl | omega) ?_
          refine f_X2_firstSpelled g (by first | exact jl_d1 hd rfl | omega) (by omega) (fun z68 h68 => sg_K1 ?_)
          refine sg_cE1 (pc := 71) (d' := d - 1) (mc' := 0) (ms' := 0) 3 g (dc_X5_spell_60.1.2.1.2) cb_X0_add ml_X5_129 mn_X0_add rfl mv_X0_add (Nat.le_of_ble_eq_true rfl) (ck_lc (by assumption) (by first | assumption | exact ck_rev)) (Nat.le_of_ble_eq_true rfl) (by first | exact jl_d0 hd rfl | omega) (by first | exact Nat.le_of_ble_eq_true rfl | omega) (by first | exact Nat.le_of_ble_eq_true rfl | omega) ?_
          have nn71 := cf_len (by assumption) L8
          rw [l1] at nn71
          try simp only [List.length_append, tt_len, List.length_cons, List.length_nil] at nn71
          have hcap71 : ck_cap 0 = 40 := rfl
          refine f_X0_add g (by first | exact jl_d1 hd rfl | omega) (by assumption) L8 (by first | exact ck_v0 | assumption | (simp only [ck_v1, ck_v2] at * <;> omega)) (by omega) (fun h71 x71 f71 n71 w71 => sg_K0 ?_)
          have l71 := cf_la (by assumption) L8 (by omega) n71 w71
          rw [l1] at l71
          have y71 := ck_Yt (h0 := h) (by assumption) x71 f71.1
          have m71 : cf_l h71 a2 = L := (cf_fr f71 (by unfold cf_ap; omega)).1.trans m1
          skip
          refine sg_aload (pc := 74) (dc_X5_spell_60.1.2.2.1) rfl ?_
          refine sg_aload_n (pc := 76) (j := 3) (dc_X5_spell_60.1.2.2.2) rfl rfl ?_
          refine sg_iload (pc := 77) (dc_X5_spell_60.2.1.1.1) rfl ?_
          refine sg_cE1 (pc := 79) (d' := d - 1) (mc' := 0) (ms' := 0) 3 g (dc_X5_spell_60.2.1.1.2) cb_X0_get ml_X5_75 mn_X0_get rfl mv_X0_get (Nat.le_of_ble_eq_true rfl) (ck_lc (by assumption) (by first | assumption | exact ck_rev)) (Nat.le_of_ble_eq_true rfl) (by first | exact jl_d0 hd rfl | omega) (by first | exact Nat.le_of_ble_eq_true rfl | omega) (by first | exact Nat.le_of_ble_eq_true rfl | omega) ?_
          refine f_X0_get g (by first | exact jl_d1 hd rfl | omega) (by assumption) L2 (fun z79 e79 v79 => sg_K1 ?_)
          rw [m71] at e79
          rw [m71] at v79
          try rw [fa_tg (by omega) (by omega)] at e79
          rw [gg_in (by omega) (by omega)] at e79
          subst e79
          refine sg_cS1 (pc := 82) (d' := d - 1) (mc' := 0) (ms' := 0) g (dc_X5_spell_60.2.1.2.1) cb_X2_secondSpelled ml_X5_141 ms_X2_secondSpelled (Nat.le_of_ble_eq_true rfl) (by first | exact jl_d0 hd rfl | omega) (by first | exact Nat.le_of_ble_eq_true rfl | omega) (by first | exact Nat.le_of_ble_eq_true rfl | omega) ?_
          refine f_X2_secondSpelled g (by first | exact jl_d1 hd rfl | omega) (by omega) (fun z82 h82 => sg_K1 ?_)
          refine sg_cE1 (pc := 85) (d' := d - 1) (mc' := 0) (ms' := 0) 3 g (dc_X5_spell_60.2.1.2.2) cb_X0_add ml_X5_129 mn_X0_add rfl mv_X0_add (Nat.le_of_ble_eq_true rfl) (ck_lc (by assumption) (by first | assumption | exact ck_rev)) (Nat.le_of_ble_eq_true rfl) (by first | exact jl_d0 hd rfl | omega) (by first | exact Nat.le_of_ble_eq_true rfl | omega) (by first | exact Nat.le_of_ble_eq_true rfl | omega) ?_
          have nn85 := cf_len (by assumption) L8
          rw [l71] at nn85
          try simp only [List.length_append, tt_len, List.length_cons, List.length_nil] at nn85
          have hcap85 : ck_cap 0 = 40 := rfl
          refine f_X0_add g (by first | exact jl_d1 hd rfl | omega) (by assumption) L8 (by first | exact ck_v0 | assumption | (simp only [ck_v1, ck_v2] at * <;> omega)) (by omega) (fun h85 x85 f85 n85 w85 => sg_K0 ?_)
          have l85 := cf_la (by assumption) L8 (by omega) n85 w85
          rw [l71] at l85
          have y85 := ck_Yt (h0 := h) (by assumption) x85 f85.1
          first | refine sg_iincB (pc := 88) (dc_X5_spell_60.2.2.1.1) rfl (by decide) (by decide) (by omega) (by omega) ?_ | refine sg_iinc (pc := 88) (dc_X5_spell_60.2.2.1.1) rfl (by decide) (by decide) ?_
          refine sg_goto (pc := 91) (tgt := 51) (dc_X5_spell_60.2.2.1.2) (by decide) ?_
          refine sg_lsub (lv' := [(5, _), (0, _), (3, _), (4, _)]) ⟨rfl, rfl, rfl, rfl, trivial⟩ ?_
          exact ih _ _ x85 (ck_Gt G1 (ck_Gt f71 f85)) (by omega) (by rw [l85, show 2 * (p + 1).toNat = 2 * p.toNat + 1 + 1 by omega, tt_succ, tt_succ]; unfold fs_sp; rw [show (2 * p.toNat) % 2 = 0 by omega, show (2 * p.toNat + 1) % 2 = 1 by omega, show 2 * p.toNat / 2 = p.toNat by omega, show (2 * p.toNat + 1) / 2 = p.toNat by omega, if_pos rfl, if_neg (by decide), h68, h82]) (by first | exact jl_m1 hm (by omega) | exact jl_m2 hm (by omega) | omega)
    refine sg_lsub (lv' := [(5, _), (0, _), (3, _), (4, _)]) ⟨rfl, rfl, rfl, rfl, trivial⟩ ?_
    exact loop51 _ _ _ x45 f45 (by omega) (by rw [l45]; rfl) (Nat.lt_succ_self _)
  · refine sg_bipush (pc := 29) (z := -9) (dc_X5_spell_26.1.1.1.2) (by decide) ?_
    refine sg_iret (pc := 31) (dc_X5_spell_26.1.1.2.1) rfl (by first | exact Nat.le_of_ble_eq_true rfl | omega) (by first | exact Nat.le_of_ble_eq_true rfl | omega) ?_
    first
      | (exact hQ (by omega) (by omega) _ _ (Or.inl ⟨by omega, rfl, hx⟩) ck_F0)
      | (exact hQ (by omega) (by omega) _ _ (Or.inr ⟨by omega, by rw [tt_len] at e96; omega, cf_put (i := to.toNat) hx fr40 ho40 P40 x1 G1 (by omega) (by omega) (by rw [l1, show p.toNat = L.length by omega]; rfl)⟩) (ck_Ft F40 G1.1))

