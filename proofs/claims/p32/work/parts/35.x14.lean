set_option maxRecDepth 100000 in
theorem f_X5_read {w : sg_W} {Q : sg_O → sg_H → Prop} {h : sg_H} (g : sg_G w) {d : Nat} (hd : 14 ≤ d) {B : Nat} {A : fa_A} (hx : cf_X h B A) (ok : fa_ok A) {fr to : Int} {L : List Int} (hL : fa_L A fr.toNat = L) {M : List Int} (hM : fa_L A to.toNat = M) (hQ : ¬ (fr < 0 ∨ 4 ≤ fr ∨ to < 0 ∨ 4 ≤ to) → ¬ (fr = to) → ∀ (v : Int) (h' : sg_H), ((¬ fs_can L ∧ v = -9 ∧ cf_X h' B A) ∨ (fs_can L ∧ v = ((fs_read L).length : Int) ∧ cf_X h' B (fa_put A to.toNat (fs_read L)))) → ck_F B h h' → Q (.inl (some (sg_i v))) h') (hXI : (fr < 0 ∨ 4 ≤ fr ∨ to < 0 ∨ 4 ≤ to) → ∀ z, h.1 ≤ z → Q (.inr e_I) (z, h.2)) (hXA : ¬ (fr < 0 ∨ 4 ≤ fr ∨ to < 0 ∨ 4 ≤ to) → (fr = to) → ∀ z, h.1 ≤ z → Q (.inr e_A) (z, h.2)) : sg_C w mi_X5_read d 8 48 [sg_r B, sg_i fr, sg_i to] h Q := by
  refine sg_of pn_X5 (Nat.le_of_ble_eq_true rfl) ?_
  obtain ⟨x0, ho, hS, hP, hK⟩ := id hx
  have y0 := ck_Y0 x0
  refine sg_aload_n (pc := 0) (j := 0) (dc_X5_read_0.1.1.1.1) rfl rfl ?_
  refine sg_iload_n (pc := 1) (j := 1) (dc_X5_read_0.1.1.1.2) rfl rfl ?_
  refine sg_cE1 (pc := 2) (d' := d - 1) (mc' := 1) (ms' := 6) 6 g (dc_X5_read_0.1.1.2.1) cb_X5_rowOf ml_X5_36 mn_X5_rowOf rfl mv_X5_rowOf (Nat.le_of_ble_eq_true rfl) (ck_oc (by assumption)) (Nat.le_of_ble_eq_true rfl) (by first | exact jl_d0 hd rfl | omega) (by first | exact Nat.le_of_ble_eq_true rfl | omega) (by first | exact Nat.le_of_ble_eq_true rfl | omega) ?_
  refine f_X5_rowOf g (by first | exact jl_d1 hd rfl | omega) (by assumption) (fun l2 r2 L2 => sg_K1 ?_) (fun t2 z2 w2 => sg_KX (by first | exact Nat.le_of_ble_eq_true rfl | omega) (by first | exact Nat.le_of_ble_eq_true rfl | omega) (hXI (by omega) z2 w2))
  obtain ⟨a2, ea2⟩ : ∃ a, a = B + 1 + 3 + 2 * fr.toNat := ⟨_, rfl⟩
  rw [← ea2] at L2 ⊢
  have k2 : cf_l h a2 = L := by rw [ea2, cf_rl hx (by omega)]; exact hL
  have r42 := fa_row ok (i := fr.toNat) (by omega)
  rw [hL] at r42
  refine sg_astore_n (pc := 5) (j := 3) (dc_X5_read_0.1.1.2.2) rfl (by decide) ?_
  refine sg_aload_n (pc := 6) (j := 0) (dc_X5_read_0.1.2.1.1) rfl rfl ?_
  refine sg_iload_n (pc := 7) (j := 2) (dc_X5_read_0.1.2.1.2) rfl rfl ?_
  refine sg_cE1 (pc := 8) (d' := d - 1) (mc' := 1) (ms' := 6) 6 g (dc_X5_read_0.1.2.2.1) cb_X5_rowOf ml_X5_36 mn_X5_rowOf rfl mv_X5_rowOf (Nat.le_of_ble_eq_true rfl) (ck_oc (by assumption)) (Nat.le_of_ble_eq_true rfl) (by first | exact jl_d0 hd rfl | omega) (by first | exact Nat.le_of_ble_eq_true rfl | omega) (by first | exact Nat.le_of_ble_eq_true rfl | omega) ?_
  refine f_X5_rowOf g (by first | exact jl_d1 hd rfl | omega) (by assumption) (fun l8 r8 L8 => sg_K1 ?_) (fun t8 z8 w8 => sg_KX (by first | exact Nat.le_of_ble_eq_true rfl | omega) (by first | exact Nat.le_of_ble_eq_true rfl | omega) (hXI (by omega) z8 w8))
  obtain ⟨a8, ea8⟩ : ∃ a, a = B + 1 + 3 + 2 * to.toNat := ⟨_, rfl⟩
  rw [← ea8] at L8 ⊢
  have k8 : cf_l h a8 = M := by rw [ea8, cf_rl hx (by omega)]; exact hM
  have r48 := fa_row ok (i := to.toNat) (by omega)
  rw [hM] at r48
  refine sg_astore (pc := 11) (dc_X5_read_0.1.2.2.2) (by decide) ?_
  refine sg_iload_n (pc := 13) (j := 1) (dc_X5_read_0.2.1.1.1) rfl rfl ?_
  refine sg_iload_n (pc := 14) (j := 2) (dc_X5_read_0.2.1.1.2) rfl rfl ?_
  refine sg_cS2 (pc := 15) (d' := d - 1) (mc' := 1) (ms' := 6) g (dc_X5_read_0.2.1.2.1) cb_X5_checkAreTwo ml_X5_132 ms_X5_checkAreTwo (Nat.le_of_ble_eq_true rfl) (by first | exact jl_d0 hd rfl | omega) (by first | exact Nat.le_of_ble_eq_true rfl | omega) (by first | exact Nat.le_of_ble_eq_true rfl | omega) ?_
  refine s_X5_checkAreTwo g (by first | exact jl_d1 hd rfl | omega) (fun v15 => sg_K0 ?_) (fun t15 z15 w15 => sg_KX (by first | exact Nat.le_of_ble_eq_true rfl | omega) (by first | exact Nat.le_of_ble_eq_true rfl | omega) (hXA (by omega) (by omega) z15 w15))
  refine sg_aload_n (pc := 18) (j := 3) (dc_X5_read_0.2.1.2.2) rfl rfl ?_
  refine sg_cS1 (pc := 19) (d' := d - 1) (mc' := 0) (ms' := 0) g (dc_X5_read_0.2.2.1.1) cb_X5_canBeRead ml_X5_144 ms_X5_canBeRead (Nat.le_of_ble_eq_true rfl) (by first | exact jl_d0 hd rfl | omega) (by first | exact Nat.le_of_ble_eq_true rfl | omega) (by first | exact Nat.le_of_ble_eq_true rfl | omega) ?_
  refine f_X5_canBeRead g (by first | exact jl_d1 hd rfl | omega) x0 L2 k2 (fun z19 b19 => sg_K1 ?_)
  refine sg_if_ne (pc := 22) (tgt := 28) (dc_X5_read_0.2.2.1.2) (by decide) (fun c22 => ?_) (fun c22 => ?_)
  · have hcan : fs_can L := by
      rcases b19 with b | b
      · exact absurd b.1 (by omega)
      · exact b.2
    have hev := hcan.1
    refine sg_aload_n (pc := 28) (j := 0) (dc_X5_read_28.1.1.1.1) rfl rfl ?_
    refine ck_gob (pc := 29) g (dc_X5_read_28.1.1.1.2) fk_X5_19 (by assumption) (fun _ => rfl) ?_
    refine sg_aload_n (pc := 32) (j := 0) (dc_X5_read_28.1.1.2.1) rfl rfl ?_
    refine ck_gob (pc := 33) g (dc_X5_read_28.1.1.2.2) fk_X5_10 (by assumption) (fun _ => rfl) ?_
    refine sg_cE1 (pc := 36) (d' := d - 1) (mc' := 0) (ms' := 0) 4 g (dc_X5_read_28.1.2.1.1) cb_X1_keep ml_X5_55 mn_X1_keep rfl mv_X1_keep (Nat.le_of_ble_eq_true rfl) (ck_pc (by assumption)) (Nat.le_of_ble_eq_true rfl) (by first | exact jl_d0 hd rfl | omega) (by first | exact Nat.le_of_ble_eq_true rfl | omega) (by first | exact Nat.le_of_ble_eq_true rfl | omega) ?_
    refine f_X1_keep g (by first | exact jl_d1 hd rfl | omega) x0 ho (fun h36 x36 F36 fr36 ho36 P36 => sg_K0 ?_)
    have y36 : ck_Y h h36 B := ⟨x36, F36⟩
    have q36a2 : cf_l h36 a2 = cf_l h a2 := cf_lq (fr36 _ (by omega)) (fr36 _ (by omega))
    rw [k2] at q36a2
    have q36a8 : cf_l h36 a8 = cf_l h a8 := cf_lq (fr36 _ (by omega)) (fr36 _ (by omega))
    rw [k8] at q36a8
    refine sg_aload (pc := 39) (dc_X5_read_28.1.2.1.2) rfl ?_
    refine sg_cE0 (pc := 41) (d' := d - 1) (mc' := 0) (ms' := 0) 3 g (dc_X5_read_28.1.2.2.1) cb_X0_clear ml_X5_135 mn_X0_clear rfl mv_X0_clear (Nat.le_of_ble_eq_true rfl) (ck_lc (by assumption) (by first | assumption | exact ck_rev)) (Nat.le_of_ble_eq_true rfl) (by first | exact jl_d0 hd rfl | omega) (by first | exact Nat.le_of_ble_eq_true rfl | omega) (by first | exact Nat.le_of_ble_eq_true rfl | omega) ?_
    refine f_X0_clear g (by first | exact jl_d1 hd rfl | omega) (by assumption) L8 (fun h41 x41 f41 n41 w41 l41 => sg_K0 ?_)
    have y41 := ck_Yt (h0 := h) (by assumption) x41 f41.1
    refine sg_iconst (pc := 44) (z := 0) (dc_X5_read_28.1.2.2.2) (by decide) ?_
    refine sg_istore (pc := 45) (dc_X5_read_28.2.1.1.1) (by decide) ?_
    have loop47 : ∀ (N : Nat) (h1 : sg_H) (p : Int), (ck_X h1 B) → (ck_G B a8 h36 h1) → (0 ≤ p ∧ p ≤ (L.length : Int) ∧ p % 2 = 0) → (cf_l h1 a8 = tt_b (p.toNat / 2) (fs_rd L)) → ((L.length : Int) - p).toNat < N → sg_R w mi_X5_read d 8 48 Q 47 [(5, sg_i p), (0, sg_r B), (3, sg_r a2), (4, sg_r a8)] [] h1 3 18 := by
      intro N
      induction N with
      | zero => intro h1 p x1 G1 p0 l1 hm; exact absurd hm (Nat.not_lt_zero _)
      | succ N ih =>
        intro h1 p x1 G1 p0 l1 hm
        have y1 : ck_Y h h1 B := ⟨x1, ck_Ft F36 G1.1⟩
        have m1 : cf_l h1 a2 = L := (cf_fr G1 (by unfold cf_ap; omega)).1.trans q36a2
        refine sg_iload (pc := 47) (dc_X5_read_28.2.1.1.2) rfl ?_
        refine sg_iconst (pc := 49) (z := 1) (dc_X5_read_28.2.1.2.1) (by decide) ?_
        first | refine sg_iaddB (pc := 50) (dc_X5_read_28.2.1.2.2) (by omega) (by omega) ?_ | refine sg_iadd (pc := 50) (dc_X5_read_28.2.1.2.2) ?_
        refine sg_aload_n (pc := 51) (j := 3) (dc_X5_read_28.2.2.1.1) rfl rfl ?_
        refine sg_cE0 (pc := 52) (d' := d - 1) (mc' := 0) (ms' := 0) 3 g (dc_X5_read_28.2.2.1.2) cb_X0_size ml_X5_63 mn_X0_size rfl mv_X0_size (Nat.le_of_ble_eq_true rfl) (ck_lc (by assumption) (by first | assumption | exact ck_rev)) (Nat.le_of_ble_eq_true rfl) (by first | exact jl_d0 hd rfl | omega) (by first | exact Nat.le_of_ble_eq_true rfl | omega) (by first | exact Nat.le_of_ble_eq_true rfl | omega) ?_
        refine f_X0_size g (by first | exact jl_d1 hd rfl | omega) (by assumption) L2 (fun z52 e52 l052 u52 => sg_K1 ?_)
        rw [m1] at e52
        try rw [fa_tlen] at e52
        refine sg_icmp_ge (pc := 55) (tgt := 105) (dc_X5_read_28.2.2.2.1) (by decide) (fun c55 => ?_) (fun c55 => ?_)
        · refine sg_aload (pc := 105) (dc_X5_read_92.1.2.2.1) rfl ?_
          refine sg_cE0 (pc := 107) (d' := d - 1) (mc' := 0) (ms' := 0) 3 g (dc_X5_read_92.1.2.2.2) cb_X0_size ml_X5_63 mn_X0_size rfl mv_X0_size (Nat.le_of_ble_eq_true rfl) (ck_lc (by assumption) (by first | assumption | exact ck_rev)) (Nat.le_of_ble_eq_true rfl) (by first | exact jl_d0 hd rfl | omega) (by first | exact Nat.le_of_ble_eq_true rfl | omega) (by first | exact Nat.le_of_ble_eq_true rfl | omega) ?_
          refine f_X0_size g (by first | exact jl_d1 hd rfl | omega) (by assumption) L8 (fun z107 e107 l0107 u107 => sg_K1 ?_)
          rw [l1] at e107
          try rw [fa_tlen] at e107
          refine sg_iret (pc := 110) (dc_X5_read_92.2.1.1.1) rfl (by first | exact Nat.le_of_ble_eq_true rfl | omega) (by first | exact Nat.le_of_ble_eq_true rfl | omega) ?_
          first
            | (rcases b19 with b | b
               · exact hQ (by omega) (by omega) _ _ (Or.inl ⟨b.2, rfl, hx⟩) ck_F0
               · exact absurd b.1 (by omega))
            | (exact hQ (by omega) (by omega) _ _ (Or.inr ⟨hcan, by rw [e107, fs_read, tt_len, tt_len]; omega, cf_put (i := to.toNat) hx fr36 ho36 P36 x1 G1 (by omega) (by omega) (by rw [l1, show p.toNat / 2 = L.length / 2 by omega]; rfl)⟩) (ck_Ft F36 G1.1))
        · refine sg_aload_n (pc := 58) (j := 3) (dc_X5_read_28.2.2.2.2) rfl rfl ?_
          refine sg_iload (pc := 59) (dc_X5_read_59.1.1.1.1) rfl ?_
          refine sg_cE1 (pc := 61) (d' := d - 1) (mc' := 0) (ms' := 0) 3 g (dc_X5_read_59.1.1.1.2) cb_X0_get ml_X5_75 mn_X0_get rfl mv_X0_get (Nat.le_of_ble_eq_true rfl) (ck_lc (by assumption) (by first | assumption | exact ck_rev)) (Nat.le_of_ble_eq_true rfl) (by first | exact jl_d0 hd rfl | omega) (by first | exact Nat.le_of_ble_eq_true rfl | omega) (by first | exact Nat.le_of_ble_eq_true rfl | omega) ?_
          refine f_X0_get g (by first | exact jl_d1 hd rfl | omega) (by assumption) L2 (fun z61 e61 v61 => sg_K1 ?_)
          rw [m1] at e61
          rw [m1] at v61
          try rw [fa_tg (by omega) (by omega)] at e61
          refine sg_bipush (pc := 64) (z := 16) (dc_X5_read_59.1.1.2.1) (by decide) ?_
          rw [gg_in (by omega) (by omega)] at e61
          subst e61
          refine sg_cS2 (pc := 66) (d' := d - 1) (mc' := 0) (ms' := 0) g (dc_X5_read_59.1.1.2.2) cb_X2_numberOf ml_X5_148 ms_X2_numberOf (Nat.le_of_ble_eq_true rfl) (by first | exact jl_d0 hd rfl | omega) (by first | exact Nat.le_of_ble_eq_true rfl | omega) (by first | exact Nat.le_of_ble_eq_true rfl | omega) ?_
          refine s_X2_numberOf g (by first | exact jl_d1 hd rfl | omega) (fun z66 h66 => sg_K1 ?_)
          refine sg_istore (pc := 69) (dc_X5_read_59.1.2.1.1) (by decide) ?_
          refine sg_aload_n (pc := 71) (j := 3) (dc_X5_read_59.1.2.1.2) rfl rfl ?_
          refine sg_iload (pc := 72) (dc_X5_read_59.1.2.2.1) rfl ?_
          refine sg_iconst (pc := 74) (z := 1) (dc_X5_read_59.1.2.2.2) (by decide) ?_
          first | refine sg_iaddB (pc := 75) (dc_X5_read_59.2.1.1.1) (by omega) (by omega) ?_ | refine sg_iadd (pc := 75) (dc_X5_read_59.2.1.1.1) ?_
          refine sg_cE1 (pc := 76) (d' := d - 1) (mc' := 0) (ms' := 0) 3 g (dc_X5_read_59.2.1.1.2) cb_X0_get ml_X5_75 mn_X0_get rfl mv_X0_get (Nat.le_of_ble_eq_true rfl) (ck_lc (by assumption) (by first | assumption | exact ck_rev)) (Nat.le_of_ble_eq_true rfl) (by first | exact jl_d0 hd rfl | omega) (by first | exact Nat.le_of_ble_eq_true rfl | omega) (by first | exact Nat.le_of_ble_eq_true rfl | omega) ?_
          refine f_X0_get g (by first | exact jl_d1 hd rfl | omega) (by assumption) L2 (fun z76 e76 v76 => sg_K1 ?_)
          rw [m1] at e76
          rw [m1] at v76
          try rw [fa_tg (by omega) (by omega)] at e76
          refine sg_bipush (pc := 79) (z := 16) (dc_X5_read_59.2.1.2.1) (by decide) ?_
          rw [gg_in (by omega) (by omega)] at e76
          subst e76
          refine sg_cS2 (pc := 81) (d' := d - 1) (mc' := 0) (ms' := 0) g (dc_X5_read_59.2.1.2.2) cb_X2_numberOf ml_X5_148 ms_X2_numberOf (Nat.le_of_ble_eq_true rfl) (by first | exact jl_d0 hd rfl | omega) (by first | exact Nat.le_of_ble_eq_true rfl | omega) (by first | exact Nat.le_of_ble_eq_true rfl | omega) ?_
          refine s_X2_numberOf g (by first | exact jl_d1 hd rfl | omega) (fun z81 h81 => sg_K1 ?_)
          refine sg_istore (pc := 84) (dc_X5_read_59.2.2.1.1) (by decide) ?_
          refine sg_aload (pc := 86) (dc_X5_read_59.2.2.1.2) rfl ?_
          refine sg_iload (pc := 88) (dc_X5_read_59.2.2.2.1) rfl ?_
          refine sg_bipush (pc := 90) (z := 16) (dc_X5_read_59.2.2.2.2) (by decide) ?_
          have nb1 := fn_numb (L.getD p.toNat 0)
          have nb2 := fn_numb (L.getD (p + 1).toNat 0)
          rw [← h66] at nb1
          rw [← h81] at nb2
          first | refine sg_imulB (pc := 92) (dc_X5_read_92.1.1.1.1) (by omega) (by omega) ?_ | refine sg_imul (pc := 92) (dc_X5_read_92.1.1.1.1) ?_
          refine sg_iload (pc := 93) (dc_X5_read_92.1.1.1.2) rfl ?_
          first | refine sg_iaddB (pc := 95) (dc_X5_read_92.1.1.2.1) (by omega) (by omega) ?_ | refine sg_iadd (pc := 95) (dc_X5_read_92.1.1.2.1) ?_
          refine sg_cE1 (pc := 96) (d' := d - 1) (mc' := 0) (ms' := 0) 3 g (dc_X5_read_92.1.1.2.2) cb_X0_add ml_X5_129 mn_X0_add rfl mv_X0_add (Nat.le_of_ble_eq_true rfl) (ck_lc (by assumption) (by first | assumption | exact ck_rev)) (Nat.le_of_ble_eq_true rfl) (by first | exact jl_d0 hd rfl | omega) (by first | exact Nat.le_of_ble_eq_true rfl | omega) (by first | exact Nat.le_of_ble_eq_true rfl | omega) ?_
          have nn96 := cf_len (by assumption) L8
          rw [l1] at nn96
          try simp only [List.length_append, tt_len, List.length_cons, List.length_nil] at nn96
          have hcap96 : ck_cap 0 = 40 := rfl
          refine f_X0_add g (by first | exact jl_d1 hd rfl | omega) (by assumption) L8 (by first | exact ck_v0 | assumption | (simp only [ck_v1, ck_v2] at * <;> omega)) (by omega) (fun h96 x96 f96 n96 w96 => sg_K0 ?_)
          have l96 := cf_la (by assumption) L8 (by omega) n96 w96
          rw [l1] at l96
          have y96 := ck_Yt (h0 := h) (by assumption) x96 f96.1
          first | refine sg_iincB (pc := 99) (dc_X5_read_92.1.2.1.1) rfl (by decide) (by decide) (by omega) (by omega) ?_ | refine sg_iinc (pc := 99) (dc_X5_read_92.1.2.1.1) rfl (by decide) (by decide) ?_
          refine sg_goto (pc := 102) (tgt := 47) (dc_X5_read_92.1.2.1.2) (by decide) ?_
          refine sg_lsub (lv' := [(5, _), (0, _), (3, _), (4, _)]) ⟨rfl, rfl, rfl, rfl, trivial⟩ ?_
          exact ih _ _ x96 (ck_Gt G1 f96) (by omega) (by rw [l96, show (p + 2).toNat / 2 = p.toNat / 2 + 1 by omega, tt_succ]; unfold fs_rd; rw [show 2 * (p.toNat / 2) = p.toNat by omega, ← h66, show p.toNat + 1 = (p + 1).toNat by omega, ← h81, Int.mul_comm 16 z66]) (by first | exact jl_m1 hm (by omega) | exact jl_m2 hm (by omega) | omega)
    refine sg_lsub (lv' := [(5, _), (0, _), (3, _), (4, _)]) ⟨rfl, rfl, rfl, rfl, trivial⟩ ?_
    exact loop47 _ _ _ x41 f41 (by omega) (by rw [l41]; rfl) (Nat.lt_succ_self _)
  · refine sg_bipush (pc := 25) (z := -9) (dc_X5_read_0.2.2.2.1) (by decide) ?_
    refine sg_iret (pc := 27) (dc_X5_read_0.2.2.2.2) rfl (by first | exact Nat.le_of_ble_eq_true rfl | omega) (by first | exact Nat.le_of_ble_eq_true rfl | omega) ?_
    first
      | (rcases b19 with b | b
         · exact hQ (by omega) (by omega) _ _ (Or.inl ⟨b.2, rfl, hx⟩) ck_F0
         · exact absurd b.1 (by omega))
      | (exact hQ (by omega) (by omega) _ _ (Or.inr ⟨hcan, by rw [e107, fs_read, tt_len, tt_len]; omega, cf_put (i := to.toNat) hx fr36 ho36 P36 x1 G1 (by omega) (by omega) (by rw [l1, show p.toNat / 2 = L.length / 2 by omega]; rfl)⟩) (ck_Ft F36 G1.1))


