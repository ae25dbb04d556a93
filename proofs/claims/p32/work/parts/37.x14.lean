set_option maxRecDepth 100000 in
theorem f_X5_first {w : sg_W} {Q : sg_O → sg_H → Prop} {h : sg_H} (g : sg_G w) {d : Nat} (hd : 14 ≤ d) {B : Nat} {A : fa_A} (hx : cf_X h B A) (ok : fa_ok A) {row kind fr : Int} {L : List Int} (hL : fa_L A row.toNat = L) (hQ : ¬ (row < 0 ∨ 4 ≤ row) → ¬ (kind < 0 ∨ 4 < kind ∨ fr < 0) → ∀ v : Int, v = fs_first L kind fr → Q (.inl (some (sg_i v))) h) (hXI : (row < 0 ∨ 4 ≤ row) → ∀ z, h.1 ≤ z → Q (.inr e_I) (z, h.2)) (hXA : ¬ (row < 0 ∨ 4 ≤ row) → (kind < 0 ∨ 4 < kind ∨ fr < 0) → ∀ z, h.1 ≤ z → Q (.inr e_A) (z, h.2)) : sg_C w mi_X5_first d 8 48 [sg_r B, sg_i row, sg_i kind, sg_i fr] h Q := by
  refine sg_of pn_X5 (Nat.le_of_ble_eq_true rfl) ?_
  obtain ⟨x0, ho, hS, hP, hK⟩ := id hx
  have y0 := ck_Y0 x0
  have hc40 : ck_cap 0 = 40 := rfl
  refine sg_aload_n (pc := 0) (j := 0) (dc_X5_first_0.1.1.1.1) rfl rfl ?_
  refine sg_iload_n (pc := 1) (j := 1) (dc_X5_first_0.1.1.1.2) rfl rfl ?_
  refine sg_cE1 (pc := 2) (d' := d - 1) (mc' := 1) (ms' := 6) 6 g (dc_X5_first_0.1.1.2.1) cb_X5_rowOf ml_X5_36 mn_X5_rowOf rfl mv_X5_rowOf (Nat.le_of_ble_eq_true rfl) (ck_oc (by assumption)) (Nat.le_of_ble_eq_true rfl) (by first | exact jl_d0 hd rfl | omega) (by first | exact Nat.le_of_ble_eq_true rfl | omega) (by first | exact Nat.le_of_ble_eq_true rfl | omega) ?_
  refine f_X5_rowOf g (by first | exact jl_d1 hd rfl | omega) (by assumption) (fun l2 r2 L2 => sg_K1 ?_) (fun t2 z2 w2 => sg_KX (by first | exact Nat.le_of_ble_eq_true rfl | omega) (by first | exact Nat.le_of_ble_eq_true rfl | omega) (hXI (by omega) z2 w2))
  obtain ⟨a2, ea2⟩ : ∃ a, a = B + 1 + 3 + 2 * row.toNat := ⟨_, rfl⟩
  rw [← ea2] at L2 ⊢
  have k2 : cf_l h a2 = L := by rw [ea2, cf_rl hx (by omega)]; exact hL
  have r42 := fa_row ok (i := row.toNat) (by omega)
  rw [hL] at r42
  refine sg_astore (pc := 5) (dc_X5_first_0.1.1.2.2) (by decide) ?_
  refine sg_iload_n (pc := 7) (j := 2) (dc_X5_first_0.1.2.1.1) rfl rfl ?_
  refine sg_cS1 (pc := 8) (d' := d - 1) (mc' := 1) (ms' := 6) g (dc_X5_first_0.1.2.1.2) cb_X5_checkKind ml_X5_93 ms_X5_checkKind (Nat.le_of_ble_eq_true rfl) (by first | exact jl_d0 hd rfl | omega) (by first | exact Nat.le_of_ble_eq_true rfl | omega) (by first | exact Nat.le_of_ble_eq_true rfl | omega) ?_
  refine s_X5_checkKind g (by first | exact jl_d1 hd rfl | omega) (fun v8 => sg_K0 ?_) (fun t8 z8 w8 => sg_KX (by first | exact Nat.le_of_ble_eq_true rfl | omega) (by first | exact Nat.le_of_ble_eq_true rfl | omega) (hXA (by omega) (by omega) z8 w8))
  refine sg_iload_n (pc := 11) (j := 3) (dc_X5_first_0.1.2.2.1) rfl rfl ?_
  refine sg_if_ge (pc := 12) (tgt := 25) (dc_X5_first_0.1.2.2.2) (by decide) (fun c12 => ?_) (fun c12 => ?_)
  · refine sg_iload_n (pc := 25) (j := 3) (dc_X5_first_0.2.2.1.2) rfl rfl ?_
    refine sg_istore (pc := 26) (dc_X5_first_0.2.2.2.1) (by decide) ?_
    have loop28 : ∀ (N : Nat) (p : Int), (fr ≤ p) → (∀ j : Nat, fr ≤ (j : Int) → (j : Int) < p → fn_isOf (L.getD j 0) kind = 0) → (40 - p).toNat < N → sg_R w mi_X5_first d 8 48 Q 28 [(5, sg_i p), (0, sg_r B), (2, sg_i kind), (4, sg_r a2)] [] h 2 12 := by
      intro N
      induction N with
      | zero => intro p p0 p1 hm; exact absurd hm (Nat.not_lt_zero _)
      | succ N ih =>
        intro p p0 p1 hm
        refine sg_iload (pc := 28) (dc_X5_first_0.2.2.2.2) rfl ?_
        refine sg_aload (pc := 30) (dc_X5_first_30.1.1.1.1) rfl ?_
        refine sg_cE0 (pc := 32) (d' := d - 1) (mc' := 0) (ms' := 0) 3 g (dc_X5_first_30.1.1.1.2) cb_X0_size ml_X5_63 mn_X0_size rfl mv_X0_size (Nat.le_of_ble_eq_true rfl) (ck_lc (by assumption) (by first | assumption | exact ck_rev)) (Nat.le_of_ble_eq_true rfl) (by first | exact jl_d0 hd rfl | omega) (by first | exact Nat.le_of_ble_eq_true rfl | omega) (by first | exact Nat.le_of_ble_eq_true rfl | omega) ?_
        refine f_X0_size g (by first | exact jl_d1 hd rfl | omega) (by assumption) L2 (fun z32 e32 l032 u32 => sg_K1 ?_)
        rw [k2] at e32
        try rw [fa_tlen] at e32
        refine sg_icmp_ge (pc := 35) (tgt := 61) (dc_X5_first_30.1.1.2.1) (by decide) (fun c35 => ?_) (fun c35 => ?_)
        · refine sg_iconst (pc := 61) (z := -1) (dc_X5_first_30.2.2.1.2) (by decide) ?_
          refine sg_iret (pc := 62) (dc_X5_first_30.2.2.2.1) rfl (by first | exact Nat.le_of_ble_eq_true rfl | omega) (by first | exact Nat.le_of_ble_eq_true rfl | omega) ?_
          exact hQ (by omega) (by omega) _ (fs_theE fs_fU (Or.inl ⟨rfl, fun j j0 j1 => p1 j j0 (by omega)⟩))
        · refine sg_aload (pc := 38) (dc_X5_first_30.1.1.2.2) rfl ?_
          refine sg_iload (pc := 40) (dc_X5_first_30.1.2.1.1) rfl ?_
          refine sg_cE1 (pc := 42) (d' := d - 1) (mc' := 0) (ms' := 0) 3 g (dc_X5_first_30.1.2.1.2) cb_X0_get ml_X5_75 mn_X0_get rfl mv_X0_get (Nat.le_of_ble_eq_true rfl) (ck_lc (by assumption) (by first | assumption | exact ck_rev)) (Nat.le_of_ble_eq_true rfl) (by first | exact jl_d0 hd rfl | omega) (by first | exact Nat.le_of_ble_eq_true rfl | omega) (by first | exact Nat.le_of_ble_eq_true rfl | omega) ?_
          refine f_X0_get g (by first | exact jl_d1 hd rfl | omega) (by assumption) L2 (fun z42 e42 v42 => sg_K1 ?_)
          rw [k2] at e42
          rw [k2] at v42
          try rw [fa_tg (by omega) (by omega)] at e42
          rw [gg_in (by omega) (by omega)] at e42
          subst e42
          refine sg_iload_n (pc := 45) (j := 2) (dc_X5_first_30.1.2.2.1) rfl rfl ?_
          refine sg_cS2 (pc := 46) (d' := d - 1) (mc' := 0) (ms' := 0) g (dc_X5_first_30.1.2.2.2) cb_X2_isOf ml_X5_96 ms_X2_isOf (Nat.le_of_ble_eq_true rfl) (by first | exact jl_d0 hd rfl | omega) (by first | exact Nat.le_of_ble_eq_true rfl | omega) (by first | exact Nat.le_of_ble_eq_true rfl | omega) ?_
          refine s_X2_isOf g (by first | exact jl_d1 hd rfl | omega) (fun z46 h46 b46 => sg_K1 ?_)
          refine sg_if_eq (pc := 49) (tgt := 55) (dc_X5_first_30.2.1.1.1) (by decide) (fun c49 => ?_) (fun c49 => ?_)
          · first | refine sg_iincB (pc := 55) (dc_X5_first_30.2.1.2.2) rfl (by decide) (by decide) (by omega) (by omega) ?_ | refine sg_iinc (pc := 55) (dc_X5_first_30.2.1.2.2) rfl (by decide) (by decide) ?_
            refine sg_goto (pc := 58) (tgt := 28) (dc_X5_first_30.2.2.1.1) (by decide) ?_
            refine sg_lsub (lv' := [(5, _), (0, _), (2, _), (4, _)]) ⟨rfl, rfl, rfl, rfl, trivial⟩ ?_
            exact ih _ (by omega) (fun j j0 j1 => by
              by_cases q : j = p.toNat
              · subst q; omega
              · exact p1 j j0 (by omega)) (by first | exact jl_m1 hm (by omega) | exact jl_m2 hm (by omega) | omega)
          · refine sg_iload (pc := 52) (dc_X5_first_30.2.1.1.2) rfl ?_
            refine sg_iret (pc := 54) (dc_X5_first_30.2.1.2.1) rfl (by first | exact Nat.le_of_ble_eq_true rfl | omega) (by first | exact Nat.le_of_ble_eq_true rfl | omega) ?_
            exact hQ (by omega) (by omega) _ (fs_theE fs_fU (Or.inr ⟨by omega, by omega, by omega, by omega, p1⟩))
    refine sg_lsub (lv' := [(5, _), (0, _), (2, _), (4, _)]) ⟨rfl, rfl, rfl, rfl, trivial⟩ ?_
    exact loop28 _ _ (by omega) (fun j j0 j1 => absurd j1 (by omega)) (Nat.lt_succ_self _)
  · refine sg_throw (pc := 15) g th_X5_110_201 (dc_X5_first_0.2.1.1.1) (dc_X5_first_0.2.1.1.2) (dc_X5_first_0.2.1.2.1) (dc_X5_first_0.2.1.2.2) (dc_X5_first_0.2.2.1.1) (by first | exact Nat.le_trans (Nat.le_of_ble_eq_true rfl) hd | omega) (Nat.le_of_ble_eq_true rfl) (by first | exact Nat.le_of_ble_eq_true rfl | omega) (by first | exact Nat.le_of_ble_eq_true rfl | omega) ?_
    exact fun z hz => hXA (by omega) (by omega) z hz

