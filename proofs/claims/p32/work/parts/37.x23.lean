set_option maxRecDepth 100000 in
theorem f_X5_isAlike {w : sg_W} {Q : sg_O → sg_H → Prop} {h : sg_H} (g : sg_G w) {d : Nat} (hd : 14 ≤ d) {B : Nat} {A : fa_A} (hx : cf_X h B A) (ok : fa_ok A) {row other : Int} {L : List Int} (hL : fa_L A row.toNat = L) {M : List Int} (hM : fa_L A other.toNat = M) (hQ : ¬ (row < 0 ∨ 4 ≤ row ∨ other < 0 ∨ 4 ≤ other) → ∀ v : Int, ((v = 0 ∧ ¬ fs_al L M) ∨ (v = 1 ∧ fs_al L M)) → Q (.inl (some (sg_i v))) h) (hXI : (row < 0 ∨ 4 ≤ row ∨ other < 0 ∨ 4 ≤ other) → ∀ z, h.1 ≤ z → Q (.inr e_I) (z, h.2)) : sg_C w mi_X5_isAlike d 8 48 [sg_r B, sg_i row, sg_i other] h Q := by
  refine sg_of pn_X5 (Nat.le_of_ble_eq_true rfl) ?_
  obtain ⟨x0, ho, hS, hP, hK⟩ := id hx
  have y0 := ck_Y0 x0
  have hc40 : ck_cap 0 = 40 := rfl
  refine sg_aload_n (pc := 0) (j := 0) (dc_X5_isAlike_0.1.1.1.1) rfl rfl ?_
  refine sg_iload_n (pc := 1) (j := 1) (dc_X5_isAlike_0.1.1.1.2) rfl rfl ?_
  refine sg_cE1 (pc := 2) (d' := d - 1) (mc' := 1) (ms' := 6) 6 g (dc_X5_isAlike_0.1.1.2.1) cb_X5_rowOf ml_X5_36 mn_X5_rowOf rfl mv_X5_rowOf (Nat.le_of_ble_eq_true rfl) (ck_oc (by assumption)) (Nat.le_of_ble_eq_true rfl) (by first | exact jl_d0 hd rfl | omega) (by first | exact Nat.le_of_ble_eq_true rfl | omega) (by first | exact Nat.le_of_ble_eq_true rfl | omega) ?_
  refine f_X5_rowOf g (by first | exact jl_d1 hd rfl | omega) (by assumption) (fun l2 r2 L2 => sg_K1 ?_) (fun t2 z2 w2 => sg_KX (by first | exact Nat.le_of_ble_eq_true rfl | omega) (by first | exact Nat.le_of_ble_eq_true rfl | omega) (hXI (by omega) z2 w2))
  obtain ⟨a2, ea2⟩ : ∃ a, a = B + 1 + 3 + 2 * row.toNat := ⟨_, rfl⟩
  rw [← ea2] at L2 ⊢
  have k2 : cf_l h a2 = L := by rw [ea2, cf_rl hx (by omega)]; exact hL
  have r42 := fa_row ok (i := row.toNat) (by omega)
  rw [hL] at r42
  refine sg_astore_n (pc := 5) (j := 3) (dc_X5_isAlike_0.1.1.2.2) rfl (by decide) ?_
  refine sg_aload_n (pc := 6) (j := 0) (dc_X5_isAlike_0.1.2.1.1) rfl rfl ?_
  refine sg_iload_n (pc := 7) (j := 2) (dc_X5_isAlike_0.1.2.1.2) rfl rfl ?_
  refine sg_cE1 (pc := 8) (d' := d - 1) (mc' := 1) (ms' := 6) 6 g (dc_X5_isAlike_0.1.2.2.1) cb_X5_rowOf ml_X5_36 mn_X5_rowOf rfl mv_X5_rowOf (Nat.le_of_ble_eq_true rfl) (ck_oc (by assumption)) (Nat.le_of_ble_eq_true rfl) (by first | exact jl_d0 hd rfl | omega) (by first | exact Nat.le_of_ble_eq_true rfl | omega) (by first | exact Nat.le_of_ble_eq_true rfl | omega) ?_
  refine f_X5_rowOf g (by first | exact jl_d1 hd rfl | omega) (by assumption) (fun l8 r8 L8 => sg_K1 ?_) (fun t8 z8 w8 => sg_KX (by first | exact Nat.le_of_ble_eq_true rfl | omega) (by first | exact Nat.le_of_ble_eq_true rfl | omega) (hXI (by omega) z8 w8))
  obtain ⟨a8, ea8⟩ : ∃ a, a = B + 1 + 3 + 2 * other.toNat := ⟨_, rfl⟩
  rw [← ea8] at L8 ⊢
  have k8 : cf_l h a8 = M := by rw [ea8, cf_rl hx (by omega)]; exact hM
  have r48 := fa_row ok (i := other.toNat) (by omega)
  rw [hM] at r48
  refine sg_astore (pc := 11) (dc_X5_isAlike_0.1.2.2.2) (by decide) ?_
  refine sg_aload_n (pc := 13) (j := 3) (dc_X5_isAlike_0.2.1.1.1) rfl rfl ?_
  refine sg_cE0 (pc := 14) (d' := d - 1) (mc' := 0) (ms' := 0) 3 g (dc_X5_isAlike_0.2.1.1.2) cb_X0_size ml_X5_63 mn_X0_size rfl mv_X0_size (Nat.le_of_ble_eq_true rfl) (ck_lc (by assumption) (by first | assumption | exact ck_rev)) (Nat.le_of_ble_eq_true rfl) (by first | exact jl_d0 hd rfl | omega) (by first | exact Nat.le_of_ble_eq_true rfl | omega) (by first | exact Nat.le_of_ble_eq_true rfl | omega) ?_
  refine f_X0_size g (by first | exact jl_d1 hd rfl | omega) (by assumption) L2 (fun z14 e14 l014 u14 => sg_K1 ?_)
  rw [k2] at e14
  try rw [fa_tlen] at e14
  refine sg_aload (pc := 17) (dc_X5_isAlike_0.2.1.2.1) rfl ?_
  refine sg_cE0 (pc := 19) (d' := d - 1) (mc' := 0) (ms' := 0) 3 g (dc_X5_isAlike_0.2.1.2.2) cb_X0_size ml_X5_63 mn_X0_size rfl mv_X0_size (Nat.le_of_ble_eq_true rfl) (ck_lc (by assumption) (by first | assumption | exact ck_rev)) (Nat.le_of_ble_eq_true rfl) (by first | exact jl_d0 hd rfl | omega) (by first | exact Nat.le_of_ble_eq_true rfl | omega) (by first | exact Nat.le_of_ble_eq_true rfl | omega) ?_
  refine f_X0_size g (by first | exact jl_d1 hd rfl | omega) (by assumption) L8 (fun z19 e19 l019 u19 => sg_K1 ?_)
  rw [k8] at e19
  try rw [fa_tlen] at e19
  refine sg_icmp_eq (pc := 22) (tgt := 27) (dc_X5_isAlike_0.2.2.1.1) (by decide) (fun c22 => ?_) (fun c22 => ?_)
  · refine sg_iconst (pc := 27) (z := 0) (dc_X5_isAlike_0.2.2.2.2) (by decide) ?_
    refine sg_istore (pc := 28) (dc_X5_isAlike_28.1.1.1.1) (by decide) ?_
    have loop30 : ∀ (N : Nat) (p : Int), (0 ≤ p ∧ p ≤ (L.length : Int)) → (∀ j : Nat, (j : Int) < p → fn_upper (L.getD j 0) = fn_upper (M.getD j 0)) → ((L.length : Int) - p).toNat < N → sg_R w mi_X5_isAlike d 8 48 Q 30 [(5, sg_i p), (0, sg_r B), (3, sg_r a2), (4, sg_r a8)] [] h 2 12 := by
      intro N
      induction N with
      | zero => intro p p0 p1 hm; exact absurd hm (Nat.not_lt_zero _)
      | succ N ih =>
        intro p p0 p1 hm
        refine sg_iload (pc := 30) (dc_X5_isAlike_28.1.1.1.2) rfl ?_
        refine sg_aload_n (pc := 32) (j := 3) (dc_X5_isAlike_28.1.1.2.1) rfl rfl ?_
        refine sg_cE0 (pc := 33) (d' := d - 1) (mc' := 0) (ms' := 0) 3 g (dc_X5_isAlike_28.1.1.2.2) cb_X0_size ml_X5_63 mn_X0_size rfl mv_X0_size (Nat.le_of_ble_eq_true rfl) (ck_lc (by assumption) (by first | assumption | exact ck_rev)) (Nat.le_of_ble_eq_true rfl) (by first | exact jl_d0 hd rfl | omega) (by first | exact Nat.le_of_ble_eq_true rfl | omega) (by first | exact Nat.le_of_ble_eq_true rfl | omega) ?_
        refine f_X0_size g (by first | exact jl_d1 hd rfl | omega) (by assumption) L2 (fun z33 e33 l033 u33 => sg_K1 ?_)
        rw [k2] at e33
        try rw [fa_tlen] at e33
        refine sg_icmp_ge (pc := 36) (tgt := 69) (dc_X5_isAlike_28.1.2.1.1) (by decide) (fun c36 => ?_) (fun c36 => ?_)
        · refine sg_iconst (pc := 69) (z := 1) (dc_X5_isAlike_63.2.1) (by decide) ?_
          refine sg_zret (pc := 70) (dc_X5_isAlike_63.2.2) rfl (by first | exact Or.inl rfl | exact Or.inr rfl | omega | assumption) (by first | exact Nat.le_of_ble_eq_true rfl | omega) (by first | exact Nat.le_of_ble_eq_true rfl | omega) ?_
          exact hQ (by omega) _ (Or.inr ⟨rfl, by omega, fun j j0 => p1 j (by omega)⟩)
        · refine sg_aload_n (pc := 39) (j := 3) (dc_X5_isAlike_28.1.2.1.2) rfl rfl ?_
          refine sg_iload (pc := 40) (dc_X5_isAlike_28.1.2.2.1) rfl ?_
          refine sg_cE1 (pc := 42) (d' := d - 1) (mc' := 0) (ms' := 0) 3 g (dc_X5_isAlike_28.1.2.2.2) cb_X0_get ml_X5_75 mn_X0_get rfl mv_X0_get (Nat.le_of_ble_eq_true rfl) (ck_lc (by assumption) (by first | assumption | exact ck_rev)) (Nat.le_of_ble_eq_true rfl) (by first | exact jl_d0 hd rfl | omega) (by first | exact Nat.le_of_ble_eq_true rfl | omega) (by first | exact Nat.le_of_ble_eq_true rfl | omega) ?_
          refine f_X0_get g (by first | exact jl_d1 hd rfl | omega) (by assumption) L2 (fun z42 e42 v42 => sg_K1 ?_)
          rw [k2] at e42
          rw [k2] at v42
          try rw [fa_tg (by omega) (by omega)] at e42
          rw [gg_in (by omega) (by omega)] at e42
          subst e42
          refine sg_cS1 (pc := 45) (d' := d - 1) (mc' := 0) (ms' := 0) g (dc_X5_isAlike_28.2.1.1.1) cb_X2_upperOf ml_X5_78 ms_X2_upperOf (Nat.le_of_ble_eq_true rfl) (by first | exact jl_d0 hd rfl | omega) (by first | exact Nat.le_of_ble_eq_true rfl | omega) (by first | exact Nat.le_of_ble_eq_true rfl | omega) ?_
          refine s_X2_upperOf g (by first | exact jl_d1 hd rfl | omega) (fun z45 h45 => sg_K1 ?_)
          refine sg_aload (pc := 48) (dc_X5_isAlike_28.2.1.1.2) rfl ?_
          refine sg_iload (pc := 50) (dc_X5_isAlike_28.2.1.2.1) rfl ?_
          refine sg_cE1 (pc := 52) (d' := d - 1) (mc' := 0) (ms' := 0) 3 g (dc_X5_isAlike_28.2.1.2.2) cb_X0_get ml_X5_75 mn_X0_get rfl mv_X0_get (Nat.le_of_ble_eq_true rfl) (ck_lc (by assumption) (by first | assumption | exact ck_rev)) (Nat.le_of_ble_eq_true rfl) (by first | exact jl_d0 hd rfl | omega) (by first | exact Nat.le_of_ble_eq_true rfl | omega) (by first | exact Nat.le_of_ble_eq_true rfl | omega) ?_
          refine f_X0_get g (by first | exact jl_d1 hd rfl | omega) (by assumption) L8 (fun z52 e52 v52 => sg_K1 ?_)
          rw [k8] at e52
          rw [k8] at v52
          try rw [fa_tg (by omega) (by omega)] at e52
          rw [gg_in (by omega) (by omega)] at e52
          subst e52
          refine sg_cS1 (pc := 55) (d' := d - 1) (mc' := 0) (ms' := 0) g (dc_X5_isAlike_28.2.2.1.1) cb_X2_upperOf ml_X5_78 ms_X2_upperOf (Nat.le_of_ble_eq_true rfl) (by first | exact jl_d0 hd rfl | omega) (by first | exact Nat.le_of_ble_eq_true rfl | omega) (by first | exact Nat.le_of_ble_eq_true rfl | omega) ?_
          refine s_X2_upperOf g (by first | exact jl_d1 hd rfl | omega) (fun z55 h55 => sg_K1 ?_)
          refine sg_icmp_eq (pc := 58) (tgt := 63) (dc_X5_isAlike_28.2.2.1.2) (by decide) (fun c58 => ?_) (fun c58 => ?_)
          · first | refine sg_iincB (pc := 63) (dc_X5_isAlike_63.1.1) rfl (by decide) (by decide) (by omega) (by omega) ?_ | refine sg_iinc (pc := 63) (dc_X5_isAlike_63.1.1) rfl (by decide) (by decide) ?_
            refine sg_goto (pc := 66) (tgt := 30) (dc_X5_isAlike_63.1.2) (by decide) ?_
            refine sg_lsub (lv' := [(5, _), (0, _), (3, _), (4, _)]) ⟨rfl, rfl, rfl, rfl, trivial⟩ ?_
            exact ih _ (by omega) (fun j j0 => by
              by_cases q : j = p.toNat
              · subst q; omega
              · exact p1 j (by omega)) (by first | exact jl_m1 hm (by omega) | exact jl_m2 hm (by omega) | omega)
          · refine sg_iconst (pc := 61) (z := 0) (dc_X5_isAlike_28.2.2.2.1) (by decide) ?_
            refine sg_zret (pc := 62) (dc_X5_isAlike_28.2.2.2.2) rfl (by first | exact Or.inl rfl | exact Or.inr rfl | omega | assumption) (by first | exact Nat.le_of_ble_eq_true rfl | omega) (by first | exact Nat.le_of_ble_eq_true rfl | omega) ?_
            exact hQ (by omega) _ (Or.inl ⟨rfl, fun q => by have := q.2 p.toNat (by omega); omega⟩)
    refine sg_lsub (lv' := [(5, _), (0, _), (3, _), (4, _)]) ⟨rfl, rfl, rfl, rfl, trivial⟩ ?_
    exact loop30 _ _ (by omega) (fun j j0 => absurd j0 (by omega)) (Nat.lt_succ_self _)
  · refine sg_iconst (pc := 25) (z := 0) (dc_X5_isAlike_0.2.2.1.2) (by decide) ?_
    refine sg_zret (pc := 26) (dc_X5_isAlike_0.2.2.2.1) rfl (by first | exact Or.inl rfl | exact Or.inr rfl | omega | assumption) (by first | exact Nat.le_of_ble_eq_true rfl | omega) (by first | exact Nat.le_of_ble_eq_true rfl | omega) ?_
    exact hQ (by omega) _ (Or.inl ⟨rfl, fun q => by have := q.1; omega⟩)

