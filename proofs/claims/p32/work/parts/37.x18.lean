set_option maxRecDepth 100000 in
theorem f_X5_values {w : sg_W} {Q : sg_O → sg_H → Prop} {h : sg_H} (g : sg_G w) {d : Nat} (hd : 14 ≤ d) {B : Nat} {A : fa_A} (hx : cf_X h B A) (ok : fa_ok A) {row : Int} {L : List Int} (hL : fa_L A row.toNat = L) (hQ : ¬ (row < 0 ∨ 4 ≤ row) → ∀ v : Int, v = fs_vs L L.length → Q (.inl (some (sg_i v))) h) (hXI : (row < 0 ∨ 4 ≤ row) → ∀ z, h.1 ≤ z → Q (.inr e_I) (z, h.2)) : sg_C w mi_X5_values d 8 48 [sg_r B, sg_i row] h Q := by
  refine sg_of pn_X5 (Nat.le_of_ble_eq_true rfl) ?_
  obtain ⟨x0, ho, hS, hP, hK⟩ := id hx
  have y0 := ck_Y0 x0
  have hc40 : ck_cap 0 = 40 := rfl
  refine sg_aload_n (pc := 0) (j := 0) (dc_X5_values_0.1.1.1.1) rfl rfl ?_
  refine sg_iload_n (pc := 1) (j := 1) (dc_X5_values_0.1.1.1.2) rfl rfl ?_
  refine sg_cE1 (pc := 2) (d' := d - 1) (mc' := 1) (ms' := 6) 6 g (dc_X5_values_0.1.1.2.1) cb_X5_rowOf ml_X5_36 mn_X5_rowOf rfl mv_X5_rowOf (Nat.le_of_ble_eq_true rfl) (ck_oc (by assumption)) (Nat.le_of_ble_eq_true rfl) (by first | exact jl_d0 hd rfl | omega) (by first | exact Nat.le_of_ble_eq_true rfl | omega) (by first | exact Nat.le_of_ble_eq_true rfl | omega) ?_
  refine f_X5_rowOf g (by first | exact jl_d1 hd rfl | omega) (by assumption) (fun l2 r2 L2 => sg_K1 ?_) (fun t2 z2 w2 => sg_KX (by first | exact Nat.le_of_ble_eq_true rfl | omega) (by first | exact Nat.le_of_ble_eq_true rfl | omega) (hXI (by omega) z2 w2))
  obtain ⟨a2, ea2⟩ : ∃ a, a = B + 1 + 3 + 2 * row.toNat := ⟨_, rfl⟩
  rw [← ea2] at L2 ⊢
  have k2 : cf_l h a2 = L := by rw [ea2, cf_rl hx (by omega)]; exact hL
  have r42 := fa_row ok (i := row.toNat) (by omega)
  rw [hL] at r42
  refine sg_astore_n (pc := 5) (j := 2) (dc_X5_values_0.1.1.2.2) rfl (by decide) ?_
  refine sg_iconst (pc := 6) (z := 0) (dc_X5_values_0.1.2.1.1) (by decide) ?_
  refine sg_istore_n (pc := 7) (j := 3) (dc_X5_values_0.1.2.1.2) rfl (by decide) ?_
  refine sg_iconst (pc := 8) (z := 0) (dc_X5_values_0.1.2.2.1) (by decide) ?_
  refine sg_istore (pc := 9) (dc_X5_values_0.1.2.2.2) (by decide) ?_
  have loop11 : ∀ (N : Nat) (p s : Int), (0 ≤ p ∧ p ≤ (L.length : Int)) → (s = fs_vs L p.toNat) → ((L.length : Int) - p).toNat < N → sg_R w mi_X5_values d 8 48 Q 11 [(4, sg_i p), (3, sg_i s), (0, sg_r B), (2, sg_r a2)] [] h 1 6 := by
    intro N
    induction N with
    | zero => intro p s p0 s0 hm; exact absurd hm (Nat.not_lt_zero _)
    | succ N ih =>
      intro p s p0 s0 hm
      have sb := fs_vsb (L := L) (n := p.toNat)
      rw [← s0] at sb
      refine sg_iload (pc := 11) (dc_X5_values_0.2.1.1.1) rfl ?_
      refine sg_aload_n (pc := 13) (j := 2) (dc_X5_values_0.2.1.1.2) rfl rfl ?_
      refine sg_cE0 (pc := 14) (d' := d - 1) (mc' := 0) (ms' := 0) 3 g (dc_X5_values_0.2.1.2.1) cb_X0_size ml_X5_63 mn_X0_size rfl mv_X0_size (Nat.le_of_ble_eq_true rfl) (ck_lc (by assumption) (by first | assumption | exact ck_rev)) (Nat.le_of_ble_eq_true rfl) (by first | exact jl_d0 hd rfl | omega) (by first | exact Nat.le_of_ble_eq_true rfl | omega) (by first | exact Nat.le_of_ble_eq_true rfl | omega) ?_
      refine f_X0_size g (by first | exact jl_d1 hd rfl | omega) (by assumption) L2 (fun z14 e14 l014 u14 => sg_K1 ?_)
      rw [k2] at e14
      try rw [fa_tlen] at e14
      refine sg_icmp_ge (pc := 17) (tgt := 47) (dc_X5_values_0.2.1.2.2) (by decide) (fun c17 => ?_) (fun c17 => ?_)
      · refine sg_iload_n (pc := 47) (j := 3) (dc_X5_values_29.2.1.1.2) rfl rfl ?_
        refine sg_iret (pc := 48) (dc_X5_values_29.2.1.2.1) rfl (by first | exact Nat.le_of_ble_eq_true rfl | omega) (by first | exact Nat.le_of_ble_eq_true rfl | omega) ?_
        exact hQ (by omega) _ (by rw [s0, show p.toNat = L.length by omega])
      · refine sg_aload_n (pc := 20) (j := 2) (dc_X5_values_0.2.2.1.1) rfl rfl ?_
        refine sg_iload (pc := 21) (dc_X5_values_0.2.2.1.2) rfl ?_
        refine sg_cE1 (pc := 23) (d' := d - 1) (mc' := 0) (ms' := 0) 3 g (dc_X5_values_0.2.2.2.1) cb_X0_get ml_X5_75 mn_X0_get rfl mv_X0_get (Nat.le_of_ble_eq_true rfl) (ck_lc (by assumption) (by first | assumption | exact ck_rev)) (Nat.le_of_ble_eq_true rfl) (by first | exact jl_d0 hd rfl | omega) (by first | exact Nat.le_of_ble_eq_true rfl | omega) (by first | exact Nat.le_of_ble_eq_true rfl | omega) ?_
        refine f_X0_get g (by first | exact jl_d1 hd rfl | omega) (by assumption) L2 (fun z23 e23 v23 => sg_K1 ?_)
        rw [k2] at e23
        rw [k2] at v23
        try rw [fa_tg (by omega) (by omega)] at e23
        rw [gg_in (by omega) (by omega)] at e23
        subst e23
        refine sg_cS1 (pc := 26) (d' := d - 1) (mc' := 0) (ms' := 0) g (dc_X5_values_0.2.2.2.2) cb_X2_signValue ml_X5_195 ms_X2_signValue (Nat.le_of_ble_eq_true rfl) (by first | exact jl_d0 hd rfl | omega) (by first | exact Nat.le_of_ble_eq_true rfl | omega) (by first | exact Nat.le_of_ble_eq_true rfl | omega) ?_
        refine s_X2_signValue g (by first | exact jl_d1 hd rfl | omega) (fun z26 h26 => sg_K1 ?_)
        refine sg_istore (pc := 29) (dc_X5_values_29.1.1.1.1) (by decide) ?_
        have bk := fs_vss (L := L) (p := p) (by omega)
        rw [← h26] at bk
        have nb := fn_vb (L.getD p.toNat 0)
        rw [← h26] at nb
        refine sg_iload (pc := 31) (dc_X5_values_29.1.1.1.2) rfl ?_
        refine sg_if_lt (pc := 33) (tgt := 41) (dc_X5_values_29.1.1.2.1) (by decide) (fun c33 => ?_) (fun c33 => ?_)
        · first | refine sg_iincB (pc := 41) (dc_X5_values_29.1.2.2.2) rfl (by decide) (by decide) (by omega) (by omega) ?_ | refine sg_iinc (pc := 41) (dc_X5_values_29.1.2.2.2) rfl (by decide) (by decide) ?_
          refine sg_goto (pc := 44) (tgt := 11) (dc_X5_values_29.2.1.1.1) (by decide) ?_
          refine sg_lsub (lv' := [(4, _), (3, _), (0, _), (2, _)]) ⟨rfl, rfl, rfl, rfl, trivial⟩ ?_
          exact ih _ _ (by omega) (by omega) (by first | exact jl_m1 hm (by omega) | exact jl_m2 hm (by omega) | omega)
        · refine sg_iload_n (pc := 36) (j := 3) (dc_X5_values_29.1.1.2.2) rfl rfl ?_
          refine sg_iload (pc := 37) (dc_X5_values_29.1.2.1.1) rfl ?_
          first | refine sg_iaddB (pc := 39) (dc_X5_values_29.1.2.1.2) (by omega) (by omega) ?_ | refine sg_iadd (pc := 39) (dc_X5_values_29.1.2.1.2) ?_
          refine sg_istore_n (pc := 40) (j := 3) (dc_X5_values_29.1.2.2.1) rfl (by decide) ?_
          first | refine sg_iincB (pc := 41) (dc_X5_values_29.1.2.2.2) rfl (by decide) (by decide) (by omega) (by omega) ?_ | refine sg_iinc (pc := 41) (dc_X5_values_29.1.2.2.2) rfl (by decide) (by decide) ?_
          refine sg_goto (pc := 44) (tgt := 11) (dc_X5_values_29.2.1.1.1) (by decide) ?_
          refine sg_lsub (lv' := [(4, _), (3, _), (0, _), (2, _)]) ⟨rfl, rfl, rfl, rfl, trivial⟩ ?_
          exact ih _ _ (by omega) (by omega) (by first | exact jl_m1 hm (by omega) | exact jl_m2 hm (by omega) | omega)
  refine sg_lsub (lv' := [(4, _), (3, _), (0, _), (2, _)]) ⟨rfl, rfl, rfl, rfl, trivial⟩ ?_
  exact loop11 _ _ _ (by omega) rfl (Nat.lt_succ_self _)

