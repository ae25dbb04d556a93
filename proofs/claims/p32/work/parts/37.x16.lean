set_option maxRecDepth 100000 in
theorem f_X5_told {w : sg_W} {Q : sg_O → sg_H → Prop} {h : sg_H} (g : sg_G w) {d : Nat} (hd : 14 ≤ d) {B : Nat} {A : fa_A} (hx : cf_X h B A) (ok : fa_ok A) {row radix : Int} {L : List Int} (hL : fa_L A row.toNat = L) (hQ : ¬ (row < 0 ∨ 4 ≤ row) → ¬ (radix < 2 ∨ 36 < radix) → ∀ v : Int, v = fs_told L radix → Q (.inl (some (sg_i v))) h) (hXI : (row < 0 ∨ 4 ≤ row) → ∀ z, h.1 ≤ z → Q (.inr e_I) (z, h.2)) (hXA : ¬ (row < 0 ∨ 4 ≤ row) → (radix < 2 ∨ 36 < radix) → ∀ z, h.1 ≤ z → Q (.inr e_A) (z, h.2)) : sg_C w mi_X5_told d 8 48 [sg_r B, sg_i row, sg_i radix] h Q := by
  refine sg_of pn_X5 (Nat.le_of_ble_eq_true rfl) ?_
  obtain ⟨x0, ho, hS, hP, hK⟩ := id hx
  have y0 := ck_Y0 x0
  have hc40 : ck_cap 0 = 40 := rfl
  refine sg_aload_n (pc := 0) (j := 0) (dc_X5_told_0.1.1.1.1) rfl rfl ?_
  refine sg_iload_n (pc := 1) (j := 1) (dc_X5_told_0.1.1.1.2) rfl rfl ?_
  refine sg_cE1 (pc := 2) (d' := d - 1) (mc' := 1) (ms' := 6) 6 g (dc_X5_told_0.1.1.2.1) cb_X5_rowOf ml_X5_36 mn_X5_rowOf rfl mv_X5_rowOf (Nat.le_of_ble_eq_true rfl) (ck_oc (by assumption)) (Nat.le_of_ble_eq_true rfl) (by first | exact jl_d0 hd rfl | omega) (by first | exact Nat.le_of_ble_eq_true rfl | omega) (by first | exact Nat.le_of_ble_eq_true rfl | omega) ?_
  refine f_X5_rowOf g (by first | exact jl_d1 hd rfl | omega) (by assumption) (fun l2 r2 L2 => sg_K1 ?_) (fun t2 z2 w2 => sg_KX (by first | exact Nat.le_of_ble_eq_true rfl | omega) (by first | exact Nat.le_of_ble_eq_true rfl | omega) (hXI (by omega) z2 w2))
  obtain ⟨a2, ea2⟩ : ∃ a, a = B + 1 + 3 + 2 * row.toNat := ⟨_, rfl⟩
  rw [← ea2] at L2 ⊢
  have k2 : cf_l h a2 = L := by rw [ea2, cf_rl hx (by omega)]; exact hL
  have r42 := fa_row ok (i := row.toNat) (by omega)
  rw [hL] at r42
  refine sg_astore_n (pc := 5) (j := 3) (dc_X5_told_0.1.1.2.2) rfl (by decide) ?_
  refine sg_iload_n (pc := 6) (j := 2) (dc_X5_told_0.1.2.1.1) rfl rfl ?_
  refine sg_cS1 (pc := 7) (d' := d - 1) (mc' := 1) (ms' := 6) g (dc_X5_told_0.1.2.1.2) cb_X5_checkRadix ml_X5_115 ms_X5_checkRadix (Nat.le_of_ble_eq_true rfl) (by first | exact jl_d0 hd rfl | omega) (by first | exact Nat.le_of_ble_eq_true rfl | omega) (by first | exact Nat.le_of_ble_eq_true rfl | omega) ?_
  refine s_X5_checkRadix g (by first | exact jl_d1 hd rfl | omega) (fun v7 => sg_K0 ?_) (fun t7 z7 w7 => sg_KX (by first | exact Nat.le_of_ble_eq_true rfl | omega) (by first | exact Nat.le_of_ble_eq_true rfl | omega) (hXA (by omega) (by omega) z7 w7))
  refine sg_aload_n (pc := 10) (j := 3) (dc_X5_told_0.1.2.2.1) rfl rfl ?_
  refine sg_cE0 (pc := 11) (d' := d - 1) (mc' := 0) (ms' := 0) 3 g (dc_X5_told_0.1.2.2.2) cb_X0_size ml_X5_63 mn_X0_size rfl mv_X0_size (Nat.le_of_ble_eq_true rfl) (ck_lc (by assumption) (by first | assumption | exact ck_rev)) (Nat.le_of_ble_eq_true rfl) (by first | exact jl_d0 hd rfl | omega) (by first | exact Nat.le_of_ble_eq_true rfl | omega) (by first | exact Nat.le_of_ble_eq_true rfl | omega) ?_
  refine f_X0_size g (by first | exact jl_d1 hd rfl | omega) (by assumption) L2 (fun z11 e11 l011 u11 => sg_K1 ?_)
  rw [k2] at e11
  try rw [fa_tlen] at e11
  refine sg_if_ne (pc := 14) (tgt := 20) (dc_X5_told_0.2.1.1.1) (by decide) (fun c14 => ?_) (fun c14 => ?_)
  · refine sg_iconst (pc := 20) (z := 0) (dc_X5_told_0.2.1.2.2) (by decide) ?_
    refine sg_istore (pc := 21) (dc_X5_told_0.2.2.1.1) (by decide) ?_
    refine sg_iconst (pc := 23) (z := 0) (dc_X5_told_0.2.2.1.2) (by decide) ?_
    refine sg_istore (pc := 24) (dc_X5_told_0.2.2.2.1) (by decide) ?_
    have loop26 : ∀ (N : Nat) (p s : Int), (0 ≤ p ∧ p ≤ (L.length : Int)) → (s = fs_tf L radix p.toNat) → (∀ j : Nat, (j : Int) < p → fn_num (L.getD j 0) radix ≠ -1) → ((L.length : Int) - p).toNat < N → sg_R w mi_X5_told d 8 48 Q 26 [(5, sg_i p), (4, sg_i s), (0, sg_r B), (2, sg_i radix), (3, sg_r a2)] [] h 2 12 := by
      intro N
      induction N with
      | zero => intro p s p0 s0 p1 hm; exact absurd hm (Nat.not_lt_zero _)
      | succ N ih =>
        intro p s p0 s0 p1 hm
        have sb := fs_tfb (L := L) (r := radix) p.toNat
        rw [← s0] at sb
        refine sg_iload (pc := 26) (dc_X5_told_0.2.2.2.2) rfl ?_
        refine sg_aload_n (pc := 28) (j := 3) (dc_X5_told_28.1.1.1.1) rfl rfl ?_
        refine sg_cE0 (pc := 29) (d' := d - 1) (mc' := 0) (ms' := 0) 3 g (dc_X5_told_28.1.1.1.2) cb_X0_size ml_X5_63 mn_X0_size rfl mv_X0_size (Nat.le_of_ble_eq_true rfl) (ck_lc (by assumption) (by first | assumption | exact ck_rev)) (Nat.le_of_ble_eq_true rfl) (by first | exact jl_d0 hd rfl | omega) (by first | exact Nat.le_of_ble_eq_true rfl | omega) (by first | exact Nat.le_of_ble_eq_true rfl | omega) ?_
        refine f_X0_size g (by first | exact jl_d1 hd rfl | omega) (by assumption) L2 (fun z29 e29 l029 u29 => sg_K1 ?_)
        rw [k2] at e29
        try rw [fa_tlen] at e29
        refine sg_icmp_ge (pc := 32) (tgt := 74) (dc_X5_told_28.1.1.2.1) (by decide) (fun c32 => ?_) (fun c32 => ?_)
        · refine sg_iload (pc := 74) (dc_X5_told_59.2.1.1.1) rfl ?_
          refine sg_iret (pc := 76) (dc_X5_told_59.2.1.1.2) rfl (by first | exact Nat.le_of_ble_eq_true rfl | omega) (by first | exact Nat.le_of_ble_eq_true rfl | omega) ?_
          exact hQ (by omega) (by omega) _ (fs_theE fs_tU (Or.inr ⟨by rw [s0, show p.toNat = L.length by omega], by omega, fun j j1 => p1 j (by omega)⟩))
        · refine sg_aload_n (pc := 35) (j := 3) (dc_X5_told_28.1.1.2.2) rfl rfl ?_
          refine sg_iload (pc := 36) (dc_X5_told_28.1.2.1.1) rfl ?_
          refine sg_cE1 (pc := 38) (d' := d - 1) (mc' := 0) (ms' := 0) 3 g (dc_X5_told_28.1.2.1.2) cb_X0_get ml_X5_75 mn_X0_get rfl mv_X0_get (Nat.le_of_ble_eq_true rfl) (ck_lc (by assumption) (by first | assumption | exact ck_rev)) (Nat.le_of_ble_eq_true rfl) (by first | exact jl_d0 hd rfl | omega) (by first | exact Nat.le_of_ble_eq_true rfl | omega) (by first | exact Nat.le_of_ble_eq_true rfl | omega) ?_
          refine f_X0_get g (by first | exact jl_d1 hd rfl | omega) (by assumption) L2 (fun z38 e38 v38 => sg_K1 ?_)
          rw [k2] at e38
          rw [k2] at v38
          try rw [fa_tg (by omega) (by omega)] at e38
          rw [gg_in (by omega) (by omega)] at e38
          subst e38
          refine sg_iload_n (pc := 41) (j := 2) (dc_X5_told_28.1.2.2.1) rfl rfl ?_
          refine sg_cS2 (pc := 42) (d' := d - 1) (mc' := 0) (ms' := 0) g (dc_X5_told_28.1.2.2.2) cb_X2_numberOf ml_X5_148 ms_X2_numberOf (Nat.le_of_ble_eq_true rfl) (by first | exact jl_d0 hd rfl | omega) (by first | exact Nat.le_of_ble_eq_true rfl | omega) (by first | exact Nat.le_of_ble_eq_true rfl | omega) ?_
          refine s_X2_numberOf g (by first | exact jl_d1 hd rfl | omega) (fun z42 h42 => sg_K1 ?_)
          refine sg_istore (pc := 45) (dc_X5_told_28.2.1.1.1) (by decide) ?_
          refine sg_iload (pc := 47) (dc_X5_told_28.2.1.1.2) rfl ?_
          refine sg_iconst (pc := 49) (z := -1) (dc_X5_told_28.2.1.2.1) (by decide) ?_
          refine sg_icmp_ne (pc := 50) (tgt := 56) (dc_X5_told_28.2.1.2.2) (by decide) (fun c50 => ?_) (fun c50 => ?_)
          · have nb := fn_nb (L.getD p.toNat 0) radix
            rw [← h42] at nb
            have mb0 : 0 ≤ s * radix := Int.mul_nonneg sb.1 (by omega)
            have mb1 : s * radix ≤ 1000003 * 36 := Int.le_trans (Int.mul_le_mul_of_nonneg_left (show radix ≤ 36 by omega) sb.1) (Int.mul_le_mul_of_nonneg_right (Int.le_of_lt sb.2) (by decide))
            refine sg_iload (pc := 56) (dc_X5_told_28.2.2.2.1) rfl ?_
            refine sg_iload_n (pc := 58) (j := 2) (dc_X5_told_28.2.2.2.2) rfl rfl ?_
            first | refine sg_imulB (pc := 59) (dc_X5_told_59.1.1.1.1) (by omega) (by omega) ?_ | refine sg_imul (pc := 59) (dc_X5_told_59.1.1.1.1) ?_
            refine sg_iload (pc := 60) (dc_X5_told_59.1.1.1.2) rfl ?_
            first | refine sg_iaddB (pc := 62) (dc_X5_told_59.1.1.2.1) (by omega) (by omega) ?_ | refine sg_iadd (pc := 62) (dc_X5_told_59.1.1.2.1) ?_
            refine sg_ldc (pc := 63) (z := 1000003) g (dc_X5_told_59.1.1.2.2) cn_X5_218 (by decide) ?_
            first | refine sg_iremP (pc := 65) (dc_X5_told_59.1.2.1.1) (by omega) (by omega) ?_ | refine sg_irem (pc := 65) (dc_X5_told_59.1.2.1.1) (by first | omega | assumption) ?_
            refine sg_istore (pc := 66) (dc_X5_told_59.1.2.1.2) (by decide) ?_
            first | refine sg_iincB (pc := 68) (dc_X5_told_59.1.2.2.1) rfl (by decide) (by decide) (by omega) (by omega) ?_ | refine sg_iinc (pc := 68) (dc_X5_told_59.1.2.2.1) rfl (by decide) (by decide) ?_
            refine sg_goto (pc := 71) (tgt := 26) (dc_X5_told_59.1.2.2.2) (by decide) ?_
            refine sg_lsub (lv' := [(5, _), (4, _), (0, _), (2, _), (3, _)]) ⟨rfl, rfl, rfl, rfl, rfl, trivial⟩ ?_
            exact ih _ _ (by omega) (by rw [fs_tfs (by omega), ← s0, ← h42]) (fun j j0 => by
              by_cases q : j = p.toNat
              · subst q; omega
              · exact p1 j (by omega)) (by first | exact jl_m1 hm (by omega) | exact jl_m2 hm (by omega) | omega)
          · refine sg_bipush (pc := 53) (z := -9) (dc_X5_told_28.2.2.1.1) (by decide) ?_
            refine sg_iret (pc := 55) (dc_X5_told_28.2.2.1.2) rfl (by first | exact Nat.le_of_ble_eq_true rfl | omega) (by first | exact Nat.le_of_ble_eq_true rfl | omega) ?_
            exact hQ (by omega) (by omega) _ (fs_theE fs_tU (Or.inl ⟨rfl, Or.inr ⟨p.toNat, by omega, by omega⟩⟩))
    refine sg_lsub (lv' := [(5, _), (4, _), (0, _), (2, _), (3, _)]) ⟨rfl, rfl, rfl, rfl, rfl, trivial⟩ ?_
    exact loop26 _ _ _ (by omega) rfl (fun j j0 => absurd j0 (by omega)) (Nat.lt_succ_self _)
  · refine sg_bipush (pc := 17) (z := -9) (dc_X5_told_0.2.1.1.2) (by decide) ?_
    refine sg_iret (pc := 19) (dc_X5_told_0.2.1.2.1) rfl (by first | exact Nat.le_of_ble_eq_true rfl | omega) (by first | exact Nat.le_of_ble_eq_true rfl | omega) ?_
    exact hQ (by omega) (by omega) _ (fs_theE fs_tU (Or.inl ⟨rfl, Or.inl (by omega)⟩))

