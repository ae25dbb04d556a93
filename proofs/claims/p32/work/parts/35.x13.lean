set_option maxRecDepth 100000 in
theorem f_X5_canBeRead {w : sg_W} {Q : sg_O → sg_H → Prop} {h : sg_H} (g : sg_G w) {d : Nat} (hd : 11 ≤ d) {B a1 : Nat} (hx : ck_X h B) (L1 : ck_L B a1 0) {L : List Int} (kk : cf_l h a1 = L) (hQ : ∀ z : Int, ((z = 0 ∧ ¬ fs_can L) ∨ (z = 1 ∧ fs_can L)) → Q (.inl (some (sg_i z))) h) : sg_C w mi_X5_canBeRead d 0 0 [sg_r a1] h Q := by
  refine sg_of pn_X5 (Nat.le_of_ble_eq_true rfl) ?_
  have y0 := ck_Y0 hx
  have l40 := cf_40 hx L1
  rw [kk] at l40
  have hc40 : ck_cap 0 = 40 := rfl
  refine sg_aload_n (pc := 0) (j := 0) (dc_X5_canBeRead_0.1.1.1.1) rfl rfl ?_
  refine sg_cE0 (pc := 1) (d' := d - 1) (mc' := 0) (ms' := 0) 3 g (dc_X5_canBeRead_0.1.1.1.2) cb_X0_size ml_X5_63 mn_X0_size rfl mv_X0_size (Nat.le_of_ble_eq_true rfl) (ck_lc (by assumption) (by first | assumption | exact ck_rev)) (Nat.le_of_ble_eq_true rfl) (by first | exact jl_d0 hd rfl | omega) (by first | exact Nat.le_of_ble_eq_true rfl | omega) (by first | exact Nat.le_of_ble_eq_true rfl | omega) ?_
  refine f_X0_size g (by first | exact jl_d1 hd rfl | omega) (by assumption) L1 (fun z1 e1 l01 u1 => sg_K1 ?_)
  rw [kk] at e1
  try rw [fa_tlen] at e1
  refine sg_iconst (pc := 4) (z := 2) (dc_X5_canBeRead_0.1.1.2.1) (by decide) ?_
  first | refine sg_iremP (pc := 5) (dc_X5_canBeRead_0.1.1.2.2) (by omega) (by omega) ?_ | refine sg_irem (pc := 5) (dc_X5_canBeRead_0.1.1.2.2) (by first | omega | assumption) ?_
  refine sg_if_eq (pc := 6) (tgt := 11) (dc_X5_canBeRead_0.1.2.1.1) (by decide) (fun c6 => ?_) (fun c6 => ?_)
  · refine sg_iconst (pc := 11) (z := 0) (dc_X5_canBeRead_0.1.2.2.2) (by decide) ?_
    refine sg_istore_n (pc := 12) (j := 1) (dc_X5_canBeRead_0.2.1.1.1) rfl (by decide) ?_
    have loop13 : ∀ (N : Nat) (p : Int), (0 ≤ p ∧ p ≤ (L.length : Int)) → (∀ j : Nat, (j : Int) < p → fn_num (L.getD j 0) 16 ≠ -1) → ((L.length : Int) - p).toNat < N → sg_R w mi_X5_canBeRead d 0 0 Q 13 [(1, sg_i p), (0, sg_r a1)] [] h 0 0 := by
      intro N
      induction N with
      | zero => intro p p0 p1 hm; exact absurd hm (Nat.not_lt_zero _)
      | succ N ih =>
        intro p p0 p1 hm
        refine sg_iload_n (pc := 13) (j := 1) (dc_X5_canBeRead_0.2.1.1.2) rfl rfl ?_
        refine sg_aload_n (pc := 14) (j := 0) (dc_X5_canBeRead_0.2.1.2.1) rfl rfl ?_
        refine sg_cE0 (pc := 15) (d' := d - 1) (mc' := 0) (ms' := 0) 3 g (dc_X5_canBeRead_0.2.1.2.2) cb_X0_size ml_X5_63 mn_X0_size rfl mv_X0_size (Nat.le_of_ble_eq_true rfl) (ck_lc (by assumption) (by first | assumption | exact ck_rev)) (Nat.le_of_ble_eq_true rfl) (by first | exact jl_d0 hd rfl | omega) (by first | exact Nat.le_of_ble_eq_true rfl | omega) (by first | exact Nat.le_of_ble_eq_true rfl | omega) ?_
        refine f_X0_size g (by first | exact jl_d1 hd rfl | omega) (by assumption) L1 (fun z15 e15 l015 u15 => sg_K1 ?_)
        rw [kk] at e15
        try rw [fa_tlen] at e15
        refine sg_icmp_ge (pc := 18) (tgt := 43) (dc_X5_canBeRead_0.2.2.1.1) (by decide) (fun c18 => ?_) (fun c18 => ?_)
        · refine sg_iconst (pc := 43) (z := 1) (dc_X5_canBeRead_26.2.1.1.1) (by decide) ?_
          refine sg_zret (pc := 44) (dc_X5_canBeRead_26.2.1.1.2) rfl (by first | exact Or.inl rfl | exact Or.inr rfl | omega | assumption) (by first | exact Nat.le_of_ble_eq_true rfl | omega) (by first | exact Nat.le_of_ble_eq_true rfl | omega) ?_
          first | exact hQ _ (Or.inl ⟨rfl, fun q => absurd q.1 (by omega)⟩) | exact hQ _ (Or.inl ⟨rfl, fun q => absurd (by rw [← h28]; omega) (q.2 p.toNat (by omega))⟩) | exact hQ _ (Or.inr ⟨rfl, by omega, fun j hj => p1 j (by omega)⟩)
        · refine sg_aload_n (pc := 21) (j := 0) (dc_X5_canBeRead_0.2.2.1.2) rfl rfl ?_
          refine sg_iload_n (pc := 22) (j := 1) (dc_X5_canBeRead_0.2.2.2.1) rfl rfl ?_
          refine sg_cE1 (pc := 23) (d' := d - 1) (mc' := 0) (ms' := 0) 3 g (dc_X5_canBeRead_0.2.2.2.2) cb_X0_get ml_X5_75 mn_X0_get rfl mv_X0_get (Nat.le_of_ble_eq_true rfl) (ck_lc (by assumption) (by first | assumption | exact ck_rev)) (Nat.le_of_ble_eq_true rfl) (by first | exact jl_d0 hd rfl | omega) (by first | exact Nat.le_of_ble_eq_true rfl | omega) (by first | exact Nat.le_of_ble_eq_true rfl | omega) ?_
          refine f_X0_get g (by first | exact jl_d1 hd rfl | omega) (by assumption) L1 (fun z23 e23 v23 => sg_K1 ?_)
          rw [kk] at e23
          rw [kk] at v23
          try rw [fa_tg (by omega) (by omega)] at e23
          rw [gg_in (by omega) (by omega)] at e23
          subst e23
          refine sg_bipush (pc := 26) (z := 16) (dc_X5_canBeRead_26.1.1.1.1) (by decide) ?_
          refine sg_cS2 (pc := 28) (d' := d - 1) (mc' := 0) (ms' := 0) g (dc_X5_canBeRead_26.1.1.1.2) cb_X2_numberOf ml_X5_148 ms_X2_numberOf (Nat.le_of_ble_eq_true rfl) (by first | exact jl_d0 hd rfl | omega) (by first | exact Nat.le_of_ble_eq_true rfl | omega) (by first | exact Nat.le_of_ble_eq_true rfl | omega) ?_
          refine s_X2_numberOf g (by first | exact jl_d1 hd rfl | omega) (fun z28 h28 => sg_K1 ?_)
          refine sg_iconst (pc := 31) (z := -1) (dc_X5_canBeRead_26.1.1.2.1) (by decide) ?_
          refine sg_icmp_ne (pc := 32) (tgt := 37) (dc_X5_canBeRead_26.1.1.2.2) (by decide) (fun c32 => ?_) (fun c32 => ?_)
          · first | refine sg_iincB (pc := 37) (dc_X5_canBeRead_26.1.2.2.1) rfl (by decide) (by decide) (by omega) (by omega) ?_ | refine sg_iinc (pc := 37) (dc_X5_canBeRead_26.1.2.2.1) rfl (by decide) (by decide) ?_
            refine sg_goto (pc := 40) (tgt := 13) (dc_X5_canBeRead_26.1.2.2.2) (by decide) ?_
            refine sg_lsub (lv' := [(1, _), (0, _)]) ⟨rfl, rfl, trivial⟩ ?_
            exact ih _ (by omega) (fun j j0 => by
              by_cases q : j = p.toNat
              · subst q; omega
              · exact p1 j (by omega)) (by first | exact jl_m1 hm (by omega) | exact jl_m2 hm (by omega) | omega)
          · refine sg_iconst (pc := 35) (z := 0) (dc_X5_canBeRead_26.1.2.1.1) (by decide) ?_
            refine sg_zret (pc := 36) (dc_X5_canBeRead_26.1.2.1.2) rfl (by first | exact Or.inl rfl | exact Or.inr rfl | omega | assumption) (by first | exact Nat.le_of_ble_eq_true rfl | omega) (by first | exact Nat.le_of_ble_eq_true rfl | omega) ?_
            first | exact hQ _ (Or.inl ⟨rfl, fun q => absurd q.1 (by omega)⟩) | exact hQ _ (Or.inl ⟨rfl, fun q => absurd (by rw [← h28]; omega) (q.2 p.toNat (by omega))⟩) | exact hQ _ (Or.inr ⟨rfl, by omega, fun j hj => p1 j (by omega)⟩)
    refine sg_lsub (lv' := [(1, _), (0, _)]) ⟨rfl, rfl, trivial⟩ ?_
    exact loop13 _ _ (by omega) (fun j j0 => absurd j0 (by omega)) (Nat.lt_succ_self _)
  · refine sg_iconst (pc := 9) (z := 0) (dc_X5_canBeRead_0.1.2.1.2) (by decide) ?_
    refine sg_zret (pc := 10) (dc_X5_canBeRead_0.1.2.2.1) rfl (by first | exact Or.inl rfl | exact Or.inr rfl | omega | assumption) (by first | exact Nat.le_of_ble_eq_true rfl | omega) (by first | exact Nat.le_of_ble_eq_true rfl | omega) ?_
    first | exact hQ _ (Or.inl ⟨rfl, fun q => absurd q.1 (by omega)⟩) | exact hQ _ (Or.inl ⟨rfl, fun q => absurd (by rw [← h28]; omega) (q.2 p.toNat (by omega))⟩) | exact hQ _ (Or.inr ⟨rfl, by omega, fun j hj => p1 j (by omega)⟩)

