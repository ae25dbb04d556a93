set_option maxRecDepth 100000 in
theorem s_X4_standsAt {w : sg_W} {Q : sg_O → sg_H → Prop} {h : sg_H} (g : sg_G w) {d : Nat} (hd : 3 ≤ d) {B a : Nat} (hx : ck_X h B) (hl : ck_L B a 1) {p t : Int} (hQ : ∀ z : Int, (z = 0 ∨ z = 1) → Q (.inl (some (sg_i z))) h) : sg_C w mi_X4_standsAt d 0 0 [sg_r a, sg_i p, sg_i t] h Q := by
  refine sg_of pn_X4 (Nat.le_of_ble_eq_true rfl) ?_
  obtain ⟨-, -, -, -, c40, -⟩ := ck_ln hx hl
  refine sg_iload_n (pc := 0) (j := 2) (dc_X4_standsAt_0.1.1.1.1) rfl rfl ?_
  refine sg_cS1 (pc := 1) (d' := d - 1) (mc' := 0) (ms' := 0) g (dc_X4_standsAt_0.1.1.1.2) cb_X4_isWideCode ml_X4_23 ms_X4_isWideCode (Nat.le_of_ble_eq_true rfl) (by first | exact jl_d0 hd rfl | omega) (by first | exact Nat.le_of_ble_eq_true rfl | omega) (by first | exact Nat.le_of_ble_eq_true rfl | omega) ?_
  refine s_X4_isWideCode g (by first | exact jl_d1 hd rfl | omega) (fun z1 h1 b1 => sg_K1 ?_)
  refine sg_if_ne (pc := 4) (tgt := 22) (dc_X4_standsAt_0.1.1.2.1) (by decide) (fun c4 => ?_) (fun c4 => ?_)
  · refine sg_aload_n (pc := 22) (j := 0) (dc_X4_standsAt_0.2.2.1.1) rfl rfl ?_
    refine sg_iload_n (pc := 23) (j := 1) (dc_X4_standsAt_0.2.2.1.2) rfl rfl ?_
    refine sg_cE1 (pc := 24) (d' := d - 1) (mc' := 0) (ms' := 0) 3 g (dc_X4_standsAt_0.2.2.2.1) cb_X0_get ml_X4_39 mn_X0_get rfl mv_X0_get (Nat.le_of_ble_eq_true rfl) (ck_lc (by assumption) (by first | assumption | exact ck_rev)) (Nat.le_of_ble_eq_true rfl) (by first | exact jl_d0 hd rfl | omega) (by first | exact Nat.le_of_ble_eq_true rfl | omega) (by first | exact Nat.le_of_ble_eq_true rfl | omega) ?_
    refine s_X0_get g (by first | exact jl_d1 hd rfl | omega) (by assumption) (by first | assumption | exact ck_rev) (fun z24 G24 v24 => sg_K1 ?_)
    refine sg_iload_n (pc := 27) (j := 2) (dc_X4_standsAt_0.2.2.2.2) rfl rfl ?_
    refine sg_cS1 (pc := 28) (d' := d - 1) (mc' := 0) (ms' := 0) g (dc_X4_standsAt_28.1.1.1.1) cb_X4_highOf ml_X4_26 ms_X4_highOf (Nat.le_of_ble_eq_true rfl) (by first | exact jl_d0 hd rfl | omega) (by first | exact Nat.le_of_ble_eq_true rfl | omega) (by first | exact Nat.le_of_ble_eq_true rfl | omega) ?_
    refine s_X4_highOf g (by first | exact jl_d1 hd rfl | omega) (fun z28 h28 => sg_K1 ?_)
    refine sg_icmp_ne (pc := 31) (tgt := 52) (dc_X4_standsAt_28.1.1.1.2) (by decide) (fun c31 => ?_) (fun c31 => ?_)
    · refine sg_iconst (pc := 52) (z := 0) (dc_X4_standsAt_28.2.2.1.1) (by decide) ?_
      refine sg_zret (pc := 53) (dc_X4_standsAt_28.2.2.1.2) rfl (by first | exact Or.inl rfl | exact Or.inr rfl | omega | assumption) (by first | exact Nat.le_of_ble_eq_true rfl | omega) (by first | exact Nat.le_of_ble_eq_true rfl | omega) ?_
      exact hQ _ (by first | exact Or.inl rfl | exact Or.inr rfl | omega | assumption)
    · refine sg_aload_n (pc := 34) (j := 0) (dc_X4_standsAt_28.1.1.2.1) rfl rfl ?_
      refine sg_iload_n (pc := 35) (j := 1) (dc_X4_standsAt_28.1.1.2.2) rfl rfl ?_
      refine sg_iconst (pc := 36) (z := 1) (dc_X4_standsAt_28.1.2.1.1) (by decide) ?_
      first | refine sg_iaddB (pc := 37) (dc_X4_standsAt_28.1.2.1.2) (by omega) (by omega) ?_ | refine sg_iadd (pc := 37) (dc_X4_standsAt_28.1.2.1.2) ?_
      refine sg_cE1 (pc := 38) (d' := d - 1) (mc' := 0) (ms' := 0) 3 g (dc_X4_standsAt_28.1.2.2.1) cb_X0_get ml_X4_39 mn_X0_get rfl mv_X0_get (Nat.le_of_ble_eq_true rfl) (ck_lc (by assumption) (by first | assumption | exact ck_rev)) (Nat.le_of_ble_eq_true rfl) (by first | exact jl_d0 hd rfl | omega) (by first | exact Nat.le_of_ble_eq_true rfl | omega) (by first | exact Nat.le_of_ble_eq_true rfl | omega) ?_
      refine s_X0_get g (by first | exact jl_d1 hd rfl | omega) (by assumption) (by first | assumption | exact ck_rev) (fun z38 G38 v38 => sg_K1 ?_)
      refine sg_iload_n (pc := 41) (j := 2) (dc_X4_standsAt_28.1.2.2.2) rfl rfl ?_
      refine sg_cS1 (pc := 42) (d' := d - 1) (mc' := 0) (ms' := 0) g (dc_X4_standsAt_28.2.1.1.1) cb_X4_lowOf ml_X4_36 ms_X4_lowOf (Nat.le_of_ble_eq_true rfl) (by first | exact jl_d0 hd rfl | omega) (by first | exact Nat.le_of_ble_eq_true rfl | omega) (by first | exact Nat.le_of_ble_eq_true rfl | omega) ?_
      refine s_X4_lowOf g (by first | exact jl_d1 hd rfl | omega) (fun z42 h42 => sg_K1 ?_)
      refine sg_icmp_ne (pc := 45) (tgt := 52) (dc_X4_standsAt_28.2.1.1.2) (by decide) (fun c45 => ?_) (fun c45 => ?_)
      · refine sg_iconst (pc := 52) (z := 0) (dc_X4_standsAt_28.2.2.1.1) (by decide) ?_
        refine sg_zret (pc := 53) (dc_X4_standsAt_28.2.2.1.2) rfl (by first | exact Or.inl rfl | exact Or.inr rfl | omega | assumption) (by first | exact Nat.le_of_ble_eq_true rfl | omega) (by first | exact Nat.le_of_ble_eq_true rfl | omega) ?_
        exact hQ _ (by first | exact Or.inl rfl | exact Or.inr rfl | omega | assumption)
      · refine sg_iconst (pc := 48) (z := 1) (dc_X4_standsAt_28.2.1.2.1) (by decide) ?_
        refine sg_goto (pc := 49) (tgt := 53) (dc_X4_standsAt_28.2.1.2.2) (by decide) ?_
        refine sg_zret (pc := 53) (dc_X4_standsAt_28.2.2.1.2) rfl (by first | exact Or.inl rfl | exact Or.inr rfl | omega | assumption) (by first | exact Nat.le_of_ble_eq_true rfl | omega) (by first | exact Nat.le_of_ble_eq_true rfl | omega) ?_
        exact hQ _ (by first | exact Or.inl rfl | exact Or.inr rfl | omega | assumption)
  · refine sg_aload_n (pc := 7) (j := 0) (dc_X4_standsAt_0.1.1.2.2) rfl rfl ?_
    refine sg_iload_n (pc := 8) (j := 1) (dc_X4_standsAt_0.1.2.1.1) rfl rfl ?_
    refine sg_cE1 (pc := 9) (d' := d - 1) (mc' := 0) (ms' := 0) 3 g (dc_X4_standsAt_0.1.2.1.2) cb_X0_get ml_X4_39 mn_X0_get rfl mv_X0_get (Nat.le_of_ble_eq_true rfl) (ck_lc (by assumption) (by first | assumption | exact ck_rev)) (Nat.le_of_ble_eq_true rfl) (by first | exact jl_d0 hd rfl | omega) (by first | exact Nat.le_of_ble_eq_true rfl | omega) (by first | exact Nat.le_of_ble_eq_true rfl | omega) ?_
    refine s_X0_get g (by first | exact jl_d1 hd rfl | omega) (by assumption) (by first | assumption | exact ck_rev) (fun z9 G9 v9 => sg_K1 ?_)
    refine sg_iload_n (pc := 12) (j := 2) (dc_X4_standsAt_0.1.2.2.1) rfl rfl ?_
    refine sg_icmp_ne (pc := 13) (tgt := 20) (dc_X4_standsAt_0.1.2.2.2) (by decide) (fun c13 => ?_) (fun c13 => ?_)
    · refine sg_iconst (pc := 20) (z := 0) (dc_X4_standsAt_0.2.1.2.1) (by decide) ?_
      refine sg_zret (pc := 21) (dc_X4_standsAt_0.2.1.2.2) rfl (by first | exact Or.inl rfl | exact Or.inr rfl | omega | assumption) (by first | exact Nat.le_of_ble_eq_true rfl | omega) (by first | exact Nat.le_of_ble_eq_true rfl | omega) ?_
      exact hQ _ (by first | exact Or.inl rfl | exact Or.inr rfl | omega | assumption)
    · refine sg_iconst (pc := 16) (z := 1) (dc_X4_standsAt_0.2.1.1.1) (by decide) ?_
      refine sg_goto (pc := 17) (tgt := 21) (dc_X4_standsAt_0.2.1.1.2) (by decide) ?_
      refine sg_zret (pc := 21) (dc_X4_standsAt_0.2.1.2.2) rfl (by first | exact Or.inl rfl | exact Or.inr rfl | omega | assumption) (by first | exact Nat.le_of_ble_eq_true rfl | omega) (by first | exact Nat.le_of_ble_eq_true rfl | omega) ?_
      exact hQ _ (by first | exact Or.inl rfl | exact Or.inr rfl | omega | assumption)

