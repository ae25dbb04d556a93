set_option maxRecDepth 100000 in
theorem f_X5_isWordBegin {w : sg_W} {Q : sg_O → sg_H → Prop} {h : sg_H} (g : sg_G w) {d : Nat} (hd : 11 ≤ d) {B a1 : Nat} (hx : ck_X h B) (L1 : ck_L B a1 0) {L : List Int} (kk : cf_l h a1 = L) {p : Int} (p0 : 0 ≤ p) (p1 : p < (L.length : Int)) (hQ : ∀ z : Int, ((z = 0 ∧ ¬ fs_wb L p.toNat) ∨ (z = 1 ∧ fs_wb L p.toNat)) → Q (.inl (some (sg_i z))) h) : sg_C w mi_X5_isWordBegin d 0 0 [sg_r a1, sg_i p] h Q := by
  refine sg_of pn_X5 (Nat.le_of_ble_eq_true rfl) ?_
  have y0 := ck_Y0 hx
  have l40 := cf_40 hx L1
  rw [kk] at l40
  have hc40 : ck_cap 0 = 40 := rfl
  refine sg_aload_n (pc := 0) (j := 0) (dc_X5_isWordBegin_0.1.1.1.1) rfl rfl ?_
  refine sg_iload_n (pc := 1) (j := 1) (dc_X5_isWordBegin_0.1.1.1.2) rfl rfl ?_
  refine sg_cE1 (pc := 2) (d' := d - 1) (mc' := 0) (ms' := 0) 3 g (dc_X5_isWordBegin_0.1.1.2.1) cb_X0_get ml_X5_75 mn_X0_get rfl mv_X0_get (Nat.le_of_ble_eq_true rfl) (ck_lc (by assumption) (by first | assumption | exact ck_rev)) (Nat.le_of_ble_eq_true rfl) (by first | exact jl_d0 hd rfl | omega) (by first | exact Nat.le_of_ble_eq_true rfl | omega) (by first | exact Nat.le_of_ble_eq_true rfl | omega) ?_
  refine f_X0_get g (by first | exact jl_d1 hd rfl | omega) (by assumption) L1 (fun z2 e2 v2 => sg_K1 ?_)
  rw [kk] at e2
  rw [kk] at v2
  try rw [fa_tg (by omega) (by omega)] at e2
  rw [gg_in (by omega) (by omega)] at e2
  subst e2
  refine sg_iconst (pc := 5) (z := 2) (dc_X5_isWordBegin_0.1.1.2.2) (by decide) ?_
  refine sg_cS2 (pc := 6) (d' := d - 1) (mc' := 0) (ms' := 0) g (dc_X5_isWordBegin_0.1.2.1.1) cb_X2_isOf ml_X5_96 ms_X2_isOf (Nat.le_of_ble_eq_true rfl) (by first | exact jl_d0 hd rfl | omega) (by first | exact Nat.le_of_ble_eq_true rfl | omega) (by first | exact Nat.le_of_ble_eq_true rfl | omega) ?_
  refine s_X2_isOf g (by first | exact jl_d1 hd rfl | omega) (fun z6 h6 b6 => sg_K1 ?_)
  refine sg_if_ne (pc := 9) (tgt := 14) (dc_X5_isWordBegin_0.1.2.1.2) (by decide) (fun c9 => ?_) (fun c9 => ?_)
  · refine sg_iload_n (pc := 14) (j := 1) (dc_X5_isWordBegin_0.2.1.1.1) rfl rfl ?_
    refine sg_if_eq (pc := 15) (tgt := 32) (dc_X5_isWordBegin_0.2.1.1.2) (by decide) (fun c15 => ?_) (fun c15 => ?_)
    · refine sg_iconst (pc := 32) (z := 1) (dc_X5_isWordBegin_26.1.2.1) (by decide) ?_
      refine sg_goto (pc := 33) (tgt := 37) (dc_X5_isWordBegin_26.1.2.2) (by decide) ?_
      refine sg_zret (pc := 37) (dc_X5_isWordBegin_26.2.1.2) rfl (by first | exact Or.inl rfl | exact Or.inr rfl | omega | assumption) (by first | exact Nat.le_of_ble_eq_true rfl | omega) (by first | exact Nat.le_of_ble_eq_true rfl | omega) ?_
      first
        | exact hQ _ (Or.inr ⟨rfl, by omega, Or.inl (by omega)⟩)
        | exact hQ _ (Or.inr ⟨rfl, by omega, Or.inr (by rw [show p.toNat - 1 = (p - 1).toNat by omega]; omega)⟩)
        | exact hQ _ (Or.inl ⟨rfl, fun q => by
            rcases q.2 with q2 | q2
            · omega
            · rw [show p.toNat - 1 = (p - 1).toNat by omega] at q2; omega⟩)
    · refine sg_aload_n (pc := 18) (j := 0) (dc_X5_isWordBegin_0.2.1.2.1) rfl rfl ?_
      refine sg_iload_n (pc := 19) (j := 1) (dc_X5_isWordBegin_0.2.1.2.2) rfl rfl ?_
      refine sg_iconst (pc := 20) (z := 1) (dc_X5_isWordBegin_0.2.2.1.1) (by decide) ?_
      first | refine sg_isubB (pc := 21) (dc_X5_isWordBegin_0.2.2.1.2) (by omega) (by omega) ?_ | refine sg_isub (pc := 21) (dc_X5_isWordBegin_0.2.2.1.2) ?_
      refine sg_cE1 (pc := 22) (d' := d - 1) (mc' := 0) (ms' := 0) 3 g (dc_X5_isWordBegin_0.2.2.2.1) cb_X0_get ml_X5_75 mn_X0_get rfl mv_X0_get (Nat.le_of_ble_eq_true rfl) (ck_lc (by assumption) (by first | assumption | exact ck_rev)) (Nat.le_of_ble_eq_true rfl) (by first | exact jl_d0 hd rfl | omega) (by first | exact Nat.le_of_ble_eq_true rfl | omega) (by first | exact Nat.le_of_ble_eq_true rfl | omega) ?_
      refine f_X0_get g (by first | exact jl_d1 hd rfl | omega) (by assumption) L1 (fun z22 e22 v22 => sg_K1 ?_)
      rw [kk] at e22
      rw [kk] at v22
      try rw [fa_tg (by omega) (by omega)] at e22
      rw [gg_in (by omega) (by omega)] at e22
      subst e22
      refine sg_iconst (pc := 25) (z := 2) (dc_X5_isWordBegin_0.2.2.2.2) (by decide) ?_
      refine sg_cS2 (pc := 26) (d' := d - 1) (mc' := 0) (ms' := 0) g (dc_X5_isWordBegin_26.1.1.1) cb_X2_isOf ml_X5_96 ms_X2_isOf (Nat.le_of_ble_eq_true rfl) (by first | exact jl_d0 hd rfl | omega) (by first | exact Nat.le_of_ble_eq_true rfl | omega) (by first | exact Nat.le_of_ble_eq_true rfl | omega) ?_
      refine s_X2_isOf g (by first | exact jl_d1 hd rfl | omega) (fun z26 h26 b26 => sg_K1 ?_)
      refine sg_if_ne (pc := 29) (tgt := 36) (dc_X5_isWordBegin_26.1.1.2) (by decide) (fun c29 => ?_) (fun c29 => ?_)
      · refine sg_iconst (pc := 36) (z := 0) (dc_X5_isWordBegin_26.2.1.1) (by decide) ?_
        refine sg_zret (pc := 37) (dc_X5_isWordBegin_26.2.1.2) rfl (by first | exact Or.inl rfl | exact Or.inr rfl | omega | assumption) (by first | exact Nat.le_of_ble_eq_true rfl | omega) (by first | exact Nat.le_of_ble_eq_true rfl | omega) ?_
        first
          | exact hQ _ (Or.inr ⟨rfl, by omega, Or.inl (by omega)⟩)
          | exact hQ _ (Or.inr ⟨rfl, by omega, Or.inr (by rw [show p.toNat - 1 = (p - 1).toNat by omega]; omega)⟩)
          | exact hQ _ (Or.inl ⟨rfl, fun q => by
              rcases q.2 with q2 | q2
              · omega
              · rw [show p.toNat - 1 = (p - 1).toNat by omega] at q2; omega⟩)
      · refine sg_iconst (pc := 32) (z := 1) (dc_X5_isWordBegin_26.1.2.1) (by decide) ?_
        refine sg_goto (pc := 33) (tgt := 37) (dc_X5_isWordBegin_26.1.2.2) (by decide) ?_
        refine sg_zret (pc := 37) (dc_X5_isWordBegin_26.2.1.2) rfl (by first | exact Or.inl rfl | exact Or.inr rfl | omega | assumption) (by first | exact Nat.le_of_ble_eq_true rfl | omega) (by first | exact Nat.le_of_ble_eq_true rfl | omega) ?_
        first
          | exact hQ _ (Or.inr ⟨rfl, by omega, Or.inl (by omega)⟩)
          | exact hQ _ (Or.inr ⟨rfl, by omega, Or.inr (by rw [show p.toNat - 1 = (p - 1).toNat by omega]; omega)⟩)
          | exact hQ _ (Or.inl ⟨rfl, fun q => by
              rcases q.2 with q2 | q2
              · omega
              · rw [show p.toNat - 1 = (p - 1).toNat by omega] at q2; omega⟩)
  · refine sg_iconst (pc := 12) (z := 0) (dc_X5_isWordBegin_0.1.2.2.1) (by decide) ?_
    refine sg_zret (pc := 13) (dc_X5_isWordBegin_0.1.2.2.2) rfl (by first | exact Or.inl rfl | exact Or.inr rfl | omega | assumption) (by first | exact Nat.le_of_ble_eq_true rfl | omega) (by first | exact Nat.le_of_ble_eq_true rfl | omega) ?_
    exact hQ _ (Or.inl ⟨rfl, fun q => q.1 (by omega)⟩)

