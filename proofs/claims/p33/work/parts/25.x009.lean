set_option maxRecDepth 100000 in
theorem s_X4_isCodeBegin {w : sg_W} {Q : sg_O → sg_H → Prop} {h : sg_H} (g : sg_G w) {d : Nat} (hd : 3 ≤ d) {B a : Nat} (hx : ck_X h B) (hl : ck_L B a 1) {p : Int} (hQ : ∀ z : Int, (z = 0 ∨ z = 1) → Q (.inl (some (sg_i z))) h) : sg_C w mi_X4_isCodeBegin d 0 0 [sg_r a, sg_i p] h Q := by
  refine sg_of pn_X4 (Nat.le_of_ble_eq_true rfl) ?_
  obtain ⟨-, -, -, -, c40, -⟩ := ck_ln hx hl
  refine sg_iload_n (pc := 0) (j := 1) (dc_X4_isCodeBegin_0.1.1.1.1) rfl rfl ?_
  refine sg_if_eq (pc := 1) (tgt := 28) (dc_X4_isCodeBegin_0.1.1.1.2) (by decide) (fun c1 => ?_) (fun c1 => ?_)
  · refine sg_iconst (pc := 28) (z := 1) (dc_X4_isCodeBegin_0.2.2.2.1) (by decide) ?_
    refine sg_goto (pc := 29) (tgt := 33) (dc_X4_isCodeBegin_0.2.2.2.2) (by decide) ?_
    refine sg_zret (pc := 33) (dc_X4_isCodeBegin_32.2) rfl (by first | exact Or.inl rfl | exact Or.inr rfl | omega | assumption) (by first | exact Nat.le_of_ble_eq_true rfl | omega) (by first | exact Nat.le_of_ble_eq_true rfl | omega) ?_
    exact hQ _ (by first | exact Or.inl rfl | exact Or.inr rfl | omega | assumption)
  · refine sg_aload_n (pc := 4) (j := 0) (dc_X4_isCodeBegin_0.1.1.2.1) rfl rfl ?_
    refine sg_iload_n (pc := 5) (j := 1) (dc_X4_isCodeBegin_0.1.1.2.2) rfl rfl ?_
    refine sg_cE1 (pc := 6) (d' := d - 1) (mc' := 0) (ms' := 0) 3 g (dc_X4_isCodeBegin_0.1.2.1.1) cb_X0_get ml_X4_39 mn_X0_get rfl mv_X0_get (Nat.le_of_ble_eq_true rfl) (ck_lc (by assumption) (by first | assumption | exact ck_rev)) (Nat.le_of_ble_eq_true rfl) (by first | exact jl_d0 hd rfl | omega) (by first | exact Nat.le_of_ble_eq_true rfl | omega) (by first | exact Nat.le_of_ble_eq_true rfl | omega) ?_
    refine s_X0_get g (by first | exact jl_d1 hd rfl | omega) (by assumption) (by first | assumption | exact ck_rev) (fun z6 G6 v6 => sg_K1 ?_)
    refine sg_cS1 (pc := 9) (d' := d - 1) (mc' := 0) (ms' := 0) g (dc_X4_isCodeBegin_0.1.2.1.2) cb_X4_isLow ml_X4_19 ms_X4_isLow (Nat.le_of_ble_eq_true rfl) (by first | exact jl_d0 hd rfl | omega) (by first | exact Nat.le_of_ble_eq_true rfl | omega) (by first | exact Nat.le_of_ble_eq_true rfl | omega) ?_
    refine s_X4_isLow g (by first | exact jl_d1 hd rfl | omega) (fun z9 h9 b9 => sg_K1 ?_)
    refine sg_if_eq (pc := 12) (tgt := 28) (dc_X4_isCodeBegin_0.1.2.2.1) (by decide) (fun c12 => ?_) (fun c12 => ?_)
    · refine sg_iconst (pc := 28) (z := 1) (dc_X4_isCodeBegin_0.2.2.2.1) (by decide) ?_
      refine sg_goto (pc := 29) (tgt := 33) (dc_X4_isCodeBegin_0.2.2.2.2) (by decide) ?_
      refine sg_zret (pc := 33) (dc_X4_isCodeBegin_32.2) rfl (by first | exact Or.inl rfl | exact Or.inr rfl | omega | assumption) (by first | exact Nat.le_of_ble_eq_true rfl | omega) (by first | exact Nat.le_of_ble_eq_true rfl | omega) ?_
      exact hQ _ (by first | exact Or.inl rfl | exact Or.inr rfl | omega | assumption)
    · refine sg_aload_n (pc := 15) (j := 0) (dc_X4_isCodeBegin_0.1.2.2.2) rfl rfl ?_
      refine sg_iload_n (pc := 16) (j := 1) (dc_X4_isCodeBegin_0.2.1.1.1) rfl rfl ?_
      refine sg_iconst (pc := 17) (z := 1) (dc_X4_isCodeBegin_0.2.1.1.2) (by decide) ?_
      first | refine sg_isubB (pc := 18) (dc_X4_isCodeBegin_0.2.1.2.1) (by omega) (by omega) ?_ | refine sg_isub (pc := 18) (dc_X4_isCodeBegin_0.2.1.2.1) ?_
      refine sg_cE1 (pc := 19) (d' := d - 1) (mc' := 0) (ms' := 0) 3 g (dc_X4_isCodeBegin_0.2.1.2.2) cb_X0_get ml_X4_39 mn_X0_get rfl mv_X0_get (Nat.le_of_ble_eq_true rfl) (ck_lc (by assumption) (by first | assumption | exact ck_rev)) (Nat.le_of_ble_eq_true rfl) (by first | exact jl_d0 hd rfl | omega) (by first | exact Nat.le_of_ble_eq_true rfl | omega) (by first | exact Nat.le_of_ble_eq_true rfl | omega) ?_
      refine s_X0_get g (by first | exact jl_d1 hd rfl | omega) (by assumption) (by first | assumption | exact ck_rev) (fun z19 G19 v19 => sg_K1 ?_)
      refine sg_cS1 (pc := 22) (d' := d - 1) (mc' := 0) (ms' := 0) g (dc_X4_isCodeBegin_0.2.2.1.1) cb_X4_isHigh ml_X4_15 ms_X4_isHigh (Nat.le_of_ble_eq_true rfl) (by first | exact jl_d0 hd rfl | omega) (by first | exact Nat.le_of_ble_eq_true rfl | omega) (by first | exact Nat.le_of_ble_eq_true rfl | omega) ?_
      refine s_X4_isHigh g (by first | exact jl_d1 hd rfl | omega) (fun z22 h22 b22 => sg_K1 ?_)
      refine sg_if_ne (pc := 25) (tgt := 32) (dc_X4_isCodeBegin_0.2.2.1.2) (by decide) (fun c25 => ?_) (fun c25 => ?_)
      · refine sg_iconst (pc := 32) (z := 0) (dc_X4_isCodeBegin_32.1) (by decide) ?_
        refine sg_zret (pc := 33) (dc_X4_isCodeBegin_32.2) rfl (by first | exact Or.inl rfl | exact Or.inr rfl | omega | assumption) (by first | exact Nat.le_of_ble_eq_true rfl | omega) (by first | exact Nat.le_of_ble_eq_true rfl | omega) ?_
        exact hQ _ (by first | exact Or.inl rfl | exact Or.inr rfl | omega | assumption)
      · refine sg_iconst (pc := 28) (z := 1) (dc_X4_isCodeBegin_0.2.2.2.1) (by decide) ?_
        refine sg_goto (pc := 29) (tgt := 33) (dc_X4_isCodeBegin_0.2.2.2.2) (by decide) ?_
        refine sg_zret (pc := 33) (dc_X4_isCodeBegin_32.2) rfl (by first | exact Or.inl rfl | exact Or.inr rfl | omega | assumption) (by first | exact Nat.le_of_ble_eq_true rfl | omega) (by first | exact Nat.le_of_ble_eq_true rfl | omega) ?_
        exact hQ _ (by first | exact Or.inl rfl | exact Or.inr rfl | omega | assumption)

