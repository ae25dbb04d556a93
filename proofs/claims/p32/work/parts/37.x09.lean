theorem cf_h1 {h : sg_H} {B : Nat} {A : fa_A} (hx : cf_X h B A) : cf_ht h (B + 1) 2 = fs_hu A := by
  have e0 := cf_rl hx (i := 4) (by decide)
  have e1 := cf_rl hx (i := 5) (by decide)
  unfold fs_hu
  rw [← e0, ← e1]
  show 0 + _ + _ = _
  rw [Int.zero_add]

set_option maxRecDepth 100000 in
theorem f_X5_numberAt {w : sg_W} {Q : sg_O → sg_H → Prop} {h : sg_H} (g : sg_G w) {d : Nat} (hd : 11 ≤ d) {B a1 c : Nat} (hx : ck_X h B) (L1 : ck_L B a1 c) {L : List Int} (kk : cf_l h a1 = L) {p : Int} (hQ : 0 ≤ p → p < (L.length : Int) → ∀ v : Int, v = L.getD p.toNat 0 → Q (.inl (some (sg_i v))) h) (hX : (p < 0 ∨ (L.length : Int) ≤ p) → ∀ z, h.1 ≤ z → Q (.inr e_I) (z, h.2)) : sg_C w mi_X5_numberAt d 1 6 [sg_r a1, sg_i p] h Q := by
  refine sg_of pn_X5 (Nat.le_of_ble_eq_true rfl) ?_
  have y0 := ck_Y0 hx
  have l40 := cf_40 hx L1
  rw [kk] at l40
  have hc40 : ck_cap c ≤ 40 := ck_capl
  refine sg_aload_n (pc := 0) (j := 0) (dc_X5_numberAt_0.1.1.1.1) rfl rfl ?_
  refine sg_iload_n (pc := 1) (j := 1) (dc_X5_numberAt_0.1.1.1.2) rfl rfl ?_
  refine sg_cE1 (pc := 2) (d' := d - 1) (mc' := 0) (ms' := 0) 3 g (dc_X5_numberAt_0.1.1.2.1) cb_X0_hasPlace ml_X5_261 mn_X0_hasPlace rfl mv_X0_hasPlace (Nat.le_of_ble_eq_true rfl) (ck_lc (by assumption) (by first | assumption | exact ck_rev)) (Nat.le_of_ble_eq_true rfl) (by first | exact jl_d0 hd rfl | omega) (by first | exact Nat.le_of_ble_eq_true rfl | omega) (by first | exact Nat.le_of_ble_eq_true rfl | omega) ?_
  refine f_X0_hasPlace g (by first | exact jl_d1 hd rfl | omega) (by assumption) L1 (fun z2 b2 i2 j2 => sg_K1 ?_)
  rw [kk] at i2
  rw [kk] at j2
  refine sg_if_ne (pc := 5) (tgt := 19) (dc_X5_numberAt_0.1.1.2.2) (by decide) (fun c5 => ?_) (fun c5 => ?_)
  · refine sg_aload_n (pc := 19) (j := 0) (dc_X5_numberAt_0.2.1.1.2) rfl rfl ?_
    refine sg_iload_n (pc := 20) (j := 1) (dc_X5_numberAt_0.2.1.2.1) rfl rfl ?_
    refine sg_cE1 (pc := 21) (d' := d - 1) (mc' := 0) (ms' := 0) 3 g (dc_X5_numberAt_0.2.1.2.2) cb_X0_get ml_X5_75 mn_X0_get rfl mv_X0_get (Nat.le_of_ble_eq_true rfl) (ck_lc (by assumption) (by first | assumption | exact ck_rev)) (Nat.le_of_ble_eq_true rfl) (by first | exact jl_d0 hd rfl | omega) (by first | exact Nat.le_of_ble_eq_true rfl | omega) (by first | exact Nat.le_of_ble_eq_true rfl | omega) ?_
    refine f_X0_get g (by first | exact jl_d1 hd rfl | omega) (by assumption) L1 (fun z21 e21 v21 => sg_K1 ?_)
    rw [kk] at e21
    rw [kk] at v21
    try rw [fa_tg (by omega) (by omega)] at e21
    refine sg_iret (pc := 24) (dc_X5_numberAt_0.2.2.1.1) rfl (by first | exact Nat.le_of_ble_eq_true rfl | omega) (by first | exact Nat.le_of_ble_eq_true rfl | omega) ?_
    exact hQ (by omega) (by omega) _ (by rw [e21, gg_in (by omega) (by omega)])
  · refine sg_throwW (pc := 8) g th_X5_226_264 (dc_X5_numberAt_0.1.2.1.1) (dc_X5_numberAt_0.1.2.1.2) (dc_X5_numberAt_0.1.2.2.1) (dc_X5_numberAt_0.1.2.2.2) (dc_X5_numberAt_0.2.1.1.1) (by first | exact Nat.le_trans (Nat.le_of_ble_eq_true rfl) hd | omega) (Nat.le_of_ble_eq_true rfl) (by first | exact Nat.le_of_ble_eq_true rfl | omega) (by first | exact Nat.le_of_ble_eq_true rfl | omega) ?_
    exact fun z hz => hX (by omega) z hz

