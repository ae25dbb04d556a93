set_option maxRecDepth 100000 in
theorem f_X5_codeAt {w : sg_W} {Q : sg_O → sg_H → Prop} {h : sg_H} (g : sg_G w) {d : Nat} (hd : 14 ≤ d) {B : Nat} {A : fa_A} (hx : cf_X h B A) (ok : fa_ok A) {trk p : Int} {L : List Int} (hL : fa_L A (4 + trk.toNat) = L) (hQ : ¬ (trk < 0 ∨ 2 ≤ trk ∨ p < 0 ∨ (L.length : Int) ≤ p) → ∀ v : Int, v = fs_cd L p.toNat → Q (.inl (some (sg_i v))) h) (hXI : (trk < 0 ∨ 2 ≤ trk ∨ p < 0 ∨ (L.length : Int) ≤ p) → ∀ z, h.1 ≤ z → Q (.inr e_I) (z, h.2)) : sg_C w mi_X5_codeAt d 8 48 [sg_r B, sg_i trk, sg_i p] h Q := by
  refine sg_of pn_X5 (Nat.le_of_ble_eq_true rfl) ?_
  obtain ⟨x0, ho, hS, hP, hK⟩ := id hx
  have y0 := ck_Y0 x0
  have hc24 : ck_cap 1 = 24 := rfl
  refine sg_aload_n (pc := 0) (j := 0) (dc_X5_codeAt_0.1.1.1.1) rfl rfl ?_
  refine sg_iload_n (pc := 1) (j := 1) (dc_X5_codeAt_0.1.1.1.2) rfl rfl ?_
  refine sg_cE1 (pc := 2) (d' := d - 1) (mc' := 1) (ms' := 6) 6 g (dc_X5_codeAt_0.1.1.2.1) cb_X5_trackOf ml_X5_151 mn_X5_trackOf rfl mv_X5_trackOf (Nat.le_of_ble_eq_true rfl) (ck_oc (by assumption)) (Nat.le_of_ble_eq_true rfl) (by first | exact jl_d0 hd rfl | omega) (by first | exact Nat.le_of_ble_eq_true rfl | omega) (by first | exact Nat.le_of_ble_eq_true rfl | omega) ?_
  refine f_X5_trackOf g (by first | exact jl_d1 hd rfl | omega) (by assumption) (fun l2 r2 L2 => sg_K1 ?_) (fun t2 z2 w2 => sg_KX (by first | exact Nat.le_of_ble_eq_true rfl | omega) (by first | exact Nat.le_of_ble_eq_true rfl | omega) (hXI (by omega) z2 w2))
  obtain ⟨a2, ea2⟩ : ∃ a, a = B + 1 + 3 + 2 * (4 + trk.toNat) := ⟨_, rfl⟩
  rw [← ea2] at L2 ⊢
  have k2 : cf_l h a2 = L := by rw [ea2, cf_rl hx (by omega)]; exact hL
  have r42 := fa_trk ok (i := (4 + trk.toNat)) (by omega) (by omega)
  rw [hL] at r42
  refine sg_astore_n (pc := 5) (j := 3) (dc_X5_codeAt_0.1.1.2.2) rfl (by decide) ?_
  refine sg_aload_n (pc := 6) (j := 3) (dc_X5_codeAt_0.1.2.1.1) rfl rfl ?_
  refine sg_iload_n (pc := 7) (j := 2) (dc_X5_codeAt_0.1.2.1.2) rfl rfl ?_
  refine sg_cE1 (pc := 8) (d' := d - 1) (mc' := 0) (ms' := 0) 3 g (dc_X5_codeAt_0.1.2.2.1) cb_X0_hasPlace ml_X5_261 mn_X0_hasPlace rfl mv_X0_hasPlace (Nat.le_of_ble_eq_true rfl) (ck_lc (by assumption) (by first | assumption | exact ck_rev)) (Nat.le_of_ble_eq_true rfl) (by first | exact jl_d0 hd rfl | omega) (by first | exact Nat.le_of_ble_eq_true rfl | omega) (by first | exact Nat.le_of_ble_eq_true rfl | omega) ?_
  refine f_X0_hasPlace g (by first | exact jl_d1 hd rfl | omega) (by assumption) L2 (fun z8 b8 i8 j8 => sg_K1 ?_)
  rw [k2] at i8
  rw [k2] at j8
  refine sg_if_ne (pc := 11) (tgt := 25) (dc_X5_codeAt_0.1.2.2.2) (by decide) (fun c11 => ?_) (fun c11 => ?_)
  · refine sg_aload_n (pc := 25) (j := 3) (dc_X5_codeAt_0.2.2.1.2) rfl rfl ?_
    refine sg_iload_n (pc := 26) (j := 2) (dc_X5_codeAt_0.2.2.2.1) rfl rfl ?_
    refine sg_cS2 (pc := 27) (d' := d - 1) (mc' := 0) (ms' := 0) g (dc_X5_codeAt_0.2.2.2.2) cb_X4_codeFrom ml_X5_266 ms_X4_codeFrom (Nat.le_of_ble_eq_true rfl) (by first | exact jl_d0 hd rfl | omega) (by first | exact Nat.le_of_ble_eq_true rfl | omega) (by first | exact Nat.le_of_ble_eq_true rfl | omega) ?_
    refine f_X4_codeFrom g (by first | exact jl_d1 hd rfl | omega) (by assumption) L2 k2 r42.2 (by omega) (by omega) (fun z27 e27 => sg_K1 ?_)
    have r27 := fs_cdr r42.2 (p := p.toNat) (by omega)
    rw [← e27] at r27
    refine sg_iret (pc := 30) dc_X5_codeAt_30 rfl (by first | exact Nat.le_of_ble_eq_true rfl | omega) (by first | exact Nat.le_of_ble_eq_true rfl | omega) ?_
    exact hQ (by omega) _ e27
  · refine sg_throwW (pc := 14) g th_X5_226_264 (dc_X5_codeAt_0.2.1.1.1) (dc_X5_codeAt_0.2.1.1.2) (dc_X5_codeAt_0.2.1.2.1) (dc_X5_codeAt_0.2.1.2.2) (dc_X5_codeAt_0.2.2.1.1) (by first | exact Nat.le_trans (Nat.le_of_ble_eq_true rfl) hd | omega) (Nat.le_of_ble_eq_true rfl) (by first | exact Nat.le_of_ble_eq_true rfl | omega) (by first | exact Nat.le_of_ble_eq_true rfl | omega) ?_
    exact fun z hz => hXI (by omega) z hz

