set_option maxRecDepth 100000 in
theorem f_X7_at {w : sg_W} {Q : sg_O → sg_H → Prop} {h : sg_H} (g : sg_G w) {d : Nat} (hd : 9 ≤ d) {M : Nat} {row p : Int} {A : fa_A} {L : List Int} (hA : md_ab h M = A) (hL : fa_L A row.toNat = L) (hx : md_M w h M) (hQ : ∀ (v : Int) (h' : sg_H), ((row < 0 ∨ 4 ≤ row ∨ p < 0 ∨ (L.length : Int) ≤ p) → md_t h' M = 1) → (¬ (row < 0 ∨ 4 ≤ row ∨ p < 0 ∨ (L.length : Int) ≤ p) → md_t h' M = 0) → (md_t h' M = 0 → v = L.getD p.toNat 0) → md_Y w h h' M → Q (.inl (some (sg_i v))) h') : sg_C w mi_X7_at d 0 0 [sg_r M, sg_i row, sg_i p] h Q := by
  refine sg_of pn_X7 (Nat.le_of_ble_eq_true rfl) ?_
  have y0 := md_Y0 hx
  have hk := hx.2.1
  refine sg_aload_n (pc := 0) (j := 0) (dc_X7_at_0.1.1.1.1) rfl rfl ?_
  refine sg_iload_n (pc := 1) (j := 1) (dc_X7_at_0.1.1.1.2) rfl rfl ?_
  refine sg_cS1 (pc := 2) (d' := d - 1) (mc' := 0) (ms' := 0) g (dc_X7_at_0.1.1.2.1) cb_X7_isNoRow ml_X7_68 ms_X7_isNoRow (Nat.le_of_ble_eq_true rfl) (by first | exact jl_d0 hd rfl | omega) (by first | exact Nat.le_of_ble_eq_true rfl | omega) (by first | exact Nat.le_of_ble_eq_true rfl | omega) ?_
  refine s_X7_isNoRow g (by first | exact jl_d1 hd rfl | omega) (fun z2 h2 b2 => sg_K1 ?_)
  (try simp only [fm_no, fm_one, fn_betw, fn_sign, fn_radix, fn_high, fn_low] at h2)
  refine sg_if_ne (pc := 5) (tgt := 25) (dc_X7_at_0.1.1.2.2) (by decide) (fun c5 => ?_) (fun c5 => ?_)
  · refine sg_iconst (pc := 25) (z := 1) (dc_X7_at_0.2.2.2.2) (by decide) ?_
    refine sg_goto (pc := 26) (tgt := 30) (dc_X7_at_26.1.1.1.1) (by decide) ?_
    refine sg_iconst (pc := 30) (z := 1) (dc_X7_at_26.1.1.2.1) (by decide) ?_
    refine sg_cE2 (pc := 31) (d' := d - 1) (mc' := 0) (ms' := 0) 8 g (dc_X7_at_26.1.1.2.2) cb_X7_start ml_X7_71 mn_X7_start rfl mv_X7_start (Nat.le_of_ble_eq_true rfl) (md_oc (by assumption)) (Nat.le_of_ble_eq_true rfl) (by first | exact jl_d0 hd rfl | omega) (by first | exact Nat.le_of_ble_eq_true rfl | omega) (by first | exact Nat.le_of_ble_eq_true rfl | omega) ?_
    refine s_X7_start g (by first | exact jl_d1 hd rfl | omega) (by omega) (by assumption) (fun v31 h31 b31 i31 t31 s31 u31 y31 => sg_K1 ?_)
    have x31 := y31.1
    have hk31 := x31.2.1
    have y31 := md_Yt (h0 := h) (by assumption) y31
    refine sg_if_eq (pc := 34) (tgt := 41) (dc_X7_at_26.1.2.1.1) (by decide) (fun c34 => absurd c34 (by omega)) (fun c34 => ?_)
    refine sg_iconst (pc := 37) (z := 0) (dc_X7_at_26.1.2.1.2) (by decide) ?_
    refine sg_goto (pc := 38) (tgt := 49) (dc_X7_at_26.1.2.2.1) (by decide) ?_
    refine sg_iret (pc := 49) (dc_X7_at_26.2.2.1.2) rfl (by first | exact Nat.le_of_ble_eq_true rfl | omega) (by first | exact Nat.le_of_ble_eq_true rfl | omega) ?_
    first
      | exact hQ _ _ (by omega) (by omega) (fun q => absurd q (by omega)) (by assumption)
      | exact hQ _ _ (by omega) (by omega) (fun _ => rfl) (by assumption)
  · refine sg_iload_n (pc := 8) (j := 2) (dc_X7_at_0.1.2.1.1) rfl rfl ?_
    refine sg_iconst (pc := 9) (z := 0) (dc_X7_at_0.1.2.1.2) (by decide) ?_
    refine sg_aload_n (pc := 10) (j := 0) (dc_X7_at_0.1.2.2.1) rfl rfl ?_
    refine md_grw (pc := 11) g (dc_X7_at_0.1.2.2.2) fk_X7_9 (by assumption) (fun r11 => ?_)
    refine sg_iload_n (pc := 14) (j := 1) (dc_X7_at_0.2.1.1.1) rfl rfl ?_
    first | refine md_alX (pc := 15) (dc_X7_at_0.2.1.1.2) hA (by assumption) (by assumption) (by omega) (by omega) (fun X15 l15 => ?_) | refine md_alXt (pc := 15) (dc_X7_at_0.2.1.1.2) hA (by assumption) (by assumption) (by omega) (by omega) (fun X15 l15 => ?_)
    refine md_xlen (pc := 16) (dc_X7_at_0.2.1.2.1) (by assumption) (by omega) ?_
    refine sg_iconst (pc := 17) (z := 1) (dc_X7_at_0.2.1.2.2) (by decide) ?_
    first | refine sg_isubB (pc := 18) (dc_X7_at_0.2.2.1.1) (by omega) (by omega) ?_ | refine sg_isub (pc := 18) (dc_X7_at_0.2.2.1.1) ?_
    refine sg_cS3 (pc := 19) (d' := d - 1) (mc' := 0) (ms' := 0) g (dc_X7_at_0.2.2.1.2) cb_X7_isOf ml_X7_22 ms_X7_isOf (Nat.le_of_ble_eq_true rfl) (by first | exact jl_d0 hd rfl | omega) (by first | exact Nat.le_of_ble_eq_true rfl | omega) (by first | exact Nat.le_of_ble_eq_true rfl | omega) ?_
    refine s_X7_isOf g (by first | exact jl_d1 hd rfl | omega) (fun z19 h19 b19 => sg_K1 ?_)
    (try simp only [fm_no, fm_one, fn_betw, fn_sign, fn_radix, fn_high, fn_low] at h19)
    refine sg_if_ne (pc := 22) (tgt := 29) (dc_X7_at_0.2.2.2.1) (by decide) (fun c22 => ?_) (fun c22 => ?_)
    · refine sg_iconst (pc := 29) (z := 0) (dc_X7_at_26.1.1.1.2) (by decide) ?_
      refine sg_iconst (pc := 30) (z := 1) (dc_X7_at_26.1.1.2.1) (by decide) ?_
      refine sg_cE2 (pc := 31) (d' := d - 1) (mc' := 0) (ms' := 0) 8 g (dc_X7_at_26.1.1.2.2) cb_X7_start ml_X7_71 mn_X7_start rfl mv_X7_start (Nat.le_of_ble_eq_true rfl) (md_oc (by assumption)) (Nat.le_of_ble_eq_true rfl) (by first | exact jl_d0 hd rfl | omega) (by first | exact Nat.le_of_ble_eq_true rfl | omega) (by first | exact Nat.le_of_ble_eq_true rfl | omega) ?_
      refine s_X7_start g (by first | exact jl_d1 hd rfl | omega) (by omega) (by assumption) (fun v31 h31 b31 i31 t31 s31 u31 y31 => sg_K1 ?_)
      have x31 := y31.1
      have hk31 := x31.2.1
      have y31 := md_Yt (h0 := h) (by assumption) y31
      refine sg_if_eq (pc := 34) (tgt := 41) (dc_X7_at_26.1.2.1.1) (by decide) (fun c34 => ?_) (fun c34 => absurd c34 (by omega))
      refine sg_aload_n (pc := 41) (j := 0) (dc_X7_at_26.1.2.2.2) rfl rfl ?_
      refine md_grw (pc := 42) g (dc_X7_at_26.2.1.1.1) fk_X7_9 (by assumption) (fun r42 => ?_)
      refine sg_iload_n (pc := 45) (j := 1) (dc_X7_at_26.2.1.1.2) rfl rfl ?_
      first | refine md_alX (pc := 46) (dc_X7_at_26.2.1.2.1) hA (by assumption) (by assumption) (by omega) (by omega) (fun X46 l46 => ?_) | refine md_alXt (pc := 46) (dc_X7_at_26.2.1.2.1) hA (by assumption) (by assumption) (by omega) (by omega) (fun X46 l46 => ?_)
      refine sg_iload_n (pc := 47) (j := 2) (dc_X7_at_26.2.1.2.2) rfl rfl ?_
      refine md_xld (pc := 48) (dc_X7_at_26.2.2.1.1) (by assumption) (by omega) (by omega) (fun g48 => ?_)
      refine sg_iret (pc := 49) (dc_X7_at_26.2.2.1.2) rfl (by first | exact Nat.le_of_ble_eq_true rfl | omega) (by first | exact Nat.le_of_ble_eq_true rfl | omega) ?_
      first
        | exact hQ _ _ (by omega) (by omega) (fun q => absurd q (by omega)) (by assumption)
        | exact hQ _ _ (by omega) (by omega) (fun _ => rfl) (by assumption)
    · refine sg_iconst (pc := 25) (z := 1) (dc_X7_at_0.2.2.2.2) (by decide) ?_
      refine sg_goto (pc := 26) (tgt := 30) (dc_X7_at_26.1.1.1.1) (by decide) ?_
      refine sg_iconst (pc := 30) (z := 1) (dc_X7_at_26.1.1.2.1) (by decide) ?_
      refine sg_cE2 (pc := 31) (d' := d - 1) (mc' := 0) (ms' := 0) 8 g (dc_X7_at_26.1.1.2.2) cb_X7_start ml_X7_71 mn_X7_start rfl mv_X7_start (Nat.le_of_ble_eq_true rfl) (md_oc (by assumption)) (Nat.le_of_ble_eq_true rfl) (by first | exact jl_d0 hd rfl | omega) (by first | exact Nat.le_of_ble_eq_true rfl | omega) (by first | exact Nat.le_of_ble_eq_true rfl | omega) ?_
      refine s_X7_start g (by first | exact jl_d1 hd rfl | omega) (by omega) (by assumption) (fun v31 h31 b31 i31 t31 s31 u31 y31 => sg_K1 ?_)
      have x31 := y31.1
      have hk31 := x31.2.1
      have y31 := md_Yt (h0 := h) (by assumption) y31
      refine sg_if_eq (pc := 34) (tgt := 41) (dc_X7_at_26.1.2.1.1) (by decide) (fun c34 => absurd c34 (by omega)) (fun c34 => ?_)
      refine sg_iconst (pc := 37) (z := 0) (dc_X7_at_26.1.2.1.2) (by decide) ?_
      refine sg_goto (pc := 38) (tgt := 49) (dc_X7_at_26.1.2.2.1) (by decide) ?_
      refine sg_iret (pc := 49) (dc_X7_at_26.2.2.1.2) rfl (by first | exact Nat.le_of_ble_eq_true rfl | omega) (by first | exact Nat.le_of_ble_eq_true rfl | omega) ?_
      first
        | exact hQ _ _ (by omega) (by omega) (fun q => absurd q (by omega)) (by assumption)
        | exact hQ _ _ (by omega) (by omega) (fun _ => rfl) (by assumption)

