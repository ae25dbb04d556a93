set_option maxRecDepth 100000 in
theorem s_X7_drop {w : sg_W} {Q : sg_O → sg_H → Prop} {h : sg_H} (g : sg_G w) {d : Nat} (hd : 9 ≤ d) {M : Nat} {row many : Int}  (hx : md_M w h M) (hQ : ∀ (v : Int) (h' : sg_H), md_Y w h h' M → Q (.inl (some (sg_i v))) h') : sg_C w mi_X7_drop d 3 56 [sg_r M, sg_i row, sg_i many] h Q := by
  refine sg_of pn_X7 (Nat.le_of_ble_eq_true rfl) ?_
  have y0 := md_Y0 hx
  have hk := hx.2.1
  refine sg_aload_n (pc := 0) (j := 0) (dc_X7_drop_0.1.1.1.1) rfl rfl ?_
  refine sg_iload_n (pc := 1) (j := 1) (dc_X7_drop_0.1.1.1.2) rfl rfl ?_
  refine sg_cS1 (pc := 2) (d' := d - 1) (mc' := 0) (ms' := 0) g (dc_X7_drop_0.1.1.2.1) cb_X7_isNoRow ml_X7_68 ms_X7_isNoRow (Nat.le_of_ble_eq_true rfl) (by first | exact jl_d0 hd rfl | omega) (by first | exact Nat.le_of_ble_eq_true rfl | omega) (by first | exact Nat.le_of_ble_eq_true rfl | omega) ?_
  refine s_X7_isNoRow g (by first | exact jl_d1 hd rfl | omega) (fun z2 h2 b2 => sg_K1 ?_)
  (try simp only [fm_no, fm_one, fn_betw, fn_sign, fn_radix, fn_high, fn_low] at h2)
  refine sg_iconst (pc := 5) (z := 1) (dc_X7_drop_0.1.1.2.2) (by decide) ?_
  refine sg_cE2 (pc := 6) (d' := d - 1) (mc' := 0) (ms' := 0) 8 g (dc_X7_drop_0.1.2.1.1) cb_X7_start ml_X7_71 mn_X7_start rfl mv_X7_start (Nat.le_of_ble_eq_true rfl) (md_oc (by assumption)) (Nat.le_of_ble_eq_true rfl) (by first | exact jl_d0 hd rfl | omega) (by first | exact Nat.le_of_ble_eq_true rfl | omega) (by first | exact Nat.le_of_ble_eq_true rfl | omega) ?_
  refine s_X7_start g (by first | exact jl_d1 hd rfl | omega) (by omega) (by assumption) (fun v6 h6 b6 i6 t6 s6 u6 y6 => sg_K1 ?_)
  have x6 := y6.1
  have hk6 := x6.2.1
  have y6 := md_Yt (h0 := h) (by assumption) y6
  refine sg_if_ne (pc := 9) (tgt := 40) (dc_X7_drop_0.1.2.1.2) (by decide) (fun c9 => ?_) (fun c9 => ?_)
  · refine sg_iconst (pc := 40) (z := 0) (dc_X7_drop_28.1.2.2.1) (by decide) ?_
    refine sg_goto (pc := 41) (tgt := 68) (dc_X7_drop_28.1.2.2.2) (by decide) ?_
    refine sg_iret (pc := 68) (dc_X7_drop_54.2.1.1.1) rfl (by first | exact Nat.le_of_ble_eq_true rfl | omega) (by first | exact Nat.le_of_ble_eq_true rfl | omega) ?_
    exact hQ _ _ (by assumption)
  · refine sg_aload_n (pc := 12) (j := 0) (dc_X7_drop_0.1.2.2.1) rfl rfl ?_
    refine sg_iload_n (pc := 13) (j := 2) (dc_X7_drop_0.1.2.2.2) rfl rfl ?_
    refine sg_iconst (pc := 14) (z := 0) (dc_X7_drop_0.2.1.1.1) (by decide) ?_
    refine sg_aload_n (pc := 15) (j := 0) (dc_X7_drop_0.2.1.1.2) rfl rfl ?_
    refine md_grw (pc := 16) g (dc_X7_drop_0.2.1.2.1) fk_X7_9 (by assumption) (fun r16 => ?_)
    refine sg_iload_n (pc := 19) (j := 1) (dc_X7_drop_0.2.1.2.2) rfl rfl ?_
    first | refine md_alr (pc := 20) (dc_X7_drop_0.2.2.1.1) (by assumption) (by omega) (by omega) (fun A20 l20 => ?_) | refine md_alt (pc := 20) (dc_X7_drop_0.2.2.1.1) (by assumption) (by omega) (by omega) (fun A20 l20 => ?_)
    refine md_len (pc := 21) (dc_X7_drop_0.2.2.1.2) (by assumption) (by omega) ?_
    refine sg_cS3 (pc := 22) (d' := d - 1) (mc' := 0) (ms' := 0) g (dc_X7_drop_0.2.2.2.1) cb_X7_isOf ml_X7_22 ms_X7_isOf (Nat.le_of_ble_eq_true rfl) (by first | exact jl_d0 hd rfl | omega) (by first | exact Nat.le_of_ble_eq_true rfl | omega) (by first | exact Nat.le_of_ble_eq_true rfl | omega) ?_
    refine s_X7_isOf g (by first | exact jl_d1 hd rfl | omega) (fun z22 h22 b22 => sg_K1 ?_)
    (try simp only [fm_no, fm_one, fn_betw, fn_sign, fn_radix, fn_high, fn_low] at h22)
    refine sg_if_ne (pc := 25) (tgt := 32) (dc_X7_drop_0.2.2.2.2) (by decide) (fun c25 => ?_) (fun c25 => ?_)
    · refine sg_iconst (pc := 32) (z := 0) (dc_X7_drop_28.1.1.2.1) (by decide) ?_
      refine sg_iconst (pc := 33) (z := 2) (dc_X7_drop_28.1.1.2.2) (by decide) ?_
      refine sg_cE2 (pc := 34) (d' := d - 1) (mc' := 0) (ms' := 0) 8 g (dc_X7_drop_28.1.2.1.1) cb_X7_refuse ml_X7_45 mn_X7_refuse rfl mv_X7_refuse (Nat.le_of_ble_eq_true rfl) (md_oc (by assumption)) (Nat.le_of_ble_eq_true rfl) (by first | exact jl_d0 hd rfl | omega) (by first | exact Nat.le_of_ble_eq_true rfl | omega) (by first | exact Nat.le_of_ble_eq_true rfl | omega) ?_
      refine s_X7_refuse g (by first | exact jl_d1 hd rfl | omega) (by omega) (by assumption) (fun v34 h34 b34 i34 t34 s34 u34 y34 => sg_K1 ?_)
      have x34 := y34.1
      have hk34 := x34.2.1
      have y34 := md_Yt (h0 := h) (by assumption) y34
      refine sg_if_eq (pc := 37) (tgt := 44) (dc_X7_drop_28.1.2.1.2) (by decide) (fun c37 => ?_) (fun c37 => ?_)
      · have s44 := s34 row
        refine sg_aload_n (pc := 44) (j := 0) (dc_X7_drop_28.2.1.1.1) rfl rfl ?_
        refine sg_iload_n (pc := 45) (j := 1) (dc_X7_drop_28.2.1.1.2) rfl rfl ?_
        refine sg_aload_n (pc := 46) (j := 0) (dc_X7_drop_28.2.1.2.1) rfl rfl ?_
        refine md_grw (pc := 47) g (dc_X7_drop_28.2.1.2.2) fk_X7_9 (by assumption) (fun r47 => ?_)
        refine sg_iload_n (pc := 50) (j := 1) (dc_X7_drop_28.2.2.1.1) rfl rfl ?_
        first | refine md_alr (pc := 51) (dc_X7_drop_28.2.2.1.2) (by assumption) (by omega) (by omega) (fun A51 l51 => ?_) | refine md_alt (pc := 51) (dc_X7_drop_28.2.2.1.2) (by assumption) (by omega) (by omega) (fun A51 l51 => ?_)
        refine sg_iconst (pc := 52) (z := 0) (dc_X7_drop_28.2.2.2.1) (by decide) ?_
        refine sg_aload_n (pc := 53) (j := 0) (dc_X7_drop_28.2.2.2.2) rfl rfl ?_
        refine md_grw (pc := 54) g (dc_X7_drop_54.1.1.1.1) fk_X7_9 (by assumption) (fun r54 => ?_)
        refine sg_iload_n (pc := 57) (j := 1) (dc_X7_drop_54.1.1.1.2) rfl rfl ?_
        first | refine md_alr (pc := 58) (dc_X7_drop_54.1.1.2.1) (by assumption) (by omega) (by omega) (fun A58 l58 => ?_) | refine md_alt (pc := 58) (dc_X7_drop_54.1.1.2.1) (by assumption) (by omega) (by omega) (fun A58 l58 => ?_)
        refine md_len (pc := 59) (dc_X7_drop_54.1.1.2.2) (by assumption) (by omega) ?_
        refine sg_iload_n (pc := 60) (j := 2) (dc_X7_drop_54.1.2.1.1) rfl rfl ?_
        first | refine sg_isubB (pc := 61) (dc_X7_drop_54.1.2.1.2) (by omega) (by omega) ?_ | refine sg_isub (pc := 61) (dc_X7_drop_54.1.2.1.2) ?_
        refine sg_cS3 (pc := 62) (d' := d - 1) (mc' := 1) (ms' := (((md_n h34 (md_a h34 (md_r h34 M) row)) : Int) - many).toNat) g (dc_X7_drop_54.1.2.2.1) cb_X7_part ml_X7_82 ms_X7_part (Nat.le_of_ble_eq_true rfl) (by first | exact jl_d0 hd rfl | omega) (by first | exact Nat.le_of_ble_eq_true rfl | omega) (by first | exact Nat.le_of_ble_eq_true rfl | omega) ?_
        refine s_X7_part (c := 0) (m := (((md_n h34 (md_a h34 (md_r h34 M) row)) : Int) - many).toNat) (n := (md_n h34 (md_a h34 (md_r h34 M) row))) g (by first | exact jl_d1 hd rfl | omega) (by first | assumption | (exfalso; omega)) (by omega) (by omega) (by omega) (by omega) (fun h62 t62 => sg_K1 ?_)
        have x62 : md_M w h62 M := md_ME (by assumption) (md_TE t62)
        have hk62 := x62.2.1
        have y62 : md_Y w h h62 M := md_YE (by assumption) (md_TE t62)
        refine sg_cE2 (pc := 65) (d' := d - 1) (mc' := 2) (ms' := 16) 8 g (dc_X7_drop_54.1.2.2.2) cb_X7_set ml_X7_78 mn_X7_set rfl mv_X7_set (Nat.le_of_ble_eq_true rfl) (md_oc (by assumption)) (Nat.le_of_ble_eq_true rfl) (by first | exact jl_d0 hd rfl | omega) (by first | exact Nat.le_of_ble_eq_true rfl | omega) (by first | exact Nat.le_of_ble_eq_true rfl | omega) ?_
        refine s_X7_set g (by first | exact jl_d1 hd rfl | omega) (by omega) (by assumption) (fun q => ⟨t62.2.2, (by omega)⟩) (fun q => absurd q (by omega)) (fun h65 y65 => sg_K1 ?_)
        have x65 := y65.1
        have hk65 := x65.2.1
        have y65 := md_Yt (h0 := h) (by assumption) y65
        refine sg_iret (pc := 68) (dc_X7_drop_54.2.1.1.1) rfl (by first | exact Nat.le_of_ble_eq_true rfl | omega) (by first | exact Nat.le_of_ble_eq_true rfl | omega) ?_
        exact hQ _ _ (by assumption)
      · refine sg_iconst (pc := 40) (z := 0) (dc_X7_drop_28.1.2.2.1) (by decide) ?_
        refine sg_goto (pc := 41) (tgt := 68) (dc_X7_drop_28.1.2.2.2) (by decide) ?_
        refine sg_iret (pc := 68) (dc_X7_drop_54.2.1.1.1) rfl (by first | exact Nat.le_of_ble_eq_true rfl | omega) (by first | exact Nat.le_of_ble_eq_true rfl | omega) ?_
        exact hQ _ _ (by assumption)
    · refine sg_iconst (pc := 28) (z := 1) (dc_X7_drop_28.1.1.1.1) (by decide) ?_
      refine sg_goto (pc := 29) (tgt := 33) (dc_X7_drop_28.1.1.1.2) (by decide) ?_
      refine sg_iconst (pc := 33) (z := 2) (dc_X7_drop_28.1.1.2.2) (by decide) ?_
      refine sg_cE2 (pc := 34) (d' := d - 1) (mc' := 0) (ms' := 0) 8 g (dc_X7_drop_28.1.2.1.1) cb_X7_refuse ml_X7_45 mn_X7_refuse rfl mv_X7_refuse (Nat.le_of_ble_eq_true rfl) (md_oc (by assumption)) (Nat.le_of_ble_eq_true rfl) (by first | exact jl_d0 hd rfl | omega) (by first | exact Nat.le_of_ble_eq_true rfl | omega) (by first | exact Nat.le_of_ble_eq_true rfl | omega) ?_
      refine s_X7_refuse g (by first | exact jl_d1 hd rfl | omega) (by omega) (by assumption) (fun v34 h34 b34 i34 t34 s34 u34 y34 => sg_K1 ?_)
      have x34 := y34.1
      have hk34 := x34.2.1
      have y34 := md_Yt (h0 := h) (by assumption) y34
      refine sg_if_eq (pc := 37) (tgt := 44) (dc_X7_drop_28.1.2.1.2) (by decide) (fun c37 => absurd c37 (by omega)) (fun c37 => ?_)
      refine sg_iconst (pc := 40) (z := 0) (dc_X7_drop_28.1.2.2.1) (by decide) ?_
      refine sg_goto (pc := 41) (tgt := 68) (dc_X7_drop_28.1.2.2.2) (by decide) ?_
      refine sg_iret (pc := 68) (dc_X7_drop_54.2.1.1.1) rfl (by first | exact Nat.le_of_ble_eq_true rfl | omega) (by first | exact Nat.le_of_ble_eq_true rfl | omega) ?_
      exact hQ _ _ (by assumption)

set_option maxRecDepth 100000 in
theorem s_X7_copy {w : sg_W} {Q : sg_O → sg_H → Prop} {h : sg_H} (g : sg_G w) {d : Nat} (hd : 9 ≤ d) {M : Nat} {fr to : Int}  (hx : md_M w h M) (hQ : ∀ (v : Int) (h' : sg_H), md_Y w h h' M → Q (.inl (some (sg_i v))) h') : sg_C w mi_X7_copy d 2 16 [sg_r M, sg_i fr, sg_i to] h Q := by
  refine sg_of pn_X7 (Nat.le_of_ble_eq_true rfl) ?_
  have y0 := md_Y0 hx
  have hk := hx.2.1
  refine sg_aload_n (pc := 0) (j := 0) (dc_X7_copy_0.1.1.1.1) rfl rfl ?_
  refine sg_iload_n (pc := 1) (j := 1) (dc_X7_copy_0.1.1.1.2) rfl rfl ?_
  refine sg_cS1 (pc := 2) (d' := d - 1) (mc' := 0) (ms' := 0) g (dc_X7_copy_0.1.1.2.1) cb_X7_isNoRow ml_X7_68 ms_X7_isNoRow (Nat.le_of_ble_eq_true rfl) (by first | exact jl_d0 hd rfl | omega) (by first | exact Nat.le_of_ble_eq_true rfl | omega) (by first | exact Nat.le_of_ble_eq_true rfl | omega) ?_
  refine s_X7_isNoRow g (by first | exact jl_d1 hd rfl | omega) (fun z2 h2 b2 => sg_K1 ?_)
  (try simp only [fm_no, fm_one, fn_betw, fn_sign, fn_radix, fn_high, fn_low] at h2)
  refine sg_if_ne (pc := 5) (tgt := 15) (dc_X7_copy_0.1.1.2.2) (by decide) (fun c5 => ?_) (fun c5 => ?_)
  · refine sg_iconst (pc := 15) (z := 1) (dc_X7_copy_0.1.2.2.2) (by decide) ?_
    refine sg_goto (pc := 16) (tgt := 20) (dc_X7_copy_0.2.1.1.1) (by decide) ?_
    refine sg_iconst (pc := 20) (z := 1) (dc_X7_copy_0.2.1.2.1) (by decide) ?_
    refine sg_cE2 (pc := 21) (d' := d - 1) (mc' := 0) (ms' := 0) 8 g (dc_X7_copy_0.2.1.2.2) cb_X7_start ml_X7_71 mn_X7_start rfl mv_X7_start (Nat.le_of_ble_eq_true rfl) (md_oc (by assumption)) (Nat.le_of_ble_eq_true rfl) (by first | exact jl_d0 hd rfl | omega) (by first | exact Nat.le_of_ble_eq_true rfl | omega) (by first | exact Nat.le_of_ble_eq_true rfl | omega) ?_
    refine s_X7_start g (by first | exact jl_d1 hd rfl | omega) (by omega) (by assumption) (fun v21 h21 b21 i21 t21 s21 u21 y21 => sg_K1 ?_)
    have x21 := y21.1
    have hk21 := x21.2.1
    have y21 := md_Yt (h0 := h) (by assumption) y21
    refine sg_if_eq (pc := 24) (tgt := 29) (dc_X7_copy_0.2.2.1.1) (by decide) (fun c24 => absurd c24 (by omega)) (fun c24 => ?_)
    refine sg_iconst (pc := 27) (z := 0) (dc_X7_copy_0.2.2.1.2) (by decide) ?_
    refine sg_iret (pc := 28) (dc_X7_copy_0.2.2.2.1) rfl (by first | exact Nat.le_of_ble_eq_true rfl | omega) (by first | exact Nat.le_of_ble_eq_true rfl | omega) ?_
    exact hQ _ _ (by assumption)
  · refine sg_iload_n (pc := 8) (j := 2) (dc_X7_copy_0.1.2.1.1) rfl rfl ?_
    refine sg_cS1 (pc := 9) (d' := d - 1) (mc' := 0) (ms' := 0) g (dc_X7_copy_0.1.2.1.2) cb_X7_isNoRow ml_X7_68 ms_X7_isNoRow (Nat.le_of_ble_eq_true rfl) (by first | exact jl_d0 hd rfl | omega) (by first | exact Nat.le_of_ble_eq_true rfl | omega) (by first | exact Nat.le_of_ble_eq_true rfl | omega) ?_
    refine s_X7_isNoRow g (by first | exact jl_d1 hd rfl | omega) (fun z9 h9 b9 => sg_K1 ?_)
    (try simp only [fm_no, fm_one, fn_betw, fn_sign, fn_radix, fn_high, fn_low] at h9)
    refine sg_if_eq (pc := 12) (tgt := 19) (dc_X7_copy_0.1.2.2.1) (by decide) (fun c12 => ?_) (fun c12 => ?_)
    · refine sg_iconst (pc := 19) (z := 0) (dc_X7_copy_0.2.1.1.2) (by decide) ?_
      refine sg_iconst (pc := 20) (z := 1) (dc_X7_copy_0.2.1.2.1) (by decide) ?_
      refine sg_cE2 (pc := 21) (d' := d - 1) (mc' := 0) (ms' := 0) 8 g (dc_X7_copy_0.2.1.2.2) cb_X7_start ml_X7_71 mn_X7_start rfl mv_X7_start (Nat.le_of_ble_eq_true rfl) (md_oc (by assumption)) (Nat.le_of_ble_eq_true rfl) (by first | exact jl_d0 hd rfl | omega) (by first | exact Nat.le_of_ble_eq_true rfl | omega) (by first | exact Nat.le_of_ble_eq_true rfl | omega) ?_
      refine s_X7_start g (by first | exact jl_d1 hd rfl | omega) (by omega) (by assumption) (fun v21 h21 b21 i21 t21 s21 u21 y21 => sg_K1 ?_)
      have x21 := y21.1
      have hk21 := x21.2.1
      have y21 := md_Yt (h0 := h) (by assumption) y21
      refine sg_if_eq (pc := 24) (tgt := 29) (dc_X7_copy_0.2.2.1.1) (by decide) (fun c24 => ?_) (fun c24 => absurd c24 (by omega))
      refine sg_aload_n (pc := 29) (j := 0) (dc_X7_copy_0.2.2.2.2) rfl rfl ?_
      refine md_grw (pc := 30) g (dc_X7_copy_30.1.1.1.1) fk_X7_9 (by assumption) (fun r30 => ?_)
      refine sg_iload_n (pc := 33) (j := 2) (dc_X7_copy_30.1.1.1.2) rfl rfl ?_
      first | refine md_alr (pc := 34) (dc_X7_copy_30.1.1.2.1) (by assumption) (by omega) (by omega) (fun A34 l34 => ?_) | refine md_alt (pc := 34) (dc_X7_copy_30.1.1.2.1) (by assumption) (by omega) (by omega) (fun A34 l34 => ?_)
      refine md_len (pc := 35) (dc_X7_copy_30.1.1.2.2) (by assumption) (by omega) ?_
      refine sg_istore_n (pc := 36) (j := 3) (dc_X7_copy_30.1.2.1.1) rfl (by decide) ?_
      refine sg_aload_n (pc := 37) (j := 0) (dc_X7_copy_30.1.2.1.2) rfl rfl ?_
      refine sg_iload_n (pc := 38) (j := 2) (dc_X7_copy_30.1.2.2.1) rfl rfl ?_
      refine sg_aload_n (pc := 39) (j := 0) (dc_X7_copy_30.1.2.2.2) rfl rfl ?_
      refine md_grw (pc := 40) g (dc_X7_copy_30.2.1.1.1) fk_X7_9 (by assumption) (fun r40 => ?_)
      refine sg_iload_n (pc := 43) (j := 1) (dc_X7_copy_30.2.1.1.2) rfl rfl ?_
      first | refine md_alr (pc := 44) (dc_X7_copy_30.2.1.2.1) (by assumption) (by omega) (by omega) (fun A44 l44 => ?_) | refine md_alt (pc := 44) (dc_X7_copy_30.2.1.2.1) (by assumption) (by omega) (by omega) (fun A44 l44 => ?_)
      refine sg_cE2 (pc := 45) (d' := d - 1) (mc' := 2) (ms' := 16) 8 g (dc_X7_copy_30.2.1.2.2) cb_X7_set ml_X7_78 mn_X7_set rfl mv_X7_set (Nat.le_of_ble_eq_true rfl) (md_oc (by assumption)) (Nat.le_of_ble_eq_true rfl) (by first | exact jl_d0 hd rfl | omega) (by first | exact Nat.le_of_ble_eq_true rfl | omega) (by first | exact Nat.le_of_ble_eq_true rfl | omega) ?_
      refine s_X7_set g (by first | exact jl_d1 hd rfl | omega) (by omega) (by assumption) (fun q => ⟨A44, l44⟩) (fun q => absurd q (by omega)) (fun h45 y45 => sg_K1 ?_)
      have x45 := y45.1
      have hk45 := x45.2.1
      have y45 := md_Yt (h0 := h) (by assumption) y45
      refine sg_pop (pc := 48) (dc_X7_copy_30.2.2.1.1) rfl ?_
      refine sg_iload_n (pc := 49) (j := 3) (dc_X7_copy_30.2.2.1.2) rfl rfl ?_
      refine sg_iret (pc := 50) (dc_X7_copy_30.2.2.2.1) rfl (by first | exact Nat.le_of_ble_eq_true rfl | omega) (by first | exact Nat.le_of_ble_eq_true rfl | omega) ?_
      exact hQ _ _ (by assumption)
    · refine sg_iconst (pc := 15) (z := 1) (dc_X7_copy_0.1.2.2.2) (by decide) ?_
      refine sg_goto (pc := 16) (tgt := 20) (dc_X7_copy_0.2.1.1.1) (by decide) ?_
      refine sg_iconst (pc := 20) (z := 1) (dc_X7_copy_0.2.1.2.1) (by decide) ?_
      refine sg_cE2 (pc := 21) (d' := d - 1) (mc' := 0) (ms' := 0) 8 g (dc_X7_copy_0.2.1.2.2) cb_X7_start ml_X7_71 mn_X7_start rfl mv_X7_start (Nat.le_of_ble_eq_true rfl) (md_oc (by assumption)) (Nat.le_of_ble_eq_true rfl) (by first | exact jl_d0 hd rfl | omega) (by first | exact Nat.le_of_ble_eq_true rfl | omega) (by first | exact Nat.le_of_ble_eq_true rfl | omega) ?_
      refine s_X7_start g (by first | exact jl_d1 hd rfl | omega) (by omega) (by assumption) (fun v21 h21 b21 i21 t21 s21 u21 y21 => sg_K1 ?_)
      have x21 := y21.1
      have hk21 := x21.2.1
      have y21 := md_Yt (h0 := h) (by assumption) y21
      refine sg_if_eq (pc := 24) (tgt := 29) (dc_X7_copy_0.2.2.1.1) (by decide) (fun c24 => absurd c24 (by omega)) (fun c24 => ?_)
      refine sg_iconst (pc := 27) (z := 0) (dc_X7_copy_0.2.2.1.2) (by decide) ?_
      refine sg_iret (pc := 28) (dc_X7_copy_0.2.2.2.1) rfl (by first | exact Nat.le_of_ble_eq_true rfl | omega) (by first | exact Nat.le_of_ble_eq_true rfl | omega) ?_
      exact hQ _ _ (by assumption)

set_option maxRecDepth 100000 in
theorem s_X7_cased {w : sg_W} {Q : sg_O → sg_H → Prop} {h : sg_H} (g : sg_G w) {d : Nat} (hd : 7 ≤ d) {M : Nat} {row up : Int} (hv : 0 ≤ row ∧ row < 4)  (hx : md_M w h M) (hQ : ∀ (v : Int) (h' : sg_H), md_Y w h h' M → Q (.inl (some (sg_i v))) h') : sg_C w mi_X7_cased d 3 56 [sg_r M, sg_i row, sg_i up] h Q := by
  refine sg_of pn_X7 (Nat.le_of_ble_eq_true rfl) ?_
  have y0 := md_Y0 hx
  have hk := hx.2.1
  refine sg_aload_n (pc := 0) (j := 0) (dc_X7_cased_0.1.1.1.1) rfl rfl ?_
  refine md_grw (pc := 1) g (dc_X7_cased_0.1.1.1.2) fk_X7_9 (by assumption) (fun r1 => ?_)
  refine sg_iload_n (pc := 4) (j := 1) (dc_X7_cased_0.1.1.2.1) rfl rfl ?_
  first | refine md_alr (pc := 5) (dc_X7_cased_0.1.1.2.2) (by assumption) (by omega) (by omega) (fun A5 l5 => ?_) | refine md_alt (pc := 5) (dc_X7_cased_0.1.1.2.2) (by assumption) (by omega) (by omega) (fun A5 l5 => ?_)
  refine md_len (pc := 6) (dc_X7_cased_0.1.2.1.1) (by assumption) (by omega) ?_
  refine sg_newa (t := 100) (N := (md_n h (md_a h (md_r h M) row))) (pc := 7) g (dc_X7_cased_0.1.2.1.2) ac_int rfl (by decide) (by decide) rfl rfl (by decide) (by omega) (by omega) (by omega) (by omega) ?_
  refine sg_astore_n (pc := 9) (j := 3) (dc_X7_cased_0.1.2.2.1) rfl (by decide) ?_
  refine sg_iconst (pc := 10) (z := 0) (dc_X7_cased_0.1.2.2.2) (by decide) ?_
  refine sg_istore (pc := 11) (dc_X7_cased_0.2.1.1.1) (by decide) ?_
  refine sg_iconst (pc := 13) (z := 0) (dc_X7_cased_0.2.1.1.2) (by decide) ?_
  refine sg_istore (pc := 14) (dc_X7_cased_0.2.1.2.1) (by decide) ?_
  have loop16 : ∀ (N : Nat) (h1 : sg_H) (p s : Int), md_T 0 h h1 (md_n h (md_a h (md_r h M) row)) → 0 ≤ p → (((md_n h (md_a h (md_r h M) row)) : Int) - p).toNat < N → sg_R w mi_X7_cased d 3 56 Q 16 [(5, sg_i p), (4, sg_i s), (0, sg_r M), (1, sg_i row), (2, sg_i up), (3, sg_r h.1)] [] h1 1 (0 + (md_n h (md_a h (md_r h M) row))) := by
    intro N
    induction N with
    | zero => intro h1 p s t1 p0 hm; exact absurd hm (Nat.not_lt_zero _)
    | succ N ih =>
      intro h1 p s t1 p0 hm
      have x1 : md_M w h1 M := md_ME hx (md_TE t1)
      have hk1 := x1.2.1
      have y1 : md_Y w h h1 M := md_YE y0 (md_TE t1)
      have s1 := md_SE hx (md_TE t1) (i := row) (by omega) (by omega)
      refine sg_iload (pc := 16) (dc_X7_cased_0.2.1.2.2) rfl ?_
      refine sg_aload_n (pc := 18) (j := 3) (dc_X7_cased_0.2.2.1.1) rfl rfl ?_
      refine md_len (pc := 19) (dc_X7_cased_0.2.2.1.2) t1.2.2 (by omega) ?_
      refine sg_icmp_ge (pc := 20) (tgt := 100) (dc_X7_cased_0.2.2.2.1) (by decide) (fun c20 => ?_) (fun c20 => ?_)
      · refine sg_aload_n (pc := 100) (j := 0) (dc_X7_cased_88.1.2.1.2) rfl rfl ?_
        refine sg_iload_n (pc := 101) (j := 1) (dc_X7_cased_88.1.2.2.1) rfl rfl ?_
        refine sg_aload_n (pc := 102) (j := 3) (dc_X7_cased_88.1.2.2.2) rfl rfl ?_
        refine sg_cE2 (pc := 103) (d' := d - 1) (mc' := 2) (ms' := 16) 8 g (dc_X7_cased_88.2.1.1.1) cb_X7_set ml_X7_78 mn_X7_set rfl mv_X7_set (Nat.le_of_ble_eq_true rfl) (md_oc (by assumption)) (Nat.le_of_ble_eq_true rfl) (by first | exact jl_d0 hd rfl | omega) (by first | exact Nat.le_of_ble_eq_true rfl | omega) (by first | exact Nat.le_of_ble_eq_true rfl | omega) ?_
        refine s_X7_set g (by first | exact jl_d1 hd rfl | omega) (by omega) (by assumption) (fun q => ⟨t1.2.2, (by omega)⟩) (fun q => absurd q (by omega)) (fun h103 y103 => sg_K1 ?_)
        have x103 := y103.1
        have hk103 := x103.2.1
        have y103 := md_Yt (h0 := h) (by assumption) y103
        refine sg_pop (pc := 106) (dc_X7_cased_88.2.1.1.2) rfl ?_
        refine sg_iload (pc := 107) (dc_X7_cased_88.2.1.2.1) rfl ?_
        refine sg_iret (pc := 109) (dc_X7_cased_88.2.1.2.2) rfl (by first | exact Nat.le_of_ble_eq_true rfl | omega) (by first | exact Nat.le_of_ble_eq_true rfl | omega) ?_
        exact hQ _ _ (by assumption)
      · refine sg_aload_n (pc := 23) (j := 0) (dc_X7_cased_0.2.2.2.2) rfl rfl ?_
        refine md_grw (pc := 24) g (dc_X7_cased_24.1.1.1.1) fk_X7_9 (by assumption) (fun r24 => ?_)
        refine sg_iload_n (pc := 27) (j := 1) (dc_X7_cased_24.1.1.1.2) rfl rfl ?_
        first | refine md_alr (pc := 28) (dc_X7_cased_24.1.1.2.1) (by assumption) (by omega) (by omega) (fun A28 l28 => ?_) | refine md_alt (pc := 28) (dc_X7_cased_24.1.1.2.1) (by assumption) (by omega) (by omega) (fun A28 l28 => ?_)
        refine sg_iload (pc := 29) (dc_X7_cased_24.1.1.2.2) rfl ?_
        refine md_ald (pc := 31) (dc_X7_cased_24.1.2.1.1) (by assumption) (by omega) (by omega) (fun x31 g31 => ?_)
        try have q31 := ck_v1.mp g31
        refine sg_istore (pc := 32) (dc_X7_cased_24.1.2.1.2) (by decide) ?_
        refine sg_iload_n (pc := 34) (j := 2) (dc_X7_cased_24.1.2.2.1) rfl rfl ?_
        refine sg_if_eq (pc := 35) (tgt := 46) (dc_X7_cased_24.1.2.2.2) (by decide) (fun c35 => ?_) (fun c35 => ?_)
        · refine sg_iload (pc := 46) (dc_X7_cased_24.2.1.2.2) rfl ?_
          refine sg_cS1 (pc := 48) (d' := d - 1) (mc' := 0) (ms' := 0) g (dc_X7_cased_24.2.2.1.1) cb_X7_lowerOf ml_X7_89 ms_X7_lowerOf (Nat.le_of_ble_eq_true rfl) (by first | exact jl_d0 hd rfl | omega) (by first | exact Nat.le_of_ble_eq_true rfl | omega) (by first | exact Nat.le_of_ble_eq_true rfl | omega) ?_
          refine s_X7_lowerOf g (by first | exact jl_d1 hd rfl | omega) (by assumption) (fun z48 e48 => sg_K1 ?_)
          refine sg_istore (pc := 51) (dc_X7_cased_24.2.2.1.2) (by decide) ?_
          refine sg_aload_n (pc := 53) (j := 3) (dc_X7_cased_24.2.2.2.1) rfl rfl ?_
          refine sg_iload (pc := 54) (dc_X7_cased_24.2.2.2.2) rfl ?_
          refine sg_iload (pc := 56) (dc_X7_cased_56.1.1.1.1) rfl ?_
          refine sg_cS1 (pc := 58) (d' := d - 1) (mc' := 0) (ms' := 0) g (dc_X7_cased_56.1.1.1.2) cb_X7_isSign ml_X7_65 ms_X7_isSign (Nat.le_of_ble_eq_true rfl) (by first | exact jl_d0 hd rfl | omega) (by first | exact Nat.le_of_ble_eq_true rfl | omega) (by first | exact Nat.le_of_ble_eq_true rfl | omega) ?_
          refine s_X7_isSign g (by first | exact jl_d1 hd rfl | omega) (fun z58 h58 b58 => sg_K1 ?_)
          (try simp only [fm_no, fm_one, fn_betw, fn_sign, fn_radix, fn_high, fn_low] at h58)
          refine sg_if_eq (pc := 61) (tgt := 69) (dc_X7_cased_56.1.1.2.1) (by decide) (fun c61 => ?_) (fun c61 => ?_)
          · refine sg_iload (pc := 69) (dc_X7_cased_56.1.2.1.2) rfl ?_
            refine md_ast (pc := 71) (dc_X7_cased_56.1.2.2.1) t1 ck_v0 (by omega) (by omega) (fun h71 t71 => ?_)
            refine sg_iload (pc := 72) (dc_X7_cased_56.1.2.2.2) rfl ?_
            refine sg_aload_n (pc := 74) (j := 3) (dc_X7_cased_56.2.1.1.1) rfl rfl ?_
            refine sg_iload (pc := 75) (dc_X7_cased_56.2.1.1.2) rfl ?_
            refine md_ald (pc := 77) (dc_X7_cased_56.2.1.2.1) t71.2.2 (by omega) (by omega) (fun x77 g77 => ?_)
            refine sg_iload (pc := 78) (dc_X7_cased_56.2.1.2.2) rfl ?_
            refine sg_icmp_eq (pc := 80) (tgt := 87) (dc_X7_cased_56.2.2.1.1) (by decide) (fun c80 => ?_) (fun c80 => ?_)
            · refine sg_iconst (pc := 87) (z := 0) (dc_X7_cased_56.2.2.2.2) (by decide) ?_
              refine sg_cS1 (pc := 88) (d' := d - 1) (mc' := 0) (ms' := 0) g (dc_X7_cased_88.1.1.1.1) cb_X7_one ml_X7_92 ms_X7_one (Nat.le_of_ble_eq_true rfl) (by first | exact jl_d0 hd rfl | omega) (by first | exact Nat.le_of_ble_eq_true rfl | omega) (by first | exact Nat.le_of_ble_eq_true rfl | omega) ?_
              refine s_X7_one g (by first | exact jl_d1 hd rfl | omega) (fun z88 h88 b88 => sg_K1 ?_)
              (try simp only [fm_no, fm_one, fn_betw, fn_sign, fn_radix, fn_high, fn_low] at h88)
              first | refine sg_iaddB (pc := 91) (dc_X7_cased_88.1.1.1.2) (by omega) (by omega) ?_ | refine sg_iadd (pc := 91) (dc_X7_cased_88.1.1.1.2) ?_
              refine sg_istore (pc := 92) (dc_X7_cased_88.1.1.2.1) (by decide) ?_
              first | refine sg_iincB (pc := 94) (dc_X7_cased_88.1.1.2.2) rfl (by decide) (by decide) (by omega) (by omega) ?_ | refine sg_iinc (pc := 94) (dc_X7_cased_88.1.1.2.2) rfl (by decide) (by decide) ?_
              refine sg_goto (pc := 97) (tgt := 16) (dc_X7_cased_88.1.2.1.1) (by decide) ?_
              refine sg_lsub (lv' := [(5, _), (4, _), (0, _), (1, _), (2, _), (3, _)]) ⟨rfl, rfl, rfl, rfl, rfl, rfl, trivial⟩ ?_
              exact ih _ _ _ t71 (by omega) (by omega)
            · refine sg_iconst (pc := 83) (z := 1) (dc_X7_cased_56.2.2.1.2) (by decide) ?_
              refine sg_goto (pc := 84) (tgt := 88) (dc_X7_cased_56.2.2.2.1) (by decide) ?_
              refine sg_cS1 (pc := 88) (d' := d - 1) (mc' := 0) (ms' := 0) g (dc_X7_cased_88.1.1.1.1) cb_X7_one ml_X7_92 ms_X7_one (Nat.le_of_ble_eq_true rfl) (by first | exact jl_d0 hd rfl | omega) (by first | exact Nat.le_of_ble_eq_true rfl | omega) (by first | exact Nat.le_of_ble_eq_true rfl | omega) ?_
              refine s_X7_one g (by first | exact jl_d1 hd rfl | omega) (fun z88 h88 b88 => sg_K1 ?_)
              (try simp only [fm_no, fm_one, fn_betw, fn_sign, fn_radix, fn_high, fn_low] at h88)
              first | refine sg_iaddB (pc := 91) (dc_X7_cased_88.1.1.1.2) (by omega) (by omega) ?_ | refine sg_iadd (pc := 91) (dc_X7_cased_88.1.1.1.2) ?_
              refine sg_istore (pc := 92) (dc_X7_cased_88.1.1.2.1) (by decide) ?_
              first | refine sg_iincB (pc := 94) (dc_X7_cased_88.1.1.2.2) rfl (by decide) (by decide) (by omega) (by omega) ?_ | refine sg_iinc (pc := 94) (dc_X7_cased_88.1.1.2.2) rfl (by decide) (by decide) ?_
              refine sg_goto (pc := 97) (tgt := 16) (dc_X7_cased_88.1.2.1.1) (by decide) ?_
              refine sg_lsub (lv' := [(5, _), (4, _), (0, _), (1, _), (2, _), (3, _)]) ⟨rfl, rfl, rfl, rfl, rfl, rfl, trivial⟩ ?_
              exact ih _ _ _ t71 (by omega) (by omega)
          · refine sg_iload (pc := 64) (dc_X7_cased_56.1.1.2.2) rfl ?_
            refine sg_goto (pc := 66) (tgt := 71) (dc_X7_cased_56.1.2.1.1) (by decide) ?_
            refine md_ast (pc := 71) (dc_X7_cased_56.1.2.2.1) t1 ck_v0 (by omega) (by omega) (fun h71 t71 => ?_)
            refine sg_iload (pc := 72) (dc_X7_cased_56.1.2.2.2) rfl ?_
            refine sg_aload_n (pc := 74) (j := 3) (dc_X7_cased_56.2.1.1.1) rfl rfl ?_
            refine sg_iload (pc := 75) (dc_X7_cased_56.2.1.1.2) rfl ?_
            refine md_ald (pc := 77) (dc_X7_cased_56.2.1.2.1) t71.2.2 (by omega) (by omega) (fun x77 g77 => ?_)
            refine sg_iload (pc := 78) (dc_X7_cased_56.2.1.2.2) rfl ?_
            refine sg_icmp_eq (pc := 80) (tgt := 87) (dc_X7_cased_56.2.2.1.1) (by decide) (fun c80 => ?_) (fun c80 => ?_)
            · refine sg_iconst (pc := 87) (z := 0) (dc_X7_cased_56.2.2.2.2) (by decide) ?_
              refine sg_cS1 (pc := 88) (d' := d - 1) (mc' := 0) (ms' := 0) g (dc_X7_cased_88.1.1.1.1) cb_X7_one ml_X7_92 ms_X7_one (Nat.le_of_ble_eq_true rfl) (by first | exact jl_d0 hd rfl | omega) (by first | exact Nat.le_of_ble_eq_true rfl | omega) (by first | exact Nat.le_of_ble_eq_true rfl | omega) ?_
              refine s_X7_one g (by first | exact jl_d1 hd rfl | omega) (fun z88 h88 b88 => sg_K1 ?_)
              (try simp only [fm_no, fm_one, fn_betw, fn_sign, fn_radix, fn_high, fn_low] at h88)
              first | refine sg_iaddB (pc := 91) (dc_X7_cased_88.1.1.1.2) (by omega) (by omega) ?_ | refine sg_iadd (pc := 91) (dc_X7_cased_88.1.1.1.2) ?_
              refine sg_istore (pc := 92) (dc_X7_cased_88.1.1.2.1) (by decide) ?_
              first | refine sg_iincB (pc := 94) (dc_X7_cased_88.1.1.2.2) rfl (by decide) (by decide) (by omega) (by omega) ?_ | refine sg_iinc (pc := 94) (dc_X7_cased_88.1.1.2.2) rfl (by decide) (by decide) ?_
              refine sg_goto (pc := 97) (tgt := 16) (dc_X7_cased_88.1.2.1.1) (by decide) ?_
              refine sg_lsub (lv' := [(5, _), (4, _), (0, _), (1, _), (2, _), (3, _)]) ⟨rfl, rfl, rfl, rfl, rfl, rfl, trivial⟩ ?_
              exact ih _ _ _ t71 (by omega) (by omega)
            · refine sg_iconst (pc := 83) (z := 1) (dc_X7_cased_56.2.2.1.2) (by decide) ?_
              refine sg_goto (pc := 84) (tgt := 88) (dc_X7_cased_56.2.2.2.1) (by decide) ?_
              refine sg_cS1 (pc := 88) (d' := d - 1) (mc' := 0) (ms' := 0) g (dc_X7_cased_88.1.1.1.1) cb_X7_one ml_X7_92 ms_X7_one (Nat.le_of_ble_eq_true rfl) (by first | exact jl_d0 hd rfl | omega) (by first | exact Nat.le_of_ble_eq_true rfl | omega) (by first | exact Nat.le_of_ble_eq_true rfl | omega) ?_
              refine s_X7_one g (by first | exact jl_d1 hd rfl | omega) (fun z88 h88 b88 => sg_K1 ?_)
              (try simp only [fm_no, fm_one, fn_betw, fn_sign, fn_radix, fn_high, fn_low] at h88)
              first | refine sg_iaddB (pc := 91) (dc_X7_cased_88.1.1.1.2) (by omega) (by omega) ?_ | refine sg_iadd (pc := 91) (dc_X7_cased_88.1.1.1.2) ?_
              refine sg_istore (pc := 92) (dc_X7_cased_88.1.1.2.1) (by decide) ?_
              first | refine sg_iincB (pc := 94) (dc_X7_cased_88.1.1.2.2) rfl (by decide) (by decide) (by omega) (by omega) ?_ | refine sg_iinc (pc := 94) (dc_X7_cased_88.1.1.2.2) rfl (by decide) (by decide) ?_
              refine sg_goto (pc := 97) (tgt := 16) (dc_X7_cased_88.1.2.1.1) (by decide) ?_
              refine sg_lsub (lv' := [(5, _), (4, _), (0, _), (1, _), (2, _), (3, _)]) ⟨rfl, rfl, rfl, rfl, rfl, rfl, trivial⟩ ?_
              exact ih _ _ _ t71 (by omega) (by omega)
        · refine sg_iload (pc := 38) (dc_X7_cased_24.2.1.1.1) rfl ?_
          refine sg_cS1 (pc := 40) (d' := d - 1) (mc' := 0) (ms' := 0) g (dc_X7_cased_24.2.1.1.2) cb_X7_upperOf ml_X7_86 ms_X7_upperOf (Nat.le_of_ble_eq_true rfl) (by first | exact jl_d0 hd rfl | omega) (by first | exact Nat.le_of_ble_eq_true rfl | omega) (by first | exact Nat.le_of_ble_eq_true rfl | omega) ?_
          refine s_X7_upperOf g (by first | exact jl_d1 hd rfl | omega) (fun z40 h40 => sg_K1 ?_)
          (try simp only [fm_no, fm_one, fn_betw, fn_sign, fn_radix, fn_high, fn_low] at h40)
          refine sg_goto (pc := 43) (tgt := 51) (dc_X7_cased_24.2.1.2.1) (by decide) ?_
          refine sg_istore (pc := 51) (dc_X7_cased_24.2.2.1.2) (by decide) ?_
          refine sg_aload_n (pc := 53) (j := 3) (dc_X7_cased_24.2.2.2.1) rfl rfl ?_
          refine sg_iload (pc := 54) (dc_X7_cased_24.2.2.2.2) rfl ?_
          refine sg_iload (pc := 56) (dc_X7_cased_56.1.1.1.1) rfl ?_
          refine sg_cS1 (pc := 58) (d' := d - 1) (mc' := 0) (ms' := 0) g (dc_X7_cased_56.1.1.1.2) cb_X7_isSign ml_X7_65 ms_X7_isSign (Nat.le_of_ble_eq_true rfl) (by first | exact jl_d0 hd rfl | omega) (by first | exact Nat.le_of_ble_eq_true rfl | omega) (by first | exact Nat.le_of_ble_eq_true rfl | omega) ?_
          refine s_X7_isSign g (by first | exact jl_d1 hd rfl | omega) (fun z58 h58 b58 => sg_K1 ?_)
          (try simp only [fm_no, fm_one, fn_betw, fn_sign, fn_radix, fn_high, fn_low] at h58)
          refine sg_if_eq (pc := 61) (tgt := 69) (dc_X7_cased_56.1.1.2.1) (by decide) (fun c61 => ?_) (fun c61 => ?_)
          · refine sg_iload (pc := 69) (dc_X7_cased_56.1.2.1.2) rfl ?_
            refine md_ast (pc := 71) (dc_X7_cased_56.1.2.2.1) t1 ck_v0 (by omega) (by omega) (fun h71 t71 => ?_)
            refine sg_iload (pc := 72) (dc_X7_cased_56.1.2.2.2) rfl ?_
            refine sg_aload_n (pc := 74) (j := 3) (dc_X7_cased_56.2.1.1.1) rfl rfl ?_
            refine sg_iload (pc := 75) (dc_X7_cased_56.2.1.1.2) rfl ?_
            refine md_ald (pc := 77) (dc_X7_cased_56.2.1.2.1) t71.2.2 (by omega) (by omega) (fun x77 g77 => ?_)
            refine sg_iload (pc := 78) (dc_X7_cased_56.2.1.2.2) rfl ?_
            refine sg_icmp_eq (pc := 80) (tgt := 87) (dc_X7_cased_56.2.2.1.1) (by decide) (fun c80 => ?_) (fun c80 => ?_)
            · refine sg_iconst (pc := 87) (z := 0) (dc_X7_cased_56.2.2.2.2) (by decide) ?_
              refine sg_cS1 (pc := 88) (d' := d - 1) (mc' := 0) (ms' := 0) g (dc_X7_cased_88.1.1.1.1) cb_X7_one ml_X7_92 ms_X7_one (Nat.le_of_ble_eq_true rfl) (by first | exact jl_d0 hd rfl | omega) (by first | exact Nat.le_of_ble_eq_true rfl | omega) (by first | exact Nat.le_of_ble_eq_true rfl | omega) ?_
              refine s_X7_one g (by first | exact jl_d1 hd rfl | omega) (fun z88 h88 b88 => sg_K1 ?_)
              (try simp only [fm_no, fm_one, fn_betw, fn_sign, fn_radix, fn_high, fn_low] at h88)
              first | refine sg_iaddB (pc := 91) (dc_X7_cased_88.1.1.1.2) (by omega) (by omega) ?_ | refine sg_iadd (pc := 91) (dc_X7_cased_88.1.1.1.2) ?_
              refine sg_istore (pc := 92) (dc_X7_cased_88.1.1.2.1) (by decide) ?_
              first | refine sg_iincB (pc := 94) (dc_X7_cased_88.1.1.2.2) rfl (by decide) (by decide) (by omega) (by omega) ?_ | refine sg_iinc (pc := 94) (dc_X7_cased_88.1.1.2.2) rfl (by decide) (by decide) ?_
              refine sg_goto (pc := 97) (tgt := 16) (dc_X7_cased_88.1.2.1.1) (by decide) ?_
              refine sg_lsub (lv' := [(5, _), (4, _), (0, _), (1, _), (2, _), (3, _)]) ⟨rfl, rfl, rfl, rfl, rfl, rfl, trivial⟩ ?_
              exact ih _ _ _ t71 (by omega) (by omega)
            · refine sg_iconst (pc := 83) (z := 1) (dc_X7_cased_56.2.2.1.2) (by decide) ?_
              refine sg_goto (pc := 84) (tgt := 88) (dc_X7_cased_56.2.2.2.1) (by decide) ?_
              refine sg_cS1 (pc := 88) (d' := d - 1) (mc' := 0) (ms' := 0) g (dc_X7_cased_88.1.1.1.1) cb_X7_one ml_X7_92 ms_X7_one (Nat.le_of_ble_eq_true rfl) (by first | exact jl_d0 hd rfl | omega) (by first | exact Nat.le_of_ble_eq_true rfl | omega) (by first | exact Nat.le_of_ble_eq_true rfl | omega) ?_
              refine s_X7_one g (by first | exact jl_d1 hd rfl | omega) (fun z88 h88 b88 => sg_K1 ?_)
              (try simp only [fm_no, fm_one, fn_betw, fn_sign, fn_radix, fn_high, fn_low] at h88)
              first | refine sg_iaddB (pc := 91) (dc_X7_cased_88.1.1.1.2) (by omega) (by omega) ?_ | refine sg_iadd (pc := 91) (dc_X7_cased_88.1.1.1.2) ?_
              refine sg_istore (pc := 92) (dc_X7_cased_88.1.1.2.1) (by decide) ?_
              first | refine sg_iincB (pc := 94) (dc_X7_cased_88.1.1.2.2) rfl (by decide) (by decide) (by omega) (by omega) ?_ | refine sg_iinc (pc := 94) (dc_X7_cased_88.1.1.2.2) rfl (by decide) (by decide) ?_
              refine sg_goto (pc := 97) (tgt := 16) (dc_X7_cased_88.1.2.1.1) (by decide) ?_
              refine sg_lsub (lv' := [(5, _), (4, _), (0, _), (1, _), (2, _), (3, _)]) ⟨rfl, rfl, rfl, rfl, rfl, rfl, trivial⟩ ?_
              exact ih _ _ _ t71 (by omega) (by omega)
          · refine sg_iload (pc := 64) (dc_X7_cased_56.1.1.2.2) rfl ?_
            refine sg_goto (pc := 66) (tgt := 71) (dc_X7_cased_56.1.2.1.1) (by decide) ?_
            refine md_ast (pc := 71) (dc_X7_cased_56.1.2.2.1) t1 ck_v0 (by omega) (by omega) (fun h71 t71 => ?_)
            refine sg_iload (pc := 72) (dc_X7_cased_56.1.2.2.2) rfl ?_
            refine sg_aload_n (pc := 74) (j := 3) (dc_X7_cased_56.2.1.1.1) rfl rfl ?_
            refine sg_iload (pc := 75) (dc_X7_cased_56.2.1.1.2) rfl ?_
            refine md_ald (pc := 77) (dc_X7_cased_56.2.1.2.1) t71.2.2 (by omega) (by omega) (fun x77 g77 => ?_)
            refine sg_iload (pc := 78) (dc_X7_cased_56.2.1.2.2) rfl ?_
            refine sg_icmp_eq (pc := 80) (tgt := 87) (dc_X7_cased_56.2.2.1.1) (by decide) (fun c80 => ?_) (fun c80 => ?_)
            · refine sg_iconst (pc := 87) (z := 0) (dc_X7_cased_56.2.2.2.2) (by decide) ?_
              refine sg_cS1 (pc := 88) (d' := d - 1) (mc' := 0) (ms' := 0) g (dc_X7_cased_88.1.1.1.1) cb_X7_one ml_X7_92 ms_X7_one (Nat.le_of_ble_eq_true rfl) (by first | exact jl_d0 hd rfl | omega) (by first | exact Nat.le_of_ble_eq_true rfl | omega) (by first | exact Nat.le_of_ble_eq_true rfl | omega) ?_
              refine s_X7_one g (by first | exact jl_d1 hd rfl | omega) (fun z88 h88 b88 => sg_K1 ?_)
              (try simp only [fm_no, fm_one, fn_betw, fn_sign, fn_radix, fn_high, fn_low] at h88)
              first | refine sg_iaddB (pc := 91) (dc_X7_cased_88.1.1.1.2) (by omega) (by omega) ?_ | refine sg_iadd (pc := 91) (dc_X7_cased_88.1.1.1.2) ?_
              refine sg_istore (pc := 92) (dc_X7_cased_88.1.1.2.1) (by decide) ?_
              first | refine sg_iincB (pc := 94) (dc_X7_cased_88.1.1.2.2) rfl (by decide) (by decide) (by omega) (by omega) ?_ | refine sg_iinc (pc := 94) (dc_X7_cased_88.1.1.2.2) rfl (by decide) (by decide) ?_
              refine sg_goto (pc := 97) (tgt := 16) (dc_X7_cased_88.1.2.1.1) (by decide) ?_
              refine sg_lsub (lv' := [(5, _), (4, _), (0, _), (1, _), (2, _), (3, _)]) ⟨rfl, rfl, rfl, rfl, rfl, rfl, trivial⟩ ?_
              exact ih _ _ _ t71 (by omega) (by omega)
            · refine sg_iconst (pc := 83) (z := 1) (dc_X7_cased_56.2.2.1.2) (by decide) ?_
              refine sg_goto (pc := 84) (tgt := 88) (dc_X7_cased_56.2.2.2.1) (by decide) ?_
              refine sg_cS1 (pc := 88) (d' := d - 1) (mc' := 0) (ms' := 0) g (dc_X7_cased_88.1.1.1.1) cb_X7_one ml_X7_92 ms_X7_one (Nat.le_of_ble_eq_true rfl) (by first | exact jl_d0 hd rfl | omega) (by first | exact Nat.le_of_ble_eq_true rfl | omega) (by first | exact Nat.le_of_ble_eq_true rfl | omega) ?_
              refine s_X7_one g (by first | exact jl_d1 hd rfl | omega) (fun z88 h88 b88 => sg_K1 ?_)
              (try simp only [fm_no, fm_one, fn_betw, fn_sign, fn_radix, fn_high, fn_low] at h88)
              first | refine sg_iaddB (pc := 91) (dc_X7_cased_88.1.1.1.2) (by omega) (by omega) ?_ | refine sg_iadd (pc := 91) (dc_X7_cased_88.1.1.1.2) ?_
              refine sg_istore (pc := 92) (dc_X7_cased_88.1.1.2.1) (by decide) ?_
              first | refine sg_iincB (pc := 94) (dc_X7_cased_88.1.1.2.2) rfl (by decide) (by decide) (by omega) (by omega) ?_ | refine sg_iinc (pc := 94) (dc_X7_cased_88.1.1.2.2) rfl (by decide) (by decide) ?_
              refine sg_goto (pc := 97) (tgt := 16) (dc_X7_cased_88.1.2.1.1) (by decide) ?_
              refine sg_lsub (lv' := [(5, _), (4, _), (0, _), (1, _), (2, _), (3, _)]) ⟨rfl, rfl, rfl, rfl, rfl, rfl, trivial⟩ ?_
              exact ih _ _ _ t71 (by omega) (by omega)
  refine sg_lsub (lv' := [(5, _), (4, _), (0, _), (1, _), (2, _), (3, _)]) ⟨rfl, rfl, rfl, rfl, rfl, rfl, trivial⟩ ?_
  exact loop16 _ _ _ _ md_new (by omega) (Nat.lt_succ_self _)

set_option maxRecDepth 100000 in
theorem s_X7_raise {w : sg_W} {Q : sg_O → sg_H → Prop} {h : sg_H} (g : sg_G w) {d : Nat} (hd : 8 ≤ d) {M : Nat} {row : Int}  (hx : md_M w h M) (hQ : ∀ (v : Int) (h' : sg_H), md_Y w h h' M → Q (.inl (some (sg_i v))) h') : sg_C w mi_X7_raise d 3 56 [sg_r M, sg_i row] h Q := by
  refine sg_of pn_X7 (Nat.le_of_ble_eq_true rfl) ?_
  have y0 := md_Y0 hx
  have hk := hx.2.1
  refine sg_aload_n (pc := 0) (j := 0) (dc_X7_raise_0.1.1.1.1) rfl rfl ?_
  refine sg_iload_n (pc := 1) (j := 1) (dc_X7_raise_0.1.1.1.2) rfl rfl ?_
  refine sg_cS1 (pc := 2) (d' := d - 1) (mc' := 0) (ms' := 0) g (dc_X7_raise_0.1.1.2.1) cb_X7_isNoRow ml_X7_68 ms_X7_isNoRow (Nat.le_of_ble_eq_true rfl) (by first | exact jl_d0 hd rfl | omega) (by first | exact Nat.le_of_ble_eq_true rfl | omega) (by first | exact Nat.le_of_ble_eq_true rfl | omega) ?_
  refine s_X7_isNoRow g (by first | exact jl_d1 hd rfl | omega) (fun z2 h2 b2 => sg_K1 ?_)
  (try simp only [fm_no, fm_one, fn_betw, fn_sign, fn_radix, fn_high, fn_low] at h2)
  refine sg_iconst (pc := 5) (z := 1) (dc_X7_raise_0.1.1.2.2) (by decide) ?_
  refine sg_cE2 (pc := 6) (d' := d - 1) (mc' := 0) (ms' := 0) 8 g (dc_X7_raise_0.1.2.1.1) cb_X7_start ml_X7_71 mn_X7_start rfl mv_X7_start (Nat.le_of_ble_eq_true rfl) (md_oc (by assumption)) (Nat.le_of_ble_eq_true rfl) (by first | exact jl_d0 hd rfl | omega) (by first | exact Nat.le_of_ble_eq_true rfl | omega) (by first | exact Nat.le_of_ble_eq_true rfl | omega) ?_
  refine s_X7_start g (by first | exact jl_d1 hd rfl | omega) (by omega) (by assumption) (fun v6 h6 b6 i6 t6 s6 u6 y6 => sg_K1 ?_)
  have x6 := y6.1
  have hk6 := x6.2.1
  have y6 := md_Yt (h0 := h) (by assumption) y6
  refine sg_if_eq (pc := 9) (tgt := 16) (dc_X7_raise_0.1.2.1.2) (by decide) (fun c9 => ?_) (fun c9 => ?_)
  · refine sg_aload_n (pc := 16) (j := 0) (dc_X7_raise_0.2.1.1.1) rfl rfl ?_
    refine sg_iload_n (pc := 17) (j := 1) (dc_X7_raise_0.2.1.1.2) rfl rfl ?_
    refine sg_iconst (pc := 18) (z := 1) (dc_X7_raise_0.2.1.2.1) (by decide) ?_
    refine sg_cE2 (pc := 19) (d' := d - 1) (mc' := 3) (ms' := 56) 8 g (dc_X7_raise_0.2.1.2.2) cb_X7_cased ml_X7_96 mn_X7_cased rfl mv_X7_cased (Nat.le_of_ble_eq_true rfl) (md_oc (by assumption)) (Nat.le_of_ble_eq_true rfl) (by first | exact jl_d0 hd rfl | omega) (by first | exact Nat.le_of_ble_eq_true rfl | omega) (by first | exact Nat.le_of_ble_eq_true rfl | omega) ?_
    refine s_X7_cased g (by first | exact jl_d1 hd rfl | omega) (by omega) (by assumption) (fun v19 h19 y19 => sg_K1 ?_)
    have x19 := y19.1
    have hk19 := x19.2.1
    have y19 := md_Yt (h0 := h) (by assumption) y19
    refine sg_iret (pc := 22) (dc_X7_raise_0.2.2.1.1) rfl (by first | exact Nat.le_of_ble_eq_true rfl | omega) (by first | exact Nat.le_of_ble_eq_true rfl | omega) ?_
    exact hQ _ _ (by assumption)
  · refine sg_iconst (pc := 12) (z := 0) (dc_X7_raise_0.1.2.2.1) (by decide) ?_
    refine sg_goto (pc := 13) (tgt := 22) (dc_X7_raise_0.1.2.2.2) (by decide) ?_
    refine sg_iret (pc := 22) (dc_X7_raise_0.2.2.1.1) rfl (by first | exact Nat.le_of_ble_eq_true rfl | omega) (by first | exact Nat.le_of_ble_eq_true rfl | omega) ?_
    exact hQ _ _ (by assumption)

set_option maxRecDepth 100000 in
theorem s_X7_sink {w : sg_W} {Q : sg_O → sg_H → Prop} {h : sg_H} (g : sg_G w) {d : Nat} (hd : 8 ≤ d) {M : Nat} {row : Int}  (hx : md_M w h M) (hQ : ∀ (v : Int) (h' : sg_H), md_Y w h h' M → Q (.inl (some (sg_i v))) h') : sg_C w mi_X7_sink d 3 56 [sg_r M, sg_i row] h Q := by
  refine sg_of pn_X7 (Nat.le_of_ble_eq_true rfl) ?_
  have y0 := md_Y0 hx
  have hk := hx.2.1
  refine sg_aload_n (pc := 0) (j := 0) (dc_X7_sink_0.1.1.1.1) rfl rfl ?_
  refine sg_iload_n (pc := 1) (j := 1) (dc_X7_sink_0.1.1.1.2) rfl rfl ?_
  refine sg_cS1 (pc := 2) (d' := d - 1) (mc' := 0) (ms' := 0) g (dc_X7_sink_0.1.1.2.1) cb_X7_isNoRow ml_X7_68 ms_X7_isNoRow (Nat.le_of_ble_eq_true rfl) (by first | exact jl_d0 hd rfl | omega) (by first | exact Nat.le_of_ble_eq_true rfl | omega) (by first | exact Nat.le_of_ble_eq_true rfl | omega) ?_
  refine s_X7_isNoRow g (by first | exact jl_d1 hd rfl | omega) (fun z2 h2 b2 => sg_K1 ?_)
  (try simp only [fm_no, fm_one, fn_betw, fn_sign, fn_radix, fn_high, fn_low] at h2)
  refine sg_iconst (pc := 5) (z := 1) (dc_X7_sink_0.1.1.2.2) (by decide) ?_
  refine sg_cE2 (pc := 6) (d' := d - 1) (mc' := 0) (ms' := 0) 8 g (dc_X7_sink_0.1.2.1.1) cb_X7_start ml_X7_71 mn_X7_start rfl mv_X7_start (Nat.le_of_ble_eq_true rfl) (md_oc (by assumption)) (Nat.le_of_ble_eq_true rfl) (by first | exact jl_d0 hd rfl | omega) (by first | exact Nat.le_of_ble_eq_true rfl | omega) (by first | exact Nat.le_of_ble_eq_true rfl | omega) ?_
  refine s_X7_start g (by first | exact jl_d1 hd rfl | omega) (by omega) (by assumption) (fun v6 h6 b6 i6 t6 s6 u6 y6 => sg_K1 ?_)
  have x6 := y6.1
  have hk6 := x6.2.1
  have y6 := md_Yt (h0 := h) (by assumption) y6
  refine sg_if_eq (pc := 9) (tgt := 16) (dc_X7_sink_0.1.2.1.2) (by decide) (fun c9 => ?_) (fun c9 => ?_)
  · refine sg_aload_n (pc := 16) (j := 0) (dc_X7_sink_0.2.1.1.1) rfl rfl ?_
    refine sg_iload_n (pc := 17) (j := 1) (dc_X7_sink_0.2.1.1.2) rfl rfl ?_
    refine sg_iconst (pc := 18) (z := 0) (dc_X7_sink_0.2.1.2.1) (by decide) ?_
    refine sg_cE2 (pc := 19) (d' := d - 1) (mc' := 3) (ms' := 56) 8 g (dc_X7_sink_0.2.1.2.2) cb_X7_cased ml_X7_96 mn_X7_cased rfl mv_X7_cased (Nat.le_of_ble_eq_true rfl) (md_oc (by assumption)) (Nat.le_of_ble_eq_true rfl) (by first | exact jl_d0 hd rfl | omega) (by first | exact Nat.le_of_ble_eq_true rfl | omega) (by first | exact Nat.le_of_ble_eq_true rfl | omega) ?_
    refine s_X7_cased g (by first | exact jl_d1 hd rfl | omega) (by omega) (by assumption) (fun v19 h19 y19 => sg_K1 ?_)
    have x19 := y19.1
    have hk19 := x19.2.1
    have y19 := md_Yt (h0 := h) (by assumption) y19
    refine sg_iret (pc := 22) (dc_X7_sink_0.2.2.1.1) rfl (by first | exact Nat.le_of_ble_eq_true rfl | omega) (by first | exact Nat.le_of_ble_eq_true rfl | omega) ?_
    exact hQ _ _ (by assumption)
  · refine sg_iconst (pc := 12) (z := 0) (dc_X7_sink_0.1.2.2.1) (by decide) ?_
    refine sg_goto (pc := 13) (tgt := 22) (dc_X7_sink_0.1.2.2.2) (by decide) ?_
    refine sg_iret (pc := 22) (dc_X7_sink_0.2.2.1.1) rfl (by first | exact Nat.le_of_ble_eq_true rfl | omega) (by first | exact Nat.le_of_ble_eq_true rfl | omega) ?_
    exact hQ _ _ (by assumption)

set_option maxRecDepth 100000 in
theorem s_X7_sieve {w : sg_W} {Q : sg_O → sg_H → Prop} {h : sg_H} (g : sg_G w) {d : Nat} (hd : 9 ≤ d) {M : Nat} {row y is : Int}  (hx : md_M w h M) (hQ : ∀ (v : Int) (h' : sg_H), md_Y w h h' M → Q (.inl (some (sg_i v))) h') : sg_C w mi_X7_sieve d 84 1736 [sg_r M, sg_i row, sg_i y, sg_i is] h Q := by
  refine sg_of pn_X7 (Nat.le_of_ble_eq_true rfl) ?_
  have y0 := md_Y0 hx
  have hk := hx.2.1
  refine sg_aload_n (pc := 0) (j := 0) (dc_X7_sieve_0.1.1.1.1) rfl rfl ?_
  refine sg_iload_n (pc := 1) (j := 1) (dc_X7_sieve_0.1.1.1.2) rfl rfl ?_
  refine sg_cS1 (pc := 2) (d' := d - 1) (mc' := 0) (ms' := 0) g (dc_X7_sieve_0.1.1.2.1) cb_X7_isNoRow ml_X7_68 ms_X7_isNoRow (Nat.le_of_ble_eq_true rfl) (by first | exact jl_d0 hd rfl | omega) (by first | exact Nat.le_of_ble_eq_true rfl | omega) (by first | exact Nat.le_of_ble_eq_true rfl | omega) ?_
  refine s_X7_isNoRow g (by first | exact jl_d1 hd rfl | omega) (fun z2 h2 b2 => sg_K1 ?_)
  (try simp only [fm_no, fm_one, fn_betw, fn_sign, fn_radix, fn_high, fn_low] at h2)
  refine sg_iconst (pc := 5) (z := 1) (dc_X7_sieve_0.1.1.2.2) (by decide) ?_
  refine sg_cE2 (pc := 6) (d' := d - 1) (mc' := 0) (ms' := 0) 8 g (dc_X7_sieve_0.1.2.1.1) cb_X7_start ml_X7_71 mn_X7_start rfl mv_X7_start (Nat.le_of_ble_eq_true rfl) (md_oc (by assumption)) (Nat.le_of_ble_eq_true rfl) (by first | exact jl_d0 hd rfl | omega) (by first | exact Nat.le_of_ble_eq_true rfl | omega) (by first | exact Nat.le_of_ble_eq_true rfl | omega) ?_
  refine s_X7_start g (by first | exact jl_d1 hd rfl | omega) (by omega) (by assumption) (fun v6 h6 b6 i6 t6 s6 u6 y6 => sg_K1 ?_)
  have x6 := y6.1
  have hk6 := x6.2.1
  have y6 := md_Yt (h0 := h) (by assumption) y6
  refine sg_if_ne (pc := 9) (tgt := 24) (dc_X7_sieve_0.1.2.1.2) (by decide) (fun c9 => ?_) (fun c9 => ?_)
  · refine sg_iconst (pc := 24) (z := 0) (dc_X7_sieve_0.2.2.1.1) (by decide) ?_
    refine sg_iret (pc := 25) (dc_X7_sieve_0.2.2.1.2) rfl (by first | exact Nat.le_of_ble_eq_true rfl | omega) (by first | exact Nat.le_of_ble_eq_true rfl | omega) ?_
    exact hQ _ _ (by assumption)
  · refine sg_aload_n (pc := 12) (j := 0) (dc_X7_sieve_0.1.2.2.1) rfl rfl ?_
    refine sg_iload_n (pc := 13) (j := 2) (dc_X7_sieve_0.1.2.2.2) rfl rfl ?_
    refine sg_cS1 (pc := 14) (d' := d - 1) (mc' := 0) (ms' := 0) g (dc_X7_sieve_0.2.1.1.1) cb_X7_isNoKind ml_X7_100 ms_X7_isNoKind (Nat.le_of_ble_eq_true rfl) (by first | exact jl_d0 hd rfl | omega) (by first | exact Nat.le_of_ble_eq_true rfl | omega) (by first | exact Nat.le_of_ble_eq_true rfl | omega) ?_
    refine s_X7_isNoKind g (by first | exact jl_d1 hd rfl | omega) (fun z14 h14 b14 => sg_K1 ?_)
    (try simp only [fm_no, fm_one, fn_betw, fn_sign, fn_radix, fn_high, fn_low] at h14)
    refine sg_iconst (pc := 17) (z := 2) (dc_X7_sieve_0.2.1.1.2) (by decide) ?_
    refine sg_cE2 (pc := 18) (d' := d - 1) (mc' := 0) (ms' := 0) 8 g (dc_X7_sieve_0.2.1.2.1) cb_X7_refuse ml_X7_45 mn_X7_refuse rfl mv_X7_refuse (Nat.le_of_ble_eq_true rfl) (md_oc (by assumption)) (Nat.le_of_ble_eq_true rfl) (by first | exact jl_d0 hd rfl | omega) (by first | exact Nat.le_of_ble_eq_true rfl | omega) (by first | exact Nat.le_of_ble_eq_true rfl | omega) ?_
    refine s_X7_refuse g (by first | exact jl_d1 hd rfl | omega) (by omega) (by assumption) (fun v18 h18 b18 i18 t18 s18 u18 y18 => sg_K1 ?_)
    have x18 := y18.1
    have hk18 := x18.2.1
    have y18 := md_Yt (h0 := h) (by assumption) y18
    refine sg_if_eq (pc := 21) (tgt := 26) (dc_X7_sieve_0.2.1.2.2) (by decide) (fun c21 => ?_) (fun c21 => ?_)
    · refine sg_aload_n (pc := 26) (j := 0) (dc_X7_sieve_0.2.2.2.1) rfl rfl ?_
      refine md_grw (pc := 27) g (dc_X7_sieve_0.2.2.2.2) fk_X7_9 (by assumption) (fun r27 => ?_)
      refine sg_iload_n (pc := 30) (j := 1) (dc_X7_sieve_30.1.1.1.1) rfl rfl ?_
      first | refine md_alr (pc := 31) (dc_X7_sieve_30.1.1.1.2) (by assumption) (by omega) (by omega) (fun A31 l31 => ?_) | refine md_alt (pc := 31) (dc_X7_sieve_30.1.1.1.2) (by assumption) (by omega) (by omega) (fun A31 l31 => ?_)
      refine md_len (pc := 32) (dc_X7_sieve_30.1.1.2.1) (by assumption) (by omega) ?_
      refine sg_newa (t := 101) (N := (md_n h18 (md_a h18 (md_r h18 M) row))) (pc := 33) g (dc_X7_sieve_30.1.1.2.2) ac_boolean rfl (by decide) (by decide) rfl rfl (by decide) (by omega) (by omega) (by omega) (by omega) ?_
      refine sg_astore (pc := 35) (dc_X7_sieve_30.1.2.1.1) (by decide) ?_
      refine sg_iconst (pc := 37) (z := 0) (dc_X7_sieve_30.1.2.1.2) (by decide) ?_
      refine sg_istore (pc := 38) (dc_X7_sieve_30.1.2.2.1) (by decide) ?_
      have loop40 : ∀ (N : Nat) (h1 : sg_H) (p : Int), md_B h18 h1 (md_n h18 (md_a h18 (md_r h18 M) row)) → 0 ≤ p → (((md_n h18 (md_a h18 (md_r h18 M) row)) : Int) - p).toNat < N → sg_R w mi_X7_sieve d 84 1736 Q 40 [(5, sg_i p), (0, sg_r M), (1, sg_i row), (2, sg_i y), (3, sg_i is), (4, sg_r h18.1)] [] h1 1 (0 + (md_n h18 (md_a h18 (md_r h18 M) row))) := by
        intro N
        induction N with
        | zero => intro h1 p t1 p0 hm; exact absurd hm (Nat.not_lt_zero _)
        | succ N ih =>
          intro h1 p t1 p0 hm
          have x1 : md_M w h1 M := md_ME x18 (md_BE t1)
          have hk1 := x1.2.1
          have y1 : md_Y w h h1 M := md_YE y18 (md_BE t1)
          have s1 := md_SE x18 (md_BE t1) (i := row) (by omega) (by omega)
          refine sg_iload (pc := 40) (dc_X7_sieve_30.1.2.2.2) rfl ?_
          refine sg_aload (pc := 42) (dc_X7_sieve_30.2.1.1.1) rfl ?_
          refine md_zlen (pc := 44) (dc_X7_sieve_30.2.1.1.2) t1.2.2 (by omega) ?_
          refine sg_icmp_ge (pc := 45) (tgt := 81) (dc_X7_sieve_30.2.1.2.1) (by decide) (fun c45 => ?_) (fun c45 => ?_)
          · refine sg_aload (pc := 81) (dc_X7_sieve_57.2.2.1.2) rfl ?_
            refine md_zlen (pc := 83) (dc_X7_sieve_57.2.2.2.1) t1.2.2 (by omega) ?_
            refine sg_istore (pc := 84) (dc_X7_sieve_57.2.2.2.2) (by decide) ?_
            refine sg_iload (pc := 86) (dc_X7_sieve_86.1.1.1.1) rfl ?_
            refine sg_aload_n (pc := 88) (j := 0) (dc_X7_sieve_86.1.1.1.2) rfl rfl ?_
            refine sg_iload_n (pc := 89) (j := 1) (dc_X7_sieve_86.1.1.2.1) rfl rfl ?_
            refine sg_aload_n (pc := 90) (j := 0) (dc_X7_sieve_86.1.1.2.2) rfl rfl ?_
            refine md_grw (pc := 91) g (dc_X7_sieve_86.1.2.1.1) fk_X7_9 (by assumption) (fun r91 => ?_)
            refine sg_iload_n (pc := 94) (j := 1) (dc_X7_sieve_86.1.2.1.2) rfl rfl ?_
            first | refine md_alr (pc := 95) (dc_X7_sieve_86.1.2.2.1) (by assumption) (by omega) (by omega) (fun A95 l95 => ?_) | refine md_alt (pc := 95) (dc_X7_sieve_86.1.2.2.1) (by assumption) (by omega) (by omega) (fun A95 l95 => ?_)
            refine sg_aload (pc := 96) (dc_X7_sieve_86.1.2.2.2) rfl ?_
            refine sg_cS2 (pc := 98) (d' := d - 1) (mc' := 81) (ms' := 1680) g (dc_X7_sieve_86.2.1.1.1) cb_X7_only ml_X7_74 ms_X7_only (Nat.le_of_ble_eq_true rfl) (by first | exact jl_d0 hd rfl | omega) (by first | exact Nat.le_of_ble_eq_true rfl | omega) (by first | exact Nat.le_of_ble_eq_true rfl | omega) ?_
            refine s_X7_only (c := 0) g (by first | exact jl_d1 hd rfl | omega) (by rw [← s1]; exact A95) t1.2.2 (by omega) (fun h98 b98 m98 E98 A98 l98 => sg_K1 ?_)
            have x98 : md_M w h98 M := md_ME (by assumption) E98
            have hk98 := x98.2.1
            have y98 : md_Y w h h98 M := md_YE (by assumption) E98
            refine sg_cE2 (pc := 101) (d' := d - 1) (mc' := 2) (ms' := 16) 8 g (dc_X7_sieve_86.2.1.1.2) cb_X7_set ml_X7_78 mn_X7_set rfl mv_X7_set (Nat.le_of_ble_eq_true rfl) (md_oc (by assumption)) (Nat.le_of_ble_eq_true rfl) (by first | exact jl_d0 hd rfl | omega) (by first | exact Nat.le_of_ble_eq_true rfl | omega) (by first | exact Nat.le_of_ble_eq_true rfl | omega) ?_
            refine s_X7_set g (by first | exact jl_d1 hd rfl | omega) (by omega) (by assumption) (fun q => ⟨A98, (by omega)⟩) (fun q => absurd q (by omega)) (fun h101 y101 => sg_K1 ?_)
            have x101 := y101.1
            have hk101 := x101.2.1
            have y101 := md_Yt (h0 := h) (by assumption) y101
            first | refine sg_isubB (pc := 104) (dc_X7_sieve_86.2.1.2.1) (by omega) (by omega) ?_ | refine sg_isub (pc := 104) (dc_X7_sieve_86.2.1.2.1) ?_
            refine sg_iret (pc := 105) (dc_X7_sieve_86.2.1.2.2) rfl (by first | exact Nat.le_of_ble_eq_true rfl | omega) (by first | exact Nat.le_of_ble_eq_true rfl | omega) ?_
            exact hQ _ _ (by assumption)
          · refine sg_aload (pc := 48) (dc_X7_sieve_30.2.1.2.2) rfl ?_
            refine sg_iload (pc := 50) (dc_X7_sieve_30.2.2.1.1) rfl ?_
            refine sg_aload_n (pc := 52) (j := 0) (dc_X7_sieve_30.2.2.1.2) rfl rfl ?_
            refine md_grw (pc := 53) g (dc_X7_sieve_30.2.2.2.1) fk_X7_9 (by assumption) (fun r53 => ?_)
            refine sg_iload_n (pc := 56) (j := 1) (dc_X7_sieve_30.2.2.2.2) rfl rfl ?_
            first | refine md_alr (pc := 57) (dc_X7_sieve_57.1.1.1.1) (by assumption) (by omega) (by omega) (fun A57 l57 => ?_) | refine md_alt (pc := 57) (dc_X7_sieve_57.1.1.1.1) (by assumption) (by omega) (by omega) (fun A57 l57 => ?_)
            refine sg_iload (pc := 58) (dc_X7_sieve_57.1.1.1.2) rfl ?_
            refine md_ald (pc := 60) (dc_X7_sieve_57.1.1.2.1) (by assumption) (by omega) (by omega) (fun x60 g60 => ?_)
            try have q60 := ck_v1.mp g60
            refine sg_iload_n (pc := 61) (j := 2) (dc_X7_sieve_57.1.1.2.2) rfl rfl ?_
            refine sg_cS2 (pc := 62) (d' := d - 1) (mc' := 0) (ms' := 0) g (dc_X7_sieve_57.1.2.1.1) cb_X7_isKind ml_X7_26 ms_X7_isKind (Nat.le_of_ble_eq_true rfl) (by first | exact jl_d0 hd rfl | omega) (by first | exact Nat.le_of_ble_eq_true rfl | omega) (by first | exact Nat.le_of_ble_eq_true rfl | omega) ?_
            refine s_X7_isKind g (by first | exact jl_d1 hd rfl | omega) (by assumption) (by omega) (by omega) (fun z62 e62 b62 => sg_K1 ?_)
            refine sg_iload_n (pc := 65) (j := 3) (dc_X7_sieve_57.1.2.1.2) rfl rfl ?_
            refine sg_icmp_ne (pc := 66) (tgt := 73) (dc_X7_sieve_57.1.2.2.1) (by decide) (fun c66 => ?_) (fun c66 => ?_)
            · refine sg_iconst (pc := 73) (z := 0) (dc_X7_sieve_57.2.1.1.2) (by decide) ?_
              refine md_zst (pc := 74) (dc_X7_sieve_57.2.1.2.1) t1 (by decide) (by omega) (by omega) (fun h74 t74 => ?_)
              first | refine sg_iincB (pc := 75) (dc_X7_sieve_57.2.1.2.2) rfl (by decide) (by decide) (by omega) (by omega) ?_ | refine sg_iinc (pc := 75) (dc_X7_sieve_57.2.1.2.2) rfl (by decide) (by decide) ?_
              refine sg_goto (pc := 78) (tgt := 40) (dc_X7_sieve_57.2.2.1.1) (by decide) ?_
              refine sg_lsub (lv' := [(5, _), (0, _), (1, _), (2, _), (3, _), (4, _)]) ⟨rfl, rfl, rfl, rfl, rfl, rfl, trivial⟩ ?_
              exact ih _ _ t74 (by omega) (by omega)
            · refine sg_iconst (pc := 69) (z := 1) (dc_X7_sieve_57.1.2.2.2) (by decide) ?_
              refine sg_goto (pc := 70) (tgt := 74) (dc_X7_sieve_57.2.1.1.1) (by decide) ?_
              refine md_zst (pc := 74) (dc_X7_sieve_57.2.1.2.1) t1 (by decide) (by omega) (by omega) (fun h74 t74 => ?_)
              first | refine sg_iincB (pc := 75) (dc_X7_sieve_57.2.1.2.2) rfl (by decide) (by decide) (by omega) (by omega) ?_ | refine sg_iinc (pc := 75) (dc_X7_sieve_57.2.1.2.2) rfl (by decide) (by decide) ?_
              refine sg_goto (pc := 78) (tgt := 40) (dc_X7_sieve_57.2.2.1.1) (by decide) ?_
              refine sg_lsub (lv' := [(5, _), (0, _), (1, _), (2, _), (3, _), (4, _)]) ⟨rfl, rfl, rfl, rfl, rfl, rfl, trivial⟩ ?_
              exact ih _ _ t74 (by omega) (by omega)
      refine sg_lsub (lv' := [(5, _), (0, _), (1, _), (2, _), (3, _), (4, _)]) ⟨rfl, rfl, rfl, rfl, rfl, rfl, trivial⟩ ?_
      exact loop40 _ _ _ md_newB (by omega) (Nat.lt_succ_self _)
    · refine sg_iconst (pc := 24) (z := 0) (dc_X7_sieve_0.2.2.1.1) (by decide) ?_
      refine sg_iret (pc := 25) (dc_X7_sieve_0.2.2.1.2) rfl (by first | exact Nat.le_of_ble_eq_true rfl | omega) (by first | exact Nat.le_of_ble_eq_true rfl | omega) ?_
      exact hQ _ _ (by assumption)

set_option maxRecDepth 100000 in
theorem s_X7_strip {w : sg_W} {Q : sg_O → sg_H → Prop} {h : sg_H} (g : sg_G w) {d : Nat} (hd : 9 ≤ d) {M : Nat} {row : Int}  (hx : md_M w h M) (hQ : ∀ (v : Int) (h' : sg_H), md_Y w h h' M → Q (.inl (some (sg_i v))) h') : sg_C w mi_X7_strip d 3 56 [sg_r M, sg_i row] h Q := by
  refine sg_of pn_X7 (Nat.le_of_ble_eq_true rfl) ?_
  have y0 := md_Y0 hx
  have hk := hx.2.1
  refine sg_aload_n (pc := 0) (j := 0) (dc_X7_strip_0.1.1.1.1) rfl rfl ?_
  refine sg_iload_n (pc := 1) (j := 1) (dc_X7_strip_0.1.1.1.2) rfl rfl ?_
  refine sg_cS1 (pc := 2) (d' := d - 1) (mc' := 0) (ms' := 0) g (dc_X7_strip_0.1.1.2.1) cb_X7_isNoRow ml_X7_68 ms_X7_isNoRow (Nat.le_of_ble_eq_true rfl) (by first | exact jl_d0 hd rfl | omega) (by first | exact Nat.le_of_ble_eq_true rfl | omega) (by first | exact Nat.le_of_ble_eq_true rfl | omega) ?_
  refine s_X7_isNoRow g (by first | exact jl_d1 hd rfl | omega) (fun z2 h2 b2 => sg_K1 ?_)
  (try simp only [fm_no, fm_one, fn_betw, fn_sign, fn_radix, fn_high, fn_low] at h2)
  refine sg_iconst (pc := 5) (z := 1) (dc_X7_strip_0.1.1.2.2) (by decide) ?_
  refine sg_cE2 (pc := 6) (d' := d - 1) (mc' := 0) (ms' := 0) 8 g (dc_X7_strip_0.1.2.1.1) cb_X7_start ml_X7_71 mn_X7_start rfl mv_X7_start (Nat.le_of_ble_eq_true rfl) (md_oc (by assumption)) (Nat.le_of_ble_eq_true rfl) (by first | exact jl_d0 hd rfl | omega) (by first | exact Nat.le_of_ble_eq_true rfl | omega) (by first | exact Nat.le_of_ble_eq_true rfl | omega) ?_
  refine s_X7_start g (by first | exact jl_d1 hd rfl | omega) (by omega) (by assumption) (fun v6 h6 b6 i6 t6 s6 u6 y6 => sg_K1 ?_)
  have x6 := y6.1
  have hk6 := x6.2.1
  have y6 := md_Yt (h0 := h) (by assumption) y6
  refine sg_if_eq (pc := 9) (tgt := 14) (dc_X7_strip_0.1.2.1.2) (by decide) (fun c9 => ?_) (fun c9 => ?_)
  · refine sg_iconst (pc := 14) (z := 0) (dc_X7_strip_0.2.1.1.1) (by decide) ?_
    refine sg_istore_n (pc := 15) (j := 2) (dc_X7_strip_0.2.1.1.2) rfl (by decide) ?_
    refine sg_aload_n (pc := 16) (j := 0) (dc_X7_strip_0.2.1.2.1) rfl rfl ?_
    refine md_grw (pc := 17) g (dc_X7_strip_0.2.1.2.2) fk_X7_9 (by assumption) (fun r17 => ?_)
    refine sg_iload_n (pc := 20) (j := 1) (dc_X7_strip_0.2.2.1.1) rfl rfl ?_
    first | refine md_alr (pc := 21) (dc_X7_strip_0.2.2.1.2) (by assumption) (by omega) (by omega) (fun A21 l21 => ?_) | refine md_alt (pc := 21) (dc_X7_strip_0.2.2.1.2) (by assumption) (by omega) (by omega) (fun A21 l21 => ?_)
    refine md_len (pc := 22) (dc_X7_strip_0.2.2.2.1) (by assumption) (by omega) ?_
    refine sg_istore_n (pc := 23) (j := 3) (dc_X7_strip_0.2.2.2.2) rfl (by decide) ?_
    have loop24 : ∀ (N : Nat) (p : Int), 0 ≤ p → p ≤ ((md_n h6 (md_a h6 (md_r h6 M) row)) : Int) → (((md_n h6 (md_a h6 (md_r h6 M) row)) : Int) - p).toNat < N → sg_R w mi_X7_strip d 3 56 Q 24 [(2, sg_i p), (3, sg_i ((md_n h6 (md_a h6 (md_r h6 M) row)) : Int)), (0, sg_r M), (1, sg_i row)] [] h6 0 0 := by
      intro N
      induction N with
      | zero => intro p p0 p1 hm; exact absurd hm (Nat.not_lt_zero _)
      | succ N ih =>
        intro p p0 p1 hm
        refine sg_iload_n (pc := 24) (j := 2) (dc_X7_strip_24.1.1.1.1) rfl rfl ?_
        refine sg_iload_n (pc := 25) (j := 3) (dc_X7_strip_24.1.1.1.2) rfl rfl ?_
        refine sg_icmp_ge (pc := 26) (tgt := 50) (dc_X7_strip_24.1.1.2.1) (by decide) (fun c26 => ?_) (fun c26 => ?_)
        · have loop50 : ∀ (N : Nat) (q : Int), p ≤ q → q ≤ ((md_n h6 (md_a h6 (md_r h6 M) row)) : Int) → (q - p).toNat < N → sg_R w mi_X7_strip d 3 56 Q 50 [(3, sg_i q), (2, sg_i p), (0, sg_r M), (1, sg_i row)] [] h6 0 0 := by
            intro N
            induction N with
            | zero => intro q q0 q1 hm; exact absurd hm (Nat.not_lt_zero _)
            | succ N ihb =>
              intro q q0 q1 hm
              refine sg_iload_n (pc := 50) (j := 2) (dc_X7_strip_24.2.2.2.1) rfl rfl ?_
              refine sg_iload_n (pc := 51) (j := 3) (dc_X7_strip_24.2.2.2.2) rfl rfl ?_
              refine sg_icmp_ge (pc := 52) (tgt := 78) (dc_X7_strip_52.1.1.1.1) (by decide) (fun c52 => ?_) (fun c52 => ?_)
              · refine sg_aload_n (pc := 78) (j := 0) (dc_X7_strip_52.2.2.2.1) rfl rfl ?_
                refine md_grw (pc := 79) g (dc_X7_strip_52.2.2.2.2) fk_X7_9 (by assumption) (fun r79 => ?_)
                refine sg_iload_n (pc := 82) (j := 1) (dc_X7_strip_82.1.1.1.1) rfl rfl ?_
                first | refine md_alr (pc := 83) (dc_X7_strip_82.1.1.1.2) (by assumption) (by omega) (by omega) (fun A83 l83 => ?_) | refine md_alt (pc := 83) (dc_X7_strip_82.1.1.1.2) (by assumption) (by omega) (by omega) (fun A83 l83 => ?_)
                refine md_len (pc := 84) (dc_X7_strip_82.1.1.2.1) (by assumption) (by omega) ?_
                refine sg_istore (pc := 85) (dc_X7_strip_82.1.1.2.2) (by decide) ?_
                refine sg_iload (pc := 87) (dc_X7_strip_82.1.2.1.1) rfl ?_
                refine sg_aload_n (pc := 89) (j := 0) (dc_X7_strip_82.1.2.1.2) rfl rfl ?_
                refine sg_iload_n (pc := 90) (j := 1) (dc_X7_strip_82.1.2.2.1) rfl rfl ?_
                refine sg_aload_n (pc := 91) (j := 0) (dc_X7_strip_82.1.2.2.2) rfl rfl ?_
                refine md_grw (pc := 92) g (dc_X7_strip_82.2.1.1.1) fk_X7_9 (by assumption) (fun r92 => ?_)
                refine sg_iload_n (pc := 95) (j := 1) (dc_X7_strip_82.2.1.1.2) rfl rfl ?_
                first | refine md_alr (pc := 96) (dc_X7_strip_82.2.1.2.1) (by assumption) (by omega) (by omega) (fun A96 l96 => ?_) | refine md_alt (pc := 96) (dc_X7_strip_82.2.1.2.1) (by assumption) (by omega) (by omega) (fun A96 l96 => ?_)
                refine sg_iload_n (pc := 97) (j := 2) (dc_X7_strip_82.2.1.2.2) rfl rfl ?_
                refine sg_iload_n (pc := 98) (j := 3) (dc_X7_strip_82.2.2.1.1) rfl rfl ?_
                refine sg_cS3 (pc := 99) (d' := d - 1) (mc' := 1) (ms' := (q - p).toNat) g (dc_X7_strip_82.2.2.1.2) cb_X7_part ml_X7_82 ms_X7_part (Nat.le_of_ble_eq_true rfl) (by first | exact jl_d0 hd rfl | omega) (by first | exact Nat.le_of_ble_eq_true rfl | omega) (by first | exact Nat.le_of_ble_eq_true rfl | omega) ?_
                refine s_X7_part (c := 0) (m := (q - p).toNat) (n := (md_n h6 (md_a h6 (md_r h6 M) row))) g (by first | exact jl_d1 hd rfl | omega) (by first | assumption | (exfalso; omega)) (by omega) (by omega) (by omega) (by omega) (fun h99 t99 => sg_K1 ?_)
                have x99 : md_M w h99 M := md_ME (by assumption) (md_TE t99)
                have hk99 := x99.2.1
                have y99 : md_Y w h h99 M := md_YE (by assumption) (md_TE t99)
                refine sg_cE2 (pc := 102) (d' := d - 1) (mc' := 2) (ms' := 16) 8 g (dc_X7_strip_82.2.2.2.1) cb_X7_set ml_X7_78 mn_X7_set rfl mv_X7_set (Nat.le_of_ble_eq_true rfl) (md_oc (by assumption)) (Nat.le_of_ble_eq_true rfl) (by first | exact jl_d0 hd rfl | omega) (by first | exact Nat.le_of_ble_eq_true rfl | omega) (by first | exact Nat.le_of_ble_eq_true rfl | omega) ?_
                refine s_X7_set g (by first | exact jl_d1 hd rfl | omega) (by omega) (by assumption) (fun q => ⟨t99.2.2, (by omega)⟩) (fun q => absurd q (by omega)) (fun h102 y102 => sg_K1 ?_)
                have x102 := y102.1
                have hk102 := x102.2.1
                have y102 := md_Yt (h0 := h) (by assumption) y102
                first | refine sg_isubB (pc := 105) (dc_X7_strip_82.2.2.2.2) (by omega) (by omega) ?_ | refine sg_isub (pc := 105) (dc_X7_strip_82.2.2.2.2) ?_
                refine sg_iret (pc := 106) dc_X7_strip_106 rfl (by first | exact Nat.le_of_ble_eq_true rfl | omega) (by first | exact Nat.le_of_ble_eq_true rfl | omega) ?_
                exact hQ _ _ (by assumption)
              · refine sg_aload_n (pc := 55) (j := 0) (dc_X7_strip_52.1.1.1.2) rfl rfl ?_
                refine md_grw (pc := 56) g (dc_X7_strip_52.1.1.2.1) fk_X7_9 (by assumption) (fun r56 => ?_)
                refine sg_iload_n (pc := 59) (j := 1) (dc_X7_strip_52.1.1.2.2) rfl rfl ?_
                first | refine md_alr (pc := 60) (dc_X7_strip_52.1.2.1.1) (by assumption) (by omega) (by omega) (fun A60 l60 => ?_) | refine md_alt (pc := 60) (dc_X7_strip_52.1.2.1.1) (by assumption) (by omega) (by omega) (fun A60 l60 => ?_)
                refine sg_iload_n (pc := 61) (j := 3) (dc_X7_strip_52.1.2.1.2) rfl rfl ?_
                refine sg_iconst (pc := 62) (z := 1) (dc_X7_strip_52.1.2.2.1) (by decide) ?_
                first | refine sg_isubB (pc := 63) (dc_X7_strip_52.1.2.2.2) (by omega) (by omega) ?_ | refine sg_isub (pc := 63) (dc_X7_strip_52.1.2.2.2) ?_
                refine md_ald (pc := 64) (dc_X7_strip_52.2.1.1.1) (by assumption) (by omega) (by omega) (fun x64 g64 => ?_)
                try have q64 := ck_v1.mp g64
                refine sg_iconst (pc := 65) (z := 3) (dc_X7_strip_52.2.1.1.2) (by decide) ?_
                refine sg_cS2 (pc := 66) (d' := d - 1) (mc' := 0) (ms' := 0) g (dc_X7_strip_52.2.1.2.1) cb_X7_isKind ml_X7_26 ms_X7_isKind (Nat.le_of_ble_eq_true rfl) (by first | exact jl_d0 hd rfl | omega) (by first | exact Nat.le_of_ble_eq_true rfl | omega) (by first | exact Nat.le_of_ble_eq_true rfl | omega) ?_
                refine s_X7_isKind g (by first | exact jl_d1 hd rfl | omega) (by assumption) (by omega) (by omega) (fun z66 e66 b66 => sg_K1 ?_)
                refine sg_if_eq (pc := 69) (tgt := 78) (dc_X7_strip_52.2.1.2.2) (by decide) (fun c69 => ?_) (fun c69 => ?_)
                · refine sg_aload_n (pc := 78) (j := 0) (dc_X7_strip_52.2.2.2.1) rfl rfl ?_
                  refine md_grw (pc := 79) g (dc_X7_strip_52.2.2.2.2) fk_X7_9 (by assumption) (fun r79 => ?_)
                  refine sg_iload_n (pc := 82) (j := 1) (dc_X7_strip_82.1.1.1.1) rfl rfl ?_
                  first | refine md_alr (pc := 83) (dc_X7_strip_82.1.1.1.2) (by assumption) (by omega) (by omega) (fun A83 l83 => ?_) | refine md_alt (pc := 83) (dc_X7_strip_82.1.1.1.2) (by assumption) (by omega) (by omega) (fun A83 l83 => ?_)
                  refine md_len (pc := 84) (dc_X7_strip_82.1.1.2.1) (by assumption) (by omega) ?_
                  refine sg_istore (pc := 85) (dc_X7_strip_82.1.1.2.2) (by decide) ?_
                  refine sg_iload (pc := 87) (dc_X7_strip_82.1.2.1.1) rfl ?_
                  refine sg_aload_n (pc := 89) (j := 0) (dc_X7_strip_82.1.2.1.2) rfl rfl ?_
                  refine sg_iload_n (pc := 90) (j := 1) (dc_X7_strip_82.1.2.2.1) rfl rfl ?_
                  refine sg_aload_n (pc := 91) (j := 0) (dc_X7_strip_82.1.2.2.2) rfl rfl ?_
                  refine md_grw (pc := 92) g (dc_X7_strip_82.2.1.1.1) fk_X7_9 (by assumption) (fun r92 => ?_)
                  refine sg_iload_n (pc := 95) (j := 1) (dc_X7_strip_82.2.1.1.2) rfl rfl ?_
                  first | refine md_alr (pc := 96) (dc_X7_strip_82.2.1.2.1) (by assumption) (by omega) (by omega) (fun A96 l96 => ?_) | refine md_alt (pc := 96) (dc_X7_strip_82.2.1.2.1) (by assumption) (by omega) (by omega) (fun A96 l96 => ?_)
                  refine sg_iload_n (pc := 97) (j := 2) (dc_X7_strip_82.2.1.2.2) rfl rfl ?_
                  refine sg_iload_n (pc := 98) (j := 3) (dc_X7_strip_82.2.2.1.1) rfl rfl ?_
                  refine sg_cS3 (pc := 99) (d' := d - 1) (mc' := 1) (ms' := (q - p).toNat) g (dc_X7_strip_82.2.2.1.2) cb_X7_part ml_X7_82 ms_X7_part (Nat.le_of_ble_eq_true rfl) (by first | exact jl_d0 hd rfl | omega) (by first | exact Nat.le_of_ble_eq_true rfl | omega) (by first | exact Nat.le_of_ble_eq_true rfl | omega) ?_
                  refine s_X7_part (c := 0) (m := (q - p).toNat) (n := (md_n h6 (md_a h6 (md_r h6 M) row))) g (by first | exact jl_d1 hd rfl | omega) (by first | assumption | (exfalso; omega)) (by omega) (by omega) (by omega) (by omega) (fun h99 t99 => sg_K1 ?_)
                  have x99 : md_M w h99 M := md_ME (by assumption) (md_TE t99)
                  have hk99 := x99.2.1
                  have y99 : md_Y w h h99 M := md_YE (by assumption) (md_TE t99)
                  refine sg_cE2 (pc := 102) (d' := d - 1) (mc' := 2) (ms' := 16) 8 g (dc_X7_strip_82.2.2.2.1) cb_X7_set ml_X7_78 mn_X7_set rfl mv_X7_set (Nat.le_of_ble_eq_true rfl) (md_oc (by assumption)) (Nat.le_of_ble_eq_true rfl) (by first | exact jl_d0 hd rfl | omega) (by first | exact Nat.le_of_ble_eq_true rfl | omega) (by first | exact Nat.le_of_ble_eq_true rfl | omega) ?_
                  refine s_X7_set g (by first | exact jl_d1 hd rfl | omega) (by omega) (by assumption) (fun q => ⟨t99.2.2, (by omega)⟩) (fun q => absurd q (by omega)) (fun h102 y102 => sg_K1 ?_)
                  have x102 := y102.1
                  have hk102 := x102.2.1
                  have y102 := md_Yt (h0 := h) (by assumption) y102
                  first | refine sg_isubB (pc := 105) (dc_X7_strip_82.2.2.2.2) (by omega) (by omega) ?_ | refine sg_isub (pc := 105) (dc_X7_strip_82.2.2.2.2) ?_
                  refine sg_iret (pc := 106) dc_X7_strip_106 rfl (by first | exact Nat.le_of_ble_eq_true rfl | omega) (by first | exact Nat.le_of_ble_eq_true rfl | omega) ?_
                  exact hQ _ _ (by assumption)
                · first | refine sg_iincB (pc := 72) (dc_X7_strip_52.2.2.1.1) rfl (by decide) (by decide) (by omega) (by omega) ?_ | refine sg_iinc (pc := 72) (dc_X7_strip_52.2.2.1.1) rfl (by decide) (by decide) ?_
                  refine sg_goto (pc := 75) (tgt := 50) (dc_X7_strip_52.2.2.1.2) (by decide) ?_
                  refine sg_lsub (lv' := [(3, _), (2, _), (0, _), (1, _)]) ⟨rfl, rfl, rfl, rfl, trivial⟩ ?_
                  exact ihb _ (by omega) (by omega) (by omega)
          refine sg_lsub (lv' := [(3, _), (2, _), (0, _), (1, _)]) ⟨rfl, rfl, rfl, rfl, trivial⟩ ?_
          exact loop50 _ _ (by omega) (by omega) (Nat.lt_succ_self _)
        · refine sg_aload_n (pc := 29) (j := 0) (dc_X7_strip_24.1.1.2.2) rfl rfl ?_
          refine md_grw (pc := 30) g (dc_X7_strip_24.1.2.1.1) fk_X7_9 (by assumption) (fun r30 => ?_)
          refine sg_iload_n (pc := 33) (j := 1) (dc_X7_strip_24.1.2.1.2) rfl rfl ?_
          first | refine md_alr (pc := 34) (dc_X7_strip_24.1.2.2.1) (by assumption) (by omega) (by omega) (fun A34 l34 => ?_) | refine md_alt (pc := 34) (dc_X7_strip_24.1.2.2.1) (by assumption) (by omega) (by omega) (fun A34 l34 => ?_)
          refine sg_iload_n (pc := 35) (j := 2) (dc_X7_strip_24.1.2.2.2) rfl rfl ?_
          refine md_ald (pc := 36) (dc_X7_strip_24.2.1.1.1) (by assumption) (by omega) (by omega) (fun x36 g36 => ?_)
          try have q36 := ck_v1.mp g36
          refine sg_iconst (pc := 37) (z := 3) (dc_X7_strip_24.2.1.1.2) (by decide) ?_
          refine sg_cS2 (pc := 38) (d' := d - 1) (mc' := 0) (ms' := 0) g (dc_X7_strip_24.2.1.2.1) cb_X7_isKind ml_X7_26 ms_X7_isKind (Nat.le_of_ble_eq_true rfl) (by first | exact jl_d0 hd rfl | omega) (by first | exact Nat.le_of_ble_eq_true rfl | omega) (by first | exact Nat.le_of_ble_eq_true rfl | omega) ?_
          refine s_X7_isKind g (by first | exact jl_d1 hd rfl | omega) (by assumption) (by omega) (by omega) (fun z38 e38 b38 => sg_K1 ?_)
          refine sg_if_eq (pc := 41) (tgt := 50) (dc_X7_strip_24.2.1.2.2) (by decide) (fun c41 => ?_) (fun c41 => ?_)
          · have loop50 : ∀ (N : Nat) (q : Int), p ≤ q → q ≤ ((md_n h6 (md_a h6 (md_r h6 M) row)) : Int) → (q - p).toNat < N → sg_R w mi_X7_strip d 3 56 Q 50 [(3, sg_i q), (2, sg_i p), (0, sg_r M), (1, sg_i row)] [] h6 0 0 := by
              intro N
              induction N with
              | zero => intro q q0 q1 hm; exact absurd hm (Nat.not_lt_zero _)
              | succ N ihb =>
                intro q q0 q1 hm
                refine sg_iload_n (pc := 50) (j := 2) (dc_X7_strip_24.2.2.2.1) rfl rfl ?_
                refine sg_iload_n (pc := 51) (j := 3) (dc_X7_strip_24.2.2.2.2) rfl rfl ?_
                refine sg_icmp_ge (pc := 52) (tgt := 78) (dc_X7_strip_52.1.1.1.1) (by decide) (fun c52 => ?_) (fun c52 => ?_)
                · refine sg_aload_n (pc := 78) (j := 0) (dc_X7_strip_52.2.2.2.1) rfl rfl ?_
                  refine md_grw (pc := 79) g (dc_X7_strip_52.2.2.2.2) fk_X7_9 (by assumption) (fun r79 => ?_)
                  refine sg_iload_n (pc := 82) (j := 1) (dc_X7_strip_82.1.1.1.1) rfl rfl ?_
                  first | refine md_alr (pc := 83) (dc_X7_strip_82.1.1.1.2) (by assumption) (by omega) (by omega) (fun A83 l83 => ?_) | refine md_alt (pc := 83) (dc_X7_strip_82.1.1.1.2) (by assumption) (by omega) (by omega) (fun A83 l83 => ?_)
                  refine md_len (pc := 84) (dc_X7_strip_82.1.1.2.1) (by assumption) (by omega) ?_
                  refine sg_istore (pc := 85) (dc_X7_strip_82.1.1.2.2) (by decide) ?_
                  refine sg_iload (pc := 87) (dc_X7_strip_82.1.2.1.1) rfl ?_
                  refine sg_aload_n (pc := 89) (j := 0) (dc_X7_strip_82.1.2.1.2) rfl rfl ?_
                  refine sg_iload_n (pc := 90) (j := 1) (dc_X7_strip_82.1.2.2.1) rfl rfl ?_
                  refine sg_aload_n (pc := 91) (j := 0) (dc_X7_strip_82.1.2.2.2) rfl rfl ?_
                  refine md_grw (pc := 92) g (dc_X7_strip_82.2.1.1.1) fk_X7_9 (by assumption) (fun r92 => ?_)
                  refine sg_iload_n (pc := 95) (j := 1) (dc_X7_strip_82.2.1.1.2) rfl rfl ?_
                  first | refine md_alr (pc := 96) (dc_X7_strip_82.2.1.2.1) (by assumption) (by omega) (by omega) (fun A96 l96 => ?_) | refine md_alt (pc := 96) (dc_X7_strip_82.2.1.2.1) (by assumption) (by omega) (by omega) (fun A96 l96 => ?_)
                  refine sg_iload_n (pc := 97) (j := 2) (dc_X7_strip_82.2.1.2.2) rfl rfl ?_
                  refine sg_iload_n (pc := 98) (j := 3) (dc_X7_strip_82.2.2.1.1) rfl rfl ?_
                  refine sg_cS3 (pc := 99) (d' := d - 1) (mc' := 1) (ms' := (q - p).toNat) g (dc_X7_strip_82.2.2.1.2) cb_X7_part ml_X7_82 ms_X7_part (Nat.le_of_ble_eq_true rfl) (by first | exact jl_d0 hd rfl | omega) (by first | exact Nat.le_of_ble_eq_true rfl | omega) (by first | exact Nat.le_of_ble_eq_true rfl | omega) ?_
                  refine s_X7_part (c := 0) (m := (q - p).toNat) (n := (md_n h6 (md_a h6 (md_r h6 M) row))) g (by first | exact jl_d1 hd rfl | omega) (by first | assumption | (exfalso; omega)) (by omega) (by omega) (by omega) (by omega) (fun h99 t99 => sg_K1 ?_)
                  have x99 : md_M w h99 M := md_ME (by assumption) (md_TE t99)
                  have hk99 := x99.2.1
                  have y99 : md_Y w h h99 M := md_YE (by assumption) (md_TE t99)
                  refine sg_cE2 (pc := 102) (d' := d - 1) (mc' := 2) (ms' := 16) 8 g (dc_X7_strip_82.2.2.2.1) cb_X7_set ml_X7_78 mn_X7_set rfl mv_X7_set (Nat.le_of_ble_eq_true rfl) (md_oc (by assumption)) (Nat.le_of_ble_eq_true rfl) (by first | exact jl_d0 hd rfl | omega) (by first | exact Nat.le_of_ble_eq_true rfl | omega) (by first | exact Nat.le_of_ble_eq_true rfl | omega) ?_
                  refine s_X7_set g (by first | exact jl_d1 hd rfl | omega) (by omega) (by assumption) (fun q => ⟨t99.2.2, (by omega)⟩) (fun q => absurd q (by omega)) (fun h102 y102 => sg_K1 ?_)
                  have x102 := y102.1
                  have hk102 := x102.2.1
                  have y102 := md_Yt (h0 := h) (by assumption) y102
                  first | refine sg_isubB (pc := 105) (dc_X7_strip_82.2.2.2.2) (by omega) (by omega) ?_ | refine sg_isub (pc := 105) (dc_X7_strip_82.2.2.2.2) ?_
                  refine sg_iret (pc := 106) dc_X7_strip_106 rfl (by first | exact Nat.le_of_ble_eq_true rfl | omega) (by first | exact Nat.le_of_ble_eq_true rfl | omega) ?_
                  exact hQ _ _ (by assumption)
                · refine sg_aload_n (pc := 55) (j := 0) (dc_X7_strip_52.1.1.1.2) rfl rfl ?_
                  refine md_grw (pc := 56) g (dc_X7_strip_52.1.1.2.1) fk_X7_9 (by assumption) (fun r56 => ?_)
                  refine sg_iload_n (pc := 59) (j := 1) (dc_X7_strip_52.1.1.2.2) rfl rfl ?_
                  first | refine md_alr (pc := 60) (dc_X7_strip_52.1.2.1.1) (by assumption) (by omega) (by omega) (fun A60 l60 => ?_) | refine md_alt (pc := 60) (dc_X7_strip_52.1.2.1.1) (by assumption) (by omega) (by omega) (fun A60 l60 => ?_)
                  refine sg_iload_n (pc := 61) (j := 3) (dc_X7_strip_52.1.2.1.2) rfl rfl ?_
                  refine sg_iconst (pc := 62) (z := 1) (dc_X7_strip_52.1.2.2.1) (by decide) ?_
                  first | refine sg_isubB (pc := 63) (dc_X7_strip_52.1.2.2.2) (by omega) (by omega) ?_ | refine sg_isub (pc := 63) (dc_X7_strip_52.1.2.2.2) ?_
                  refine md_ald (pc := 64) (dc_X7_strip_52.2.1.1.1) (by assumption) (by omega) (by omega) (fun x64 g64 => ?_)
                  try have q64 := ck_v1.mp g64
                  refine sg_iconst (pc := 65) (z := 3) (dc_X7_strip_52.2.1.1.2) (by decide) ?_
                  refine sg_cS2 (pc := 66) (d' := d - 1) (mc' := 0) (ms' := 0) g (dc_X7_strip_52.2.1.2.1) cb_X7_isKind ml_X7_26 ms_X7_isKind (Nat.le_of_ble_eq_true rfl) (by first | exact jl_d0 hd rfl | omega) (by first | exact Nat.le_of_ble_eq_true rfl | omega) (by first | exact Nat.le_of_ble_eq_true rfl | omega) ?_
                  refine s_X7_isKind g (by first | exact jl_d1 hd rfl | omega) (by assumption) (by omega) (by omega) (fun z66 e66 b66 => sg_K1 ?_)
                  refine sg_if_eq (pc := 69) (tgt := 78) (dc_X7_strip_52.2.1.2.2) (by decide) (fun c69 => ?_) (fun c69 => ?_)
                  · refine sg_aload_n (pc := 78) (j := 0) (dc_X7_strip_52.2.2.2.1) rfl rfl ?_
                    refine md_grw (pc := 79) g (dc_X7_strip_52.2.2.2.2) fk_X7_9 (by assumption) (fun r79 => ?_)
                    refine sg_iload_n (pc := 82) (j := 1) (dc_X7_strip_82.1.1.1.1) rfl rfl ?_
                    first | refine md_alr (pc := 83) (dc_X7_strip_82.1.1.1.2) (by assumption) (by omega) (by omega) (fun A83 l83 => ?_) | refine md_alt (pc := 83) (dc_X7_strip_82.1.1.1.2) (by assumption) (by omega) (by omega) (fun A83 l83 => ?_)
                    refine md_len (pc := 84) (dc_X7_strip_82.1.1.2.1) (by assumption) (by omega) ?_
                    refine sg_istore (pc := 85) (dc_X7_strip_82.1.1.2.2) (by decide) ?_
                    refine sg_iload (pc := 87) (dc_X7_strip_82.1.2.1.1) rfl ?_
                    refine sg_aload_n (pc := 89) (j := 0) (dc_X7_strip_82.1.2.1.2) rfl rfl ?_
                    refine sg_iload_n (pc := 90) (j := 1) (dc_X7_strip_82.1.2.2.1) rfl rfl ?_
                    refine sg_aload_n (pc := 91) (j := 0) (dc_X7_strip_82.1.2.2.2) rfl rfl ?_
                    refine md_grw (pc := 92) g (dc_X7_strip_82.2.1.1.1) fk_X7_9 (by assumption) (fun r92 => ?_)
                    refine sg_iload_n (pc := 95) (j := 1) (dc_X7_strip_82.2.1.1.2) rfl rfl ?_
                    first | refine md_alr (pc := 96) (dc_X7_strip_82.2.1.2.1) (by assumption) (by omega) (by omega) (fun A96 l96 => ?_) | refine md_alt (pc := 96) (dc_X7_strip_82.2.1.2.1) (by assumption) (by omega) (by omega) (fun A96 l96 => ?_)
                    refine sg_iload_n (pc := 97) (j := 2) (dc_X7_strip_82.2.1.2.2) rfl rfl ?_
                    refine sg_iload_n (pc := 98) (j := 3) (dc_X7_strip_82.2.2.1.1) rfl rfl ?_
                    refine sg_cS3 (pc := 99) (d' := d - 1) (mc' := 1) (ms' := (q - p).toNat) g (dc_X7_strip_82.2.2.1.2) cb_X7_part ml_X7_82 ms_X7_part (Nat.le_of_ble_eq_true rfl) (by first | exact jl_d0 hd rfl | omega) (by first | exact Nat.le_of_ble_eq_true rfl | omega) (by first | exact Nat.le_of_ble_eq_true rfl | omega) ?_
                    refine s_X7_part (c := 0) (m := (q - p).toNat) (n := (md_n h6 (md_a h6 (md_r h6 M) row))) g (by first | exact jl_d1 hd rfl | omega) (by first | assumption | (exfalso; omega)) (by omega) (by omega) (by omega) (by omega) (fun h99 t99 => sg_K1 ?_)
                    have x99 : md_M w h99 M := md_ME (by assumption) (md_TE t99)
                    have hk99 := x99.2.1
                    have y99 : md_Y w h h99 M := md_YE (by assumption) (md_TE t99)
                    refine sg_cE2 (pc := 102) (d' := d - 1) (mc' := 2) (ms' := 16) 8 g (dc_X7_strip_82.2.2.2.1) cb_X7_set ml_X7_78 mn_X7_set rfl mv_X7_set (Nat.le_of_ble_eq_true rfl) (md_oc (by assumption)) (Nat.le_of_ble_eq_true rfl) (by first | exact jl_d0 hd rfl | omega) (by first | exact Nat.le_of_ble_eq_true rfl | omega) (by first | exact Nat.le_of_ble_eq_true rfl | omega) ?_
                    refine s_X7_set g (by first | exact jl_d1 hd rfl | omega) (by omega) (by assumption) (fun q => ⟨t99.2.2, (by omega)⟩) (fun q => absurd q (by omega)) (fun h102 y102 => sg_K1 ?_)
                    have x102 := y102.1
                    have hk102 := x102.2.1
                    have y102 := md_Yt (h0 := h) (by assumption) y102
                    first | refine sg_isubB (pc := 105) (dc_X7_strip_82.2.2.2.2) (by omega) (by omega) ?_ | refine sg_isub (pc := 105) (dc_X7_strip_82.2.2.2.2) ?_
                    refine sg_iret (pc := 106) dc_X7_strip_106 rfl (by first | exact Nat.le_of_ble_eq_true rfl | omega) (by first | exact Nat.le_of_ble_eq_true rfl | omega) ?_
                    exact hQ _ _ (by assumption)
                  · first | refine sg_iincB (pc := 72) (dc_X7_strip_52.2.2.1.1) rfl (by decide) (by decide) (by omega) (by omega) ?_ | refine sg_iinc (pc := 72) (dc_X7_strip_52.2.2.1.1) rfl (by decide) (by decide) ?_
                    refine sg_goto (pc := 75) (tgt := 50) (dc_X7_strip_52.2.2.1.2) (by decide) ?_
                    refine sg_lsub (lv' := [(3, _), (2, _), (0, _), (1, _)]) ⟨rfl, rfl, rfl, rfl, trivial⟩ ?_
                    exact ihb _ (by omega) (by omega) (by omega)
            refine sg_lsub (lv' := [(3, _), (2, _), (0, _), (1, _)]) ⟨rfl, rfl, rfl, rfl, trivial⟩ ?_
            exact loop50 _ _ (by omega) (by omega) (Nat.lt_succ_self _)
          · first | refine sg_iincB (pc := 44) (dc_X7_strip_24.2.2.1.1) rfl (by decide) (by decide) (by omega) (by omega) ?_ | refine sg_iinc (pc := 44) (dc_X7_strip_24.2.2.1.1) rfl (by decide) (by decide) ?_
            refine sg_goto (pc := 47) (tgt := 24) (dc_X7_strip_24.2.2.1.2) (by decide) ?_
            refine sg_lsub (lv' := [(2, _), (3, _), (0, _), (1, _)]) ⟨rfl, rfl, rfl, rfl, trivial⟩ ?_
            exact ih _ (by omega) (by omega) (by omega)
    refine sg_lsub (lv' := [(2, _), (3, _), (0, _), (1, _)]) ⟨rfl, rfl, rfl, rfl, trivial⟩ ?_
    exact loop24 _ _ (by omega) (by omega) (Nat.lt_succ_self _)
  · refine sg_iconst (pc := 12) (z := 0) (dc_X7_strip_0.1.2.2.1) (by decide) ?_
    refine sg_iret (pc := 13) (dc_X7_strip_0.1.2.2.2) rfl (by first | exact Nat.le_of_ble_eq_true rfl | omega) (by first | exact Nat.le_of_ble_eq_true rfl | omega) ?_
    exact hQ _ _ (by assumption)

set_option maxRecDepth 100000 in
theorem s_X7_turn {w : sg_W} {Q : sg_O → sg_H → Prop} {h : sg_H} (g : sg_G w) {d : Nat} (hd : 9 ≤ d) {M : Nat} {row : Int}  (hx : md_M w h M) (hQ : ∀ (v : Int) (h' : sg_H), md_Y w h h' M → Q (.inl (some (sg_i v))) h') : sg_C w mi_X7_turn d 3 56 [sg_r M, sg_i row] h Q := by
  refine sg_of pn_X7 (Nat.le_of_ble_eq_true rfl) ?_
  have y0 := md_Y0 hx
  have hk := hx.2.1
  refine sg_aload_n (pc := 0) (j := 0) (dc_X7_turn_0.1.1.1.1) rfl rfl ?_
  refine sg_iload_n (pc := 1) (j := 1) (dc_X7_turn_0.1.1.1.2) rfl rfl ?_
  refine sg_cS1 (pc := 2) (d' := d - 1) (mc' := 0) (ms' := 0) g (dc_X7_turn_0.1.1.2.1) cb_X7_isNoRow ml_X7_68 ms_X7_isNoRow (Nat.le_of_ble_eq_true rfl) (by first | exact jl_d0 hd rfl | omega) (by first | exact Nat.le_of_ble_eq_true rfl | omega) (by first | exact Nat.le_of_ble_eq_true rfl | omega) ?_
  refine s_X7_isNoRow g (by first | exact jl_d1 hd rfl | omega) (fun z2 h2 b2 => sg_K1 ?_)
  (try simp only [fm_no, fm_one, fn_betw, fn_sign, fn_radix, fn_high, fn_low] at h2)
  refine sg_iconst (pc := 5) (z := 1) (dc_X7_turn_0.1.1.2.2) (by decide) ?_
  refine sg_cE2 (pc := 6) (d' := d - 1) (mc' := 0) (ms' := 0) 8 g (dc_X7_turn_0.1.2.1.1) cb_X7_start ml_X7_71 mn_X7_start rfl mv_X7_start (Nat.le_of_ble_eq_true rfl) (md_oc (by assumption)) (Nat.le_of_ble_eq_true rfl) (by first | exact jl_d0 hd rfl | omega) (by first | exact Nat.le_of_ble_eq_true rfl | omega) (by first | exact Nat.le_of_ble_eq_true rfl | omega) ?_
  refine s_X7_start g (by first | exact jl_d1 hd rfl | omega) (by omega) (by assumption) (fun v6 h6 b6 i6 t6 s6 u6 y6 => sg_K1 ?_)
  have x6 := y6.1
  have hk6 := x6.2.1
  have y6 := md_Yt (h0 := h) (by assumption) y6
  refine sg_if_eq (pc := 9) (tgt := 16) (dc_X7_turn_0.1.2.1.2) (by decide) (fun c9 => ?_) (fun c9 => ?_)
  · refine sg_aload_n (pc := 16) (j := 0) (dc_X7_turn_0.2.1.1.1) rfl rfl ?_
    refine sg_iload_n (pc := 17) (j := 1) (dc_X7_turn_0.2.1.1.2) rfl rfl ?_
    refine sg_aload_n (pc := 18) (j := 0) (dc_X7_turn_0.2.1.2.1) rfl rfl ?_
    refine md_grw (pc := 19) g (dc_X7_turn_0.2.1.2.2) fk_X7_9 (by assumption) (fun r19 => ?_)
    refine sg_iload_n (pc := 22) (j := 1) (dc_X7_turn_0.2.2.1.1) rfl rfl ?_
    first | refine md_alr (pc := 23) (dc_X7_turn_0.2.2.1.2) (by assumption) (by omega) (by omega) (fun A23 l23 => ?_) | refine md_alt (pc := 23) (dc_X7_turn_0.2.2.1.2) (by assumption) (by omega) (by omega) (fun A23 l23 => ?_)
    refine sg_cS1 (pc := 24) (d' := d - 1) (mc' := 1) (ms' := (md_n h6 (md_a h6 (md_r h6 M) row))) g (dc_X7_turn_0.2.2.2.1) cb_X7_turned ml_X7_103 ms_X7_turned (Nat.le_of_ble_eq_true rfl) (by first | exact jl_d0 hd rfl | omega) (by first | exact Nat.le_of_ble_eq_true rfl | omega) (by first | exact Nat.le_of_ble_eq_true rfl | omega) ?_
    refine s_X7_turned (c := 0) g (by first | exact jl_d1 hd rfl | omega) (by assumption) (by omega) (fun h24 t24 => sg_K1 ?_)
    have x24 : md_M w h24 M := md_ME (by assumption) (md_TE t24)
    have hk24 := x24.2.1
    have y24 : md_Y w h h24 M := md_YE (by assumption) (md_TE t24)
    refine sg_cE2 (pc := 27) (d' := d - 1) (mc' := 2) (ms' := 16) 8 g (dc_X7_turn_0.2.2.2.2) cb_X7_set ml_X7_78 mn_X7_set rfl mv_X7_set (Nat.le_of_ble_eq_true rfl) (md_oc (by assumption)) (Nat.le_of_ble_eq_true rfl) (by first | exact jl_d0 hd rfl | omega) (by first | exact Nat.le_of_ble_eq_true rfl | omega) (by first | exact Nat.le_of_ble_eq_true rfl | omega) ?_
    refine s_X7_set g (by first | exact jl_d1 hd rfl | omega) (by omega) (by assumption) (fun q => ⟨t24.2.2, (by omega)⟩) (fun q => absurd q (by omega)) (fun h27 y27 => sg_K1 ?_)
    have x27 := y27.1
    have hk27 := x27.2.1
    have y27 := md_Yt (h0 := h) (by assumption) y27
    refine sg_iret (pc := 30) dc_X7_turn_30 rfl (by first | exact Nat.le_of_ble_eq_true rfl | omega) (by first | exact Nat.le_of_ble_eq_true rfl | omega) ?_
    exact hQ _ _ (by assumption)
  · refine sg_iconst (pc := 12) (z := 0) (dc_X7_turn_0.1.2.2.1) (by decide) ?_
    refine sg_goto (pc := 13) (tgt := 30) (dc_X7_turn_0.1.2.2.2) (by decide) ?_
    refine sg_iret (pc := 30) dc_X7_turn_30 rfl (by first | exact Nat.le_of_ble_eq_true rfl | omega) (by first | exact Nat.le_of_ble_eq_true rfl | omega) ?_
    exact hQ _ _ (by assumption)

set_option maxRecDepth 100000 in
theorem s_X7_spell {w : sg_W} {Q : sg_O → sg_H → Prop} {h : sg_H} (g : sg_G w) {d : Nat} (hd : 9 ≤ d) {M : Nat} {fr to : Int}  (hx : md_M w h M) (hQ : ∀ (v : Int) (h' : sg_H), md_Y w h h' M → Q (.inl (some (sg_i v))) h') : sg_C w mi_X7_spell d 3 56 [sg_r M, sg_i fr, sg_i to] h Q := by
  refine sg_of pn_X7 (Nat.le_of_ble_eq_true rfl) ?_
  have y0 := md_Y0 hx
  have hk := hx.2.1
  refine sg_aload_n (pc := 0) (j := 0) (dc_X7_spell_0.1.1.1.1) rfl rfl ?_
  refine sg_iload_n (pc := 1) (j := 1) (dc_X7_spell_0.1.1.1.2) rfl rfl ?_
  refine sg_cS1 (pc := 2) (d' := d - 1) (mc' := 0) (ms' := 0) g (dc_X7_spell_0.1.1.2.1) cb_X7_isNoRow ml_X7_68 ms_X7_isNoRow (Nat.le_of_ble_eq_true rfl) (by first | exact jl_d0 hd rfl | omega) (by first | exact Nat.le_of_ble_eq_true rfl | omega) (by first | exact Nat.le_of_ble_eq_true rfl | omega) ?_
  refine s_X7_isNoRow g (by first | exact jl_d1 hd rfl | omega) (fun z2 h2 b2 => sg_K1 ?_)
  (try simp only [fm_no, fm_one, fn_betw, fn_sign, fn_radix, fn_high, fn_low] at h2)
  refine sg_if_ne (pc := 5) (tgt := 15) (dc_X7_spell_0.1.1.2.2) (by decide) (fun c5 => ?_) (fun c5 => ?_)
  · refine sg_iconst (pc := 15) (z := 1) (dc_X7_spell_0.1.2.2.2) (by decide) ?_
    refine sg_goto (pc := 16) (tgt := 20) (dc_X7_spell_0.2.1.1.1) (by decide) ?_
    refine sg_iconst (pc := 20) (z := 1) (dc_X7_spell_0.2.1.2.1) (by decide) ?_
    refine sg_cE2 (pc := 21) (d' := d - 1) (mc' := 0) (ms' := 0) 8 g (dc_X7_spell_0.2.1.2.2) cb_X7_start ml_X7_71 mn_X7_start rfl mv_X7_start (Nat.le_of_ble_eq_true rfl) (md_oc (by assumption)) (Nat.le_of_ble_eq_true rfl) (by first | exact jl_d0 hd rfl | omega) (by first | exact Nat.le_of_ble_eq_true rfl | omega) (by first | exact Nat.le_of_ble_eq_true rfl | omega) ?_
    refine s_X7_start g (by first | exact jl_d1 hd rfl | omega) (by omega) (by assumption) (fun v21 h21 b21 i21 t21 s21 u21 y21 => sg_K1 ?_)
    have x21 := y21.1
    have hk21 := x21.2.1
    have y21 := md_Yt (h0 := h) (by assumption) y21
    refine sg_if_ne (pc := 24) (tgt := 45) (dc_X7_spell_0.2.2.1.1) (by decide) (fun c24 => ?_) (fun c24 => absurd c24 (by omega))
    refine sg_iconst (pc := 45) (z := 0) (dc_X7_spell_30.1.2.2.2) (by decide) ?_
    refine sg_iret (pc := 46) (dc_X7_spell_30.2.1.1.1) rfl (by first | exact Nat.le_of_ble_eq_true rfl | omega) (by first | exact Nat.le_of_ble_eq_true rfl | omega) ?_
    exact hQ _ _ (by assumption)
  · refine sg_iload_n (pc := 8) (j := 2) (dc_X7_spell_0.1.2.1.1) rfl rfl ?_
    refine sg_cS1 (pc := 9) (d' := d - 1) (mc' := 0) (ms' := 0) g (dc_X7_spell_0.1.2.1.2) cb_X7_isNoRow ml_X7_68 ms_X7_isNoRow (Nat.le_of_ble_eq_true rfl) (by first | exact jl_d0 hd rfl | omega) (by first | exact Nat.le_of_ble_eq_true rfl | omega) (by first | exact Nat.le_of_ble_eq_true rfl | omega) ?_
    refine s_X7_isNoRow g (by first | exact jl_d1 hd rfl | omega) (fun z9 h9 b9 => sg_K1 ?_)
    (try simp only [fm_no, fm_one, fn_betw, fn_sign, fn_radix, fn_high, fn_low] at h9)
    refine sg_if_eq (pc := 12) (tgt := 19) (dc_X7_spell_0.1.2.2.1) (by decide) (fun c12 => ?_) (fun c12 => ?_)
    · refine sg_iconst (pc := 19) (z := 0) (dc_X7_spell_0.2.1.1.2) (by decide) ?_
      refine sg_iconst (pc := 20) (z := 1) (dc_X7_spell_0.2.1.2.1) (by decide) ?_
      refine sg_cE2 (pc := 21) (d' := d - 1) (mc' := 0) (ms' := 0) 8 g (dc_X7_spell_0.2.1.2.2) cb_X7_start ml_X7_71 mn_X7_start rfl mv_X7_start (Nat.le_of_ble_eq_true rfl) (md_oc (by assumption)) (Nat.le_of_ble_eq_true rfl) (by first | exact jl_d0 hd rfl | omega) (by first | exact Nat.le_of_ble_eq_true rfl | omega) (by first | exact Nat.le_of_ble_eq_true rfl | omega) ?_
      refine s_X7_start g (by first | exact jl_d1 hd rfl | omega) (by omega) (by assumption) (fun v21 h21 b21 i21 t21 s21 u21 y21 => sg_K1 ?_)
      have x21 := y21.1
      have hk21 := x21.2.1
      have y21 := md_Yt (h0 := h) (by assumption) y21
      refine sg_if_ne (pc := 24) (tgt := 45) (dc_X7_spell_0.2.2.1.1) (by decide) (fun c24 => absurd c24 (by omega)) (fun c24 => ?_)
      refine sg_aload_n (pc := 27) (j := 0) (dc_X7_spell_0.2.2.1.2) rfl rfl ?_
      refine sg_iload_n (pc := 28) (j := 1) (dc_X7_spell_0.2.2.2.1) rfl rfl ?_
      refine sg_iload_n (pc := 29) (j := 2) (dc_X7_spell_0.2.2.2.2) rfl rfl ?_
      refine sg_icmp_ne (pc := 30) (tgt := 37) (dc_X7_spell_30.1.1.1.1) (by decide) (fun c30 => ?_) (fun c30 => ?_)
      · refine sg_iconst (pc := 37) (z := 0) (dc_X7_spell_30.1.1.2.2) (by decide) ?_
        refine sg_iconst (pc := 38) (z := 2) (dc_X7_spell_30.1.2.1.1) (by decide) ?_
        refine sg_cE2 (pc := 39) (d' := d - 1) (mc' := 0) (ms' := 0) 8 g (dc_X7_spell_30.1.2.1.2) cb_X7_refuse ml_X7_45 mn_X7_refuse rfl mv_X7_refuse (Nat.le_of_ble_eq_true rfl) (md_oc (by assumption)) (Nat.le_of_ble_eq_true rfl) (by first | exact jl_d0 hd rfl | omega) (by first | exact Nat.le_of_ble_eq_true rfl | omega) (by first | exact Nat.le_of_ble_eq_true rfl | omega) ?_
        refine s_X7_refuse g (by first | exact jl_d1 hd rfl | omega) (by omega) (by assumption) (fun v39 h39 b39 i39 t39 s39 u39 y39 => sg_K1 ?_)
        have x39 := y39.1
        have hk39 := x39.2.1
        have y39 := md_Yt (h0 := h) (by assumption) y39
        refine sg_if_eq (pc := 42) (tgt := 47) (dc_X7_spell_30.1.2.2.1) (by decide) (fun c42 => ?_) (fun c42 => ?_)
        · refine sg_iconst (pc := 47) (z := 2) (dc_X7_spell_30.2.1.1.2) (by decide) ?_
          refine sg_aload_n (pc := 48) (j := 0) (dc_X7_spell_30.2.1.2.1) rfl rfl ?_
          refine md_grw (pc := 49) g (dc_X7_spell_30.2.1.2.2) fk_X7_9 (by assumption) (fun r49 => ?_)
          refine sg_iload_n (pc := 52) (j := 1) (dc_X7_spell_30.2.2.1.1) rfl rfl ?_
          first | refine md_alr (pc := 53) (dc_X7_spell_30.2.2.1.2) (by assumption) (by omega) (by omega) (fun A53 l53 => ?_) | refine md_alt (pc := 53) (dc_X7_spell_30.2.2.1.2) (by assumption) (by omega) (by omega) (fun A53 l53 => ?_)
          refine md_len (pc := 54) (dc_X7_spell_30.2.2.2.1) (by assumption) (by omega) ?_
          first | refine sg_imulB (pc := 55) (dc_X7_spell_30.2.2.2.2) (by omega) (by omega) ?_ | refine sg_imul (pc := 55) (dc_X7_spell_30.2.2.2.2) ?_
          refine sg_bipush (pc := 56) (z := 40) (dc_X7_spell_56.1.1.1.1) (by decide) ?_
          refine sg_icmp_le (pc := 58) (tgt := 66) (dc_X7_spell_56.1.1.1.2) (by decide) (fun c58 => ?_) (fun c58 => ?_)
          · refine sg_aload_n (pc := 66) (j := 0) (dc_X7_spell_56.1.2.1.1) rfl rfl ?_
            refine sg_iload_n (pc := 67) (j := 2) (dc_X7_spell_56.1.2.1.2) rfl rfl ?_
            refine sg_aload_n (pc := 68) (j := 0) (dc_X7_spell_56.1.2.2.1) rfl rfl ?_
            refine md_grw (pc := 69) g (dc_X7_spell_56.1.2.2.2) fk_X7_9 (by assumption) (fun r69 => ?_)
            refine sg_iload_n (pc := 72) (j := 1) (dc_X7_spell_56.2.1.1.1) rfl rfl ?_
            first | refine md_alr (pc := 73) (dc_X7_spell_56.2.1.1.2) (by assumption) (by omega) (by omega) (fun A73 l73 => ?_) | refine md_alt (pc := 73) (dc_X7_spell_56.2.1.1.2) (by assumption) (by omega) (by omega) (fun A73 l73 => ?_)
            refine sg_cS1 (pc := 74) (d' := d - 1) (mc' := 1) (ms' := (2 * (md_n h39 (md_a h39 (md_r h39 M) fr)))) g (dc_X7_spell_56.2.1.2.1) cb_X7_spelledOf ml_X7_112 ms_X7_spelledOf (Nat.le_of_ble_eq_true rfl) (by first | exact jl_d0 hd rfl | omega) (by first | exact Nat.le_of_ble_eq_true rfl | omega) (by first | exact Nat.le_of_ble_eq_true rfl | omega) ?_
            refine s_X7_spelledOf (c := 0) g (by first | exact jl_d1 hd rfl | omega) (by assumption) (by omega) (fun h74 t74 => sg_K1 ?_)
            have x74 : md_M w h74 M := md_ME (by assumption) (md_TE t74)
            have hk74 := x74.2.1
            have y74 : md_Y w h h74 M := md_YE (by assumption) (md_TE t74)
            refine sg_cE2 (pc := 77) (d' := d - 1) (mc' := 2) (ms' := 16) 8 g (dc_X7_spell_56.2.1.2.2) cb_X7_set ml_X7_78 mn_X7_set rfl mv_X7_set (Nat.le_of_ble_eq_true rfl) (md_oc (by assumption)) (Nat.le_of_ble_eq_true rfl) (by first | exact jl_d0 hd rfl | omega) (by first | exact Nat.le_of_ble_eq_true rfl | omega) (by first | exact Nat.le_of_ble_eq_true rfl | omega) ?_
            refine s_X7_set g (by first | exact jl_d1 hd rfl | omega) (by omega) (by assumption) (fun q => ⟨(md_A0 t74.2.2), (by omega)⟩) (fun q => absurd q (by omega)) (fun h77 y77 => sg_K1 ?_)
            have x77 := y77.1
            have hk77 := x77.2.1
            have y77 := md_Yt (h0 := h) (by assumption) y77
            refine sg_iret (pc := 80) (dc_X7_spell_56.2.2.1.1) rfl (by first | exact Nat.le_of_ble_eq_true rfl | omega) (by first | exact Nat.le_of_ble_eq_true rfl | omega) ?_
            exact hQ _ _ (by assumption)
          · refine sg_bipush (pc := 61) (z := -9) (dc_X7_spell_56.1.1.2.1) (by decide) ?_
            refine sg_goto (pc := 63) (tgt := 80) (dc_X7_spell_56.1.1.2.2) (by decide) ?_
            refine sg_iret (pc := 80) (dc_X7_spell_56.2.2.1.1) rfl (by first | exact Nat.le_of_ble_eq_true rfl | omega) (by first | exact Nat.le_of_ble_eq_true rfl | omega) ?_
            exact hQ _ _ (by assumption)
        · refine sg_iconst (pc := 45) (z := 0) (dc_X7_spell_30.1.2.2.2) (by decide) ?_
          refine sg_iret (pc := 46) (dc_X7_spell_30.2.1.1.1) rfl (by first | exact Nat.le_of_ble_eq_true rfl | omega) (by first | exact Nat.le_of_ble_eq_true rfl | omega) ?_
          exact hQ _ _ (by assumption)
      · refine sg_iconst (pc := 33) (z := 1) (dc_X7_spell_30.1.1.1.2) (by decide) ?_
        refine sg_goto (pc := 34) (tgt := 38) (dc_X7_spell_30.1.1.2.1) (by decide) ?_
        refine sg_iconst (pc := 38) (z := 2) (dc_X7_spell_30.1.2.1.1) (by decide) ?_
        refine sg_cE2 (pc := 39) (d' := d - 1) (mc' := 0) (ms' := 0) 8 g (dc_X7_spell_30.1.2.1.2) cb_X7_refuse ml_X7_45 mn_X7_refuse rfl mv_X7_refuse (Nat.le_of_ble_eq_true rfl) (md_oc (by assumption)) (Nat.le_of_ble_eq_true rfl) (by first | exact jl_d0 hd rfl | omega) (by first | exact Nat.le_of_ble_eq_true rfl | omega) (by first | exact Nat.le_of_ble_eq_true rfl | omega) ?_
        refine s_X7_refuse g (by first | exact jl_d1 hd rfl | omega) (by omega) (by assumption) (fun v39 h39 b39 i39 t39 s39 u39 y39 => sg_K1 ?_)
        have x39 := y39.1
        have hk39 := x39.2.1
        have y39 := md_Yt (h0 := h) (by assumption) y39
        refine sg_if_eq (pc := 42) (tgt := 47) (dc_X7_spell_30.1.2.2.1) (by decide) (fun c42 => absurd c42 (by omega)) (fun c42 => ?_)
        refine sg_iconst (pc := 45) (z := 0) (dc_X7_spell_30.1.2.2.2) (by decide) ?_
        refine sg_iret (pc := 46) (dc_X7_spell_30.2.1.1.1) rfl (by first | exact Nat.le_of_ble_eq_true rfl | omega) (by first | exact Nat.le_of_ble_eq_true rfl | omega) ?_
        exact hQ _ _ (by assumption)
    · refine sg_iconst (pc := 15) (z := 1) (dc_X7_spell_0.1.2.2.2) (by decide) ?_
      refine sg_goto (pc := 16) (tgt := 20) (dc_X7_spell_0.2.1.1.1) (by decide) ?_
      refine sg_iconst (pc := 20) (z := 1) (dc_X7_spell_0.2.1.2.1) (by decide) ?_
      refine sg_cE2 (pc := 21) (d' := d - 1) (mc' := 0) (ms' := 0) 8 g (dc_X7_spell_0.2.1.2.2) cb_X7_start ml_X7_71 mn_X7_start rfl mv_X7_start (Nat.le_of_ble_eq_true rfl) (md_oc (by assumption)) (Nat.le_of_ble_eq_true rfl) (by first | exact jl_d0 hd rfl | omega) (by first | exact Nat.le_of_ble_eq_true rfl | omega) (by first | exact Nat.le_of_ble_eq_true rfl | omega) ?_
      refine s_X7_start g (by first | exact jl_d1 hd rfl | omega) (by omega) (by assumption) (fun v21 h21 b21 i21 t21 s21 u21 y21 => sg_K1 ?_)
      have x21 := y21.1
      have hk21 := x21.2.1
      have y21 := md_Yt (h0 := h) (by assumption) y21
      refine sg_if_ne (pc := 24) (tgt := 45) (dc_X7_spell_0.2.2.1.1) (by decide) (fun c24 => ?_) (fun c24 => absurd c24 (by omega))
      refine sg_iconst (pc := 45) (z := 0) (dc_X7_spell_30.1.2.2.2) (by decide) ?_
      refine sg_iret (pc := 46) (dc_X7_spell_30.2.1.1.1) rfl (by first | exact Nat.le_of_ble_eq_true rfl | omega) (by first | exact Nat.le_of_ble_eq_true rfl | omega) ?_
      exact hQ _ _ (by assumption)

set_option maxRecDepth 100000 in
theorem s_X7_read {w : sg_W} {Q : sg_O → sg_H → Prop} {h : sg_H} (g : sg_G w) {d : Nat} (hd : 9 ≤ d) {M : Nat} {fr to : Int}  (hx : md_M w h M) (hQ : ∀ (v : Int) (h' : sg_H), md_Y w h h' M → Q (.inl (some (sg_i v))) h') : sg_C w mi_X7_read d 3 56 [sg_r M, sg_i fr, sg_i to] h Q := by
  refine sg_of pn_X7 (Nat.le_of_ble_eq_true rfl) ?_
  have y0 := md_Y0 hx
  have hk := hx.2.1
  refine sg_aload_n (pc := 0) (j := 0) (dc_X7_read_0.1.1.1.1) rfl rfl ?_
  refine sg_iload_n (pc := 1) (j := 1) (dc_X7_read_0.1.1.1.2) rfl rfl ?_
  refine sg_cS1 (pc := 2) (d' := d - 1) (mc' := 0) (ms' := 0) g (dc_X7_read_0.1.1.2.1) cb_X7_isNoRow ml_X7_68 ms_X7_isNoRow (Nat.le_of_ble_eq_true rfl) (by first | exact jl_d0 hd rfl | omega) (by first | exact Nat.le_of_ble_eq_true rfl | omega) (by first | exact Nat.le_of_ble_eq_true rfl | omega) ?_
  refine s_X7_isNoRow g (by first | exact jl_d1 hd rfl | omega) (fun z2 h2 b2 => sg_K1 ?_)
  (try simp only [fm_no, fm_one, fn_betw, fn_sign, fn_radix, fn_high, fn_low] at h2)
  refine sg_if_ne (pc := 5) (tgt := 15) (dc_X7_read_0.1.1.2.2) (by decide) (fun c5 => ?_) (fun c5 => ?_)
  · refine sg_iconst (pc := 15) (z := 1) (dc_X7_read_0.1.2.2.2) (by decide) ?_
    refine sg_goto (pc := 16) (tgt := 20) (dc_X7_read_0.2.1.1.1) (by decide) ?_
    refine sg_iconst (pc := 20) (z := 1) (dc_X7_read_0.2.1.2.1) (by decide) ?_
    refine sg_cE2 (pc := 21) (d' := d - 1) (mc' := 0) (ms' := 0) 8 g (dc_X7_read_0.2.1.2.2) cb_X7_start ml_X7_71 mn_X7_start rfl mv_X7_start (Nat.le_of_ble_eq_true rfl) (md_oc (by assumption)) (Nat.le_of_ble_eq_true rfl) (by first | exact jl_d0 hd rfl | omega) (by first | exact Nat.le_of_ble_eq_true rfl | omega) (by first | exact Nat.le_of_ble_eq_true rfl | omega) ?_
    refine s_X7_start g (by first | exact jl_d1 hd rfl | omega) (by omega) (by assumption) (fun v21 h21 b21 i21 t21 s21 u21 y21 => sg_K1 ?_)
    have x21 := y21.1
    have hk21 := x21.2.1
    have y21 := md_Yt (h0 := h) (by assumption) y21
    refine sg_if_ne (pc := 24) (tgt := 45) (dc_X7_read_0.2.2.1.1) (by decide) (fun c24 => ?_) (fun c24 => absurd c24 (by omega))
    refine sg_iconst (pc := 45) (z := 0) (dc_X7_read_30.1.2.2.2) (by decide) ?_
    refine sg_iret (pc := 46) (dc_X7_read_30.2.1.1.1) rfl (by first | exact Nat.le_of_ble_eq_true rfl | omega) (by first | exact Nat.le_of_ble_eq_true rfl | omega) ?_
    exact hQ _ _ (by assumption)
  · refine sg_iload_n (pc := 8) (j := 2) (dc_X7_read_0.1.2.1.1) rfl rfl ?_
    refine sg_cS1 (pc := 9) (d' := d - 1) (mc' := 0) (ms' := 0) g (dc_X7_read_0.1.2.1.2) cb_X7_isNoRow ml_X7_68 ms_X7_isNoRow (Nat.le_of_ble_eq_true rfl) (by first | exact jl_d0 hd rfl | omega) (by first | exact Nat.le_of_ble_eq_true rfl | omega) (by first | exact Nat.le_of_ble_eq_true rfl | omega) ?_
    refine s_X7_isNoRow g (by first | exact jl_d1 hd rfl | omega) (fun z9 h9 b9 => sg_K1 ?_)
    (try simp only [fm_no, fm_one, fn_betw, fn_sign, fn_radix, fn_high, fn_low] at h9)
    refine sg_if_eq (pc := 12) (tgt := 19) (dc_X7_read_0.1.2.2.1) (by decide) (fun c12 => ?_) (fun c12 => ?_)
    · refine sg_iconst (pc := 19) (z := 0) (dc_X7_read_0.2.1.1.2) (by decide) ?_
      refine sg_iconst (pc := 20) (z := 1) (dc_X7_read_0.2.1.2.1) (by decide) ?_
      refine sg_cE2 (pc := 21) (d' := d - 1) (mc' := 0) (ms' := 0) 8 g (dc_X7_read_0.2.1.2.2) cb_X7_start ml_X7_71 mn_X7_start rfl mv_X7_start (Nat.le_of_ble_eq_true rfl) (md_oc (by assumption)) (Nat.le_of_ble_eq_true rfl) (by first | exact jl_d0 hd rfl | omega) (by first | exact Nat.le_of_ble_eq_true rfl | omega) (by first | exact Nat.le_of_ble_eq_true rfl | omega) ?_
      refine s_X7_start g (by first | exact jl_d1 hd rfl | omega) (by omega) (by assumption) (fun v21 h21 b21 i21 t21 s21 u21 y21 => sg_K1 ?_)
      have x21 := y21.1
      have hk21 := x21.2.1
      have y21 := md_Yt (h0 := h) (by assumption) y21
      refine sg_if_ne (pc := 24) (tgt := 45) (dc_X7_read_0.2.2.1.1) (by decide) (fun c24 => absurd c24 (by omega)) (fun c24 => ?_)
      refine sg_aload_n (pc := 27) (j := 0) (dc_X7_read_0.2.2.1.2) rfl rfl ?_
      refine sg_iload_n (pc := 28) (j := 1) (dc_X7_read_0.2.2.2.1) rfl rfl ?_
      refine sg_iload_n (pc := 29) (j := 2) (dc_X7_read_0.2.2.2.2) rfl rfl ?_
      refine sg_icmp_ne (pc := 30) (tgt := 37) (dc_X7_read_30.1.1.1.1) (by decide) (fun c30 => ?_) (fun c30 => ?_)
      · refine sg_iconst (pc := 37) (z := 0) (dc_X7_read_30.1.1.2.2) (by decide) ?_
        refine sg_iconst (pc := 38) (z := 2) (dc_X7_read_30.1.2.1.1) (by decide) ?_
        refine sg_cE2 (pc := 39) (d' := d - 1) (mc' := 0) (ms' := 0) 8 g (dc_X7_read_30.1.2.1.2) cb_X7_refuse ml_X7_45 mn_X7_refuse rfl mv_X7_refuse (Nat.le_of_ble_eq_true rfl) (md_oc (by assumption)) (Nat.le_of_ble_eq_true rfl) (by first | exact jl_d0 hd rfl | omega) (by first | exact Nat.le_of_ble_eq_true rfl | omega) (by first | exact Nat.le_of_ble_eq_true rfl | omega) ?_
        refine s_X7_refuse g (by first | exact jl_d1 hd rfl | omega) (by omega) (by assumption) (fun v39 h39 b39 i39 t39 s39 u39 y39 => sg_K1 ?_)
        have x39 := y39.1
        have hk39 := x39.2.1
        have y39 := md_Yt (h0 := h) (by assumption) y39
        refine sg_if_eq (pc := 42) (tgt := 47) (dc_X7_read_30.1.2.2.1) (by decide) (fun c42 => ?_) (fun c42 => ?_)
        · refine sg_aload_n (pc := 47) (j := 0) (dc_X7_read_30.2.1.1.2) rfl rfl ?_
          refine md_grw (pc := 48) g (dc_X7_read_30.2.1.2.1) fk_X7_9 (by assumption) (fun r48 => ?_)
          refine sg_iload_n (pc := 51) (j := 1) (dc_X7_read_30.2.1.2.2) rfl rfl ?_
          first | refine md_alr (pc := 52) (dc_X7_read_30.2.2.1.1) (by assumption) (by omega) (by omega) (fun A52 l52 => ?_) | refine md_alt (pc := 52) (dc_X7_read_30.2.2.1.1) (by assumption) (by omega) (by omega) (fun A52 l52 => ?_)
          refine sg_astore_n (pc := 53) (j := 3) (dc_X7_read_30.2.2.1.2) rfl (by decide) ?_
          refine sg_aload_n (pc := 54) (j := 3) (dc_X7_read_30.2.2.2.1) rfl rfl ?_
          refine sg_astore (pc := 55) (dc_X7_read_30.2.2.2.2) (by decide) ?_
          refine sg_aload (pc := 57) (dc_X7_read_57.1.1.1.1) rfl ?_
          refine md_len (pc := 59) (dc_X7_read_57.1.1.1.2) A52 (by omega) ?_
          refine sg_istore (pc := 60) (dc_X7_read_57.1.1.2.1) (by decide) ?_
          refine sg_iconst (pc := 62) (z := 0) (dc_X7_read_57.1.1.2.2) (by decide) ?_
          refine sg_istore (pc := 63) (dc_X7_read_57.1.2.1.1) (by decide) ?_
          have loop65 : ∀ (N : Nat) (p : Int), 0 ≤ p → (((md_n h39 (md_a h39 (md_r h39 M) fr)) : Int) - p).toNat < N → sg_R w mi_X7_read d 3 56 Q 65 [(6, sg_i p), (5, sg_i ((md_n h39 (md_a h39 (md_r h39 M) fr)) : Int)), (4, sg_r (md_a h39 (md_r h39 M) fr)), (0, sg_r M), (1, sg_i fr), (2, sg_i to), (3, sg_r (md_a h39 (md_r h39 M) fr))] [] h39 0 0 := by
            intro N
            induction N with
            | zero => intro p p0 hm; exact absurd hm (Nat.not_lt_zero _)
            | succ N ih =>
              intro p p0 hm
              refine sg_iload (pc := 65) (dc_X7_read_57.1.2.1.2) rfl ?_
              refine sg_iload (pc := 67) (dc_X7_read_57.1.2.2.1) rfl ?_
              refine sg_icmp_ge (pc := 69) (tgt := 99) (dc_X7_read_57.1.2.2.2) (by decide) (fun c69 => ?_) (fun c69 => ?_)
              · refine sg_aload_n (pc := 99) (j := 3) (dc_X7_read_87.1.2.1.2) rfl rfl ?_
                refine md_len (pc := 100) (dc_X7_read_87.1.2.2.1) A52 (by omega) ?_
                refine sg_iconst (pc := 101) (z := 2) (dc_X7_read_87.1.2.2.2) (by decide) ?_
                first | refine sg_iremP (pc := 102) (dc_X7_read_87.2.1.1.1) (by omega) (by omega) ?_ | refine sg_irem (pc := 102) (dc_X7_read_87.2.1.1.1) (by first | omega | assumption) ?_
                refine sg_iconst (pc := 103) (z := 1) (dc_X7_read_87.2.1.1.2) (by decide) ?_
                refine sg_icmp_ne (pc := 104) (tgt := 110) (dc_X7_read_87.2.1.2.1) (by decide) (fun c104 => ?_) (fun c104 => ?_)
                · refine sg_aload_n (pc := 110) (j := 3) (dc_X7_read_87.2.2.1.2) rfl rfl ?_
                  refine md_len (pc := 111) (dc_X7_read_87.2.2.2.1) A52 (by omega) ?_
                  refine sg_iconst (pc := 112) (z := 2) (dc_X7_read_87.2.2.2.2) (by decide) ?_
                  first | refine sg_idivP (pc := 113) (dc_X7_read_113.1.1.1.1) (by omega) (by omega) (by omega) ?_ | refine sg_idiv (pc := 113) (dc_X7_read_113.1.1.1.1) (by first | omega | assumption) ?_
                  refine sg_newa (t := 100) (N := ((md_n h39 (md_a h39 (md_r h39 M) fr)) / 2)) (pc := 114) g (dc_X7_read_113.1.1.1.2) ac_int rfl (by decide) (by decide) rfl rfl (by decide) (by omega) (by omega) (by omega) (by omega) ?_
                  refine sg_astore (pc := 116) (dc_X7_read_113.1.1.2.1) (by decide) ?_
                  refine sg_iconst (pc := 118) (z := 0) (dc_X7_read_113.1.1.2.2) (by decide) ?_
                  refine sg_istore (pc := 119) (dc_X7_read_113.1.2.1.1) (by decide) ?_
                  have loop121 : ∀ (N : Nat) (h1 : sg_H) (p : Int), md_T 0 h39 h1 ((md_n h39 (md_a h39 (md_r h39 M) fr)) / 2) → 0 ≤ p → ((((md_n h39 (md_a h39 (md_r h39 M) fr)) / 2) : Int) - p).toNat < N → sg_R w mi_X7_read d 3 56 Q 121 [(5, sg_i p), (4, sg_r h39.1), (0, sg_r M), (2, sg_i to), (3, sg_r (md_a h39 (md_r h39 M) fr))] [] h1 1 (0 + ((md_n h39 (md_a h39 (md_r h39 M) fr)) / 2)) := by
                    intro N
                    induction N with
                    | zero => intro h1 p t1 p0 hm; exact absurd hm (Nat.not_lt_zero _)
                    | succ N ihb =>
                      intro h1 p t1 p0 hm
                      have x1 : md_M w h1 M := md_ME x39 (md_TE t1)
                      have hk1 := x1.2.1
                      have y1 : md_Y w h h1 M := md_YE y39 (md_TE t1)
                      refine sg_iload (pc := 121) (dc_X7_read_113.1.2.1.2) rfl ?_
                      refine sg_aload (pc := 123) (dc_X7_read_113.1.2.2.1) rfl ?_
                      refine md_len (pc := 125) (dc_X7_read_113.1.2.2.2) t1.2.2 (by omega) ?_
                      refine sg_icmp_ge (pc := 126) (tgt := 168) (dc_X7_read_113.2.1.1.1) (by decide) (fun c126 => ?_) (fun c126 => ?_)
                      · refine sg_aload_n (pc := 168) (j := 0) (dc_X7_read_165.1.1.2) rfl rfl ?_
                        refine sg_iload_n (pc := 169) (j := 2) (dc_X7_read_165.1.2.1) rfl rfl ?_
                        refine sg_aload (pc := 170) (dc_X7_read_165.1.2.2) rfl ?_
                        refine sg_cE2 (pc := 172) (d' := d - 1) (mc' := 2) (ms' := 16) 8 g (dc_X7_read_165.2.1.1) cb_X7_set ml_X7_78 mn_X7_set rfl mv_X7_set (Nat.le_of_ble_eq_true rfl) (md_oc (by assumption)) (Nat.le_of_ble_eq_true rfl) (by first | exact jl_d0 hd rfl | omega) (by first | exact Nat.le_of_ble_eq_true rfl | omega) (by first | exact Nat.le_of_ble_eq_true rfl | omega) ?_
                        refine s_X7_set g (by first | exact jl_d1 hd rfl | omega) (by omega) (by assumption) (fun q => ⟨t1.2.2, (by omega)⟩) (fun q => absurd q (by omega)) (fun h172 y172 => sg_K1 ?_)
                        have x172 := y172.1
                        have hk172 := x172.2.1
                        have y172 := md_Yt (h0 := h) (by assumption) y172
                        refine sg_iret (pc := 175) (dc_X7_read_165.2.1.2) rfl (by first | exact Nat.le_of_ble_eq_true rfl | omega) (by first | exact Nat.le_of_ble_eq_true rfl | omega) ?_
                        exact hQ _ _ (by assumption)
                      · refine sg_aload (pc := 129) (dc_X7_read_113.2.1.1.2) rfl ?_
                        refine sg_iload (pc := 131) (dc_X7_read_113.2.1.2.1) rfl ?_
                        refine sg_bipush (pc := 133) (z := 16) (dc_X7_read_113.2.1.2.2) (by decide) ?_
                        refine sg_aload_n (pc := 135) (j := 3) (dc_X7_read_113.2.2.1.1) rfl rfl ?_
                        refine sg_iconst (pc := 136) (z := 2) (dc_X7_read_113.2.2.1.2) (by decide) ?_
                        refine sg_iload (pc := 137) (dc_X7_read_113.2.2.2.1) rfl ?_
                        first | refine sg_imulB (pc := 139) (dc_X7_read_113.2.2.2.2) (by omega) (by omega) ?_ | refine sg_imul (pc := 139) (dc_X7_read_113.2.2.2.2) ?_
                        refine md_ald (pc := 140) (dc_X7_read_140.1.1.1.1) (md_AT A52 t1) (by omega) (by omega) (fun x140 g140 => ?_)
                        refine sg_bipush (pc := 141) (z := 16) (dc_X7_read_140.1.1.1.2) (by decide) ?_
                        refine sg_cS2 (pc := 143) (d' := d - 1) (mc' := 0) (ms' := 0) g (dc_X7_read_140.1.1.2.1) cb_X7_numberOf ml_X7_115 ms_X7_numberOf (Nat.le_of_ble_eq_true rfl) (by first | exact jl_d0 hd rfl | omega) (by first | exact Nat.le_of_ble_eq_true rfl | omega) (by first | exact Nat.le_of_ble_eq_true rfl | omega) ?_
                        refine s_X7_numberOf g (by first | exact jl_d1 hd rfl | omega) (fun z143 h143 => sg_K1 ?_)
                        (try simp only [fm_no, fm_one, fn_betw, fn_sign, fn_radix, fn_high, fn_low] at h143)
                        first | refine sg_imulB (pc := 146) (dc_X7_read_140.1.1.2.2) (by omega) (by omega) ?_ | refine sg_imul (pc := 146) (dc_X7_read_140.1.1.2.2) ?_
                        refine sg_aload_n (pc := 147) (j := 3) (dc_X7_read_140.1.2.1.1) rfl rfl ?_
                        refine sg_iconst (pc := 148) (z := 2) (dc_X7_read_140.1.2.1.2) (by decide) ?_
                        refine sg_iload (pc := 149) (dc_X7_read_140.1.2.2.1) rfl ?_
                        first | refine sg_imulB (pc := 151) (dc_X7_read_140.1.2.2.2) (by omega) (by omega) ?_ | refine sg_imul (pc := 151) (dc_X7_read_140.1.2.2.2) ?_
                        refine sg_iconst (pc := 152) (z := 1) (dc_X7_read_140.2.1.1.1) (by decide) ?_
                        first | refine sg_iaddB (pc := 153) (dc_X7_read_140.2.1.1.2) (by omega) (by omega) ?_ | refine sg_iadd (pc := 153) (dc_X7_read_140.2.1.1.2) ?_
                        refine md_ald (pc := 154) (dc_X7_read_140.2.1.2.1) (md_AT A52 t1) (by omega) (by omega) (fun x154 g154 => ?_)
                        refine sg_bipush (pc := 155) (z := 16) (dc_X7_read_140.2.1.2.2) (by decide) ?_
                        refine sg_cS2 (pc := 157) (d' := d - 1) (mc' := 0) (ms' := 0) g (dc_X7_read_140.2.2.1.1) cb_X7_numberOf ml_X7_115 ms_X7_numberOf (Nat.le_of_ble_eq_true rfl) (by first | exact jl_d0 hd rfl | omega) (by first | exact Nat.le_of_ble_eq_true rfl | omega) (by first | exact Nat.le_of_ble_eq_true rfl | omega) ?_
                        refine s_X7_numberOf g (by first | exact jl_d1 hd rfl | omega) (fun z157 h157 => sg_K1 ?_)
                        (try simp only [fm_no, fm_one, fn_betw, fn_sign, fn_radix, fn_high, fn_low] at h157)
                        first | refine sg_iaddB (pc := 160) (dc_X7_read_140.2.2.1.2) (by omega) (by omega) ?_ | refine sg_iadd (pc := 160) (dc_X7_read_140.2.2.1.2) ?_
                        refine md_ast (pc := 161) (dc_X7_read_140.2.2.2.1) t1 ck_v0 (by omega) (by omega) (fun h161 t161 => ?_)
                        first | refine sg_iincB (pc := 162) (dc_X7_read_140.2.2.2.2) rfl (by decide) (by decide) (by omega) (by omega) ?_ | refine sg_iinc (pc := 162) (dc_X7_read_140.2.2.2.2) rfl (by decide) (by decide) ?_
                        refine sg_goto (pc := 165) (tgt := 121) (dc_X7_read_165.1.1.1) (by decide) ?_
                        refine sg_lsub (lv' := [(5, _), (4, _), (0, _), (2, _), (3, _)]) ⟨rfl, rfl, rfl, rfl, rfl, trivial⟩ ?_
                        exact ihb _ _ t161 (by omega) (by omega)
                  refine sg_lsub (lv' := [(5, _), (4, _), (0, _), (2, _), (3, _)]) ⟨rfl, rfl, rfl, rfl, rfl, trivial⟩ ?_
                  exact loop121 _ _ _ md_new (by omega) (Nat.lt_succ_self _)
                · refine sg_bipush (pc := 107) (z := -9) (dc_X7_read_87.2.1.2.2) (by decide) ?_
                  refine sg_iret (pc := 109) (dc_X7_read_87.2.2.1.1) rfl (by first | exact Nat.le_of_ble_eq_true rfl | omega) (by first | exact Nat.le_of_ble_eq_true rfl | omega) ?_
                  exact hQ _ _ (by assumption)
              · refine sg_aload (pc := 72) (dc_X7_read_57.2.1.1.1) rfl ?_
                refine sg_iload (pc := 74) (dc_X7_read_57.2.1.1.2) rfl ?_
                refine md_ald (pc := 76) (dc_X7_read_57.2.1.2.1) A52 (by omega) (by omega) (fun x76 g76 => ?_)
                refine sg_istore (pc := 77) (dc_X7_read_57.2.1.2.2) (by decide) ?_
                refine sg_iload (pc := 79) (dc_X7_read_57.2.2.1.1) rfl ?_
                refine sg_bipush (pc := 81) (z := 16) (dc_X7_read_57.2.2.1.2) (by decide) ?_
                refine sg_cS2 (pc := 83) (d' := d - 1) (mc' := 0) (ms' := 0) g (dc_X7_read_57.2.2.2.1) cb_X7_numberOf ml_X7_115 ms_X7_numberOf (Nat.le_of_ble_eq_true rfl) (by first | exact jl_d0 hd rfl | omega) (by first | exact Nat.le_of_ble_eq_true rfl | omega) (by first | exact Nat.le_of_ble_eq_true rfl | omega) ?_
                refine s_X7_numberOf g (by first | exact jl_d1 hd rfl | omega) (fun z83 h83 => sg_K1 ?_)
                (try simp only [fm_no, fm_one, fn_betw, fn_sign, fn_radix, fn_high, fn_low] at h83)
                refine sg_iconst (pc := 86) (z := -1) (dc_X7_read_57.2.2.2.2) (by decide) ?_
                refine sg_icmp_ne (pc := 87) (tgt := 93) (dc_X7_read_87.1.1.1.1) (by decide) (fun c87 => ?_) (fun c87 => ?_)
                · first | refine sg_iincB (pc := 93) (dc_X7_read_87.1.1.2.2) rfl (by decide) (by decide) (by omega) (by omega) ?_ | refine sg_iinc (pc := 93) (dc_X7_read_87.1.1.2.2) rfl (by decide) (by decide) ?_
                  refine sg_goto (pc := 96) (tgt := 65) (dc_X7_read_87.1.2.1.1) (by decide) ?_
                  refine sg_lsub (lv' := [(6, _), (5, _), (4, _), (0, _), (1, _), (2, _), (3, _)]) ⟨rfl, rfl, rfl, rfl, rfl, rfl, rfl, trivial⟩ ?_
                  exact ih _ (by omega) (by omega)
                · refine sg_bipush (pc := 90) (z := -9) (dc_X7_read_87.1.1.1.2) (by decide) ?_
                  refine sg_iret (pc := 92) (dc_X7_read_87.1.1.2.1) rfl (by first | exact Nat.le_of_ble_eq_true rfl | omega) (by first | exact Nat.le_of_ble_eq_true rfl | omega) ?_
                  exact hQ _ _ (by assumption)
          refine sg_lsub (lv' := [(6, _), (5, _), (4, _), (0, _), (1, _), (2, _), (3, _)]) ⟨rfl, rfl, rfl, rfl, rfl, rfl, rfl, trivial⟩ ?_
          exact loop65 _ _ (by omega) (Nat.lt_succ_self _)
        · refine sg_iconst (pc := 45) (z := 0) (dc_X7_read_30.1.2.2.2) (by decide) ?_
          refine sg_iret (pc := 46) (dc_X7_read_30.2.1.1.1) rfl (by first | exact Nat.le_of_ble_eq_true rfl | omega) (by first | exact Nat.le_of_ble_eq_true rfl | omega) ?_
          exact hQ _ _ (by assumption)
      · refine sg_iconst (pc := 33) (z := 1) (dc_X7_read_30.1.1.1.2) (by decide) ?_
        refine sg_goto (pc := 34) (tgt := 38) (dc_X7_read_30.1.1.2.1) (by decide) ?_
        refine sg_iconst (pc := 38) (z := 2) (dc_X7_read_30.1.2.1.1) (by decide) ?_
        refine sg_cE2 (pc := 39) (d' := d - 1) (mc' := 0) (ms' := 0) 8 g (dc_X7_read_30.1.2.1.2) cb_X7_refuse ml_X7_45 mn_X7_refuse rfl mv_X7_refuse (Nat.le_of_ble_eq_true rfl) (md_oc (by assumption)) (Nat.le_of_ble_eq_true rfl) (by first | exact jl_d0 hd rfl | omega) (by first | exact Nat.le_of_ble_eq_true rfl | omega) (by first | exact Nat.le_of_ble_eq_true rfl | omega) ?_
        refine s_X7_refuse g (by first | exact jl_d1 hd rfl | omega) (by omega) (by assumption) (fun v39 h39 b39 i39 t39 s39 u39 y39 => sg_K1 ?_)
        have x39 := y39.1
        have hk39 := x39.2.1
        have y39 := md_Yt (h0 := h) (by assumption) y39
        refine sg_if_eq (pc := 42) (tgt := 47) (dc_X7_read_30.1.2.2.1) (by decide) (fun c42 => absurd c42 (by omega)) (fun c42 => ?_)
        refine sg_iconst (pc := 45) (z := 0) (dc_X7_read_30.1.2.2.2) (by decide) ?_
        refine sg_iret (pc := 46) (dc_X7_read_30.2.1.1.1) rfl (by first | exact Nat.le_of_ble_eq_true rfl | omega) (by first | exact Nat.le_of_ble_eq_true rfl | omega) ?_
        exact hQ _ _ (by assumption)
    · refine sg_iconst (pc := 15) (z := 1) (dc_X7_read_0.1.2.2.2) (by decide) ?_
      refine sg_goto (pc := 16) (tgt := 20) (dc_X7_read_0.2.1.1.1) (by decide) ?_
      refine sg_iconst (pc := 20) (z := 1) (dc_X7_read_0.2.1.2.1) (by decide) ?_
      refine sg_cE2 (pc := 21) (d' := d - 1) (mc' := 0) (ms' := 0) 8 g (dc_X7_read_0.2.1.2.2) cb_X7_start ml_X7_71 mn_X7_start rfl mv_X7_start (Nat.le_of_ble_eq_true rfl) (md_oc (by assumption)) (Nat.le_of_ble_eq_true rfl) (by first | exact jl_d0 hd rfl | omega) (by first | exact Nat.le_of_ble_eq_true rfl | omega) (by first | exact Nat.le_of_ble_eq_true rfl | omega) ?_
      refine s_X7_start g (by first | exact jl_d1 hd rfl | omega) (by omega) (by assumption) (fun v21 h21 b21 i21 t21 s21 u21 y21 => sg_K1 ?_)
      have x21 := y21.1
      have hk21 := x21.2.1
      have y21 := md_Yt (h0 := h) (by assumption) y21
      refine sg_if_ne (pc := 24) (tgt := 45) (dc_X7_read_0.2.2.1.1) (by decide) (fun c24 => ?_) (fun c24 => absurd c24 (by omega))
      refine sg_iconst (pc := 45) (z := 0) (dc_X7_read_30.1.2.2.2) (by decide) ?_
      refine sg_iret (pc := 46) (dc_X7_read_30.2.1.1.1) rfl (by first | exact Nat.le_of_ble_eq_true rfl | omega) (by first | exact Nat.le_of_ble_eq_true rfl | omega) ?_
      exact hQ _ _ (by assumption)

set_option maxRecDepth 100000 in
theorem s_X7_behind {w : sg_W} {Q : sg_O → sg_H → Prop} {h : sg_H} (g : sg_G w) {d : Nat} (hd : 8 ≤ d) {M a m : Nat} {trk : Int} (hv : 0 ≤ trk ∧ trk < 2) (hA : md_A 1 h a m) (hm : m ≤ 40) (hx : md_M w h M) (hQ : ∀ (v : Int) (h' : sg_H), md_Y w h h' M → Q (.inl (some (sg_i v))) h') : sg_C w mi_X7_behind d 3 80 [sg_r M, sg_i trk, sg_r a] h Q := by
  refine sg_of pn_X7 (Nat.le_of_ble_eq_true rfl) ?_
  have y0 := md_Y0 hx
  have hk := hx.2.1
  refine sg_aload_n (pc := 0) (j := 0) (dc_X7_behind_0.1.1.1.1) rfl rfl ?_
  refine md_grw (pc := 1) g (dc_X7_behind_0.1.1.1.2) fk_X7_9 (by assumption) (fun r1 => ?_)
  refine sg_iconst (pc := 4) (z := 4) (dc_X7_behind_0.1.1.2.1) (by decide) ?_
  refine sg_iload_n (pc := 5) (j := 1) (dc_X7_behind_0.1.1.2.2) rfl rfl ?_
  first | refine sg_iaddB (pc := 6) (dc_X7_behind_0.1.2.1.1) (by omega) (by omega) ?_ | refine sg_iadd (pc := 6) (dc_X7_behind_0.1.2.1.1) ?_
  first | refine md_alr (pc := 7) (dc_X7_behind_0.1.2.1.2) (by assumption) (by omega) (by omega) (fun A7 l7 => ?_) | refine md_alt (pc := 7) (dc_X7_behind_0.1.2.1.2) (by assumption) (by omega) (by omega) (fun A7 l7 => ?_)
  refine md_len (pc := 8) (dc_X7_behind_0.1.2.2.1) (by assumption) (by omega) ?_
  refine sg_aload_n (pc := 9) (j := 2) (dc_X7_behind_0.1.2.2.2) rfl rfl ?_
  refine md_len (pc := 10) (dc_X7_behind_0.2.1.1.1) hA (by omega) ?_
  first | refine sg_iaddB (pc := 11) (dc_X7_behind_0.2.1.1.2) (by omega) (by omega) ?_ | refine sg_iadd (pc := 11) (dc_X7_behind_0.2.1.1.2) ?_
  refine sg_bipush (pc := 12) (z := 24) (dc_X7_behind_0.2.1.2.1) (by decide) ?_
  refine sg_icmp_le (pc := 14) (tgt := 22) (dc_X7_behind_0.2.1.2.2) (by decide) (fun c14 => ?_) (fun c14 => ?_)
  · refine sg_aload_n (pc := 22) (j := 0) (dc_X7_behind_0.2.2.2.1) rfl rfl ?_
    refine sg_iconst (pc := 23) (z := 4) (dc_X7_behind_0.2.2.2.2) (by decide) ?_
    refine sg_iload_n (pc := 24) (j := 1) (dc_X7_behind_24.1.1.1.1) rfl rfl ?_
    first | refine sg_iaddB (pc := 25) (dc_X7_behind_24.1.1.1.2) (by omega) (by omega) ?_ | refine sg_iadd (pc := 25) (dc_X7_behind_24.1.1.1.2) ?_
    refine sg_aload_n (pc := 26) (j := 0) (dc_X7_behind_24.1.1.2.1) rfl rfl ?_
    refine md_grw (pc := 27) g (dc_X7_behind_24.1.1.2.2) fk_X7_9 (by assumption) (fun r27 => ?_)
    refine sg_iconst (pc := 30) (z := 4) (dc_X7_behind_24.1.2.1.1) (by decide) ?_
    refine sg_iload_n (pc := 31) (j := 1) (dc_X7_behind_24.1.2.1.2) rfl rfl ?_
    first | refine sg_iaddB (pc := 32) (dc_X7_behind_24.1.2.2.1) (by omega) (by omega) ?_ | refine sg_iadd (pc := 32) (dc_X7_behind_24.1.2.2.1) ?_
    first | refine md_alr (pc := 33) (dc_X7_behind_24.1.2.2.2) (by assumption) (by omega) (by omega) (fun A33 l33 => ?_) | refine md_alt (pc := 33) (dc_X7_behind_24.1.2.2.2) (by assumption) (by omega) (by omega) (fun A33 l33 => ?_)
    refine sg_aload_n (pc := 34) (j := 2) (dc_X7_behind_24.2.1.1.1) rfl rfl ?_
    refine sg_cS2 (pc := 35) (d' := d - 1) (mc' := 1) (ms' := ((md_n h (md_a h (md_r h M) (4 + trk))) + m)) g (dc_X7_behind_24.2.1.1.2) cb_X7_joined ml_X7_61 ms_X7_joined (Nat.le_of_ble_eq_true rfl) (by first | exact jl_d0 hd rfl | omega) (by first | exact Nat.le_of_ble_eq_true rfl | omega) (by first | exact Nat.le_of_ble_eq_true rfl | omega) ?_
    refine s_X7_joined (c := 1) g (by first | exact jl_d1 hd rfl | omega) (by assumption) hA (by omega) (by omega) (fun h35 t35 => sg_K1 ?_)
    have x35 : md_M w h35 M := md_ME (by assumption) (md_TE t35)
    have hk35 := x35.2.1
    have y35 : md_Y w h h35 M := md_YE (by assumption) (md_TE t35)
    refine sg_cE2 (pc := 38) (d' := d - 1) (mc' := 2) (ms' := 16) 8 g (dc_X7_behind_24.2.1.2.1) cb_X7_set ml_X7_78 mn_X7_set rfl mv_X7_set (Nat.le_of_ble_eq_true rfl) (md_oc (by assumption)) (Nat.le_of_ble_eq_true rfl) (by first | exact jl_d0 hd rfl | omega) (by first | exact Nat.le_of_ble_eq_true rfl | omega) (by first | exact Nat.le_of_ble_eq_true rfl | omega) ?_
    refine s_X7_set g (by first | exact jl_d1 hd rfl | omega) (by omega) (by assumption) (fun q => absurd q (by omega)) (fun q => ⟨t35.2.2, (by omega)⟩) (fun h38 y38 => sg_K1 ?_)
    have x38 := y38.1
    have hk38 := x38.2.1
    have y38 := md_Yt (h0 := h) (by assumption) y38
    refine sg_iret (pc := 41) (dc_X7_behind_24.2.1.2.2) rfl (by first | exact Nat.le_of_ble_eq_true rfl | omega) (by first | exact Nat.le_of_ble_eq_true rfl | omega) ?_
    exact hQ _ _ (by assumption)
  · refine sg_bipush (pc := 17) (z := -9) (dc_X7_behind_0.2.2.1.1) (by decide) ?_
    refine sg_goto (pc := 19) (tgt := 41) (dc_X7_behind_0.2.2.1.2) (by decide) ?_
    refine sg_iret (pc := 41) (dc_X7_behind_24.2.1.2.2) rfl (by first | exact Nat.le_of_ble_eq_true rfl | omega) (by first | exact Nat.le_of_ble_eq_true rfl | omega) ?_
    exact hQ _ _ (by assumption)

set_option maxRecDepth 100000 in
theorem s_X7_send {w : sg_W} {Q : sg_O → sg_H → Prop} {h : sg_H} (g : sg_G w) {d : Nat} (hd : 9 ≤ d) {M : Nat} {trk x : Int}  (hx : md_M w h M) (hQ : ∀ (v : Int) (h' : sg_H), md_Y w h h' M → Q (.inl (some (sg_i v))) h') : sg_C w mi_X7_send d 4 82 [sg_r M, sg_i trk, sg_i x] h Q := by
  refine sg_of pn_X7 (Nat.le_of_ble_eq_true rfl) ?_
  have y0 := md_Y0 hx
  have hk := hx.2.1
  refine sg_aload_n (pc := 0) (j := 0) (dc_X7_send_0.1.1.1.1) rfl rfl ?_
  refine sg_iload_n (pc := 1) (j := 1) (dc_X7_send_0.1.1.1.2) rfl rfl ?_
  refine sg_cS1 (pc := 2) (d' := d - 1) (mc' := 0) (ms' := 0) g (dc_X7_send_0.1.1.2.1) cb_X7_isNoTrack ml_X7_129 ms_X7_isNoTrack (Nat.le_of_ble_eq_true rfl) (by first | exact jl_d0 hd rfl | omega) (by first | exact Nat.le_of_ble_eq_true rfl | omega) (by first | exact Nat.le_of_ble_eq_true rfl | omega) ?_
  refine s_X7_isNoTrack g (by first | exact jl_d1 hd rfl | omega) (fun z2 h2 b2 => sg_K1 ?_)
  (try simp only [fm_no, fm_one, fn_betw, fn_sign, fn_radix, fn_high, fn_low] at h2)
  refine sg_iconst (pc := 5) (z := 1) (dc_X7_send_0.1.1.2.2) (by decide) ?_
  refine sg_cE2 (pc := 6) (d' := d - 1) (mc' := 0) (ms' := 0) 8 g (dc_X7_send_0.1.2.1.1) cb_X7_start ml_X7_71 mn_X7_start rfl mv_X7_start (Nat.le_of_ble_eq_true rfl) (md_oc (by assumption)) (Nat.le_of_ble_eq_true rfl) (by first | exact jl_d0 hd rfl | omega) (by first | exact Nat.le_of_ble_eq_true rfl | omega) (by first | exact Nat.le_of_ble_eq_true rfl | omega) ?_
  refine s_X7_start g (by first | exact jl_d1 hd rfl | omega) (by omega) (by assumption) (fun v6 h6 b6 i6 t6 s6 u6 y6 => sg_K1 ?_)
  have x6 := y6.1
  have hk6 := x6.2.1
  have y6 := md_Yt (h0 := h) (by assumption) y6
  refine sg_if_ne (pc := 9) (tgt := 35) (dc_X7_send_0.1.2.1.2) (by decide) (fun c9 => ?_) (fun c9 => ?_)
  · refine sg_iconst (pc := 35) (z := 0) (dc_X7_send_29.1.1.2.1) (by decide) ?_
    refine sg_goto (pc := 36) (tgt := 48) (dc_X7_send_29.1.1.2.2) (by decide) ?_
    refine sg_iret (pc := 48) (dc_X7_send_29.2.1.1.2) rfl (by first | exact Nat.le_of_ble_eq_true rfl | omega) (by first | exact Nat.le_of_ble_eq_true rfl | omega) ?_
    exact hQ _ _ (by assumption)
  · refine sg_aload_n (pc := 12) (j := 0) (dc_X7_send_0.1.2.2.1) rfl rfl ?_
    refine sg_iload_n (pc := 13) (j := 2) (dc_X7_send_0.1.2.2.2) rfl rfl ?_
    refine sg_iconst (pc := 14) (z := 0) (dc_X7_send_0.2.1.1.1) (by decide) ?_
    refine sg_ldc (pc := 15) (z := 1114111) g (dc_X7_send_0.2.1.1.2) cn_X7_132 (by decide) ?_
    refine sg_cS3 (pc := 17) (d' := d - 1) (mc' := 0) (ms' := 0) g (dc_X7_send_0.2.1.2.1) cb_X7_isOf ml_X7_22 ms_X7_isOf (Nat.le_of_ble_eq_true rfl) (by first | exact jl_d0 hd rfl | omega) (by first | exact Nat.le_of_ble_eq_true rfl | omega) (by first | exact Nat.le_of_ble_eq_true rfl | omega) ?_
    refine s_X7_isOf g (by first | exact jl_d1 hd rfl | omega) (fun z17 h17 b17 => sg_K1 ?_)
    (try simp only [fm_no, fm_one, fn_betw, fn_sign, fn_radix, fn_high, fn_low] at h17)
    refine sg_if_ne (pc := 20) (tgt := 27) (dc_X7_send_0.2.1.2.2) (by decide) (fun c20 => ?_) (fun c20 => ?_)
    · refine sg_iconst (pc := 27) (z := 0) (dc_X7_send_0.2.2.2.1) (by decide) ?_
      refine sg_iconst (pc := 28) (z := 2) (dc_X7_send_0.2.2.2.2) (by decide) ?_
      refine sg_cE2 (pc := 29) (d' := d - 1) (mc' := 0) (ms' := 0) 8 g (dc_X7_send_29.1.1.1.1) cb_X7_refuse ml_X7_45 mn_X7_refuse rfl mv_X7_refuse (Nat.le_of_ble_eq_true rfl) (md_oc (by assumption)) (Nat.le_of_ble_eq_true rfl) (by first | exact jl_d0 hd rfl | omega) (by first | exact Nat.le_of_ble_eq_true rfl | omega) (by first | exact Nat.le_of_ble_eq_true rfl | omega) ?_
      refine s_X7_refuse g (by first | exact jl_d1 hd rfl | omega) (by omega) (by assumption) (fun v29 h29 b29 i29 t29 s29 u29 y29 => sg_K1 ?_)
      have x29 := y29.1
      have hk29 := x29.2.1
      have y29 := md_Yt (h0 := h) (by assumption) y29
      refine sg_if_eq (pc := 32) (tgt := 39) (dc_X7_send_29.1.1.1.2) (by decide) (fun c32 => ?_) (fun c32 => ?_)
      · refine sg_aload_n (pc := 39) (j := 0) (dc_X7_send_29.1.2.1.1) rfl rfl ?_
        refine sg_iload_n (pc := 40) (j := 1) (dc_X7_send_29.1.2.1.2) rfl rfl ?_
        refine sg_iload_n (pc := 41) (j := 2) (dc_X7_send_29.1.2.2.1) rfl rfl ?_
        refine sg_cS1 (pc := 42) (d' := d - 1) (mc' := 1) (ms' := 2) g (dc_X7_send_29.1.2.2.2) cb_X7_sent ml_X7_133 ms_X7_sent (Nat.le_of_ble_eq_true rfl) (by first | exact jl_d0 hd rfl | omega) (by first | exact Nat.le_of_ble_eq_true rfl | omega) (by first | exact Nat.le_of_ble_eq_true rfl | omega) ?_
        refine s_X7_sent g (by first | exact jl_d1 hd rfl | omega) (by omega) (fun h42 m42 l42 u42 o42 w42 t42 fa42 fb42 => sg_K1 ?_)
        have x42 : md_M w h42 M := md_ME (by assumption) (md_TE t42)
        have hk42 := x42.2.1
        have y42 : md_Y w h h42 M := md_YE (by assumption) (md_TE t42)
        refine sg_cE2 (pc := 45) (d' := d - 1) (mc' := 3) (ms' := 80) 8 g (dc_X7_send_29.2.1.1.1) cb_X7_behind ml_X7_137 mn_X7_behind rfl mv_X7_behind (Nat.le_of_ble_eq_true rfl) (md_oc (by assumption)) (Nat.le_of_ble_eq_true rfl) (by first | exact jl_d0 hd rfl | omega) (by first | exact Nat.le_of_ble_eq_true rfl | omega) (by first | exact Nat.le_of_ble_eq_true rfl | omega) ?_
        refine s_X7_behind g (by first | exact jl_d1 hd rfl | omega) (by omega) t42.2.2 (by omega) (by assumption) (fun v45 h45 y45 => sg_K1 ?_)
        have x45 := y45.1
        have hk45 := x45.2.1
        have y45 := md_Yt (h0 := h) (by assumption) y45
        refine sg_iret (pc := 48) (dc_X7_send_29.2.1.1.2) rfl (by first | exact Nat.le_of_ble_eq_true rfl | omega) (by first | exact Nat.le_of_ble_eq_true rfl | omega) ?_
        exact hQ _ _ (by assumption)
      · refine sg_iconst (pc := 35) (z := 0) (dc_X7_send_29.1.1.2.1) (by decide) ?_
        refine sg_goto (pc := 36) (tgt := 48) (dc_X7_send_29.1.1.2.2) (by decide) ?_
        refine sg_iret (pc := 48) (dc_X7_send_29.2.1.1.2) rfl (by first | exact Nat.le_of_ble_eq_true rfl | omega) (by first | exact Nat.le_of_ble_eq_true rfl | omega) ?_
        exact hQ _ _ (by assumption)
    · refine sg_iconst (pc := 23) (z := 1) (dc_X7_send_0.2.2.1.1) (by decide) ?_
      refine sg_goto (pc := 24) (tgt := 28) (dc_X7_send_0.2.2.1.2) (by decide) ?_
      refine sg_iconst (pc := 28) (z := 2) (dc_X7_send_0.2.2.2.2) (by decide) ?_
      refine sg_cE2 (pc := 29) (d' := d - 1) (mc' := 0) (ms' := 0) 8 g (dc_X7_send_29.1.1.1.1) cb_X7_refuse ml_X7_45 mn_X7_refuse rfl mv_X7_refuse (Nat.le_of_ble_eq_true rfl) (md_oc (by assumption)) (Nat.le_of_ble_eq_true rfl) (by first | exact jl_d0 hd rfl | omega) (by first | exact Nat.le_of_ble_eq_true rfl | omega) (by first | exact Nat.le_of_ble_eq_true rfl | omega) ?_
      refine s_X7_refuse g (by first | exact jl_d1 hd rfl | omega) (by omega) (by assumption) (fun v29 h29 b29 i29 t29 s29 u29 y29 => sg_K1 ?_)
      have x29 := y29.1
      have hk29 := x29.2.1
      have y29 := md_Yt (h0 := h) (by assumption) y29
      refine sg_if_eq (pc := 32) (tgt := 39) (dc_X7_send_29.1.1.1.2) (by decide) (fun c32 => absurd c32 (by omega)) (fun c32 => ?_)
      refine sg_iconst (pc := 35) (z := 0) (dc_X7_send_29.1.1.2.1) (by decide) ?_
      refine sg_goto (pc := 36) (tgt := 48) (dc_X7_send_29.1.1.2.2) (by decide) ?_
      refine sg_iret (pc := 48) (dc_X7_send_29.2.1.1.2) rfl (by first | exact Nat.le_of_ble_eq_true rfl | omega) (by first | exact Nat.le_of_ble_eq_true rfl | omega) ?_
      exact hQ _ _ (by assumption)

set_option maxRecDepth 100000 in
theorem s_X7_put {w : sg_W} {Q : sg_O → sg_H → Prop} {h : sg_H} (g : sg_G w) {d : Nat} (hd : 9 ≤ d) {M : Nat} {trk x : Int}  (hx : md_M w h M) (hQ : ∀ (v : Int) (h' : sg_H), md_Y w h h' M → Q (.inl (some (sg_i v))) h') : sg_C w mi_X7_put d 4 81 [sg_r M, sg_i trk, sg_i x] h Q := by
  refine sg_of pn_X7 (Nat.le_of_ble_eq_true rfl) ?_
  have y0 := md_Y0 hx
  have hk := hx.2.1
  refine sg_aload_n (pc := 0) (j := 0) (dc_X7_put_0.1.1.1.1) rfl rfl ?_
  refine sg_iload_n (pc := 1) (j := 1) (dc_X7_put_0.1.1.1.2) rfl rfl ?_
  refine sg_cS1 (pc := 2) (d' := d - 1) (mc' := 0) (ms' := 0) g (dc_X7_put_0.1.1.2.1) cb_X7_isNoTrack ml_X7_129 ms_X7_isNoTrack (Nat.le_of_ble_eq_true rfl) (by first | exact jl_d0 hd rfl | omega) (by first | exact Nat.le_of_ble_eq_true rfl | omega) (by first | exact Nat.le_of_ble_eq_true rfl | omega) ?_
  refine s_X7_isNoTrack g (by first | exact jl_d1 hd rfl | omega) (fun z2 h2 b2 => sg_K1 ?_)
  (try simp only [fm_no, fm_one, fn_betw, fn_sign, fn_radix, fn_high, fn_low] at h2)
  refine sg_iconst (pc := 5) (z := 1) (dc_X7_put_0.1.1.2.2) (by decide) ?_
  refine sg_cE2 (pc := 6) (d' := d - 1) (mc' := 0) (ms' := 0) 8 g (dc_X7_put_0.1.2.1.1) cb_X7_start ml_X7_71 mn_X7_start rfl mv_X7_start (Nat.le_of_ble_eq_true rfl) (md_oc (by assumption)) (Nat.le_of_ble_eq_true rfl) (by first | exact jl_d0 hd rfl | omega) (by first | exact Nat.le_of_ble_eq_true rfl | omega) (by first | exact Nat.le_of_ble_eq_true rfl | omega) ?_
  refine s_X7_start g (by first | exact jl_d1 hd rfl | omega) (by omega) (by assumption) (fun v6 h6 b6 i6 t6 s6 u6 y6 => sg_K1 ?_)
  have x6 := y6.1
  have hk6 := x6.2.1
  have y6 := md_Yt (h0 := h) (by assumption) y6
  refine sg_if_ne (pc := 9) (tgt := 35) (dc_X7_put_0.1.2.1.2) (by decide) (fun c9 => ?_) (fun c9 => ?_)
  · refine sg_iconst (pc := 35) (z := 0) (dc_X7_put_29.1.1.2.1) (by decide) ?_
    refine sg_goto (pc := 36) (tgt := 51) (dc_X7_put_29.1.1.2.2) (by decide) ?_
    refine sg_iret (pc := 51) (dc_X7_put_29.2.2.1.2) rfl (by first | exact Nat.le_of_ble_eq_true rfl | omega) (by first | exact Nat.le_of_ble_eq_true rfl | omega) ?_
    exact hQ _ _ (by assumption)
  · refine sg_aload_n (pc := 12) (j := 0) (dc_X7_put_0.1.2.2.1) rfl rfl ?_
    refine sg_iload_n (pc := 13) (j := 2) (dc_X7_put_0.1.2.2.2) rfl rfl ?_
    refine sg_iconst (pc := 14) (z := 0) (dc_X7_put_0.2.1.1.1) (by decide) ?_
    refine sg_ldc (pc := 15) (z := 65535) g (dc_X7_put_0.2.1.1.2) cn_X7_140 (by decide) ?_
    refine sg_cS3 (pc := 17) (d' := d - 1) (mc' := 0) (ms' := 0) g (dc_X7_put_0.2.1.2.1) cb_X7_isOf ml_X7_22 ms_X7_isOf (Nat.le_of_ble_eq_true rfl) (by first | exact jl_d0 hd rfl | omega) (by first | exact Nat.le_of_ble_eq_true rfl | omega) (by first | exact Nat.le_of_ble_eq_true rfl | omega) ?_
    refine s_X7_isOf g (by first | exact jl_d1 hd rfl | omega) (fun z17 h17 b17 => sg_K1 ?_)
    (try simp only [fm_no, fm_one, fn_betw, fn_sign, fn_radix, fn_high, fn_low] at h17)
    refine sg_if_ne (pc := 20) (tgt := 27) (dc_X7_put_0.2.1.2.2) (by decide) (fun c20 => ?_) (fun c20 => ?_)
    · refine sg_iconst (pc := 27) (z := 0) (dc_X7_put_0.2.2.2.1) (by decide) ?_
      refine sg_iconst (pc := 28) (z := 2) (dc_X7_put_0.2.2.2.2) (by decide) ?_
      refine sg_cE2 (pc := 29) (d' := d - 1) (mc' := 0) (ms' := 0) 8 g (dc_X7_put_29.1.1.1.1) cb_X7_refuse ml_X7_45 mn_X7_refuse rfl mv_X7_refuse (Nat.le_of_ble_eq_true rfl) (md_oc (by assumption)) (Nat.le_of_ble_eq_true rfl) (by first | exact jl_d0 hd rfl | omega) (by first | exact Nat.le_of_ble_eq_true rfl | omega) (by first | exact Nat.le_of_ble_eq_true rfl | omega) ?_
      refine s_X7_refuse g (by first | exact jl_d1 hd rfl | omega) (by omega) (by assumption) (fun v29 h29 b29 i29 t29 s29 u29 y29 => sg_K1 ?_)
      have x29 := y29.1
      have hk29 := x29.2.1
      have y29 := md_Yt (h0 := h) (by assumption) y29
      refine sg_if_eq (pc := 32) (tgt := 39) (dc_X7_put_29.1.1.1.2) (by decide) (fun c32 => ?_) (fun c32 => ?_)
      · refine sg_aload_n (pc := 39) (j := 0) (dc_X7_put_29.1.2.1.1) rfl rfl ?_
        refine sg_iload_n (pc := 40) (j := 1) (dc_X7_put_29.1.2.1.2) rfl rfl ?_
        refine sg_iconst (pc := 41) (z := 1) (dc_X7_put_29.1.2.2.1) (by decide) ?_
        refine sg_newa (t := 100) (N := 1) (pc := 42) g (dc_X7_put_29.1.2.2.2) ac_int rfl (by decide) (by decide) rfl rfl (by decide) (by omega) (by omega) (by omega) (by omega) ?_
        refine sg_dup (pc := 44) (dc_X7_put_29.2.1.1.1) rfl ?_
        refine sg_iconst (pc := 45) (z := 0) (dc_X7_put_29.2.1.1.2) (by decide) ?_
        refine sg_iload_n (pc := 46) (j := 2) (dc_X7_put_29.2.1.2.1) rfl rfl ?_
        refine md_ast (pc := 47) (dc_X7_put_29.2.1.2.2) (md_new (c := 1)) (by rw [ck_v1]; omega) (by omega) (by omega) (fun h47 t47 => ?_)
        have x47 : md_M w h47 M := md_ME (by assumption) (md_TE t47)
        have hk47 := x47.2.1
        have y47 : md_Y w h h47 M := md_YE (by assumption) (md_TE t47)
        refine sg_cE2 (pc := 48) (d' := d - 1) (mc' := 3) (ms' := 80) 8 g (dc_X7_put_29.2.2.1.1) cb_X7_behind ml_X7_137 mn_X7_behind rfl mv_X7_behind (Nat.le_of_ble_eq_true rfl) (md_oc (by assumption)) (Nat.le_of_ble_eq_true rfl) (by first | exact jl_d0 hd rfl | omega) (by first | exact Nat.le_of_ble_eq_true rfl | omega) (by first | exact Nat.le_of_ble_eq_true rfl | omega) ?_
        refine s_X7_behind g (by first | exact jl_d1 hd rfl | omega) (by omega) t47.2.2 (by omega) (by assumption) (fun v48 h48 y48 => sg_K1 ?_)
        have x48 := y48.1
        have hk48 := x48.2.1
        have y48 := md_Yt (h0 := h) (by assumption) y48
        refine sg_iret (pc := 51) (dc_X7_put_29.2.2.1.2) rfl (by first | exact Nat.le_of_ble_eq_true rfl | omega) (by first | exact Nat.le_of_ble_eq_true rfl | omega) ?_
        exact hQ _ _ (by assumption)
      · refine sg_iconst (pc := 35) (z := 0) (dc_X7_put_29.1.1.2.1) (by decide) ?_
        refine sg_goto (pc := 36) (tgt := 51) (dc_X7_put_29.1.1.2.2) (by decide) ?_
        refine sg_iret (pc := 51) (dc_X7_put_29.2.2.1.2) rfl (by first | exact Nat.le_of_ble_eq_true rfl | omega) (by first | exact Nat.le_of_ble_eq_true rfl | omega) ?_
        exact hQ _ _ (by assumption)
    · refine sg_iconst (pc := 23) (z := 1) (dc_X7_put_0.2.2.1.1) (by decide) ?_
      refine sg_goto (pc := 24) (tgt := 28) (dc_X7_put_0.2.2.1.2) (by decide) ?_
      refine sg_iconst (pc := 28) (z := 2) (dc_X7_put_0.2.2.2.2) (by decide) ?_
      refine sg_cE2 (pc := 29) (d' := d - 1) (mc' := 0) (ms' := 0) 8 g (dc_X7_put_29.1.1.1.1) cb_X7_refuse ml_X7_45 mn_X7_refuse rfl mv_X7_refuse (Nat.le_of_ble_eq_true rfl) (md_oc (by assumption)) (Nat.le_of_ble_eq_true rfl) (by first | exact jl_d0 hd rfl | omega) (by first | exact Nat.le_of_ble_eq_true rfl | omega) (by first | exact Nat.le_of_ble_eq_true rfl | omega) ?_
      refine s_X7_refuse g (by first | exact jl_d1 hd rfl | omega) (by omega) (by assumption) (fun v29 h29 b29 i29 t29 s29 u29 y29 => sg_K1 ?_)
      have x29 := y29.1
      have hk29 := x29.2.1
      have y29 := md_Yt (h0 := h) (by assumption) y29
      refine sg_if_eq (pc := 32) (tgt := 39) (dc_X7_put_29.1.1.1.2) (by decide) (fun c32 => absurd c32 (by omega)) (fun c32 => ?_)
      refine sg_iconst (pc := 35) (z := 0) (dc_X7_put_29.1.1.2.1) (by decide) ?_
      refine sg_goto (pc := 36) (tgt := 51) (dc_X7_put_29.1.1.2.2) (by decide) ?_
      refine sg_iret (pc := 51) (dc_X7_put_29.2.2.1.2) rfl (by first | exact Nat.le_of_ble_eq_true rfl | omega) (by first | exact Nat.le_of_ble_eq_true rfl | omega) ?_
      exact hQ _ _ (by assumption)

set_option maxRecDepth 100000 in
theorem s_X7_cut {w : sg_W} {Q : sg_O → sg_H → Prop} {h : sg_H} (g : sg_G w) {d : Nat} (hd : 9 ≤ d) {M : Nat} {trk many : Int}  (hx : md_M w h M) (hQ : ∀ (v : Int) (h' : sg_H), md_Y w h h' M → Q (.inl (some (sg_i v))) h') : sg_C w mi_X7_cut d 3 56 [sg_r M, sg_i trk, sg_i many] h Q := by
  refine sg_of pn_X7 (Nat.le_of_ble_eq_true rfl) ?_
  have y0 := md_Y0 hx
  have hk := hx.2.1
  refine sg_aload_n (pc := 0) (j := 0) (dc_X7_cut_0.1.1.1.1) rfl rfl ?_
  refine sg_iload_n (pc := 1) (j := 1) (dc_X7_cut_0.1.1.1.2) rfl rfl ?_
  refine sg_cS1 (pc := 2) (d' := d - 1) (mc' := 0) (ms' := 0) g (dc_X7_cut_0.1.1.2.1) cb_X7_isNoTrack ml_X7_129 ms_X7_isNoTrack (Nat.le_of_ble_eq_true rfl) (by first | exact jl_d0 hd rfl | omega) (by first | exact Nat.le_of_ble_eq_true rfl | omega) (by first | exact Nat.le_of_ble_eq_true rfl | omega) ?_
  refine s_X7_isNoTrack g (by first | exact jl_d1 hd rfl | omega) (fun z2 h2 b2 => sg_K1 ?_)
  (try simp only [fm_no, fm_one, fn_betw, fn_sign, fn_radix, fn_high, fn_low] at h2)
  refine sg_iconst (pc := 5) (z := 1) (dc_X7_cut_0.1.1.2.2) (by decide) ?_
  refine sg_cE2 (pc := 6) (d' := d - 1) (mc' := 0) (ms' := 0) 8 g (dc_X7_cut_0.1.2.1.1) cb_X7_start ml_X7_71 mn_X7_start rfl mv_X7_start (Nat.le_of_ble_eq_true rfl) (md_oc (by assumption)) (Nat.le_of_ble_eq_true rfl) (by first | exact jl_d0 hd rfl | omega) (by first | exact Nat.le_of_ble_eq_true rfl | omega) (by first | exact Nat.le_of_ble_eq_true rfl | omega) ?_
  refine s_X7_start g (by first | exact jl_d1 hd rfl | omega) (by omega) (by assumption) (fun v6 h6 b6 i6 t6 s6 u6 y6 => sg_K1 ?_)
  have x6 := y6.1
  have hk6 := x6.2.1
  have y6 := md_Yt (h0 := h) (by assumption) y6
  refine sg_if_ne (pc := 9) (tgt := 42) (dc_X7_cut_0.1.2.1.2) (by decide) (fun c9 => ?_) (fun c9 => ?_)
  · refine sg_iconst (pc := 42) (z := 0) (dc_X7_cut_24.2.1.1.1) (by decide) ?_
    refine sg_goto (pc := 43) (tgt := 76) (dc_X7_cut_24.2.1.1.2) (by decide) ?_
    refine sg_iret (pc := 76) dc_X7_cut_76 rfl (by first | exact Nat.le_of_ble_eq_true rfl | omega) (by first | exact Nat.le_of_ble_eq_true rfl | omega) ?_
    exact hQ _ _ (by assumption)
  · refine sg_aload_n (pc := 12) (j := 0) (dc_X7_cut_0.1.2.2.1) rfl rfl ?_
    refine sg_iload_n (pc := 13) (j := 2) (dc_X7_cut_0.1.2.2.2) rfl rfl ?_
    refine sg_iconst (pc := 14) (z := 0) (dc_X7_cut_0.2.1.1.1) (by decide) ?_
    refine sg_aload_n (pc := 15) (j := 0) (dc_X7_cut_0.2.1.1.2) rfl rfl ?_
    refine md_grw (pc := 16) g (dc_X7_cut_0.2.1.2.1) fk_X7_9 (by assumption) (fun r16 => ?_)
    refine sg_iconst (pc := 19) (z := 4) (dc_X7_cut_0.2.1.2.2) (by decide) ?_
    refine sg_iload_n (pc := 20) (j := 1) (dc_X7_cut_0.2.2.1.1) rfl rfl ?_
    first | refine sg_iaddB (pc := 21) (dc_X7_cut_0.2.2.1.2) (by omega) (by omega) ?_ | refine sg_iadd (pc := 21) (dc_X7_cut_0.2.2.1.2) ?_
    first | refine md_alr (pc := 22) (dc_X7_cut_0.2.2.2.1) (by assumption) (by omega) (by omega) (fun A22 l22 => ?_) | refine md_alt (pc := 22) (dc_X7_cut_0.2.2.2.1) (by assumption) (by omega) (by omega) (fun A22 l22 => ?_)
    refine md_len (pc := 23) (dc_X7_cut_0.2.2.2.2) (by assumption) (by omega) ?_
    refine sg_cS3 (pc := 24) (d' := d - 1) (mc' := 0) (ms' := 0) g (dc_X7_cut_24.1.1.1.1) cb_X7_isOf ml_X7_22 ms_X7_isOf (Nat.le_of_ble_eq_true rfl) (by first | exact jl_d0 hd rfl | omega) (by first | exact Nat.le_of_ble_eq_true rfl | omega) (by first | exact Nat.le_of_ble_eq_true rfl | omega) ?_
    refine s_X7_isOf g (by first | exact jl_d1 hd rfl | omega) (fun z24 h24 b24 => sg_K1 ?_)
    (try simp only [fm_no, fm_one, fn_betw, fn_sign, fn_radix, fn_high, fn_low] at h24)
    refine sg_if_ne (pc := 27) (tgt := 34) (dc_X7_cut_24.1.1.1.2) (by decide) (fun c27 => ?_) (fun c27 => ?_)
    · refine sg_iconst (pc := 34) (z := 0) (dc_X7_cut_24.1.2.1.1) (by decide) ?_
      refine sg_iconst (pc := 35) (z := 2) (dc_X7_cut_24.1.2.1.2) (by decide) ?_
      refine sg_cE2 (pc := 36) (d' := d - 1) (mc' := 0) (ms' := 0) 8 g (dc_X7_cut_24.1.2.2.1) cb_X7_refuse ml_X7_45 mn_X7_refuse rfl mv_X7_refuse (Nat.le_of_ble_eq_true rfl) (md_oc (by assumption)) (Nat.le_of_ble_eq_true rfl) (by first | exact jl_d0 hd rfl | omega) (by first | exact Nat.le_of_ble_eq_true rfl | omega) (by first | exact Nat.le_of_ble_eq_true rfl | omega) ?_
      refine s_X7_refuse g (by first | exact jl_d1 hd rfl | omega) (by omega) (by assumption) (fun v36 h36 b36 i36 t36 s36 u36 y36 => sg_K1 ?_)
      have x36 := y36.1
      have hk36 := x36.2.1
      have y36 := md_Yt (h0 := h) (by assumption) y36
      refine sg_if_eq (pc := 39) (tgt := 46) (dc_X7_cut_24.1.2.2.2) (by decide) (fun c39 => ?_) (fun c39 => ?_)
      · have s46 := s36 (4 + trk)
        refine sg_aload_n (pc := 46) (j := 0) (dc_X7_cut_24.2.1.2.1) rfl rfl ?_
        refine sg_iconst (pc := 47) (z := 4) (dc_X7_cut_24.2.1.2.2) (by decide) ?_
        refine sg_iload_n (pc := 48) (j := 1) (dc_X7_cut_24.2.2.1.1) rfl rfl ?_
        first | refine sg_iaddB (pc := 49) (dc_X7_cut_24.2.2.1.2) (by omega) (by omega) ?_ | refine sg_iadd (pc := 49) (dc_X7_cut_24.2.2.1.2) ?_
        refine sg_aload_n (pc := 50) (j := 0) (dc_X7_cut_24.2.2.2.1) rfl rfl ?_
        refine md_grw (pc := 51) g (dc_X7_cut_24.2.2.2.2) fk_X7_9 (by assumption) (fun r51 => ?_)
        refine sg_iconst (pc := 54) (z := 4) (dc_X7_cut_54.1.1.1.1) (by decide) ?_
        refine sg_iload_n (pc := 55) (j := 1) (dc_X7_cut_54.1.1.1.2) rfl rfl ?_
        first | refine sg_iaddB (pc := 56) (dc_X7_cut_54.1.1.2.1) (by omega) (by omega) ?_ | refine sg_iadd (pc := 56) (dc_X7_cut_54.1.1.2.1) ?_
        first | refine md_alr (pc := 57) (dc_X7_cut_54.1.1.2.2) (by assumption) (by omega) (by omega) (fun A57 l57 => ?_) | refine md_alt (pc := 57) (dc_X7_cut_54.1.1.2.2) (by assumption) (by omega) (by omega) (fun A57 l57 => ?_)
        refine sg_iconst (pc := 58) (z := 0) (dc_X7_cut_54.1.2.1.1) (by decide) ?_
        refine sg_aload_n (pc := 59) (j := 0) (dc_X7_cut_54.1.2.1.2) rfl rfl ?_
        refine md_grw (pc := 60) g (dc_X7_cut_54.1.2.2.1) fk_X7_9 (by assumption) (fun r60 => ?_)
        refine sg_iconst (pc := 63) (z := 4) (dc_X7_cut_54.1.2.2.2) (by decide) ?_
        refine sg_iload_n (pc := 64) (j := 1) (dc_X7_cut_54.2.1.1.1) rfl rfl ?_
        first | refine sg_iaddB (pc := 65) (dc_X7_cut_54.2.1.1.2) (by omega) (by omega) ?_ | refine sg_iadd (pc := 65) (dc_X7_cut_54.2.1.1.2) ?_
        first | refine md_alr (pc := 66) (dc_X7_cut_54.2.1.2.1) (by assumption) (by omega) (by omega) (fun A66 l66 => ?_) | refine md_alt (pc := 66) (dc_X7_cut_54.2.1.2.1) (by assumption) (by omega) (by omega) (fun A66 l66 => ?_)
        refine md_len (pc := 67) (dc_X7_cut_54.2.1.2.2) (by assumption) (by omega) ?_
        refine sg_iload_n (pc := 68) (j := 2) (dc_X7_cut_54.2.2.1.1) rfl rfl ?_
        first | refine sg_isubB (pc := 69) (dc_X7_cut_54.2.2.1.2) (by omega) (by omega) ?_ | refine sg_isub (pc := 69) (dc_X7_cut_54.2.2.1.2) ?_
        refine sg_cS3 (pc := 70) (d' := d - 1) (mc' := 1) (ms' := (((md_n h36 (md_a h36 (md_r h36 M) (4 + trk))) : Int) - many).toNat) g (dc_X7_cut_54.2.2.2.1) cb_X7_part ml_X7_82 ms_X7_part (Nat.le_of_ble_eq_true rfl) (by first | exact jl_d0 hd rfl | omega) (by first | exact Nat.le_of_ble_eq_true rfl | omega) (by first | exact Nat.le_of_ble_eq_true rfl | omega) ?_
        refine s_X7_part (c := 1) (m := (((md_n h36 (md_a h36 (md_r h36 M) (4 + trk))) : Int) - many).toNat) (n := (md_n h36 (md_a h36 (md_r h36 M) (4 + trk)))) g (by first | exact jl_d1 hd rfl | omega) (by first | assumption | (exfalso; omega)) (by omega) (by omega) (by omega) (by omega) (fun h70 t70 => sg_K1 ?_)
        have x70 : md_M w h70 M := md_ME (by assumption) (md_TE t70)
        have hk70 := x70.2.1
        have y70 : md_Y w h h70 M := md_YE (by assumption) (md_TE t70)
        refine sg_cE2 (pc := 73) (d' := d - 1) (mc' := 2) (ms' := 16) 8 g (dc_X7_cut_54.2.2.2.2) cb_X7_set ml_X7_78 mn_X7_set rfl mv_X7_set (Nat.le_of_ble_eq_true rfl) (md_oc (by assumption)) (Nat.le_of_ble_eq_true rfl) (by first | exact jl_d0 hd rfl | omega) (by first | exact Nat.le_of_ble_eq_true rfl | omega) (by first | exact Nat.le_of_ble_eq_true rfl | omega) ?_
        refine s_X7_set g (by first | exact jl_d1 hd rfl | omega) (by omega) (by assumption) (fun q => absurd q (by omega)) (fun q => ⟨t70.2.2, (by omega)⟩) (fun h73 y73 => sg_K1 ?_)
        have x73 := y73.1
        have hk73 := x73.2.1
        have y73 := md_Yt (h0 := h) (by assumption) y73
        refine sg_iret (pc := 76) dc_X7_cut_76 rfl (by first | exact Nat.le_of_ble_eq_true rfl | omega) (by first | exact Nat.le_of_ble_eq_true rfl | omega) ?_
        exact hQ _ _ (by assumption)
      · refine sg_iconst (pc := 42) (z := 0) (dc_X7_cut_24.2.1.1.1) (by decide) ?_
        refine sg_goto (pc := 43) (tgt := 76) (dc_X7_cut_24.2.1.1.2) (by decide) ?_
        refine sg_iret (pc := 76) dc_X7_cut_76 rfl (by first | exact Nat.le_of_ble_eq_true rfl | omega) (by first | exact Nat.le_of_ble_eq_true rfl | omega) ?_
        exact hQ _ _ (by assumption)
    · refine sg_iconst (pc := 30) (z := 1) (dc_X7_cut_24.1.1.2.1) (by decide) ?_
      refine sg_goto (pc := 31) (tgt := 35) (dc_X7_cut_24.1.1.2.2) (by decide) ?_
      refine sg_iconst (pc := 35) (z := 2) (dc_X7_cut_24.1.2.1.2) (by decide) ?_
      refine sg_cE2 (pc := 36) (d' := d - 1) (mc' := 0) (ms' := 0) 8 g (dc_X7_cut_24.1.2.2.1) cb_X7_refuse ml_X7_45 mn_X7_refuse rfl mv_X7_refuse (Nat.le_of_ble_eq_true rfl) (md_oc (by assumption)) (Nat.le_of_ble_eq_true rfl) (by first | exact jl_d0 hd rfl | omega) (by first | exact Nat.le_of_ble_eq_true rfl | omega) (by first | exact Nat.le_of_ble_eq_true rfl | omega) ?_
      refine s_X7_refuse g (by first | exact jl_d1 hd rfl | omega) (by omega) (by assumption) (fun v36 h36 b36 i36 t36 s36 u36 y36 => sg_K1 ?_)
      have x36 := y36.1
      have hk36 := x36.2.1
      have y36 := md_Yt (h0 := h) (by assumption) y36
      refine sg_if_eq (pc := 39) (tgt := 46) (dc_X7_cut_24.1.2.2.2) (by decide) (fun c39 => absurd c39 (by omega)) (fun c39 => ?_)
      refine sg_iconst (pc := 42) (z := 0) (dc_X7_cut_24.2.1.1.1) (by decide) ?_
      refine sg_goto (pc := 43) (tgt := 76) (dc_X7_cut_24.2.1.1.2) (by decide) ?_
      refine sg_iret (pc := 76) dc_X7_cut_76 rfl (by first | exact Nat.le_of_ble_eq_true rfl | omega) (by first | exact Nat.le_of_ble_eq_true rfl | omega) ?_
      exact hQ _ _ (by assumption)

set_option maxRecDepth 100000 in
theorem s_X7_flip {w : sg_W} {Q : sg_O → sg_H → Prop} {h : sg_H} (g : sg_G w) {d : Nat} (hd : 9 ≤ d) {M : Nat} {trk : Int}  (hx : md_M w h M) (hQ : ∀ (v : Int) (h' : sg_H), md_Y w h h' M → Q (.inl (some (sg_i v))) h') : sg_C w mi_X7_flip d 3 56 [sg_r M, sg_i trk] h Q := by
  refine sg_of pn_X7 (Nat.le_of_ble_eq_true rfl) ?_
  have y0 := md_Y0 hx
  have hk := hx.2.1
  refine sg_aload_n (pc := 0) (j := 0) (dc_X7_flip_0.1.1.1.1) rfl rfl ?_
  refine sg_iload_n (pc := 1) (j := 1) (dc_X7_flip_0.1.1.1.2) rfl rfl ?_
  refine sg_cS1 (pc := 2) (d' := d - 1) (mc' := 0) (ms' := 0) g (dc_X7_flip_0.1.1.2.1) cb_X7_isNoTrack ml_X7_129 ms_X7_isNoTrack (Nat.le_of_ble_eq_true rfl) (by first | exact jl_d0 hd rfl | omega) (by first | exact Nat.le_of_ble_eq_true rfl | omega) (by first | exact Nat.le_of_ble_eq_true rfl | omega) ?_
  refine s_X7_isNoTrack g (by first | exact jl_d1 hd rfl | omega) (fun z2 h2 b2 => sg_K1 ?_)
  (try simp only [fm_no, fm_one, fn_betw, fn_sign, fn_radix, fn_high, fn_low] at h2)
  refine sg_iconst (pc := 5) (z := 1) (dc_X7_flip_0.1.1.2.2) (by decide) ?_
  refine sg_cE2 (pc := 6) (d' := d - 1) (mc' := 0) (ms' := 0) 8 g (dc_X7_flip_0.1.2.1.1) cb_X7_start ml_X7_71 mn_X7_start rfl mv_X7_start (Nat.le_of_ble_eq_true rfl) (md_oc (by assumption)) (Nat.le_of_ble_eq_true rfl) (by first | exact jl_d0 hd rfl | omega) (by first | exact Nat.le_of_ble_eq_true rfl | omega) (by first | exact Nat.le_of_ble_eq_true rfl | omega) ?_
  refine s_X7_start g (by first | exact jl_d1 hd rfl | omega) (by omega) (by assumption) (fun v6 h6 b6 i6 t6 s6 u6 y6 => sg_K1 ?_)
  have x6 := y6.1
  have hk6 := x6.2.1
  have y6 := md_Yt (h0 := h) (by assumption) y6
  refine sg_if_eq (pc := 9) (tgt := 14) (dc_X7_flip_0.1.2.1.2) (by decide) (fun c9 => ?_) (fun c9 => ?_)
  · refine sg_aload_n (pc := 14) (j := 0) (dc_X7_flip_0.2.1.1.1) rfl rfl ?_
    refine md_grw (pc := 15) g (dc_X7_flip_0.2.1.1.2) fk_X7_9 (by assumption) (fun r15 => ?_)
    refine sg_iconst (pc := 18) (z := 4) (dc_X7_flip_0.2.1.2.1) (by decide) ?_
    refine sg_iload_n (pc := 19) (j := 1) (dc_X7_flip_0.2.1.2.2) rfl rfl ?_
    first | refine sg_iaddB (pc := 20) (dc_X7_flip_0.2.2.1.1) (by omega) (by omega) ?_ | refine sg_iadd (pc := 20) (dc_X7_flip_0.2.2.1.1) ?_
    first | refine md_alr (pc := 21) (dc_X7_flip_0.2.2.1.2) (by assumption) (by omega) (by omega) (fun A21 l21 => ?_) | refine md_alt (pc := 21) (dc_X7_flip_0.2.2.1.2) (by assumption) (by omega) (by omega) (fun A21 l21 => ?_)
    refine md_len (pc := 22) (dc_X7_flip_0.2.2.2.1) (by assumption) (by omega) ?_
    refine sg_newa (t := 100) (N := (md_n h6 (md_a h6 (md_r h6 M) (4 + trk)))) (pc := 23) g (dc_X7_flip_0.2.2.2.2) ac_int rfl (by decide) (by decide) rfl rfl (by decide) (by omega) (by omega) (by omega) (by omega) ?_
    refine sg_astore_n (pc := 25) (j := 2) (dc_X7_flip_25.1.1.1.1) rfl (by decide) ?_
    refine sg_iconst (pc := 26) (z := 0) (dc_X7_flip_25.1.1.1.2) (by decide) ?_
    refine sg_istore_n (pc := 27) (j := 3) (dc_X7_flip_25.1.1.2.1) rfl (by decide) ?_
    refine sg_iconst (pc := 28) (z := 0) (dc_X7_flip_25.1.1.2.2) (by decide) ?_
    refine sg_istore (pc := 29) (dc_X7_flip_25.1.2.1.1) (by decide) ?_
    have loop31 : ∀ (N : Nat) (h1 : sg_H) (p s : Int), md_T 1 h6 h1 (md_n h6 (md_a h6 (md_r h6 M) (4 + trk))) → 0 ≤ p → (((md_n h6 (md_a h6 (md_r h6 M) (4 + trk))) : Int) - p).toNat < N → sg_R w mi_X7_flip d 3 56 Q 31 [(4, sg_i p), (3, sg_i s), (0, sg_r M), (1, sg_i trk), (2, sg_r h6.1)] [] h1 1 (0 + (md_n h6 (md_a h6 (md_r h6 M) (4 + trk)))) := by
      intro N
      induction N with
      | zero => intro h1 p s t1 p0 hm; exact absurd hm (Nat.not_lt_zero _)
      | succ N ih =>
        intro h1 p s t1 p0 hm
        have x1 : md_M w h1 M := md_ME x6 (md_TE t1)
        have hk1 := x1.2.1
        have y1 : md_Y w h h1 M := md_YE y6 (md_TE t1)
        have s1 := md_SE x6 (md_TE t1) (i := 4 + trk) (by omega) (by omega)
        refine sg_iload (pc := 31) (dc_X7_flip_25.1.2.1.2) rfl ?_
        refine sg_aload_n (pc := 33) (j := 2) (dc_X7_flip_25.1.2.2.1) rfl rfl ?_
        refine md_len (pc := 34) (dc_X7_flip_25.1.2.2.2) t1.2.2 (by omega) ?_
        refine sg_icmp_ge (pc := 35) (tgt := 75) (dc_X7_flip_25.2.1.1.1) (by decide) (fun c35 => ?_) (fun c35 => ?_)
        · refine sg_aload_n (pc := 75) (j := 0) (dc_X7_flip_48.2.2.2.2) rfl rfl ?_
          refine sg_iconst (pc := 76) (z := 4) (dc_X7_flip_76.1.1.1) (by decide) ?_
          refine sg_iload_n (pc := 77) (j := 1) (dc_X7_flip_76.1.1.2) rfl rfl ?_
          first | refine sg_iaddB (pc := 78) (dc_X7_flip_76.1.2.1) (by omega) (by omega) ?_ | refine sg_iadd (pc := 78) (dc_X7_flip_76.1.2.1) ?_
          refine sg_aload_n (pc := 79) (j := 2) (dc_X7_flip_76.1.2.2) rfl rfl ?_
          refine sg_cE2 (pc := 80) (d' := d - 1) (mc' := 2) (ms' := 16) 8 g (dc_X7_flip_76.2.1.1) cb_X7_set ml_X7_78 mn_X7_set rfl mv_X7_set (Nat.le_of_ble_eq_true rfl) (md_oc (by assumption)) (Nat.le_of_ble_eq_true rfl) (by first | exact jl_d0 hd rfl | omega) (by first | exact Nat.le_of_ble_eq_true rfl | omega) (by first | exact Nat.le_of_ble_eq_true rfl | omega) ?_
          refine s_X7_set g (by first | exact jl_d1 hd rfl | omega) (by omega) (by assumption) (fun q => absurd q (by omega)) (fun q => ⟨t1.2.2, (by omega)⟩) (fun h80 y80 => sg_K1 ?_)
          have x80 := y80.1
          have hk80 := x80.2.1
          have y80 := md_Yt (h0 := h) (by assumption) y80
          refine sg_pop (pc := 83) (dc_X7_flip_76.2.1.2) rfl ?_
          refine sg_iload_n (pc := 84) (j := 3) (dc_X7_flip_76.2.2.1) rfl rfl ?_
          refine sg_iret (pc := 85) (dc_X7_flip_76.2.2.2) rfl (by first | exact Nat.le_of_ble_eq_true rfl | omega) (by first | exact Nat.le_of_ble_eq_true rfl | omega) ?_
          exact hQ _ _ (by assumption)
        · refine sg_aload_n (pc := 38) (j := 2) (dc_X7_flip_25.2.1.1.2) rfl rfl ?_
          refine sg_iload (pc := 39) (dc_X7_flip_25.2.1.2.1) rfl ?_
          refine sg_aload_n (pc := 41) (j := 0) (dc_X7_flip_25.2.1.2.2) rfl rfl ?_
          refine md_grw (pc := 42) g (dc_X7_flip_25.2.2.1.1) fk_X7_9 (by assumption) (fun r42 => ?_)
          refine sg_iconst (pc := 45) (z := 4) (dc_X7_flip_25.2.2.1.2) (by decide) ?_
          refine sg_iload_n (pc := 46) (j := 1) (dc_X7_flip_25.2.2.2.1) rfl rfl ?_
          first | refine sg_iaddB (pc := 47) (dc_X7_flip_25.2.2.2.2) (by omega) (by omega) ?_ | refine sg_iadd (pc := 47) (dc_X7_flip_25.2.2.2.2) ?_
          first | refine md_alr (pc := 48) (dc_X7_flip_48.1.1.1.1) (by assumption) (by omega) (by omega) (fun A48 l48 => ?_) | refine md_alt (pc := 48) (dc_X7_flip_48.1.1.1.1) (by assumption) (by omega) (by omega) (fun A48 l48 => ?_)
          refine sg_iload (pc := 49) (dc_X7_flip_48.1.1.1.2) rfl ?_
          refine md_ald (pc := 51) (dc_X7_flip_48.1.1.2.1) A48 (by omega) (by omega) (fun x51 g51 => ?_)
          have q51 := ck_v1.mp g51
          refine sg_cS1 (pc := 52) (d' := d - 1) (mc' := 0) (ms' := 0) g (dc_X7_flip_48.1.1.2.2) cb_X7_turnedUnit ml_X7_141 ms_X7_turnedUnit (Nat.le_of_ble_eq_true rfl) (by first | exact jl_d0 hd rfl | omega) (by first | exact Nat.le_of_ble_eq_true rfl | omega) (by first | exact Nat.le_of_ble_eq_true rfl | omega) ?_
          refine s_X7_turnedUnit g (by first | exact jl_d1 hd rfl | omega) (fun z52 h52 => sg_K1 ?_)
          refine md_ast (pc := 55) (dc_X7_flip_48.1.2.1.1) t1 (by rw [ck_v1]; omega) (by omega) (by omega) (fun h55 t55 => ?_)
          refine sg_iload_n (pc := 56) (j := 3) (dc_X7_flip_48.1.2.1.2) rfl rfl ?_
          refine sg_aload_n (pc := 57) (j := 2) (dc_X7_flip_48.1.2.2.1) rfl rfl ?_
          refine sg_iload (pc := 58) (dc_X7_flip_48.1.2.2.2) rfl ?_
          refine md_ald (pc := 60) (dc_X7_flip_48.2.1.1.1) t55.2.2 (by omega) (by omega) (fun x60 g60 => ?_)
          refine sg_cS1 (pc := 61) (d' := d - 1) (mc' := 0) (ms' := 0) g (dc_X7_flip_48.2.1.1.2) cb_X7_isHalf ml_X7_144 ms_X7_isHalf (Nat.le_of_ble_eq_true rfl) (by first | exact jl_d0 hd rfl | omega) (by first | exact Nat.le_of_ble_eq_true rfl | omega) (by first | exact Nat.le_of_ble_eq_true rfl | omega) ?_
          refine s_X7_isHalf g (by first | exact jl_d1 hd rfl | omega) (fun z61 h61 b61 => sg_K1 ?_)
          (try simp only [fm_no, fm_one, fn_betw, fn_sign, fn_radix, fn_high, fn_low] at h61)
          refine sg_cS1 (pc := 64) (d' := d - 1) (mc' := 0) (ms' := 0) g (dc_X7_flip_48.2.1.2.1) cb_X7_one ml_X7_92 ms_X7_one (Nat.le_of_ble_eq_true rfl) (by first | exact jl_d0 hd rfl | omega) (by first | exact Nat.le_of_ble_eq_true rfl | omega) (by first | exact Nat.le_of_ble_eq_true rfl | omega) ?_
          refine s_X7_one g (by first | exact jl_d1 hd rfl | omega) (fun z64 h64 b64 => sg_K1 ?_)
          (try simp only [fm_no, fm_one, fn_betw, fn_sign, fn_radix, fn_high, fn_low] at h64)
          first | refine sg_iaddB (pc := 67) (dc_X7_flip_48.2.1.2.2) (by omega) (by omega) ?_ | refine sg_iadd (pc := 67) (dc_X7_flip_48.2.1.2.2) ?_
          refine sg_istore_n (pc := 68) (j := 3) (dc_X7_flip_48.2.2.1.1) rfl (by decide) ?_
          first | refine sg_iincB (pc := 69) (dc_X7_flip_48.2.2.1.2) rfl (by decide) (by decide) (by omega) (by omega) ?_ | refine sg_iinc (pc := 69) (dc_X7_flip_48.2.2.1.2) rfl (by decide) (by decide) ?_
          refine sg_goto (pc := 72) (tgt := 31) (dc_X7_flip_48.2.2.2.1) (by decide) ?_
          refine sg_lsub (lv' := [(4, _), (3, _), (0, _), (1, _), (2, _)]) ⟨rfl, rfl, rfl, rfl, rfl, trivial⟩ ?_
          exact ih _ _ _ t55 (by omega) (by omega)
    refine sg_lsub (lv' := [(4, _), (3, _), (0, _), (1, _), (2, _)]) ⟨rfl, rfl, rfl, rfl, rfl, trivial⟩ ?_
    exact loop31 _ _ _ _ md_new (by omega) (Nat.lt_succ_self _)
  · refine sg_iconst (pc := 12) (z := 0) (dc_X7_flip_0.1.2.2.1) (by decide) ?_
    refine sg_iret (pc := 13) (dc_X7_flip_0.1.2.2.2) rfl (by first | exact Nat.le_of_ble_eq_true rfl | omega) (by first | exact Nat.le_of_ble_eq_true rfl | omega) ?_
    exact hQ _ _ (by assumption)

