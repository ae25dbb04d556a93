set_option maxRecDepth 100000 in
theorem s_X7_drop {w : sg_W} {Q : sg_O → sg_H → Prop} {h : sg_H} (g : sg_G w) {d : Nat} (hd : 9 ≤ d) {M : Nat} {row many : Int}  (hx : md_M w h M) (hQ : ∀ (v : Int) (h' : sg_H), md_Y w h h' M → Q (.inl (some (sg_i v))) h') : sg_C w mi_X7_drop d 3 56 [sg_r M, sg_i row, sg_i many] h Q := by
  refine sg_of pn_X7 (Nat.le_of_ble_eq_true rfl) ?_
  have y0 := md_Y0 hx
  have hk := hx.2.1
  refine sg_aload_n (pc := 0) (j := 0) dX7_drop_0 rfl rfl ?_
  refine sg_iload_n (pc := 1) (j := 1) dX7_drop_1 rfl rfl ?_
  refine sg_cS1 (pc := 2) (d' := d - 1) (mc' := 0) (ms' := 0) g dX7_drop_2 cb_X7_isNoRow ml_X7_68 ms_X7_isNoRow (Nat.le_of_ble_eq_true rfl) (by first | exact jl_d0 hd rfl | omega) (by first | exact Nat.le_of_ble_eq_true rfl | omega) (by first | exact Nat.le_of_ble_eq_true rfl | omega) ?_
  refine s_X7_isNoRow g (by first | exact jl_d1 hd rfl | omega) (fun z2 h2 b2 => sg_K1 ?_)
  (try simp only [fm_no, fm_one, fn_betw, fn_sign, fn_radix, fn_high, fn_low] at h2)
  refine sg_iconst (pc := 5) (z := 1) dX7_drop_5 (by decide) ?_
  refine sg_cE2 (pc := 6) (d' := d - 1) (mc' := 0) (ms' := 0) 8 g dX7_drop_6 cb_X7_start ml_X7_71 mn_X7_start rfl mv_X7_start (Nat.le_of_ble_eq_true rfl) (md_oc (by assumption)) (Nat.le_of_ble_eq_true rfl) (by first | exact jl_d0 hd rfl | omega) (by first | exact Nat.le_of_ble_eq_true rfl | omega) (by first | exact Nat.le_of_ble_eq_true rfl | omega) ?_
  refine s_X7_start g (by first | exact jl_d1 hd rfl | omega) (by omega) (by assumption) (fun v6 h6 b6 i6 t6 s6 u6 y6 => sg_K1 ?_)
  have x6 := y6.1
  have hk6 := x6.2.1
  have y6 := md_Yt (h0 := h) (by assumption) y6
  refine sg_if_ne (pc := 9) (tgt := 40) dX7_drop_9 (by decide) (fun c9 => ?_) (fun c9 => ?_)
  · refine sg_iconst (pc := 40) (z := 0) dX7_drop_40 (by decide) ?_
    refine sg_goto (pc := 41) (tgt := 68) dX7_drop_41 (by decide) ?_
    refine sg_iret (pc := 68) dX7_drop_68 rfl (by first | exact Nat.le_of_ble_eq_true rfl | omega) (by first | exact Nat.le_of_ble_eq_true rfl | omega) ?_
    exact hQ _ _ (by assumption)
  · refine sg_aload_n (pc := 12) (j := 0) dX7_drop_12 rfl rfl ?_
    refine sg_iload_n (pc := 13) (j := 2) dX7_drop_13 rfl rfl ?_
    refine sg_iconst (pc := 14) (z := 0) dX7_drop_14 (by decide) ?_
    refine sg_aload_n (pc := 15) (j := 0) dX7_drop_15 rfl rfl ?_
    refine md_grw (pc := 16) g dX7_drop_16 fk_X7_9 (by assumption) (fun r16 => ?_)
    refine sg_iload_n (pc := 19) (j := 1) dX7_drop_19 rfl rfl ?_
    first | refine md_alr (pc := 20) dX7_drop_20 (by assumption) (by omega) (by omega) (fun A20 l20 => ?_) | refine md_alt (pc := 20) dX7_drop_20 (by assumption) (by omega) (by omega) (fun A20 l20 => ?_)
    refine md_len (pc := 21) dX7_drop_21 (by assumption) (by omega) ?_
    refine sg_cS3 (pc := 22) (d' := d - 1) (mc' := 0) (ms' := 0) g dX7_drop_22 cb_X7_isOf ml_X7_22 ms_X7_isOf (Nat.le_of_ble_eq_true rfl) (by first | exact jl_d0 hd rfl | omega) (by first | exact Nat.le_of_ble_eq_true rfl | omega) (by first | exact Nat.le_of_ble_eq_true rfl | omega) ?_
    refine s_X7_isOf g (by first | exact jl_d1 hd rfl | omega) (fun z22 h22 b22 => sg_K1 ?_)
    (try simp only [fm_no, fm_one, fn_betw, fn_sign, fn_radix, fn_high, fn_low] at h22)
    refine sg_if_ne (pc := 25) (tgt := 32) dX7_drop_25 (by decide) (fun c25 => ?_) (fun c25 => ?_)
    · refine sg_iconst (pc := 32) (z := 0) dX7_drop_32 (by decide) ?_
      refine sg_iconst (pc := 33) (z := 2) dX7_drop_33 (by decide) ?_
      refine sg_cE2 (pc := 34) (d' := d - 1) (mc' := 0) (ms' := 0) 8 g dX7_drop_34 cb_X7_refuse ml_X7_45 mn_X7_refuse rfl mv_X7_refuse (Nat.le_of_ble_eq_true rfl) (md_oc (by assumption)) (Nat.le_of_ble_eq_true rfl) (by first | exact jl_d0 hd rfl | omega) (by first | exact Nat.le_of_ble_eq_true rfl | omega) (by first | exact Nat.le_of_ble_eq_true rfl | omega) ?_
      refine s_X7_refuse g (by first | exact jl_d1 hd rfl | omega) (by omega) (by assumption) (fun v34 h34 b34 i34 t34 s34 u34 y34 => sg_K1 ?_)
      have x34 := y34.1
      have hk34 := x34.2.1
      have y34 := md_Yt (h0 := h) (by assumption) y34
      refine sg_if_eq (pc := 37) (tgt := 44) dX7_drop_37 (by decide) (fun c37 => ?_) (fun c37 => ?_)
      · have s44 := s34 row
        refine sg_aload_n (pc := 44) (j := 0) dX7_drop_44 rfl rfl ?_
        refine sg_iload_n (pc := 45) (j := 1) dX7_drop_45 rfl rfl ?_
        refine sg_aload_n (pc := 46) (j := 0) dX7_drop_46 rfl rfl ?_
        refine md_grw (pc := 47) g dX7_drop_47 fk_X7_9 (by assumption) (fun r47 => ?_)
        refine sg_iload_n (pc := 50) (j := 1) dX7_drop_50 rfl rfl ?_
        first | refine md_alr (pc := 51) dX7_drop_51 (by assumption) (by omega) (by omega) (fun A51 l51 => ?_) | refine md_alt (pc := 51) dX7_drop_51 (by assumption) (by omega) (by omega) (fun A51 l51 => ?_)
        refine sg_iconst (pc := 52) (z := 0) dX7_drop_52 (by decide) ?_
        refine sg_aload_n (pc := 53) (j := 0) dX7_drop_53 rfl rfl ?_
        refine md_grw (pc := 54) g dX7_drop_54 fk_X7_9 (by assumption) (fun r54 => ?_)
        refine sg_iload_n (pc := 57) (j := 1) dX7_drop_57 rfl rfl ?_
        first | refine md_alr (pc := 58) dX7_drop_58 (by assumption) (by omega) (by omega) (fun A58 l58 => ?_) | refine md_alt (pc := 58) dX7_drop_58 (by assumption) (by omega) (by omega) (fun A58 l58 => ?_)
        refine md_len (pc := 59) dX7_drop_59 (by assumption) (by omega) ?_
        refine sg_iload_n (pc := 60) (j := 2) dX7_drop_60 rfl rfl ?_
        first | refine sg_isubB (pc := 61) dX7_drop_61 (by omega) (by omega) ?_ | refine sg_isub (pc := 61) dX7_drop_61 ?_
        refine sg_cS3 (pc := 62) (d' := d - 1) (mc' := 1) (ms' := (((md_n h34 (md_a h34 (md_r h34 M) row)) : Int) - many).toNat) g dX7_drop_62 cb_X7_part ml_X7_82 ms_X7_part (Nat.le_of_ble_eq_true rfl) (by first | exact jl_d0 hd rfl | omega) (by first | exact Nat.le_of_ble_eq_true rfl | omega) (by first | exact Nat.le_of_ble_eq_true rfl | omega) ?_
        refine s_X7_part (c := 0) (m := (((md_n h34 (md_a h34 (md_r h34 M) row)) : Int) - many).toNat) (n := (md_n h34 (md_a h34 (md_r h34 M) row))) g (by first | exact jl_d1 hd rfl | omega) (by first | assumption | (exfalso; omega)) (by omega) (by omega) (by omega) (by omega) (fun h62 t62 => sg_K1 ?_)
        have x62 : md_M w h62 M := md_ME (by assumption) (md_TE t62)
        have hk62 := x62.2.1
        have y62 : md_Y w h h62 M := md_YE (by assumption) (md_TE t62)
        refine sg_cE2 (pc := 65) (d' := d - 1) (mc' := 2) (ms' := 16) 8 g dX7_drop_65 cb_X7_set ml_X7_78 mn_X7_set rfl mv_X7_set (Nat.le_of_ble_eq_true rfl) (md_oc (by assumption)) (Nat.le_of_ble_eq_true rfl) (by first | exact jl_d0 hd rfl | omega) (by first | exact Nat.le_of_ble_eq_true rfl | omega) (by first | exact Nat.le_of_ble_eq_true rfl | omega) ?_
        refine s_X7_set g (by first | exact jl_d1 hd rfl | omega) (by omega) (by assumption) (fun q => ⟨t62.2.2, (by omega)⟩) (fun q => absurd q (by omega)) (fun h65 y65 => sg_K1 ?_)
        have x65 := y65.1
        have hk65 := x65.2.1
        have y65 := md_Yt (h0 := h) (by assumption) y65
        refine sg_iret (pc := 68) dX7_drop_68 rfl (by first | exact Nat.le_of_ble_eq_true rfl | omega) (by first | exact Nat.le_of_ble_eq_true rfl | omega) ?_
        exact hQ _ _ (by assumption)
      · refine sg_iconst (pc := 40) (z := 0) dX7_drop_40 (by decide) ?_
        refine sg_goto (pc := 41) (tgt := 68) dX7_drop_41 (by decide) ?_
        refine sg_iret (pc := 68) dX7_drop_68 rfl (by first | exact Nat.le_of_ble_eq_true rfl | omega) (by first | exact Nat.le_of_ble_eq_true rfl | omega) ?_
        exact hQ _ _ (by assumption)
    · refine sg_iconst (pc := 28) (z := 1) dX7_drop_28 (by decide) ?_
      refine sg_goto (pc := 29) (tgt := 33) dX7_drop_29 (by decide) ?_
      refine sg_iconst (pc := 33) (z := 2) dX7_drop_33 (by decide) ?_
      refine sg_cE2 (pc := 34) (d' := d - 1) (mc' := 0) (ms' := 0) 8 g dX7_drop_34 cb_X7_refuse ml_X7_45 mn_X7_refuse rfl mv_X7_refuse (Nat.le_of_ble_eq_true rfl) (md_oc (by assumption)) (Nat.le_of_ble_eq_true rfl) (by first | exact jl_d0 hd rfl | omega) (by first | exact Nat.le_of_ble_eq_true rfl | omega) (by first | exact Nat.le_of_ble_eq_true rfl | omega) ?_
      refine s_X7_refuse g (by first | exact jl_d1 hd rfl | omega) (by omega) (by assumption) (fun v34 h34 b34 i34 t34 s34 u34 y34 => sg_K1 ?_)
      have x34 := y34.1
      have hk34 := x34.2.1
      have y34 := md_Yt (h0 := h) (by assumption) y34
      refine sg_if_eq (pc := 37) (tgt := 44) dX7_drop_37 (by decide) (fun c37 => absurd c37 (by omega)) (fun c37 => ?_)
      refine sg_iconst (pc := 40) (z := 0) dX7_drop_40 (by decide) ?_
      refine sg_goto (pc := 41) (tgt := 68) dX7_drop_41 (by decide) ?_
      refine sg_iret (pc := 68) dX7_drop_68 rfl (by first | exact Nat.le_of_ble_eq_true rfl | omega) (by first | exact Nat.le_of_ble_eq_true rfl | omega) ?_
      exact hQ _ _ (by assumption)

set_option maxRecDepth 100000 in
theorem s_X7_copy {w : sg_W} {Q : sg_O → sg_H → Prop} {h : sg_H} (g : sg_G w) {d : Nat} (hd : 9 ≤ d) {M : Nat} {fr to : Int}  (hx : md_M w h M) (hQ : ∀ (v : Int) (h' : sg_H), md_Y w h h' M → Q (.inl (some (sg_i v))) h') : sg_C w mi_X7_copy d 2 16 [sg_r M, sg_i fr, sg_i to] h Q := by
  refine sg_of pn_X7 (Nat.le_of_ble_eq_true rfl) ?_
  have y0 := md_Y0 hx
  have hk := hx.2.1
  refine sg_aload_n (pc := 0) (j := 0) dX7_copy_0 rfl rfl ?_
  refine sg_iload_n (pc := 1) (j := 1) dX7_copy_1 rfl rfl ?_
  refine sg_cS1 (pc := 2) (d' := d - 1) (mc' := 0) (ms' := 0) g dX7_copy_2 cb_X7_isNoRow ml_X7_68 ms_X7_isNoRow (Nat.le_of_ble_eq_true rfl) (by first | exact jl_d0 hd rfl | omega) (by first | exact Nat.le_of_ble_eq_true rfl | omega) (by first | exact Nat.le_of_ble_eq_true rfl | omega) ?_
  refine s_X7_isNoRow g (by first | exact jl_d1 hd rfl | omega) (fun z2 h2 b2 => sg_K1 ?_)
  (try simp only [fm_no, fm_one, fn_betw, fn_sign, fn_radix, fn_high, fn_low] at h2)
  refine sg_if_ne (pc := 5) (tgt := 15) dX7_copy_5 (by decide) (fun c5 => ?_) (fun c5 => ?_)
  · refine sg_iconst (pc := 15) (z := 1) dX7_copy_15 (by decide) ?_
    refine sg_goto (pc := 16) (tgt := 20) dX7_copy_16 (by decide) ?_
    refine sg_iconst (pc := 20) (z := 1) dX7_copy_20 (by decide) ?_
    refine sg_cE2 (pc := 21) (d' := d - 1) (mc' := 0) (ms' := 0) 8 g dX7_copy_21 cb_X7_start ml_X7_71 mn_X7_start rfl mv_X7_start (Nat.le_of_ble_eq_true rfl) (md_oc (by assumption)) (Nat.le_of_ble_eq_true rfl) (by first | exact jl_d0 hd rfl | omega) (by first | exact Nat.le_of_ble_eq_true rfl | omega) (by first | exact Nat.le_of_ble_eq_true rfl | omega) ?_
    refine s_X7_start g (by first | exact jl_d1 hd rfl | omega) (by omega) (by assumption) (fun v21 h21 b21 i21 t21 s21 u21 y21 => sg_K1 ?_)
    have x21 := y21.1
    have hk21 := x21.2.1
    have y21 := md_Yt (h0 := h) (by assumption) y21
    refine sg_if_eq (pc := 24) (tgt := 29) dX7_copy_24 (by decide) (fun c24 => absurd c24 (by omega)) (fun c24 => ?_)
    refine sg_iconst (pc := 27) (z := 0) dX7_copy_27 (by decide) ?_
    refine sg_iret (pc := 28) dX7_copy_28 rfl (by first | exact Nat.le_of_ble_eq_true rfl | omega) (by first | exact Nat.le_of_ble_eq_true rfl | omega) ?_
    exact hQ _ _ (by assumption)
  · refine sg_iload_n (pc := 8) (j := 2) dX7_copy_8 rfl rfl ?_
    refine sg_cS1 (pc := 9) (d' := d - 1) (mc' := 0) (ms' := 0) g dX7_copy_9 cb_X7_isNoRow ml_X7_68 ms_X7_isNoRow (Nat.le_of_ble_eq_true rfl) (by first | exact jl_d0 hd rfl | omega) (by first | exact Nat.le_of_ble_eq_true rfl | omega) (by first | exact Nat.le_of_ble_eq_true rfl | omega) ?_
    refine s_X7_isNoRow g (by first | exact jl_d1 hd rfl | omega) (fun z9 h9 b9 => sg_K1 ?_)
    (try simp only [fm_no, fm_one, fn_betw, fn_sign, fn_radix, fn_high, fn_low] at h9)
    refine sg_if_eq (pc := 12) (tgt := 19) dX7_copy_12 (by decide) (fun c12 => ?_) (fun c12 => ?_)
    · refine sg_iconst (pc := 19) (z := 0) dX7_copy_19 (by decide) ?_
      refine sg_iconst (pc := 20) (z := 1) dX7_copy_20 (by decide) ?_
      refine sg_cE2 (pc := 21) (d' := d - 1) (mc' := 0) (ms' := 0) 8 g dX7_copy_21 cb_X7_start ml_X7_71 mn_X7_start rfl mv_X7_start (Nat.le_of_ble_eq_true rfl) (md_oc (by assumption)) (Nat.le_of_ble_eq_true rfl) (by first | exact jl_d0 hd rfl | omega) (by first | exact Nat.le_of_ble_eq_true rfl | omega) (by first | exact Nat.le_of_ble_eq_true rfl | omega) ?_
      refine s_X7_start g (by first | exact jl_d1 hd rfl | omega) (by omega) (by assumption) (fun v21 h21 b21 i21 t21 s21 u21 y21 => sg_K1 ?_)
      have x21 := y21.1
      have hk21 := x21.2.1
      have y21 := md_Yt (h0 := h) (by assumption) y21
      refine sg_if_eq (pc := 24) (tgt := 29) dX7_copy_24 (by decide) (fun c24 => ?_) (fun c24 => absurd c24 (by omega))
      refine sg_aload_n (pc := 29) (j := 0) dX7_copy_29 rfl rfl ?_
      refine md_grw (pc := 30) g dX7_copy_30 fk_X7_9 (by assumption) (fun r30 => ?_)
      refine sg_iload_n (pc := 33) (j := 2) dX7_copy_33 rfl rfl ?_
      first | refine md_alr (pc := 34) dX7_copy_34 (by assumption) (by omega) (by omega) (fun A34 l34 => ?_) | refine md_alt (pc := 34) dX7_copy_34 (by assumption) (by omega) (by omega) (fun A34 l34 => ?_)
      refine md_len (pc := 35) dX7_copy_35 (by assumption) (by omega) ?_
      refine sg_istore_n (pc := 36) (j := 3) dX7_copy_36 rfl (by decide) ?_
      refine sg_aload_n (pc := 37) (j := 0) dX7_copy_37 rfl rfl ?_
      refine sg_iload_n (pc := 38) (j := 2) dX7_copy_38 rfl rfl ?_
      refine sg_aload_n (pc := 39) (j := 0) dX7_copy_39 rfl rfl ?_
      refine md_grw (pc := 40) g dX7_copy_40 fk_X7_9 (by assumption) (fun r40 => ?_)
      refine sg_iload_n (pc := 43) (j := 1) dX7_copy_43 rfl rfl ?_
      first | refine md_alr (pc := 44) dX7_copy_44 (by assumption) (by omega) (by omega) (fun A44 l44 => ?_) | refine md_alt (pc := 44) dX7_copy_44 (by assumption) (by omega) (by omega) (fun A44 l44 => ?_)
      refine sg_cE2 (pc := 45) (d' := d - 1) (mc' := 2) (ms' := 16) 8 g dX7_copy_45 cb_X7_set ml_X7_78 mn_X7_set rfl mv_X7_set (Nat.le_of_ble_eq_true rfl) (md_oc (by assumption)) (Nat.le_of_ble_eq_true rfl) (by first | exact jl_d0 hd rfl | omega) (by first | exact Nat.le_of_ble_eq_true rfl | omega) (by first | exact Nat.le_of_ble_eq_true rfl | omega) ?_
      refine s_X7_set g (by first | exact jl_d1 hd rfl | omega) (by omega) (by assumption) (fun q => ⟨A44, l44⟩) (fun q => absurd q (by omega)) (fun h45 y45 => sg_K1 ?_)
      have x45 := y45.1
      have hk45 := x45.2.1
      have y45 := md_Yt (h0 := h) (by assumption) y45
      refine sg_pop (pc := 48) dX7_copy_48 rfl ?_
      refine sg_iload_n (pc := 49) (j := 3) dX7_copy_49 rfl rfl ?_
      refine sg_iret (pc := 50) dX7_copy_50 rfl (by first | exact Nat.le_of_ble_eq_true rfl | omega) (by first | exact Nat.le_of_ble_eq_true rfl | omega) ?_
      exact hQ _ _ (by assumption)
    · refine sg_iconst (pc := 15) (z := 1) dX7_copy_15 (by decide) ?_
      refine sg_goto (pc := 16) (tgt := 20) dX7_copy_16 (by decide) ?_
      refine sg_iconst (pc := 20) (z := 1) dX7_copy_20 (by decide) ?_
      refine sg_cE2 (pc := 21) (d' := d - 1) (mc' := 0) (ms' := 0) 8 g dX7_copy_21 cb_X7_start ml_X7_71 mn_X7_start rfl mv_X7_start (Nat.le_of_ble_eq_true rfl) (md_oc (by assumption)) (Nat.le_of_ble_eq_true rfl) (by first | exact jl_d0 hd rfl | omega) (by first | exact Nat.le_of_ble_eq_true rfl | omega) (by first | exact Nat.le_of_ble_eq_true rfl | omega) ?_
      refine s_X7_start g (by first | exact jl_d1 hd rfl | omega) (by omega) (by assumption) (fun v21 h21 b21 i21 t21 s21 u21 y21 => sg_K1 ?_)
      have x21 := y21.1
      have hk21 := x21.2.1
      have y21 := md_Yt (h0 := h) (by assumption) y21
      refine sg_if_eq (pc := 24) (tgt := 29) dX7_copy_24 (by decide) (fun c24 => absurd c24 (by omega)) (fun c24 => ?_)
      refine sg_iconst (pc := 27) (z := 0) dX7_copy_27 (by decide) ?_
      refine sg_iret (pc := 28) dX7_copy_28 rfl (by first | exact Nat.le_of_ble_eq_true rfl | omega) (by first | exact Nat.le_of_ble_eq_true rfl | omega) ?_
      exact hQ _ _ (by assumption)

set_option maxRecDepth 100000 in
theorem s_X7_cased {w : sg_W} {Q : sg_O → sg_H → Prop} {h : sg_H} (g : sg_G w) {d : Nat} (hd : 7 ≤ d) {M : Nat} {row up : Int} (hv : 0 ≤ row ∧ row < 4)  (hx : md_M w h M) (hQ : ∀ (v : Int) (h' : sg_H), md_Y w h h' M → Q (.inl (some (sg_i v))) h') : sg_C w mi_X7_cased d 3 56 [sg_r M, sg_i row, sg_i up] h Q := by
  refine sg_of pn_X7 (Nat.le_of_ble_eq_true rfl) ?_
  have y0 := md_Y0 hx
  have hk := hx.2.1
  refine sg_aload_n (pc := 0) (j := 0) dX7_cased_0 rfl rfl ?_
  refine md_grw (pc := 1) g dX7_cased_1 fk_X7_9 (by assumption) (fun r1 => ?_)
  refine sg_iload_n (pc := 4) (j := 1) dX7_cased_4 rfl rfl ?_
  first | refine md_alr (pc := 5) dX7_cased_5 (by assumption) (by omega) (by omega) (fun A5 l5 => ?_) | refine md_alt (pc := 5) dX7_cased_5 (by assumption) (by omega) (by omega) (fun A5 l5 => ?_)
  refine md_len (pc := 6) dX7_cased_6 (by assumption) (by omega) ?_
  refine sg_newa (t := 100) (N := (md_n h (md_a h (md_r h M) row))) (pc := 7) g dX7_cased_7 ac_int rfl (by decide) (by decide) rfl rfl (by decide) (by omega) (by omega) (by omega) (by omega) ?_
  refine sg_astore_n (pc := 9) (j := 3) dX7_cased_9 rfl (by decide) ?_
  refine sg_iconst (pc := 10) (z := 0) dX7_cased_10 (by decide) ?_
  refine sg_istore (pc := 11) dX7_cased_11 (by decide) ?_
  refine sg_iconst (pc := 13) (z := 0) dX7_cased_13 (by decide) ?_
  refine sg_istore (pc := 14) dX7_cased_14 (by decide) ?_
  have loop16 : ∀ (N : Nat) (h1 : sg_H) (p s : Int), md_T 0 h h1 (md_n h (md_a h (md_r h M) row)) → 0 ≤ p → (((md_n h (md_a h (md_r h M) row)) : Int) - p).toNat < N → sg_R w mi_X7_cased d 3 56 Q 16 [(5, sg_i p), (4, sg_i s), (0, sg_r M), (1, sg_i row), (2, sg_i up), (3, sg_r h.1)] [] h1 1 (0 + (md_n h (md_a h (md_r h M) row))) := by
    intro N
    induction N with
    | zero => intro h1 p s t1 p0 hm; exact absurd hm (Nat.not_lt_zero _)
    | succ N ih =>
      intro h1 p s t1 p0 hm
      have x1 : md_M w h1 M := md_ME hx (md_TE t1)
      have hk1 := x1.2.1
      have y1 : md_Y w h h1 M := md_YE y0 (md_TE t1)
      have s1 := md_SE hx (md_TE t1) (i := row) (by omega) (by omega)
      refine sg_iload (pc := 16) dX7_cased_16 rfl ?_
      refine sg_aload_n (pc := 18) (j := 3) dX7_cased_18 rfl rfl ?_
      refine md_len (pc := 19) dX7_cased_19 t1.2.2 (by omega) ?_
      refine sg_icmp_ge (pc := 20) (tgt := 100) dX7_cased_20 (by decide) (fun c20 => ?_) (fun c20 => ?_)
      · refine sg_aload_n (pc := 100) (j := 0) dX7_cased_100 rfl rfl ?_
        refine sg_iload_n (pc := 101) (j := 1) dX7_cased_101 rfl rfl ?_
        refine sg_aload_n (pc := 102) (j := 3) dX7_cased_102 rfl rfl ?_
        refine sg_cE2 (pc := 103) (d' := d - 1) (mc' := 2) (ms' := 16) 8 g dX7_cased_103 cb_X7_set ml_X7_78 mn_X7_set rfl mv_X7_set (Nat.le_of_ble_eq_true rfl) (md_oc (by assumption)) (Nat.le_of_ble_eq_true rfl) (by first | exact jl_d0 hd rfl | omega) (by first | exact Nat.le_of_ble_eq_true rfl | omega) (by first | exact Nat.le_of_ble_eq_true rfl | omega) ?_
        refine s_X7_set g (by first | exact jl_d1 hd rfl | omega) (by omega) (by assumption) (fun q => ⟨t1.2.2, (by omega)⟩) (fun q => absurd q (by omega)) (fun h103 y103 => sg_K1 ?_)
        have x103 := y103.1
        have hk103 := x103.2.1
        have y103 := md_Yt (h0 := h) (by assumption) y103
        refine sg_pop (pc := 106) dX7_cased_106 rfl ?_
        refine sg_iload (pc := 107) dX7_cased_107 rfl ?_
        refine sg_iret (pc := 109) dX7_cased_109 rfl (by first | exact Nat.le_of_ble_eq_true rfl | omega) (by first | exact Nat.le_of_ble_eq_true rfl | omega) ?_
        exact hQ _ _ (by assumption)
      · refine sg_aload_n (pc := 23) (j := 0) dX7_cased_23 rfl rfl ?_
        refine md_grw (pc := 24) g dX7_cased_24 fk_X7_9 (by assumption) (fun r24 => ?_)
        refine sg_iload_n (pc := 27) (j := 1) dX7_cased_27 rfl rfl ?_
        first | refine md_alr (pc := 28) dX7_cased_28 (by assumption) (by omega) (by omega) (fun A28 l28 => ?_) | refine md_alt (pc := 28) dX7_cased_28 (by assumption) (by omega) (by omega) (fun A28 l28 => ?_)
        refine sg_iload (pc := 29) dX7_cased_29 rfl ?_
        refine md_ald (pc := 31) dX7_cased_31 (by assumption) (by omega) (by omega) (fun x31 g31 => ?_)
        try have q31 := ck_v1.mp g31
        refine sg_istore (pc := 32) dX7_cased_32 (by decide) ?_
        refine sg_iload_n (pc := 34) (j := 2) dX7_cased_34 rfl rfl ?_
        refine sg_if_eq (pc := 35) (tgt := 46) dX7_cased_35 (by decide) (fun c35 => ?_) (fun c35 => ?_)
        · refine sg_iload (pc := 46) dX7_cased_46 rfl ?_
          refine sg_cS1 (pc := 48) (d' := d - 1) (mc' := 0) (ms' := 0) g dX7_cased_48 cb_X7_lowerOf ml_X7_89 ms_X7_lowerOf (Nat.le_of_ble_eq_true rfl) (by first | exact jl_d0 hd rfl | omega) (by first | exact Nat.le_of_ble_eq_true rfl | omega) (by first | exact Nat.le_of_ble_eq_true rfl | omega) ?_
          refine s_X7_lowerOf g (by first | exact jl_d1 hd rfl | omega) (by assumption) (fun z48 e48 => sg_K1 ?_)
          refine sg_istore (pc := 51) dX7_cased_51 (by decide) ?_
          refine sg_aload_n (pc := 53) (j := 3) dX7_cased_53 rfl rfl ?_
          refine sg_iload (pc := 54) dX7_cased_54 rfl ?_
          refine sg_iload (pc := 56) dX7_cased_56 rfl ?_
          refine sg_cS1 (pc := 58) (d' := d - 1) (mc' := 0) (ms' := 0) g dX7_cased_58 cb_X7_isSign ml_X7_65 ms_X7_isSign (Nat.le_of_ble_eq_true rfl) (by first | exact jl_d0 hd rfl | omega) (by first | exact Nat.le_of_ble_eq_true rfl | omega) (by first | exact Nat.le_of_ble_eq_true rfl | omega) ?_
          refine s_X7_isSign g (by first | exact jl_d1 hd rfl | omega) (fun z58 h58 b58 => sg_K1 ?_)
          (try simp only [fm_no, fm_one, fn_betw, fn_sign, fn_radix, fn_high, fn_low] at h58)
          refine sg_if_eq (pc := 61) (tgt := 69) dX7_cased_61 (by decide) (fun c61 => ?_) (fun c61 => ?_)
          · refine sg_iload (pc := 69) dX7_cased_69 rfl ?_
            refine md_ast (pc := 71) dX7_cased_71 t1 ck_v0 (by omega) (by omega) (fun h71 t71 => ?_)
            refine sg_iload (pc := 72) dX7_cased_72 rfl ?_
            refine sg_aload_n (pc := 74) (j := 3) dX7_cased_74 rfl rfl ?_
            refine sg_iload (pc := 75) dX7_cased_75 rfl ?_
            refine md_ald (pc := 77) dX7_cased_77 t71.2.2 (by omega) (by omega) (fun x77 g77 => ?_)
            refine sg_iload (pc := 78) dX7_cased_78 rfl ?_
            refine sg_icmp_eq (pc := 80) (tgt := 87) dX7_cased_80 (by decide) (fun c80 => ?_) (fun c80 => ?_)
            · refine sg_iconst (pc := 87) (z := 0) dX7_cased_87 (by decide) ?_
              refine sg_cS1 (pc := 88) (d' := d - 1) (mc' := 0) (ms' := 0) g dX7_cased_88 cb_X7_one ml_X7_92 ms_X7_one (Nat.le_of_ble_eq_true rfl) (by first | exact jl_d0 hd rfl | omega) (by first | exact Nat.le_of_ble_eq_true rfl | omega) (by first | exact Nat.le_of_ble_eq_true rfl | omega) ?_
              refine s_X7_one g (by first | exact jl_d1 hd rfl | omega) (fun z88 h88 b88 => sg_K1 ?_)
              (try simp only [fm_no, fm_one, fn_betw, fn_sign, fn_radix, fn_high, fn_low] at h88)
              first | refine sg_iaddB (pc := 91) dX7_cased_91 (by omega) (by omega) ?_ | refine sg_iadd (pc := 91) dX7_cased_91 ?_
              refine sg_istore (pc := 92) dX7_cased_92 (by decide) ?_
              first | refine sg_iincB (pc := 94) dX7_cased_94 rfl (by decide) (by decide) (by omega) (by omega) ?_ | refine sg_iinc (pc := 94) dX7_cased_94 rfl (by decide) (by decide) ?_
              refine sg_goto (pc := 97) (tgt := 16) dX7_cased_97 (by decide) ?_
              refine sg_lsub (lv' := [(5, _), (4, _), (0, _), (1, _), (2, _), (3, _)]) ⟨rfl, rfl, rfl, rfl, rfl, rfl, trivial⟩ ?_
              exact ih _ _ _ t71 (by omega) (by omega)
            · refine sg_iconst (pc := 83) (z := 1) dX7_cased_83 (by decide) ?_
              refine sg_goto (pc := 84) (tgt := 88) dX7_cased_84 (by decide) ?_
              refine sg_cS1 (pc := 88) (d' := d - 1) (mc' := 0) (ms' := 0) g dX7_cased_88 cb_X7_one ml_X7_92 ms_X7_one (Nat.le_of_ble_eq_true rfl) (by first | exact jl_d0 hd rfl | omega) (by first | exact Nat.le_of_ble_eq_true rfl | omega) (by first | exact Nat.le_of_ble_eq_true rfl | omega) ?_
              refine s_X7_one g (by first | exact jl_d1 hd rfl | omega) (fun z88 h88 b88 => sg_K1 ?_)
              (try simp only [fm_no, fm_one, fn_betw, fn_sign, fn_radix, fn_high, fn_low] at h88)
              first | refine sg_iaddB (pc := 91) dX7_cased_91 (by omega) (by omega) ?_ | refine sg_iadd (pc := 91) dX7_cased_91 ?_
              refine sg_istore (pc := 92) dX7_cased_92 (by decide) ?_
              first | refine sg_iincB (pc := 94) dX7_cased_94 rfl (by decide) (by decide) (by omega) (by omega) ?_ | refine sg_iinc (pc := 94) dX7_cased_94 rfl (by decide) (by decide) ?_
              refine sg_goto (pc := 97) (tgt := 16) dX7_cased_97 (by decide) ?_
              refine sg_lsub (lv' := [(5, _), (4, _), (0, _), (1, _), (2, _), (3, _)]) ⟨rfl, rfl, rfl, rfl, rfl, rfl, trivial⟩ ?_
              exact ih _ _ _ t71 (by omega) (by omega)
          · refine sg_iload (pc := 64) dX7_cased_64 rfl ?_
            refine sg_goto (pc := 66) (tgt := 71) dX7_cased_66 (by decide) ?_
            refine md_ast (pc := 71) dX7_cased_71 t1 ck_v0 (by omega) (by omega) (fun h71 t71 => ?_)
            refine sg_iload (pc := 72) dX7_cased_72 rfl ?_
            refine sg_aload_n (pc := 74) (j := 3) dX7_cased_74 rfl rfl ?_
            refine sg_iload (pc := 75) dX7_cased_75 rfl ?_
            refine md_ald (pc := 77) dX7_cased_77 t71.2.2 (by omega) (by omega) (fun x77 g77 => ?_)
            refine sg_iload (pc := 78) dX7_cased_78 rfl ?_
            refine sg_icmp_eq (pc := 80) (tgt := 87) dX7_cased_80 (by decide) (fun c80 => ?_) (fun c80 => ?_)
            · refine sg_iconst (pc := 87) (z := 0) dX7_cased_87 (by decide) ?_
              refine sg_cS1 (pc := 88) (d' := d - 1) (mc' := 0) (ms' := 0) g dX7_cased_88 cb_X7_one ml_X7_92 ms_X7_one (Nat.le_of_ble_eq_true rfl) (by first | exact jl_d0 hd rfl | omega) (by first | exact Nat.le_of_ble_eq_true rfl | omega) (by first | exact Nat.le_of_ble_eq_true rfl | omega) ?_
              refine s_X7_one g (by first | exact jl_d1 hd rfl | omega) (fun z88 h88 b88 => sg_K1 ?_)
              (try simp only [fm_no, fm_one, fn_betw, fn_sign, fn_radix, fn_high, fn_low] at h88)
              first | refine sg_iaddB (pc := 91) dX7_cased_91 (by omega) (by omega) ?_ | refine sg_iadd (pc := 91) dX7_cased_91 ?_
              refine sg_istore (pc := 92) dX7_cased_92 (by decide) ?_
              first | refine sg_iincB (pc := 94) dX7_cased_94 rfl (by decide) (by decide) (by omega) (by omega) ?_ | refine sg_iinc (pc := 94) dX7_cased_94 rfl (by decide) (by decide) ?_
              refine sg_goto (pc := 97) (tgt := 16) dX7_cased_97 (by decide) ?_
              refine sg_lsub (lv' := [(5, _), (4, _), (0, _), (1, _), (2, _), (3, _)]) ⟨rfl, rfl, rfl, rfl, rfl, rfl, trivial⟩ ?_
              exact ih _ _ _ t71 (by omega) (by omega)
            · refine sg_iconst (pc := 83) (z := 1) dX7_cased_83 (by decide) ?_
              refine sg_goto (pc := 84) (tgt := 88) dX7_cased_84 (by decide) ?_
              refine sg_cS1 (pc := 88) (d' := d - 1) (mc' := 0) (ms' := 0) g dX7_cased_88 cb_X7_one ml_X7_92 ms_X7_one (Nat.le_of_ble_eq_true rfl) (by first | exact jl_d0 hd rfl | omega) (by first | exact Nat.le_of_ble_eq_true rfl | omega) (by first | exact Nat.le_of_ble_eq_true rfl | omega) ?_
              refine s_X7_one g (by first | exact jl_d1 hd rfl | omega) (fun z88 h88 b88 => sg_K1 ?_)
              (try simp only [fm_no, fm_one, fn_betw, fn_sign, fn_radix, fn_high, fn_low] at h88)
              first | refine sg_iaddB (pc := 91) dX7_cased_91 (by omega) (by omega) ?_ | refine sg_iadd (pc := 91) dX7_cased_91 ?_
              refine sg_istore (pc := 92) dX7_cased_92 (by decide) ?_
              first | refine sg_iincB (pc := 94) dX7_cased_94 rfl (by decide) (by decide) (by omega) (by omega) ?_ | refine sg_iinc (pc := 94) dX7_cased_94 rfl (by decide) (by decide) ?_
              refine sg_goto (pc := 97) (tgt := 16) dX7_cased_97 (by decide) ?_
              refine sg_lsub (lv' := [(5, _), (4, _), (0, _), (1, _), (2, _), (3, _)]) ⟨rfl, rfl, rfl, rfl, rfl, rfl, trivial⟩ ?_
              exact ih _ _ _ t71 (by omega) (by omega)
        · refine sg_iload (pc := 38) dX7_cased_38 rfl ?_
          refine sg_cS1 (pc := 40) (d' := d - 1) (mc' := 0) (ms' := 0) g dX7_cased_40 cb_X7_upperOf ml_X7_86 ms_X7_upperOf (Nat.le_of_ble_eq_true rfl) (by first | exact jl_d0 hd rfl | omega) (by first | exact Nat.le_of_ble_eq_true rfl | omega) (by first | exact Nat.le_of_ble_eq_true rfl | omega) ?_
          refine s_X7_upperOf g (by first | exact jl_d1 hd rfl | omega) (fun z40 h40 => sg_K1 ?_)
          (try simp only [fm_no, fm_one, fn_betw, fn_sign, fn_radix, fn_high, fn_low] at h40)
          refine sg_goto (pc := 43) (tgt := 51) dX7_cased_43 (by decide) ?_
          refine sg_istore (pc := 51) dX7_cased_51 (by decide) ?_
          refine sg_aload_n (pc := 53) (j := 3) dX7_cased_53 rfl rfl ?_
          refine sg_iload (pc := 54) dX7_cased_54 rfl ?_
          refine sg_iload (pc := 56) dX7_cased_56 rfl ?_
          refine sg_cS1 (pc := 58) (d' := d - 1) (mc' := 0) (ms' := 0) g dX7_cased_58 cb_X7_isSign ml_X7_65 ms_X7_isSign (Nat.le_of_ble_eq_true rfl) (by first | exact jl_d0 hd rfl | omega) (by first | exact Nat.le_of_ble_eq_true rfl | omega) (by first | exact Nat.le_of_ble_eq_true rfl | omega) ?_
          refine s_X7_isSign g (by first | exact jl_d1 hd rfl | omega) (fun z58 h58 b58 => sg_K1 ?_)
          (try simp only [fm_no, fm_one, fn_betw, fn_sign, fn_radix, fn_high, fn_low] at h58)
          refine sg_if_eq (pc := 61) (tgt := 69) dX7_cased_61 (by decide) (fun c61 => ?_) (fun c61 => ?_)
          · refine sg_iload (pc := 69) dX7_cased_69 rfl ?_
            refine md_ast (pc := 71) dX7_cased_71 t1 ck_v0 (by omega) (by omega) (fun h71 t71 => ?_)
            refine sg_iload (pc := 72) dX7_cased_72 rfl ?_
            refine sg_aload_n (pc := 74) (j := 3) dX7_cased_74 rfl rfl ?_
            refine sg_iload (pc := 75) dX7_cased_75 rfl ?_
            refine md_ald (pc := 77) dX7_cased_77 t71.2.2 (by omega) (by omega) (fun x77 g77 => ?_)
            refine sg_iload (pc := 78) dX7_cased_78 rfl ?_
            refine sg_icmp_eq (pc := 80) (tgt := 87) dX7_cased_80 (by decide) (fun c80 => ?_) (fun c80 => ?_)
            · refine sg_iconst (pc := 87) (z := 0) dX7_cased_87 (by decide) ?_
              refine sg_cS1 (pc := 88) (d' := d - 1) (mc' := 0) (ms' := 0) g dX7_cased_88 cb_X7_one ml_X7_92 ms_X7_one (Nat.le_of_ble_eq_true rfl) (by first | exact jl_d0 hd rfl | omega) (by first | exact Nat.le_of_ble_eq_true rfl | omega) (by first | exact Nat.le_of_ble_eq_true rfl | omega) ?_
              refine s_X7_one g (by first | exact jl_d1 hd rfl | omega) (fun z88 h88 b88 => sg_K1 ?_)
              (try simp only [fm_no, fm_one, fn_betw, fn_sign, fn_radix, fn_high, fn_low] at h88)
              first | refine sg_iaddB (pc := 91) dX7_cased_91 (by omega) (by omega) ?_ | refine sg_iadd (pc := 91) dX7_cased_91 ?_
              refine sg_istore (pc := 92) dX7_cased_92 (by decide) ?_
              first | refine sg_iincB (pc := 94) dX7_cased_94 rfl (by decide) (by decide) (by omega) (by omega) ?_ | refine sg_iinc (pc := 94) dX7_cased_94 rfl (by decide) (by decide) ?_
              refine sg_goto (pc := 97) (tgt := 16) dX7_cased_97 (by decide) ?_
              refine sg_lsub (lv' := [(5, _), (4, _), (0, _), (1, _), (2, _), (3, _)]) ⟨rfl, rfl, rfl, rfl, rfl, rfl, trivial⟩ ?_
              exact ih _ _ _ t71 (by omega) (by omega)
            · refine sg_iconst (pc := 83) (z := 1) dX7_cased_83 (by decide) ?_
              refine sg_goto (pc := 84) (tgt := 88) dX7_cased_84 (by decide) ?_
              refine sg_cS1 (pc := 88) (d' := d - 1) (mc' := 0) (ms' := 0) g dX7_cased_88 cb_X7_one ml_X7_92 ms_X7_one (Nat.le_of_ble_eq_true rfl) (by first | exact jl_d0 hd rfl | omega) (by first | exact Nat.le_of_ble_eq_true rfl | omega) (by first | exact Nat.le_of_ble_eq_true rfl | omega) ?_
              refine s_X7_one g (by first | exact jl_d1 hd rfl | omega) (fun z88 h88 b88 => sg_K1 ?_)
              (try simp only [fm_no, fm_one, fn_betw, fn_sign, fn_radix, fn_high, fn_low] at h88)
              first | refine sg_iaddB (pc := 91) dX7_cased_91 (by omega) (by omega) ?_ | refine sg_iadd (pc := 91) dX7_cased_91 ?_
              refine sg_istore (pc := 92) dX7_cased_92 (by decide) ?_
              first | refine sg_iincB (pc := 94) dX7_cased_94 rfl (by decide) (by decide) (by omega) (by omega) ?_ | refine sg_iinc (pc := 94) dX7_cased_94 rfl (by decide) (by decide) ?_
              refine sg_goto (pc := 97) (tgt := 16) dX7_cased_97 (by decide) ?_
              refine sg_lsub (lv' := [(5, _), (4, _), (0, _), (1, _), (2, _), (3, _)]) ⟨rfl, rfl, rfl, rfl, rfl, rfl, trivial⟩ ?_
              exact ih _ _ _ t71 (by omega) (by omega)
          · refine sg_iload (pc := 64) dX7_cased_64 rfl ?_
            refine sg_goto (pc := 66) (tgt := 71) dX7_cased_66 (by decide) ?_
            refine md_ast (pc := 71) dX7_cased_71 t1 ck_v0 (by omega) (by omega) (fun h71 t71 => ?_)
            refine sg_iload (pc := 72) dX7_cased_72 rfl ?_
            refine sg_aload_n (pc := 74) (j := 3) dX7_cased_74 rfl rfl ?_
            refine sg_iload (pc := 75) dX7_cased_75 rfl ?_
            refine md_ald (pc := 77) dX7_cased_77 t71.2.2 (by omega) (by omega) (fun x77 g77 => ?_)
            refine sg_iload (pc := 78) dX7_cased_78 rfl ?_
            refine sg_icmp_eq (pc := 80) (tgt := 87) dX7_cased_80 (by decide) (fun c80 => ?_) (fun c80 => ?_)
            · refine sg_iconst (pc := 87) (z := 0) dX7_cased_87 (by decide) ?_
              refine sg_cS1 (pc := 88) (d' := d - 1) (mc' := 0) (ms' := 0) g dX7_cased_88 cb_X7_one ml_X7_92 ms_X7_one (Nat.le_of_ble_eq_true rfl) (by first | exact jl_d0 hd rfl | omega) (by first | exact Nat.le_of_ble_eq_true rfl | omega) (by first | exact Nat.le_of_ble_eq_true rfl | omega) ?_
              refine s_X7_one g (by first | exact jl_d1 hd rfl | omega) (fun z88 h88 b88 => sg_K1 ?_)
              (try simp only [fm_no, fm_one, fn_betw, fn_sign, fn_radix, fn_high, fn_low] at h88)
              first | refine sg_iaddB (pc := 91) dX7_cased_91 (by omega) (by omega) ?_ | refine sg_iadd (pc := 91) dX7_cased_91 ?_
              refine sg_istore (pc := 92) dX7_cased_92 (by decide) ?_
              first | refine sg_iincB (pc := 94) dX7_cased_94 rfl (by decide) (by decide) (by omega) (by omega) ?_ | refine sg_iinc (pc := 94) dX7_cased_94 rfl (by decide) (by decide) ?_
              refine sg_goto (pc := 97) (tgt := 16) dX7_cased_97 (by decide) ?_
              refine sg_lsub (lv' := [(5, _), (4, _), (0, _), (1, _), (2, _), (3, _)]) ⟨rfl, rfl, rfl, rfl, rfl, rfl, trivial⟩ ?_
              exact ih _ _ _ t71 (by omega) (by omega)
            · refine sg_iconst (pc := 83) (z := 1) dX7_cased_83 (by decide) ?_
              refine sg_goto (pc := 84) (tgt := 88) dX7_cased_84 (by decide) ?_
              refine sg_cS1 (pc := 88) (d' := d - 1) (mc' := 0) (ms' := 0) g dX7_cased_88 cb_X7_one ml_X7_92 ms_X7_one (Nat.le_of_ble_eq_true rfl) (by first | exact jl_d0 hd rfl | omega) (by first | exact Nat.le_of_ble_eq_true rfl | omega) (by first | exact Nat.le_of_ble_eq_true rfl | omega) ?_
              refine s_X7_one g (by first | exact jl_d1 hd rfl | omega) (fun z88 h88 b88 => sg_K1 ?_)
              (try simp only [fm_no, fm_one, fn_betw, fn_sign, fn_radix, fn_high, fn_low] at h88)
              first | refine sg_iaddB (pc := 91) dX7_cased_91 (by omega) (by omega) ?_ | refine sg_iadd (pc := 91) dX7_cased_91 ?_
              refine sg_istore (pc := 92) dX7_cased_92 (by decide) ?_
              first | refine sg_iincB (pc := 94) dX7_cased_94 rfl (by decide) (by decide) (by omega) (by omega) ?_ | refine sg_iinc (pc := 94) dX7_cased_94 rfl (by decide) (by decide) ?_
              refine sg_goto (pc := 97) (tgt := 16) dX7_cased_97 (by decide) ?_
              refine sg_lsub (lv' := [(5, _), (4, _), (0, _), (1, _), (2, _), (3, _)]) ⟨rfl, rfl, rfl, rfl, rfl, rfl, trivial⟩ ?_
              exact ih _ _ _ t71 (by omega) (by omega)
  refine sg_lsub (lv' := [(5, _), (4, _), (0, _), (1, _), (2, _), (3, _)]) ⟨rfl, rfl, rfl, rfl, rfl, rfl, trivial⟩ ?_
  exact loop16 _ _ _ _ md_new (by omega) (Nat.lt_succ_self _)

set_option maxRecDepth 100000 in
theorem s_X7_raise {w : sg_W} {Q : sg_O → sg_H → Prop} {h : sg_H} (g : sg_G w) {d : Nat} (hd : 8 ≤ d) {M : Nat} {row : Int}  (hx : md_M w h M) (hQ : ∀ (v : Int) (h' : sg_H), md_Y w h h' M → Q (.inl (some (sg_i v))) h') : sg_C w mi_X7_raise d 3 56 [sg_r M, sg_i row] h Q := by
  refine sg_of pn_X7 (Nat.le_of_ble_eq_true rfl) ?_
  have y0 := md_Y0 hx
  have hk := hx.2.1
  refine sg_aload_n (pc := 0) (j := 0) dX7_raise_0 rfl rfl ?_
  refine sg_iload_n (pc := 1) (j := 1) dX7_raise_1 rfl rfl ?_
  refine sg_cS1 (pc := 2) (d' := d - 1) (mc' := 0) (ms' := 0) g dX7_raise_2 cb_X7_isNoRow ml_X7_68 ms_X7_isNoRow (Nat.le_of_ble_eq_true rfl) (by first | exact jl_d0 hd rfl | omega) (by first | exact Nat.le_of_ble_eq_true rfl | omega) (by first | exact Nat.le_of_ble_eq_true rfl | omega) ?_
  refine s_X7_isNoRow g (by first | exact jl_d1 hd rfl | omega) (fun z2 h2 b2 => sg_K1 ?_)
  (try simp only [fm_no, fm_one, fn_betw, fn_sign, fn_radix, fn_high, fn_low] at h2)
  refine sg_iconst (pc := 5) (z := 1) dX7_raise_5 (by decide) ?_
  refine sg_cE2 (pc := 6) (d' := d - 1) (mc' := 0) (ms' := 0) 8 g dX7_raise_6 cb_X7_start ml_X7_71 mn_X7_start rfl mv_X7_start (Nat.le_of_ble_eq_true rfl) (md_oc (by assumption)) (Nat.le_of_ble_eq_true rfl) (by first | exact jl_d0 hd rfl | omega) (by first | exact Nat.le_of_ble_eq_true rfl | omega) (by first | exact Nat.le_of_ble_eq_true rfl | omega) ?_
  refine s_X7_start g (by first | exact jl_d1 hd rfl | omega) (by omega) (by assumption) (fun v6 h6 b6 i6 t6 s6 u6 y6 => sg_K1 ?_)
  have x6 := y6.1
  have hk6 := x6.2.1
  have y6 := md_Yt (h0 := h) (by assumption) y6
  refine sg_if_eq (pc := 9) (tgt := 16) dX7_raise_9 (by decide) (fun c9 => ?_) (fun c9 => ?_)
  · refine sg_aload_n (pc := 16) (j := 0) dX7_raise_16 rfl rfl ?_
    refine sg_iload_n (pc := 17) (j := 1) dX7_raise_17 rfl rfl ?_
    refine sg_iconst (pc := 18) (z := 1) dX7_raise_18 (by decide) ?_
    refine sg_cE2 (pc := 19) (d' := d - 1) (mc' := 3) (ms' := 56) 8 g dX7_raise_19 cb_X7_cased ml_X7_96 mn_X7_cased rfl mv_X7_cased (Nat.le_of_ble_eq_true rfl) (md_oc (by assumption)) (Nat.le_of_ble_eq_true rfl) (by first | exact jl_d0 hd rfl | omega) (by first | exact Nat.le_of_ble_eq_true rfl | omega) (by first | exact Nat.le_of_ble_eq_true rfl | omega) ?_
    refine s_X7_cased g (by first | exact jl_d1 hd rfl | omega) (by omega) (by assumption) (fun v19 h19 y19 => sg_K1 ?_)
    have x19 := y19.1
    have hk19 := x19.2.1
    have y19 := md_Yt (h0 := h) (by assumption) y19
    refine sg_iret (pc := 22) dX7_raise_22 rfl (by first | exact Nat.le_of_ble_eq_true rfl | omega) (by first | exact Nat.le_of_ble_eq_true rfl | omega) ?_
    exact hQ _ _ (by assumption)
  · refine sg_iconst (pc := 12) (z := 0) dX7_raise_12 (by decide) ?_
    refine sg_goto (pc := 13) (tgt := 22) dX7_raise_13 (by decide) ?_
    refine sg_iret (pc := 22) dX7_raise_22 rfl (by first | exact Nat.le_of_ble_eq_true rfl | omega) (by first | exact Nat.le_of_ble_eq_true rfl | omega) ?_
    exact hQ _ _ (by assumption)

set_option maxRecDepth 100000 in
theorem s_X7_sink {w : sg_W} {Q : sg_O → sg_H → Prop} {h : sg_H} (g : sg_G w) {d : Nat} (hd : 8 ≤ d) {M : Nat} {row : Int}  (hx : md_M w h M) (hQ : ∀ (v : Int) (h' : sg_H), md_Y w h h' M → Q (.inl (some (sg_i v))) h') : sg_C w mi_X7_sink d 3 56 [sg_r M, sg_i row] h Q := by
  refine sg_of pn_X7 (Nat.le_of_ble_eq_true rfl) ?_
  have y0 := md_Y0 hx
  have hk := hx.2.1
  refine sg_aload_n (pc := 0) (j := 0) dX7_sink_0 rfl rfl ?_
  refine sg_iload_n (pc := 1) (j := 1) dX7_sink_1 rfl rfl ?_
  refine sg_cS1 (pc := 2) (d' := d - 1) (mc' := 0) (ms' := 0) g dX7_sink_2 cb_X7_isNoRow ml_X7_68 ms_X7_isNoRow (Nat.le_of_ble_eq_true rfl) (by first | exact jl_d0 hd rfl | omega) (by first | exact Nat.le_of_ble_eq_true rfl | omega) (by first | exact Nat.le_of_ble_eq_true rfl | omega) ?_
  refine s_X7_isNoRow g (by first | exact jl_d1 hd rfl | omega) (fun z2 h2 b2 => sg_K1 ?_)
  (try simp only [fm_no, fm_one, fn_betw, fn_sign, fn_radix, fn_high, fn_low] at h2)
  refine sg_iconst (pc := 5) (z := 1) dX7_sink_5 (by decide) ?_
  refine sg_cE2 (pc := 6) (d' := d - 1) (mc' := 0) (ms' := 0) 8 g dX7_sink_6 cb_X7_start ml_X7_71 mn_X7_start rfl mv_X7_start (Nat.le_of_ble_eq_true rfl) (md_oc (by assumption)) (Nat.le_of_ble_eq_true rfl) (by first | exact jl_d0 hd rfl | omega) (by first | exact Nat.le_of_ble_eq_true rfl | omega) (by first | exact Nat.le_of_ble_eq_true rfl | omega) ?_
  refine s_X7_start g (by first | exact jl_d1 hd rfl | omega) (by omega) (by assumption) (fun v6 h6 b6 i6 t6 s6 u6 y6 => sg_K1 ?_)
  have x6 := y6.1
  have hk6 := x6.2.1
  have y6 := md_Yt (h0 := h) (by assumption) y6
  refine sg_if_eq (pc := 9) (tgt := 16) dX7_sink_9 (by decide) (fun c9 => ?_) (fun c9 => ?_)
  · refine sg_aload_n (pc := 16) (j := 0) dX7_sink_16 rfl rfl ?_
    refine sg_iload_n (pc := 17) (j := 1) dX7_sink_17 rfl rfl ?_
    refine sg_iconst (pc := 18) (z := 0) dX7_sink_18 (by decide) ?_
    refine sg_cE2 (pc := 19) (d' := d - 1) (mc' := 3) (ms' := 56) 8 g dX7_sink_19 cb_X7_cased ml_X7_96 mn_X7_cased rfl mv_X7_cased (Nat.le_of_ble_eq_true rfl) (md_oc (by assumption)) (Nat.le_of_ble_eq_true rfl) (by first | exact jl_d0 hd rfl | omega) (by first | exact Nat.le_of_ble_eq_true rfl | omega) (by first | exact Nat.le_of_ble_eq_true rfl | omega) ?_
    refine s_X7_cased g (by first | exact jl_d1 hd rfl | omega) (by omega) (by assumption) (fun v19 h19 y19 => sg_K1 ?_)
    have x19 := y19.1
    have hk19 := x19.2.1
    have y19 := md_Yt (h0 := h) (by assumption) y19
    refine sg_iret (pc := 22) dX7_sink_22 rfl (by first | exact Nat.le_of_ble_eq_true rfl | omega) (by first | exact Nat.le_of_ble_eq_true rfl | omega) ?_
    exact hQ _ _ (by assumption)
  · refine sg_iconst (pc := 12) (z := 0) dX7_sink_12 (by decide) ?_
    refine sg_goto (pc := 13) (tgt := 22) dX7_sink_13 (by decide) ?_
    refine sg_iret (pc := 22) dX7_sink_22 rfl (by first | exact Nat.le_of_ble_eq_true rfl | omega) (by first | exact Nat.le_of_ble_eq_true rfl | omega) ?_
    exact hQ _ _ (by assumption)

set_option maxRecDepth 100000 in
theorem s_X7_sieve {w : sg_W} {Q : sg_O → sg_H → Prop} {h : sg_H} (g : sg_G w) {d : Nat} (hd : 9 ≤ d) {M : Nat} {row y is : Int}  (hx : md_M w h M) (hQ : ∀ (v : Int) (h' : sg_H), md_Y w h h' M → Q (.inl (some (sg_i v))) h') : sg_C w mi_X7_sieve d 84 1736 [sg_r M, sg_i row, sg_i y, sg_i is] h Q := by
  refine sg_of pn_X7 (Nat.le_of_ble_eq_true rfl) ?_
  have y0 := md_Y0 hx
  have hk := hx.2.1
  refine sg_aload_n (pc := 0) (j := 0) dX7_sieve_0 rfl rfl ?_
  refine sg_iload_n (pc := 1) (j := 1) dX7_sieve_1 rfl rfl ?_
  refine sg_cS1 (pc := 2) (d' := d - 1) (mc' := 0) (ms' := 0) g dX7_sieve_2 cb_X7_isNoRow ml_X7_68 ms_X7_isNoRow (Nat.le_of_ble_eq_true rfl) (by first | exact jl_d0 hd rfl | omega) (by first | exact Nat.le_of_ble_eq_true rfl | omega) (by first | exact Nat.le_of_ble_eq_true rfl | omega) ?_
  refine s_X7_isNoRow g (by first | exact jl_d1 hd rfl | omega) (fun z2 h2 b2 => sg_K1 ?_)
  (try simp only [fm_no, fm_one, fn_betw, fn_sign, fn_radix, fn_high, fn_low] at h2)
  refine sg_iconst (pc := 5) (z := 1) dX7_sieve_5 (by decide) ?_
  refine sg_cE2 (pc := 6) (d' := d - 1) (mc' := 0) (ms' := 0) 8 g dX7_sieve_6 cb_X7_start ml_X7_71 mn_X7_start rfl mv_X7_start (Nat.le_of_ble_eq_true rfl) (md_oc (by assumption)) (Nat.le_of_ble_eq_true rfl) (by first | exact jl_d0 hd rfl | omega) (by first | exact Nat.le_of_ble_eq_true rfl | omega) (by first | exact Nat.le_of_ble_eq_true rfl | omega) ?_
  refine s_X7_start g (by first | exact jl_d1 hd rfl | omega) (by omega) (by assumption) (fun v6 h6 b6 i6 t6 s6 u6 y6 => sg_K1 ?_)
  have x6 := y6.1
  have hk6 := x6.2.1
  have y6 := md_Yt (h0 := h) (by assumption) y6
  refine sg_if_ne (pc := 9) (tgt := 24) dX7_sieve_9 (by decide) (fun c9 => ?_) (fun c9 => ?_)
  · refine sg_iconst (pc := 24) (z := 0) dX7_sieve_24 (by decide) ?_
    refine sg_iret (pc := 25) dX7_sieve_25 rfl (by first | exact Nat.le_of_ble_eq_true rfl | omega) (by first | exact Nat.le_of_ble_eq_true rfl | omega) ?_
    exact hQ _ _ (by assumption)
  · refine sg_aload_n (pc := 12) (j := 0) dX7_sieve_12 rfl rfl ?_
    refine sg_iload_n (pc := 13) (j := 2) dX7_sieve_13 rfl rfl ?_
    refine sg_cS1 (pc := 14) (d' := d - 1) (mc' := 0) (ms' := 0) g dX7_sieve_14 cb_X7_isNoKind ml_X7_100 ms_X7_isNoKind (Nat.le_of_ble_eq_true rfl) (by first | exact jl_d0 hd rfl | omega) (by first | exact Nat.le_of_ble_eq_true rfl | omega) (by first | exact Nat.le_of_ble_eq_true rfl | omega) ?_
    refine s_X7_isNoKind g (by first | exact jl_d1 hd rfl | omega) (fun z14 h14 b14 => sg_K1 ?_)
    (try simp only [fm_no, fm_one, fn_betw, fn_sign, fn_radix, fn_high, fn_low] at h14)
    refine sg_iconst (pc := 17) (z := 2) dX7_sieve_17 (by decide) ?_
    refine sg_cE2 (pc := 18) (d' := d - 1) (mc' := 0) (ms' := 0) 8 g dX7_sieve_18 cb_X7_refuse ml_X7_45 mn_X7_refuse rfl mv_X7_refuse (Nat.le_of_ble_eq_true rfl) (md_oc (by assumption)) (Nat.le_of_ble_eq_true rfl) (by first | exact jl_d0 hd rfl | omega) (by first | exact Nat.le_of_ble_eq_true rfl | omega) (by first | exact Nat.le_of_ble_eq_true rfl | omega) ?_
    refine s_X7_refuse g (by first | exact jl_d1 hd rfl | omega) (by omega) (by assumption) (fun v18 h18 b18 i18 t18 s18 u18 y18 => sg_K1 ?_)
    have x18 := y18.1
    have hk18 := x18.2.1
    have y18 := md_Yt (h0 := h) (by assumption) y18
    refine sg_if_eq (pc := 21) (tgt := 26) dX7_sieve_21 (by decide) (fun c21 => ?_) (fun c21 => ?_)
    · refine sg_aload_n (pc := 26) (j := 0) dX7_sieve_26 rfl rfl ?_
      refine md_grw (pc := 27) g dX7_sieve_27 fk_X7_9 (by assumption) (fun r27 => ?_)
      refine sg_iload_n (pc := 30) (j := 1) dX7_sieve_30 rfl rfl ?_
      first | refine md_alr (pc := 31) dX7_sieve_31 (by assumption) (by omega) (by omega) (fun A31 l31 => ?_) | refine md_alt (pc := 31) dX7_sieve_31 (by assumption) (by omega) (by omega) (fun A31 l31 => ?_)
      refine md_len (pc := 32) dX7_sieve_32 (by assumption) (by omega) ?_
      refine sg_newa (t := 101) (N := (md_n h18 (md_a h18 (md_r h18 M) row))) (pc := 33) g dX7_sieve_33 ac_boolean rfl (by decide) (by decide) rfl rfl (by decide) (by omega) (by omega) (by omega) (by omega) ?_
      refine sg_astore (pc := 35) dX7_sieve_35 (by decide) ?_
      refine sg_iconst (pc := 37) (z := 0) dX7_sieve_37 (by decide) ?_
      refine sg_istore (pc := 38) dX7_sieve_38 (by decide) ?_
      have loop40 : ∀ (N : Nat) (h1 : sg_H) (p : Int), md_B h18 h1 (md_n h18 (md_a h18 (md_r h18 M) row)) → 0 ≤ p → (((md_n h18 (md_a h18 (md_r h18 M) row)) : Int) - p).toNat < N → sg_R w mi_X7_sieve d 84 1736 Q 40 [(5, sg_i p), (0, sg_r M), (1, sg_i row), (2, sg_i y), (3, sg_i is), (4, sg_r h18.1)] [] h1 1 (0 + (md_n h18 (md_a h18 (md_r h18 M) row))) := by
        intro N
        induction N with
        | zero => intro h1 p t1 p0 hm; exact absurd hm (Nat.not_lt_zero _)
        | succ N ih =>
          intro h1 p t1 p0 hm
          have x1 : md_M w h1 M := md_ME x18 (md_BE t1)
          have hk1 := x1.2.1
          have y1 : md_Y w h h1 M := md_YE y18 (md_BE t1)
          have s1 := md_SE x18 (md_BE t1) (i := row) (by omega) (by omega)
          refine sg_iload (pc := 40) dX7_sieve_40 rfl ?_
          refine sg_aload (pc := 42) dX7_sieve_42 rfl ?_
          refine md_zlen (pc := 44) dX7_sieve_44 t1.2.2 (by omega) ?_
          refine sg_icmp_ge (pc := 45) (tgt := 81) dX7_sieve_45 (by decide) (fun c45 => ?_) (fun c45 => ?_)
          · refine sg_aload (pc := 81) dX7_sieve_81 rfl ?_
            refine md_zlen (pc := 83) dX7_sieve_83 t1.2.2 (by omega) ?_
            refine sg_istore (pc := 84) dX7_sieve_84 (by decide) ?_
            refine sg_iload (pc := 86) dX7_sieve_86 rfl ?_
            refine sg_aload_n (pc := 88) (j := 0) dX7_sieve_88 rfl rfl ?_
            refine sg_iload_n (pc := 89) (j := 1) dX7_sieve_89 rfl rfl ?_
            refine sg_aload_n (pc := 90) (j := 0) dX7_sieve_90 rfl rfl ?_
            refine md_grw (pc := 91) g dX7_sieve_91 fk_X7_9 (by assumption) (fun r91 => ?_)
            refine sg_iload_n (pc := 94) (j := 1) dX7_sieve_94 rfl rfl ?_
            first | refine md_alr (pc := 95) dX7_sieve_95 (by assumption) (by omega) (by omega) (fun A95 l95 => ?_) | refine md_alt (pc := 95) dX7_sieve_95 (by assumption) (by omega) (by omega) (fun A95 l95 => ?_)
            refine sg_aload (pc := 96) dX7_sieve_96 rfl ?_
            refine sg_cS2 (pc := 98) (d' := d - 1) (mc' := 81) (ms' := 1680) g dX7_sieve_98 cb_X7_only ml_X7_74 ms_X7_only (Nat.le_of_ble_eq_true rfl) (by first | exact jl_d0 hd rfl | omega) (by first | exact Nat.le_of_ble_eq_true rfl | omega) (by first | exact Nat.le_of_ble_eq_true rfl | omega) ?_
            refine s_X7_only (c := 0) g (by first | exact jl_d1 hd rfl | omega) (by rw [← s1]; exact A95) t1.2.2 (by omega) (fun h98 b98 m98 E98 A98 l98 => sg_K1 ?_)
            have x98 : md_M w h98 M := md_ME (by assumption) E98
            have hk98 := x98.2.1
            have y98 : md_Y w h h98 M := md_YE (by assumption) E98
            refine sg_cE2 (pc := 101) (d' := d - 1) (mc' := 2) (ms' := 16) 8 g dX7_sieve_101 cb_X7_set ml_X7_78 mn_X7_set rfl mv_X7_set (Nat.le_of_ble_eq_true rfl) (md_oc (by assumption)) (Nat.le_of_ble_eq_true rfl) (by first | exact jl_d0 hd rfl | omega) (by first | exact Nat.le_of_ble_eq_true rfl | omega) (by first | exact Nat.le_of_ble_eq_true rfl | omega) ?_
            refine s_X7_set g (by first | exact jl_d1 hd rfl | omega) (by omega) (by assumption) (fun q => ⟨A98, (by omega)⟩) (fun q => absurd q (by omega)) (fun h101 y101 => sg_K1 ?_)
            have x101 := y101.1
            have hk101 := x101.2.1
            have y101 := md_Yt (h0 := h) (by assumption) y101
            first | refine sg_isubB (pc := 104) dX7_sieve_104 (by omega) (by omega) ?_ | refine sg_isub (pc := 104) dX7_sieve_104 ?_
            refine sg_iret (pc := 105) dX7_sieve_105 rfl (by first | exact Nat.le_of_ble_eq_true rfl | omega) (by first | exact Nat.le_of_ble_eq_true rfl | omega) ?_
            exact hQ _ _ (by assumption)
          · refine sg_aload (pc := 48) dX7_sieve_48 rfl ?_
            refine sg_iload (pc := 50) dX7_sieve_50 rfl ?_
            refine sg_aload_n (pc := 52) (j := 0) dX7_sieve_52 rfl rfl ?_
            refine md_grw (pc := 53) g dX7_sieve_53 fk_X7_9 (by assumption) (fun r53 => ?_)
            refine sg_iload_n (pc := 56) (j := 1) dX7_sieve_56 rfl rfl ?_
            first | refine md_alr (pc := 57) dX7_sieve_57 (by assumption) (by omega) (by omega) (fun A57 l57 => ?_) | refine md_alt (pc := 57) dX7_sieve_57 (by assumption) (by omega) (by omega) (fun A57 l57 => ?_)
            refine sg_iload (pc := 58) dX7_sieve_58 rfl ?_
            refine md_ald (pc := 60) dX7_sieve_60 (by assumption) (by omega) (by omega) (fun x60 g60 => ?_)
            try have q60 := ck_v1.mp g60
            refine sg_iload_n (pc := 61) (j := 2) dX7_sieve_61 rfl rfl ?_
            refine sg_cS2 (pc := 62) (d' := d - 1) (mc' := 0) (ms' := 0) g dX7_sieve_62 cb_X7_isKind ml_X7_26 ms_X7_isKind (Nat.le_of_ble_eq_true rfl) (by first | exact jl_d0 hd rfl | omega) (by first | exact Nat.le_of_ble_eq_true rfl | omega) (by first | exact Nat.le_of_ble_eq_true rfl | omega) ?_
            refine s_X7_isKind g (by first | exact jl_d1 hd rfl | omega) (by assumption) (by omega) (by omega) (fun z62 e62 b62 => sg_K1 ?_)
            refine sg_iload_n (pc := 65) (j := 3) dX7_sieve_65 rfl rfl ?_
            refine sg_icmp_ne (pc := 66) (tgt := 73) dX7_sieve_66 (by decide) (fun c66 => ?_) (fun c66 => ?_)
            · refine sg_iconst (pc := 73) (z := 0) dX7_sieve_73 (by decide) ?_
              refine md_zst (pc := 74) dX7_sieve_74 t1 (by decide) (by omega) (by omega) (fun h74 t74 => ?_)
              first | refine sg_iincB (pc := 75) dX7_sieve_75 rfl (by decide) (by decide) (by omega) (by omega) ?_ | refine sg_iinc (pc := 75) dX7_sieve_75 rfl (by decide) (by decide) ?_
              refine sg_goto (pc := 78) (tgt := 40) dX7_sieve_78 (by decide) ?_
              refine sg_lsub (lv' := [(5, _), (0, _), (1, _), (2, _), (3, _), (4, _)]) ⟨rfl, rfl, rfl, rfl, rfl, rfl, trivial⟩ ?_
              exact ih _ _ t74 (by omega) (by omega)
            · refine sg_iconst (pc := 69) (z := 1) dX7_sieve_69 (by decide) ?_
              refine sg_goto (pc := 70) (tgt := 74) dX7_sieve_70 (by decide) ?_
              refine md_zst (pc := 74) dX7_sieve_74 t1 (by decide) (by omega) (by omega) (fun h74 t74 => ?_)
              first | refine sg_iincB (pc := 75) dX7_sieve_75 rfl (by decide) (by decide) (by omega) (by omega) ?_ | refine sg_iinc (pc := 75) dX7_sieve_75 rfl (by decide) (by decide) ?_
              refine sg_goto (pc := 78) (tgt := 40) dX7_sieve_78 (by decide) ?_
              refine sg_lsub (lv' := [(5, _), (0, _), (1, _), (2, _), (3, _), (4, _)]) ⟨rfl, rfl, rfl, rfl, rfl, rfl, trivial⟩ ?_
              exact ih _ _ t74 (by omega) (by omega)
      refine sg_lsub (lv' := [(5, _), (0, _), (1, _), (2, _), (3, _), (4, _)]) ⟨rfl, rfl, rfl, rfl, rfl, rfl, trivial⟩ ?_
      exact loop40 _ _ _ md_newB (by omega) (Nat.lt_succ_self _)
    · refine sg_iconst (pc := 24) (z := 0) dX7_sieve_24 (by decide) ?_
      refine sg_iret (pc := 25) dX7_sieve_25 rfl (by first | exact Nat.le_of_ble_eq_true rfl | omega) (by first | exact Nat.le_of_ble_eq_true rfl | omega) ?_
      exact hQ _ _ (by assumption)

set_option maxRecDepth 100000 in
theorem s_X7_strip {w : sg_W} {Q : sg_O → sg_H → Prop} {h : sg_H} (g : sg_G w) {d : Nat} (hd : 9 ≤ d) {M : Nat} {row : Int}  (hx : md_M w h M) (hQ : ∀ (v : Int) (h' : sg_H), md_Y w h h' M → Q (.inl (some (sg_i v))) h') : sg_C w mi_X7_strip d 3 56 [sg_r M, sg_i row] h Q := by
  refine sg_of pn_X7 (Nat.le_of_ble_eq_true rfl) ?_
  have y0 := md_Y0 hx
  have hk := hx.2.1
  refine sg_aload_n (pc := 0) (j := 0) dX7_strip_0 rfl rfl ?_
  refine sg_iload_n (pc := 1) (j := 1) dX7_strip_1 rfl rfl ?_
  refine sg_cS1 (pc := 2) (d' := d - 1) (mc' := 0) (ms' := 0) g dX7_strip_2 cb_X7_isNoRow ml_X7_68 ms_X7_isNoRow (Nat.le_of_ble_eq_true rfl) (by first | exact jl_d0 hd rfl | omega) (by first | exact Nat.le_of_ble_eq_true rfl | omega) (by first | exact Nat.le_of_ble_eq_true rfl | omega) ?_
  refine s_X7_isNoRow g (by first | exact jl_d1 hd rfl | omega) (fun z2 h2 b2 => sg_K1 ?_)
  (try simp only [fm_no, fm_one, fn_betw, fn_sign, fn_radix, fn_high, fn_low] at h2)
  refine sg_iconst (pc := 5) (z := 1) dX7_strip_5 (by decide) ?_
  refine sg_cE2 (pc := 6) (d' := d - 1) (mc' := 0) (ms' := 0) 8 g dX7_strip_6 cb_X7_start ml_X7_71 mn_X7_start rfl mv_X7_start (Nat.le_of_ble_eq_true rfl) (md_oc (by assumption)) (Nat.le_of_ble_eq_true rfl) (by first | exact jl_d0 hd rfl | omega) (by first | exact Nat.le_of_ble_eq_true rfl | omega) (by first | exact Nat.le_of_ble_eq_true rfl | omega) ?_
  refine s_X7_start g (by first | exact jl_d1 hd rfl | omega) (by omega) (by assumption) (fun v6 h6 b6 i6 t6 s6 u6 y6 => sg_K1 ?_)
  have x6 := y6.1
  have hk6 := x6.2.1
  have y6 := md_Yt (h0 := h) (by assumption) y6
  refine sg_if_eq (pc := 9) (tgt := 14) dX7_strip_9 (by decide) (fun c9 => ?_) (fun c9 => ?_)
  · refine sg_iconst (pc := 14) (z := 0) dX7_strip_14 (by decide) ?_
    refine sg_istore_n (pc := 15) (j := 2) dX7_strip_15 rfl (by decide) ?_
    refine sg_aload_n (pc := 16) (j := 0) dX7_strip_16 rfl rfl ?_
    refine md_grw (pc := 17) g dX7_strip_17 fk_X7_9 (by assumption) (fun r17 => ?_)
    refine sg_iload_n (pc := 20) (j := 1) dX7_strip_20 rfl rfl ?_
    first | refine md_alr (pc := 21) dX7_strip_21 (by assumption) (by omega) (by omega) (fun A21 l21 => ?_) | refine md_alt (pc := 21) dX7_strip_21 (by assumption) (by omega) (by omega) (fun A21 l21 => ?_)
    refine md_len (pc := 22) dX7_strip_22 (by assumption) (by omega) ?_
    refine sg_istore_n (pc := 23) (j := 3) dX7_strip_23 rfl (by decide) ?_
    have loop24 : ∀ (N : Nat) (p : Int), 0 ≤ p → p ≤ ((md_n h6 (md_a h6 (md_r h6 M) row)) : Int) → (((md_n h6 (md_a h6 (md_r h6 M) row)) : Int) - p).toNat < N → sg_R w mi_X7_strip d 3 56 Q 24 [(2, sg_i p), (3, sg_i ((md_n h6 (md_a h6 (md_r h6 M) row)) : Int)), (0, sg_r M), (1, sg_i row)] [] h6 0 0 := by
      intro N
      induction N with
      | zero => intro p p0 p1 hm; exact absurd hm (Nat.not_lt_zero _)
      | succ N ih =>
        intro p p0 p1 hm
        refine sg_iload_n (pc := 24) (j := 2) dX7_strip_24 rfl rfl ?_
        refine sg_iload_n (pc := 25) (j := 3) dX7_strip_25 rfl rfl ?_
        refine sg_icmp_ge (pc := 26) (tgt := 50) dX7_strip_26 (by decide) (fun c26 => ?_) (fun c26 => ?_)
        · have loop50 : ∀ (N : Nat) (q : Int), p ≤ q → q ≤ ((md_n h6 (md_a h6 (md_r h6 M) row)) : Int) → (q - p).toNat < N → sg_R w mi_X7_strip d 3 56 Q 50 [(3, sg_i q), (2, sg_i p), (0, sg_r M), (1, sg_i row)] [] h6 0 0 := by
            intro N
            induction N with
            | zero => intro q q0 q1 hm; exact absurd hm (Nat.not_lt_zero _)
            | succ N ihb =>
              intro q q0 q1 hm
              refine sg_iload_n (pc := 50) (j := 2) dX7_strip_50 rfl rfl ?_
              refine sg_iload_n (pc := 51) (j := 3) dX7_strip_51 rfl rfl ?_
              refine sg_icmp_ge (pc := 52) (tgt := 78) dX7_strip_52 (by decide) (fun c52 => ?_) (fun c52 => ?_)
              · refine sg_aload_n (pc := 78) (j := 0) dX7_strip_78 rfl rfl ?_
                refine md_grw (pc := 79) g dX7_strip_79 fk_X7_9 (by assumption) (fun r79 => ?_)
                refine sg_iload_n (pc := 82) (j := 1) dX7_strip_82 rfl rfl ?_
                first | refine md_alr (pc := 83) dX7_strip_83 (by assumption) (by omega) (by omega) (fun A83 l83 => ?_) | refine md_alt (pc := 83) dX7_strip_83 (by assumption) (by omega) (by omega) (fun A83 l83 => ?_)
                refine md_len (pc := 84) dX7_strip_84 (by assumption) (by omega) ?_
                refine sg_istore (pc := 85) dX7_strip_85 (by decide) ?_
                refine sg_iload (pc := 87) dX7_strip_87 rfl ?_
                refine sg_aload_n (pc := 89) (j := 0) dX7_strip_89 rfl rfl ?_
                refine sg_iload_n (pc := 90) (j := 1) dX7_strip_90 rfl rfl ?_
                refine sg_aload_n (pc := 91) (j := 0) dX7_strip_91 rfl rfl ?_
                refine md_grw (pc := 92) g dX7_strip_92 fk_X7_9 (by assumption) (fun r92 => ?_)
                refine sg_iload_n (pc := 95) (j := 1) dX7_strip_95 rfl rfl ?_
                first | refine md_alr (pc := 96) dX7_strip_96 (by assumption) (by omega) (by omega) (fun A96 l96 => ?_) | refine md_alt (pc := 96) dX7_strip_96 (by assumption) (by omega) (by omega) (fun A96 l96 => ?_)
                refine sg_iload_n (pc := 97) (j := 2) dX7_strip_97 rfl rfl ?_
                refine sg_iload_n (pc := 98) (j := 3) dX7_strip_98 rfl rfl ?_
                refine sg_cS3 (pc := 99) (d' := d - 1) (mc' := 1) (ms' := (q - p).toNat) g dX7_strip_99 cb_X7_part ml_X7_82 ms_X7_part (Nat.le_of_ble_eq_true rfl) (by first | exact jl_d0 hd rfl | omega) (by first | exact Nat.le_of_ble_eq_true rfl | omega) (by first | exact Nat.le_of_ble_eq_true rfl | omega) ?_
                refine s_X7_part (c := 0) (m := (q - p).toNat) (n := (md_n h6 (md_a h6 (md_r h6 M) row))) g (by first | exact jl_d1 hd rfl | omega) (by first | assumption | (exfalso; omega)) (by omega) (by omega) (by omega) (by omega) (fun h99 t99 => sg_K1 ?_)
                have x99 : md_M w h99 M := md_ME (by assumption) (md_TE t99)
                have hk99 := x99.2.1
                have y99 : md_Y w h h99 M := md_YE (by assumption) (md_TE t99)
                refine sg_cE2 (pc := 102) (d' := d - 1) (mc' := 2) (ms' := 16) 8 g dX7_strip_102 cb_X7_set ml_X7_78 mn_X7_set rfl mv_X7_set (Nat.le_of_ble_eq_true rfl) (md_oc (by assumption)) (Nat.le_of_ble_eq_true rfl) (by first | exact jl_d0 hd rfl | omega) (by first | exact Nat.le_of_ble_eq_true rfl | omega) (by first | exact Nat.le_of_ble_eq_true rfl | omega) ?_
                refine s_X7_set g (by first | exact jl_d1 hd rfl | omega) (by omega) (by assumption) (fun q => ⟨t99.2.2, (by omega)⟩) (fun q => absurd q (by omega)) (fun h102 y102 => sg_K1 ?_)
                have x102 := y102.1
                have hk102 := x102.2.1
                have y102 := md_Yt (h0 := h) (by assumption) y102
                first | refine sg_isubB (pc := 105) dX7_strip_105 (by omega) (by omega) ?_ | refine sg_isub (pc := 105) dX7_strip_105 ?_
                refine sg_iret (pc := 106) dX7_strip_106 rfl (by first | exact Nat.le_of_ble_eq_true rfl | omega) (by first | exact Nat.le_of_ble_eq_true rfl | omega) ?_
                exact hQ _ _ (by assumption)
              · refine sg_aload_n (pc := 55) (j := 0) dX7_strip_55 rfl rfl ?_
                refine md_grw (pc := 56) g dX7_strip_56 fk_X7_9 (by assumption) (fun r56 => ?_)
                refine sg_iload_n (pc := 59) (j := 1) dX7_strip_59 rfl rfl ?_
                first | refine md_alr (pc := 60) dX7_strip_60 (by assumption) (by omega) (by omega) (fun A60 l60 => ?_) | refine md_alt (pc := 60) dX7_strip_60 (by assumption) (by omega) (by omega) (fun A60 l60 => ?_)
                refine sg_iload_n (pc := 61) (j := 3) dX7_strip_61 rfl rfl ?_
                refine sg_iconst (pc := 62) (z := 1) dX7_strip_62 (by decide) ?_
                first | refine sg_isubB (pc := 63) dX7_strip_63 (by omega) (by omega) ?_ | refine sg_isub (pc := 63) dX7_strip_63 ?_
                refine md_ald (pc := 64) dX7_strip_64 (by assumption) (by omega) (by omega) (fun x64 g64 => ?_)
                try have q64 := ck_v1.mp g64
                refine sg_iconst (pc := 65) (z := 3) dX7_strip_65 (by decide) ?_
                refine sg_cS2 (pc := 66) (d' := d - 1) (mc' := 0) (ms' := 0) g dX7_strip_66 cb_X7_isKind ml_X7_26 ms_X7_isKind (Nat.le_of_ble_eq_true rfl) (by first | exact jl_d0 hd rfl | omega) (by first | exact Nat.le_of_ble_eq_true rfl | omega) (by first | exact Nat.le_of_ble_eq_true rfl | omega) ?_
                refine s_X7_isKind g (by first | exact jl_d1 hd rfl | omega) (by assumption) (by omega) (by omega) (fun z66 e66 b66 => sg_K1 ?_)
                refine sg_if_eq (pc := 69) (tgt := 78) dX7_strip_69 (by decide) (fun c69 => ?_) (fun c69 => ?_)
                · refine sg_aload_n (pc := 78) (j := 0) dX7_strip_78 rfl rfl ?_
                  refine md_grw (pc := 79) g dX7_strip_79 fk_X7_9 (by assumption) (fun r79 => ?_)
                  refine sg_iload_n (pc := 82) (j := 1) dX7_strip_82 rfl rfl ?_
                  first | refine md_alr (pc := 83) dX7_strip_83 (by assumption) (by omega) (by omega) (fun A83 l83 => ?_) | refine md_alt (pc := 83) dX7_strip_83 (by assumption) (by omega) (by omega) (fun A83 l83 => ?_)
                  refine md_len (pc := 84) dX7_strip_84 (by assumption) (by omega) ?_
                  refine sg_istore (pc := 85) dX7_strip_85 (by decide) ?_
                  refine sg_iload (pc := 87) dX7_strip_87 rfl ?_
                  refine sg_aload_n (pc := 89) (j := 0) dX7_strip_89 rfl rfl ?_
                  refine sg_iload_n (pc := 90) (j := 1) dX7_strip_90 rfl rfl ?_
                  refine sg_aload_n (pc := 91) (j := 0) dX7_strip_91 rfl rfl ?_
                  refine md_grw (pc := 92) g dX7_strip_92 fk_X7_9 (by assumption) (fun r92 => ?_)
                  refine sg_iload_n (pc := 95) (j := 1) dX7_strip_95 rfl rfl ?_
                  first | refine md_alr (pc := 96) dX7_strip_96 (by assumption) (by omega) (by omega) (fun A96 l96 => ?_) | refine md_alt (pc := 96) dX7_strip_96 (by assumption) (by omega) (by omega) (fun A96 l96 => ?_)
                  refine sg_iload_n (pc := 97) (j := 2) dX7_strip_97 rfl rfl ?_
                  refine sg_iload_n (pc := 98) (j := 3) dX7_strip_98 rfl rfl ?_
                  refine sg_cS3 (pc := 99) (d' := d - 1) (mc' := 1) (ms' := (q - p).toNat) g dX7_strip_99 cb_X7_part ml_X7_82 ms_X7_part (Nat.le_of_ble_eq_true rfl) (by first | exact jl_d0 hd rfl | omega) (by first | exact Nat.le_of_ble_eq_true rfl | omega) (by first | exact Nat.le_of_ble_eq_true rfl | omega) ?_
                  refine s_X7_part (c := 0) (m := (q - p).toNat) (n := (md_n h6 (md_a h6 (md_r h6 M) row))) g (by first | exact jl_d1 hd rfl | omega) (by first | assumption | (exfalso; omega)) (by omega) (by omega) (by omega) (by omega) (fun h99 t99 => sg_K1 ?_)
                  have x99 : md_M w h99 M := md_ME (by assumption) (md_TE t99)
                  have hk99 := x99.2.1
                  have y99 : md_Y w h h99 M := md_YE (by assumption) (md_TE t99)
                  refine sg_cE2 (pc := 102) (d' := d - 1) (mc' := 2) (ms' := 16) 8 g dX7_strip_102 cb_X7_set ml_X7_78 mn_X7_set rfl mv_X7_set (Nat.le_of_ble_eq_true rfl) (md_oc (by assumption)) (Nat.le_of_ble_eq_true rfl) (by first | exact jl_d0 hd rfl | omega) (by first | exact Nat.le_of_ble_eq_true rfl | omega) (by first | exact Nat.le_of_ble_eq_true rfl | omega) ?_
                  refine s_X7_set g (by first | exact jl_d1 hd rfl | omega) (by omega) (by assumption) (fun q => ⟨t99.2.2, (by omega)⟩) (fun q => absurd q (by omega)) (fun h102 y102 => sg_K1 ?_)
                  have x102 := y102.1
                  have hk102 := x102.2.1
                  have y102 := md_Yt (h0 := h) (by assumption) y102
                  first | refine sg_isubB (pc := 105) dX7_strip_105 (by omega) (by omega) ?_ | refine sg_isub (pc := 105) dX7_strip_105 ?_
                  refine sg_iret (pc := 106) dX7_strip_106 rfl (by first | exact Nat.le_of_ble_eq_true rfl | omega) (by first | exact Nat.le_of_ble_eq_true rfl | omega) ?_
                  exact hQ _ _ (by assumption)
                · first | refine sg_iincB (pc := 72) dX7_strip_72 rfl (by decide) (by decide) (by omega) (by omega) ?_ | refine sg_iinc (pc := 72) dX7_strip_72 rfl (by decide) (by decide) ?_
                  refine sg_goto (pc := 75) (tgt := 50) dX7_strip_75 (by decide) ?_
                  refine sg_lsub (lv' := [(3, _), (2, _), (0, _), (1, _)]) ⟨rfl, rfl, rfl, rfl, trivial⟩ ?_
                  exact ihb _ (by omega) (by omega) (by omega)
          refine sg_lsub (lv' := [(3, _), (2, _), (0, _), (1, _)]) ⟨rfl, rfl, rfl, rfl, trivial⟩ ?_
          exact loop50 _ _ (by omega) (by omega) (Nat.lt_succ_self _)
        · refine sg_aload_n (pc := 29) (j := 0) dX7_strip_29 rfl rfl ?_
          refine md_grw (pc := 30) g dX7_strip_30 fk_X7_9 (by assumption) (fun r30 => ?_)
          refine sg_iload_n (pc := 33) (j := 1) dX7_strip_33 rfl rfl ?_
          first | refine md_alr (pc := 34) dX7_strip_34 (by assumption) (by omega) (by omega) (fun A34 l34 => ?_) | refine md_alt (pc := 34) dX7_strip_34 (by assumption) (by omega) (by omega) (fun A34 l34 => ?_)
          refine sg_iload_n (pc := 35) (j := 2) dX7_strip_35 rfl rfl ?_
          refine md_ald (pc := 36) dX7_strip_36 (by assumption) (by omega) (by omega) (fun x36 g36 => ?_)
          try have q36 := ck_v1.mp g36
          refine sg_iconst (pc := 37) (z := 3) dX7_strip_37 (by decide) ?_
          refine sg_cS2 (pc := 38) (d' := d - 1) (mc' := 0) (ms' := 0) g dX7_strip_38 cb_X7_isKind ml_X7_26 ms_X7_isKind (Nat.le_of_ble_eq_true rfl) (by first | exact jl_d0 hd rfl | omega) (by first | exact Nat.le_of_ble_eq_true rfl | omega) (by first | exact Nat.le_of_ble_eq_true rfl | omega) ?_
          refine s_X7_isKind g (by first | exact jl_d1 hd rfl | omega) (by assumption) (by omega) (by omega) (fun z38 e38 b38 => sg_K1 ?_)
          refine sg_if_eq (pc := 41) (tgt := 50) dX7_strip_41 (by decide) (fun c41 => ?_) (fun c41 => ?_)
          · have loop50 : ∀ (N : Nat) (q : Int), p ≤ q → q ≤ ((md_n h6 (md_a h6 (md_r h6 M) row)) : Int) → (q - p).toNat < N → sg_R w mi_X7_strip d 3 56 Q 50 [(3, sg_i q), (2, sg_i p), (0, sg_r M), (1, sg_i row)] [] h6 0 0 := by
              intro N
              induction N with
              | zero => intro q q0 q1 hm; exact absurd hm (Nat.not_lt_zero _)
              | succ N ihb =>
                intro q q0 q1 hm
                refine sg_iload_n (pc := 50) (j := 2) dX7_strip_50 rfl rfl ?_
                refine sg_iload_n (pc := 51) (j := 3) dX7_strip_51 rfl rfl ?_
                refine sg_icmp_ge (pc := 52) (tgt := 78) dX7_strip_52 (by decide) (fun c52 => ?_) (fun c52 => ?_)
                · refine sg_aload_n (pc := 78) (j := 0) dX7_strip_78 rfl rfl ?_
                  refine md_grw (pc := 79) g dX7_strip_79 fk_X7_9 (by assumption) (fun r79 => ?_)
                  refine sg_iload_n (pc := 82) (j := 1) dX7_strip_82 rfl rfl ?_
                  first | refine md_alr (pc := 83) dX7_strip_83 (by assumption) (by omega) (by omega) (fun A83 l83 => ?_) | refine md_alt (pc := 83) dX7_strip_83 (by assumption) (by omega) (by omega) (fun A83 l83 => ?_)
                  refine md_len (pc := 84) dX7_strip_84 (by assumption) (by omega) ?_
                  refine sg_istore (pc := 85) dX7_strip_85 (by decide) ?_
                  refine sg_iload (pc := 87) dX7_strip_87 rfl ?_
                  refine sg_aload_n (pc := 89) (j := 0) dX7_strip_89 rfl rfl ?_
                  refine sg_iload_n (pc := 90) (j := 1) dX7_strip_90 rfl rfl ?_
                  refine sg_aload_n (pc := 91) (j := 0) dX7_strip_91 rfl rfl ?_
                  refine md_grw (pc := 92) g dX7_strip_92 fk_X7_9 (by assumption) (fun r92 => ?_)
                  refine sg_iload_n (pc := 95) (j := 1) dX7_strip_95 rfl rfl ?_
                  first | refine md_alr (pc := 96) dX7_strip_96 (by assumption) (by omega) (by omega) (fun A96 l96 => ?_) | refine md_alt (pc := 96) dX7_strip_96 (by assumption) (by omega) (by omega) (fun A96 l96 => ?_)
                  refine sg_iload_n (pc := 97) (j := 2) dX7_strip_97 rfl rfl ?_
                  refine sg_iload_n (pc := 98) (j := 3) dX7_strip_98 rfl rfl ?_
                  refine sg_cS3 (pc := 99) (d' := d - 1) (mc' := 1) (ms' := (q - p).toNat) g dX7_strip_99 cb_X7_part ml_X7_82 ms_X7_part (Nat.le_of_ble_eq_true rfl) (by first | exact jl_d0 hd rfl | omega) (by first | exact Nat.le_of_ble_eq_true rfl | omega) (by first | exact Nat.le_of_ble_eq_true rfl | omega) ?_
                  refine s_X7_part (c := 0) (m := (q - p).toNat) (n := (md_n h6 (md_a h6 (md_r h6 M) row))) g (by first | exact jl_d1 hd rfl | omega) (by first | assumption | (exfalso; omega)) (by omega) (by omega) (by omega) (by omega) (fun h99 t99 => sg_K1 ?_)
                  have x99 : md_M w h99 M := md_ME (by assumption) (md_TE t99)
                  have hk99 := x99.2.1
                  have y99 : md_Y w h h99 M := md_YE (by assumption) (md_TE t99)
                  refine sg_cE2 (pc := 102) (d' := d - 1) (mc' := 2) (ms' := 16) 8 g dX7_strip_102 cb_X7_set ml_X7_78 mn_X7_set rfl mv_X7_set (Nat.le_of_ble_eq_true rfl) (md_oc (by assumption)) (Nat.le_of_ble_eq_true rfl) (by first | exact jl_d0 hd rfl | omega) (by first | exact Nat.le_of_ble_eq_true rfl | omega) (by first | exact Nat.le_of_ble_eq_true rfl | omega) ?_
                  refine s_X7_set g (by first | exact jl_d1 hd rfl | omega) (by omega) (by assumption) (fun q => ⟨t99.2.2, (by omega)⟩) (fun q => absurd q (by omega)) (fun h102 y102 => sg_K1 ?_)
                  have x102 := y102.1
                  have hk102 := x102.2.1
                  have y102 := md_Yt (h0 := h) (by assumption) y102
                  first | refine sg_isubB (pc := 105) dX7_strip_105 (by omega) (by omega) ?_ | refine sg_isub (pc := 105) dX7_strip_105 ?_
                  refine sg_iret (pc := 106) dX7_strip_106 rfl (by first | exact Nat.le_of_ble_eq_true rfl | omega) (by first | exact Nat.le_of_ble_eq_true rfl | omega) ?_
                  exact hQ _ _ (by assumption)
                · refine sg_aload_n (pc := 55) (j := 0) dX7_strip_55 rfl rfl ?_
                  refine md_grw (pc := 56) g dX7_strip_56 fk_X7_9 (by assumption) (fun r56 => ?_)
                  refine sg_iload_n (pc := 59) (j := 1) dX7_strip_59 rfl rfl ?_
                  first | refine md_alr (pc := 60) dX7_strip_60 (by assumption) (by omega) (by omega) (fun A60 l60 => ?_) | refine md_alt (pc := 60) dX7_strip_60 (by assumption) (by omega) (by omega) (fun A60 l60 => ?_)
                  refine sg_iload_n (pc := 61) (j := 3) dX7_strip_61 rfl rfl ?_
                  refine sg_iconst (pc := 62) (z := 1) dX7_strip_62 (by decide) ?_
                  first | refine sg_isubB (pc := 63) dX7_strip_63 (by omega) (by omega) ?_ | refine sg_isub (pc := 63) dX7_strip_63 ?_
                  refine md_ald (pc := 64) dX7_strip_64 (by assumption) (by omega) (by omega) (fun x64 g64 => ?_)
                  try have q64 := ck_v1.mp g64
                  refine sg_iconst (pc := 65) (z := 3) dX7_strip_65 (by decide) ?_
                  refine sg_cS2 (pc := 66) (d' := d - 1) (mc' := 0) (ms' := 0) g dX7_strip_66 cb_X7_isKind ml_X7_26 ms_X7_isKind (Nat.le_of_ble_eq_true rfl) (by first | exact jl_d0 hd rfl | omega) (by first | exact Nat.le_of_ble_eq_true rfl | omega) (by first | exact Nat.le_of_ble_eq_true rfl | omega) ?_
                  refine s_X7_isKind g (by first | exact jl_d1 hd rfl | omega) (by assumption) (by omega) (by omega) (fun z66 e66 b66 => sg_K1 ?_)
                  refine sg_if_eq (pc := 69) (tgt := 78) dX7_strip_69 (by decide) (fun c69 => ?_) (fun c69 => ?_)
                  · refine sg_aload_n (pc := 78) (j := 0) dX7_strip_78 rfl rfl ?_
                    refine md_grw (pc := 79) g dX7_strip_79 fk_X7_9 (by assumption) (fun r79 => ?_)
                    refine sg_iload_n (pc := 82) (j := 1) dX7_strip_82 rfl rfl ?_
                    first | refine md_alr (pc := 83) dX7_strip_83 (by assumption) (by omega) (by omega) (fun A83 l83 => ?_) | refine md_alt (pc := 83) dX7_strip_83 (by assumption) (by omega) (by omega) (fun A83 l83 => ?_)
                    refine md_len (pc := 84) dX7_strip_84 (by assumption) (by omega) ?_
                    refine sg_istore (pc := 85) dX7_strip_85 (by decide) ?_
                    refine sg_iload (pc := 87) dX7_strip_87 rfl ?_
                    refine sg_aload_n (pc := 89) (j := 0) dX7_strip_89 rfl rfl ?_
                    refine sg_iload_n (pc := 90) (j := 1) dX7_strip_90 rfl rfl ?_
                    refine sg_aload_n (pc := 91) (j := 0) dX7_strip_91 rfl rfl ?_
                    refine md_grw (pc := 92) g dX7_strip_92 fk_X7_9 (by assumption) (fun r92 => ?_)
                    refine sg_iload_n (pc := 95) (j := 1) dX7_strip_95 rfl rfl ?_
                    first | refine md_alr (pc := 96) dX7_strip_96 (by assumption) (by omega) (by omega) (fun A96 l96 => ?_) | refine md_alt (pc := 96) dX7_strip_96 (by assumption) (by omega) (by omega) (fun A96 l96 => ?_)
                    refine sg_iload_n (pc := 97) (j := 2) dX7_strip_97 rfl rfl ?_
                    refine sg_iload_n (pc := 98) (j := 3) dX7_strip_98 rfl rfl ?_
                    refine sg_cS3 (pc := 99) (d' := d - 1) (mc' := 1) (ms' := (q - p).toNat) g dX7_strip_99 cb_X7_part ml_X7_82 ms_X7_part (Nat.le_of_ble_eq_true rfl) (by first | exact jl_d0 hd rfl | omega) (by first | exact Nat.le_of_ble_eq_true rfl | omega) (by first | exact Nat.le_of_ble_eq_true rfl | omega) ?_
                    refine s_X7_part (c := 0) (m := (q - p).toNat) (n := (md_n h6 (md_a h6 (md_r h6 M) row))) g (by first | exact jl_d1 hd rfl | omega) (by first | assumption | (exfalso; omega)) (by omega) (by omega) (by omega) (by omega) (fun h99 t99 => sg_K1 ?_)
                    have x99 : md_M w h99 M := md_ME (by assumption) (md_TE t99)
                    have hk99 := x99.2.1
                    have y99 : md_Y w h h99 M := md_YE (by assumption) (md_TE t99)
                    refine sg_cE2 (pc := 102) (d' := d - 1) (mc' := 2) (ms' := 16) 8 g dX7_strip_102 cb_X7_set ml_X7_78 mn_X7_set rfl mv_X7_set (Nat.le_of_ble_eq_true rfl) (md_oc (by assumption)) (Nat.le_of_ble_eq_true rfl) (by first | exact jl_d0 hd rfl | omega) (by first | exact Nat.le_of_ble_eq_true rfl | omega) (by first | exact Nat.le_of_ble_eq_true rfl | omega) ?_
                    refine s_X7_set g (by first | exact jl_d1 hd rfl | omega) (by omega) (by assumption) (fun q => ⟨t99.2.2, (by omega)⟩) (fun q => absurd q (by omega)) (fun h102 y102 => sg_K1 ?_)
                    have x102 := y102.1
                    have hk102 := x102.2.1
                    have y102 := md_Yt (h0 := h) (by assumption) y102
                    first | refine sg_isubB (pc := 105) dX7_strip_105 (by omega) (by omega) ?_ | refine sg_isub (pc := 105) dX7_strip_105 ?_
                    refine sg_iret (pc := 106) dX7_strip_106 rfl (by first | exact Nat.le_of_ble_eq_true rfl | omega) (by first | exact Nat.le_of_ble_eq_true rfl | omega) ?_
                    exact hQ _ _ (by assumption)
                  · first | refine sg_iincB (pc := 72) dX7_strip_72 rfl (by decide) (by decide) (by omega) (by omega) ?_ | refine sg_iinc (pc := 72) dX7_strip_72 rfl (by decide) (by decide) ?_
                    refine sg_goto (pc := 75) (tgt := 50) dX7_strip_75 (by decide) ?_
                    refine sg_lsub (lv' := [(3, _), (2, _), (0, _), (1, _)]) ⟨rfl, rfl, rfl, rfl, trivial⟩ ?_
                    exact ihb _ (by omega) (by omega) (by omega)
            refine sg_lsub (lv' := [(3, _), (2, _), (0, _), (1, _)]) ⟨rfl, rfl, rfl, rfl, trivial⟩ ?_
            exact loop50 _ _ (by omega) (by omega) (Nat.lt_succ_self _)
          · first | refine sg_iincB (pc := 44) dX7_strip_44 rfl (by decide) (by decide) (by omega) (by omega) ?_ | refine sg_iinc (pc := 44) dX7_strip_44 rfl (by decide) (by decide) ?_
            refine sg_goto (pc := 47) (tgt := 24) dX7_strip_47 (by decide) ?_
            refine sg_lsub (lv' := [(2, _), (3, _), (0, _), (1, _)]) ⟨rfl, rfl, rfl, rfl, trivial⟩ ?_
            exact ih _ (by omega) (by omega) (by omega)
    refine sg_lsub (lv' := [(2, _), (3, _), (0, _), (1, _)]) ⟨rfl, rfl, rfl, rfl, trivial⟩ ?_
    exact loop24 _ _ (by omega) (by omega) (Nat.lt_succ_self _)
  · refine sg_iconst (pc := 12) (z := 0) dX7_strip_12 (by decide) ?_
    refine sg_iret (pc := 13) dX7_strip_13 rfl (by first | exact Nat.le_of_ble_eq_true rfl | omega) (by first | exact Nat.le_of_ble_eq_true rfl | omega) ?_
    exact hQ _ _ (by assumption)

set_option maxRecDepth 100000 in
theorem s_X7_turn {w : sg_W} {Q : sg_O → sg_H → Prop} {h : sg_H} (g : sg_G w) {d : Nat} (hd : 9 ≤ d) {M : Nat} {row : Int}  (hx : md_M w h M) (hQ : ∀ (v : Int) (h' : sg_H), md_Y w h h' M → Q (.inl (some (sg_i v))) h') : sg_C w mi_X7_turn d 3 56 [sg_r M, sg_i row] h Q := by
  refine sg_of pn_X7 (Nat.le_of_ble_eq_true rfl) ?_
  have y0 := md_Y0 hx
  have hk := hx.2.1
  refine sg_aload_n (pc := 0) (j := 0) dX7_turn_0 rfl rfl ?_
  refine sg_iload_n (pc := 1) (j := 1) dX7_turn_1 rfl rfl ?_
  refine sg_cS1 (pc := 2) (d' := d - 1) (mc' := 0) (ms' := 0) g dX7_turn_2 cb_X7_isNoRow ml_X7_68 ms_X7_isNoRow (Nat.le_of_ble_eq_true rfl) (by first | exact jl_d0 hd rfl | omega) (by first | exact Nat.le_of_ble_eq_true rfl | omega) (by first | exact Nat.le_of_ble_eq_true rfl | omega) ?_
  refine s_X7_isNoRow g (by first | exact jl_d1 hd rfl | omega) (fun z2 h2 b2 => sg_K1 ?_)
  (try simp only [fm_no, fm_one, fn_betw, fn_sign, fn_radix, fn_high, fn_low] at h2)
  refine sg_iconst (pc := 5) (z := 1) dX7_turn_5 (by decide) ?_
  refine sg_cE2 (pc := 6) (d' := d - 1) (mc' := 0) (ms' := 0) 8 g dX7_turn_6 cb_X7_start ml_X7_71 mn_X7_start rfl mv_X7_start (Nat.le_of_ble_eq_true rfl) (md_oc (by assumption)) (Nat.le_of_ble_eq_true rfl) (by first | exact jl_d0 hd rfl | omega) (by first | exact Nat.le_of_ble_eq_true rfl | omega) (by first | exact Nat.le_of_ble_eq_true rfl | omega) ?_
  refine s_X7_start g (by first | exact jl_d1 hd rfl | omega) (by omega) (by assumption) (fun v6 h6 b6 i6 t6 s6 u6 y6 => sg_K1 ?_)
  have x6 := y6.1
  have hk6 := x6.2.1
  have y6 := md_Yt (h0 := h) (by assumption) y6
  refine sg_if_eq (pc := 9) (tgt := 16) dX7_turn_9 (by decide) (fun c9 => ?_) (fun c9 => ?_)
  · refine sg_aload_n (pc := 16) (j := 0) dX7_turn_16 rfl rfl ?_
    refine sg_iload_n (pc := 17) (j := 1) dX7_turn_17 rfl rfl ?_
    refine sg_aload_n (pc := 18) (j := 0) dX7_turn_18 rfl rfl ?_
    refine md_grw (pc := 19) g dX7_turn_19 fk_X7_9 (by assumption) (fun r19 => ?_)
    refine sg_iload_n (pc := 22) (j := 1) dX7_turn_22 rfl rfl ?_
    first | refine md_alr (pc := 23) dX7_turn_23 (by assumption) (by omega) (by omega) (fun A23 l23 => ?_) | refine md_alt (pc := 23) dX7_turn_23 (by assumption) (by omega) (by omega) (fun A23 l23 => ?_)
    refine sg_cS1 (pc := 24) (d' := d - 1) (mc' := 1) (ms' := (md_n h6 (md_a h6 (md_r h6 M) row))) g dX7_turn_24 cb_X7_turned ml_X7_103 ms_X7_turned (Nat.le_of_ble_eq_true rfl) (by first | exact jl_d0 hd rfl | omega) (by first | exact Nat.le_of_ble_eq_true rfl | omega) (by first | exact Nat.le_of_ble_eq_true rfl | omega) ?_
    refine s_X7_turned (c := 0) g (by first | exact jl_d1 hd rfl | omega) (by assumption) (by omega) (fun h24 t24 => sg_K1 ?_)
    have x24 : md_M w h24 M := md_ME (by assumption) (md_TE t24)
    have hk24 := x24.2.1
    have y24 : md_Y w h h24 M := md_YE (by assumption) (md_TE t24)
    refine sg_cE2 (pc := 27) (d' := d - 1) (mc' := 2) (ms' := 16) 8 g dX7_turn_27 cb_X7_set ml_X7_78 mn_X7_set rfl mv_X7_set (Nat.le_of_ble_eq_true rfl) (md_oc (by assumption)) (Nat.le_of_ble_eq_true rfl) (by first | exact jl_d0 hd rfl | omega) (by first | exact Nat.le_of_ble_eq_true rfl | omega) (by first | exact Nat.le_of_ble_eq_true rfl | omega) ?_
    refine s_X7_set g (by first | exact jl_d1 hd rfl | omega) (by omega) (by assumption) (fun q => ⟨t24.2.2, (by omega)⟩) (fun q => absurd q (by omega)) (fun h27 y27 => sg_K1 ?_)
    have x27 := y27.1
    have hk27 := x27.2.1
    have y27 := md_Yt (h0 := h) (by assumption) y27
    refine sg_iret (pc := 30) dX7_turn_30 rfl (by first | exact Nat.le_of_ble_eq_true rfl | omega) (by first | exact Nat.le_of_ble_eq_true rfl | omega) ?_
    exact hQ _ _ (by assumption)
  · refine sg_iconst (pc := 12) (z := 0) dX7_turn_12 (by decide) ?_
    refine sg_goto (pc := 13) (tgt := 30) dX7_turn_13 (by decide) ?_
    refine sg_iret (pc := 30) dX7_turn_30 rfl (by first | exact Nat.le_of_ble_eq_true rfl | omega) (by first | exact Nat.le_of_ble_eq_true rfl | omega) ?_
    exact hQ _ _ (by assumption)

set_option maxRecDepth 100000 in
theorem s_X7_spell {w : sg_W} {Q : sg_O → sg_H → Prop} {h : sg_H} (g : sg_G w) {d : Nat} (hd : 9 ≤ d) {M : Nat} {fr to : Int}  (hx : md_M w h M) (hQ : ∀ (v : Int) (h' : sg_H), md_Y w h h' M → Q (.inl (some (sg_i v))) h') : sg_C w mi_X7_spell d 3 56 [sg_r M, sg_i fr, sg_i to] h Q := by
  refine sg_of pn_X7 (Nat.le_of_ble_eq_true rfl) ?_
  have y0 := md_Y0 hx
  have hk := hx.2.1
  refine sg_aload_n (pc := 0) (j := 0) dX7_spell_0 rfl rfl ?_
  refine sg_iload_n (pc := 1) (j := 1) dX7_spell_1 rfl rfl ?_
  refine sg_cS1 (pc := 2) (d' := d - 1) (mc' := 0) (ms' := 0) g dX7_spell_2 cb_X7_isNoRow ml_X7_68 ms_X7_isNoRow (Nat.le_of_ble_eq_true rfl) (by first | exact jl_d0 hd rfl | omega) (by first | exact Nat.le_of_ble_eq_true rfl | omega) (by first | exact Nat.le_of_ble_eq_true rfl | omega) ?_
  refine s_X7_isNoRow g (by first | exact jl_d1 hd rfl | omega) (fun z2 h2 b2 => sg_K1 ?_)
  (try simp only [fm_no, fm_one, fn_betw, fn_sign, fn_radix, fn_high, fn_low] at h2)
  refine sg_if_ne (pc := 5) (tgt := 15) dX7_spell_5 (by decide) (fun c5 => ?_) (fun c5 => ?_)
  · refine sg_iconst (pc := 15) (z := 1) dX7_spell_15 (by decide) ?_
    refine sg_goto (pc := 16) (tgt := 20) dX7_spell_16 (by decide) ?_
    refine sg_iconst (pc := 20) (z := 1) dX7_spell_20 (by decide) ?_
    refine sg_cE2 (pc := 21) (d' := d - 1) (mc' := 0) (ms' := 0) 8 g dX7_spell_21 cb_X7_start ml_X7_71 mn_X7_start rfl mv_X7_start (Nat.le_of_ble_eq_true rfl) (md_oc (by assumption)) (Nat.le_of_ble_eq_true rfl) (by first | exact jl_d0 hd rfl | omega) (by first | exact Nat.le_of_ble_eq_true rfl | omega) (by first | exact Nat.le_of_ble_eq_true rfl | omega) ?_
    refine s_X7_start g (by first | exact jl_d1 hd rfl | omega) (by omega) (by assumption) (fun v21 h21 b21 i21 t21 s21 u21 y21 => sg_K1 ?_)
    have x21 := y21.1
    have hk21 := x21.2.1
    have y21 := md_Yt (h0 := h) (by assumption) y21
    refine sg_if_ne (pc := 24) (tgt := 45) dX7_spell_24 (by decide) (fun c24 => ?_) (fun c24 => absurd c24 (by omega))
    refine sg_iconst (pc := 45) (z := 0) dX7_spell_45 (by decide) ?_
    refine sg_iret (pc := 46) dX7_spell_46 rfl (by first | exact Nat.le_of_ble_eq_true rfl | omega) (by first | exact Nat.le_of_ble_eq_true rfl | omega) ?_
    exact hQ _ _ (by assumption)
  · refine sg_iload_n (pc := 8) (j := 2) dX7_spell_8 rfl rfl ?_
    refine sg_cS1 (pc := 9) (d' := d - 1) (mc' := 0) (ms' := 0) g dX7_spell_9 cb_X7_isNoRow ml_X7_68 ms_X7_isNoRow (Nat.le_of_ble_eq_true rfl) (by first | exact jl_d0 hd rfl | omega) (by first | exact Nat.le_of_ble_eq_true rfl | omega) (by first | exact Nat.le_of_ble_eq_true rfl | omega) ?_
    refine s_X7_isNoRow g (by first | exact jl_d1 hd rfl | omega) (fun z9 h9 b9 => sg_K1 ?_)
    (try simp only [fm_no, fm_one, fn_betw, fn_sign, fn_radix, fn_high, fn_low] at h9)
    refine sg_if_eq (pc := 12) (tgt := 19) dX7_spell_12 (by decide) (fun c12 => ?_) (fun c12 => ?_)
    · refine sg_iconst (pc := 19) (z := 0) dX7_spell_19 (by decide) ?_
      refine sg_iconst (pc := 20) (z := 1) dX7_spell_20 (by decide) ?_
      refine sg_cE2 (pc := 21) (d' := d - 1) (mc' := 0) (ms' := 0) 8 g dX7_spell_21 cb_X7_start ml_X7_71 mn_X7_start rfl mv_X7_start (Nat.le_of_ble_eq_true rfl) (md_oc (by assumption)) (Nat.le_of_ble_eq_true rfl) (by first | exact jl_d0 hd rfl | omega) (by first | exact Nat.le_of_ble_eq_true rfl | omega) (by first | exact Nat.le_of_ble_eq_true rfl | omega) ?_
      refine s_X7_start g (by first | exact jl_d1 hd rfl | omega) (by omega) (by assumption) (fun v21 h21 b21 i21 t21 s21 u21 y21 => sg_K1 ?_)
      have x21 := y21.1
      have hk21 := x21.2.1
      have y21 := md_Yt (h0 := h) (by assumption) y21
      refine sg_if_ne (pc := 24) (tgt := 45) dX7_spell_24 (by decide) (fun c24 => absurd c24 (by omega)) (fun c24 => ?_)
      refine sg_aload_n (pc := 27) (j := 0) dX7_spell_27 rfl rfl ?_
      refine sg_iload_n (pc := 28) (j := 1) dX7_spell_28 rfl rfl ?_
      refine sg_iload_n (pc := 29) (j := 2) dX7_spell_29 rfl rfl ?_
      refine sg_icmp_ne (pc := 30) (tgt := 37) dX7_spell_30 (by decide) (fun c30 => ?_) (fun c30 => ?_)
      · refine sg_iconst (pc := 37) (z := 0) dX7_spell_37 (by decide) ?_
        refine sg_iconst (pc := 38) (z := 2) dX7_spell_38 (by decide) ?_
        refine sg_cE2 (pc := 39) (d' := d - 1) (mc' := 0) (ms' := 0) 8 g dX7_spell_39 cb_X7_refuse ml_X7_45 mn_X7_refuse rfl mv_X7_refuse (Nat.le_of_ble_eq_true rfl) (md_oc (by assumption)) (Nat.le_of_ble_eq_true rfl) (by first | exact jl_d0 hd rfl | omega) (by first | exact Nat.le_of_ble_eq_true rfl | omega) (by first | exact Nat.le_of_ble_eq_true rfl | omega) ?_
        refine s_X7_refuse g (by first | exact jl_d1 hd rfl | omega) (by omega) (by assumption) (fun v39 h39 b39 i39 t39 s39 u39 y39 => sg_K1 ?_)
        have x39 := y39.1
        have hk39 := x39.2.1
        have y39 := md_Yt (h0 := h) (by assumption) y39
        refine sg_if_eq (pc := 42) (tgt := 47) dX7_spell_42 (by decide) (fun c42 => ?_) (fun c42 => ?_)
        · refine sg_iconst (pc := 47) (z := 2) dX7_spell_47 (by decide) ?_
          refine sg_aload_n (pc := 48) (j := 0) dX7_spell_48 rfl rfl ?_
          refine md_grw (pc := 49) g dX7_spell_49 fk_X7_9 (by assumption) (fun r49 => ?_)
          refine sg_iload_n (pc := 52) (j := 1) dX7_spell_52 rfl rfl ?_
          first | refine md_alr (pc := 53) dX7_spell_53 (by assumption) (by omega) (by omega) (fun A53 l53 => ?_) | refine md_alt (pc := 53) dX7_spell_53 (by assumption) (by omega) (by omega) (fun A53 l53 => ?_)
          refine md_len (pc := 54) dX7_spell_54 (by assumption) (by omega) ?_
          first | refine sg_imulB (pc := 55) dX7_spell_55 (by omega) (by omega) ?_ | refine sg_imul (pc := 55) dX7_spell_55 ?_
          refine sg_bipush (pc := 56) (z := 40) dX7_spell_56 (by decide) ?_
          refine sg_icmp_le (pc := 58) (tgt := 66) dX7_spell_58 (by decide) (fun c58 => ?_) (fun c58 => ?_)
          · refine sg_aload_n (pc := 66) (j := 0) dX7_spell_66 rfl rfl ?_
            refine sg_iload_n (pc := 67) (j := 2) dX7_spell_67 rfl rfl ?_
            refine sg_aload_n (pc := 68) (j := 0) dX7_spell_68 rfl rfl ?_
            refine md_grw (pc := 69) g dX7_spell_69 fk_X7_9 (by assumption) (fun r69 => ?_)
            refine sg_iload_n (pc := 72) (j := 1) dX7_spell_72 rfl rfl ?_
            first | refine md_alr (pc := 73) dX7_spell_73 (by assumption) (by omega) (by omega) (fun A73 l73 => ?_) | refine md_alt (pc := 73) dX7_spell_73 (by assumption) (by omega) (by omega) (fun A73 l73 => ?_)
            refine sg_cS1 (pc := 74) (d' := d - 1) (mc' := 1) (ms' := (2 * (md_n h39 (md_a h39 (md_r h39 M) fr)))) g dX7_spell_74 cb_X7_spelledOf ml_X7_112 ms_X7_spelledOf (Nat.le_of_ble_eq_true rfl) (by first | exact jl_d0 hd rfl | omega) (by first | exact Nat.le_of_ble_eq_true rfl | omega) (by first | exact Nat.le_of_ble_eq_true rfl | omega) ?_
            refine s_X7_spelledOf (c := 0) g (by first | exact jl_d1 hd rfl | omega) (by assumption) (by omega) (fun h74 t74 => sg_K1 ?_)
            have x74 : md_M w h74 M := md_ME (by assumption) (md_TE t74)
            have hk74 := x74.2.1
            have y74 : md_Y w h h74 M := md_YE (by assumption) (md_TE t74)
            refine sg_cE2 (pc := 77) (d' := d - 1) (mc' := 2) (ms' := 16) 8 g dX7_spell_77 cb_X7_set ml_X7_78 mn_X7_set rfl mv_X7_set (Nat.le_of_ble_eq_true rfl) (md_oc (by assumption)) (Nat.le_of_ble_eq_true rfl) (by first | exact jl_d0 hd rfl | omega) (by first | exact Nat.le_of_ble_eq_true rfl | omega) (by first | exact Nat.le_of_ble_eq_true rfl | omega) ?_
            refine s_X7_set g (by first | exact jl_d1 hd rfl | omega) (by omega) (by assumption) (fun q => ⟨(md_A0 t74.2.2), (by omega)⟩) (fun q => absurd q (by omega)) (fun h77 y77 => sg_K1 ?_)
            have x77 := y77.1
            have hk77 := x77.2.1
            have y77 := md_Yt (h0 := h) (by assumption) y77
            refine sg_iret (pc := 80) dX7_spell_80 rfl (by first | exact Nat.le_of_ble_eq_true rfl | omega) (by first | exact Nat.le_of_ble_eq_true rfl | omega) ?_
            exact hQ _ _ (by assumption)
          · refine sg_bipush (pc := 61) (z := -9) dX7_spell_61 (by decide) ?_
            refine sg_goto (pc := 63) (tgt := 80) dX7_spell_63 (by decide) ?_
            refine sg_iret (pc := 80) dX7_spell_80 rfl (by first | exact Nat.le_of_ble_eq_true rfl | omega) (by first | exact Nat.le_of_ble_eq_true rfl | omega) ?_
            exact hQ _ _ (by assumption)
        · refine sg_iconst (pc := 45) (z := 0) dX7_spell_45 (by decide) ?_
          refine sg_iret (pc := 46) dX7_spell_46 rfl (by first | exact Nat.le_of_ble_eq_true rfl | omega) (by first | exact Nat.le_of_ble_eq_true rfl | omega) ?_
          exact hQ _ _ (by assumption)
      · refine sg_iconst (pc := 33) (z := 1) dX7_spell_33 (by decide) ?_
        refine sg_goto (pc := 34) (tgt := 38) dX7_spell_34 (by decide) ?_
        refine sg_iconst (pc := 38) (z := 2) dX7_spell_38 (by decide) ?_
        refine sg_cE2 (pc := 39) (d' := d - 1) (mc' := 0) (ms' := 0) 8 g dX7_spell_39 cb_X7_refuse ml_X7_45 mn_X7_refuse rfl mv_X7_refuse (Nat.le_of_ble_eq_true rfl) (md_oc (by assumption)) (Nat.le_of_ble_eq_true rfl) (by first | exact jl_d0 hd rfl | omega) (by first | exact Nat.le_of_ble_eq_true rfl | omega) (by first | exact Nat.le_of_ble_eq_true rfl | omega) ?_
        refine s_X7_refuse g (by first | exact jl_d1 hd rfl | omega) (by omega) (by assumption) (fun v39 h39 b39 i39 t39 s39 u39 y39 => sg_K1 ?_)
        have x39 := y39.1
        have hk39 := x39.2.1
        have y39 := md_Yt (h0 := h) (by assumption) y39
        refine sg_if_eq (pc := 42) (tgt := 47) dX7_spell_42 (by decide) (fun c42 => absurd c42 (by omega)) (fun c42 => ?_)
        refine sg_iconst (pc := 45) (z := 0) dX7_spell_45 (by decide) ?_
        refine sg_iret (pc := 46) dX7_spell_46 rfl (by first | exact Nat.le_of_ble_eq_true rfl | omega) (by first | exact Nat.le_of_ble_eq_true rfl | omega) ?_
        exact hQ _ _ (by assumption)
    · refine sg_iconst (pc := 15) (z := 1) dX7_spell_15 (by decide) ?_
      refine sg_goto (pc := 16) (tgt := 20) dX7_spell_16 (by decide) ?_
      refine sg_iconst (pc := 20) (z := 1) dX7_spell_20 (by decide) ?_
      refine sg_cE2 (pc := 21) (d' := d - 1) (mc' := 0) (ms' := 0) 8 g dX7_spell_21 cb_X7_start ml_X7_71 mn_X7_start rfl mv_X7_start (Nat.le_of_ble_eq_true rfl) (md_oc (by assumption)) (Nat.le_of_ble_eq_true rfl) (by first | exact jl_d0 hd rfl | omega) (by first | exact Nat.le_of_ble_eq_true rfl | omega) (by first | exact Nat.le_of_ble_eq_true rfl | omega) ?_
      refine s_X7_start g (by first | exact jl_d1 hd rfl | omega) (by omega) (by assumption) (fun v21 h21 b21 i21 t21 s21 u21 y21 => sg_K1 ?_)
      have x21 := y21.1
      have hk21 := x21.2.1
      have y21 := md_Yt (h0 := h) (by assumption) y21
      refine sg_if_ne (pc := 24) (tgt := 45) dX7_spell_24 (by decide) (fun c24 => ?_) (fun c24 => absurd c24 (by omega))
      refine sg_iconst (pc := 45) (z := 0) dX7_spell_45 (by decide) ?_
      refine sg_iret (pc := 46) dX7_spell_46 rfl (by first | exact Nat.le_of_ble_eq_true rfl | omega) (by first | exact Nat.le_of_ble_eq_true rfl | omega) ?_
      exact hQ _ _ (by assumption)

set_option maxRecDepth 100000 in
theorem s_X7_read {w : sg_W} {Q : sg_O → sg_H → Prop} {h : sg_H} (g : sg_G w) {d : Nat} (hd : 9 ≤ d) {M : Nat} {fr to : Int}  (hx : md_M w h M) (hQ : ∀ (v : Int) (h' : sg_H), md_Y w h h' M → Q (.inl (some (sg_i v))) h') : sg_C w mi_X7_read d 3 56 [sg_r M, sg_i fr, sg_i to] h Q := by
  refine sg_of pn_X7 (Nat.le_of_ble_eq_true rfl) ?_
  have y0 := md_Y0 hx
  have hk := hx.2.1
  refine sg_aload_n (pc := 0) (j := 0) dX7_read_0 rfl rfl ?_
  refine sg_iload_n (pc := 1) (j := 1) dX7_read_1 rfl rfl ?_
  refine sg_cS1 (pc := 2) (d' := d - 1) (mc' := 0) (ms' := 0) g dX7_read_2 cb_X7_isNoRow ml_X7_68 ms_X7_isNoRow (Nat.le_of_ble_eq_true rfl) (by first | exact jl_d0 hd rfl | omega) (by first | exact Nat.le_of_ble_eq_true rfl | omega) (by first | exact Nat.le_of_ble_eq_true rfl | omega) ?_
  refine s_X7_isNoRow g (by first | exact jl_d1 hd rfl | omega) (fun z2 h2 b2 => sg_K1 ?_)
  (try simp only [fm_no, fm_one, fn_betw, fn_sign, fn_radix, fn_high, fn_low] at h2)
  refine sg_if_ne (pc := 5) (tgt := 15) dX7_read_5 (by decide) (fun c5 => ?_) (fun c5 => ?_)
  · refine sg_iconst (pc := 15) (z := 1) dX7_read_15 (by decide) ?_
    refine sg_goto (pc := 16) (tgt := 20) dX7_read_16 (by decide) ?_
    refine sg_iconst (pc := 20) (z := 1) dX7_read_20 (by decide) ?_
    refine sg_cE2 (pc := 21) (d' := d - 1) (mc' := 0) (ms' := 0) 8 g dX7_read_21 cb_X7_start ml_X7_71 mn_X7_start rfl mv_X7_start (Nat.le_of_ble_eq_true rfl) (md_oc (by assumption)) (Nat.le_of_ble_eq_true rfl) (by first | exact jl_d0 hd rfl | omega) (by first | exact Nat.le_of_ble_eq_true rfl | omega) (by first | exact Nat.le_of_ble_eq_true rfl | omega) ?_
    refine s_X7_start g (by first | exact jl_d1 hd rfl | omega) (by omega) (by assumption) (fun v21 h21 b21 i21 t21 s21 u21 y21 => sg_K1 ?_)
    have x21 := y21.1
    have hk21 := x21.2.1
    have y21 := md_Yt (h0 := h) (by assumption) y21
    refine sg_if_ne (pc := 24) (tgt := 45) dX7_read_24 (by decide) (fun c24 => ?_) (fun c24 => absurd c24 (by omega))
    refine sg_iconst (pc := 45) (z := 0) dX7_read_45 (by decide) ?_
    refine sg_iret (pc := 46) dX7_read_46 rfl (by first | exact Nat.le_of_ble_eq_true rfl | omega) (by first | exact Nat.le_of_ble_eq_true rfl | omega) ?_
    exact hQ _ _ (by assumption)
  · refine sg_iload_n (pc := 8) (j := 2) dX7_read_8 rfl rfl ?_
    refine sg_cS1 (pc := 9) (d' := d - 1) (mc' := 0) (ms' := 0) g dX7_read_9 cb_X7_isNoRow ml_X7_68 ms_X7_isNoRow (Nat.le_of_ble_eq_true rfl) (by first | exact jl_d0 hd rfl | omega) (by first | exact Nat.le_of_ble_eq_true rfl | omega) (by first | exact Nat.le_of_ble_eq_true rfl | omega) ?_
    refine s_X7_isNoRow g (by first | exact jl_d1 hd rfl | omega) (fun z9 h9 b9 => sg_K1 ?_)
    (try simp only [fm_no, fm_one, fn_betw, fn_sign, fn_radix, fn_high, fn_low] at h9)
    refine sg_if_eq (pc := 12) (tgt := 19) dX7_read_12 (by decide) (fun c12 => ?_) (fun c12 => ?_)
    · refine sg_iconst (pc := 19) (z := 0) dX7_read_19 (by decide) ?_
      refine sg_iconst (pc := 20) (z := 1) dX7_read_20 (by decide) ?_
      refine sg_cE2 (pc := 21) (d' := d - 1) (mc' := 0) (ms' := 0) 8 g dX7_read_21 cb_X7_start ml_X7_71 mn_X7_start rfl mv_X7_start (Nat.le_of_ble_eq_true rfl) (md_oc (by assumption)) (Nat.le_of_ble_eq_true rfl) (by first | exact jl_d0 hd rfl | omega) (by first | exact Nat.le_of_ble_eq_true rfl | omega) (by first | exact Nat.le_of_ble_eq_true rfl | omega) ?_
      refine s_X7_start g (by first | exact jl_d1 hd rfl | omega) (by omega) (by assumption) (fun v21 h21 b21 i21 t21 s21 u21 y21 => sg_K1 ?_)
      have x21 := y21.1
      have hk21 := x21.2.1
      have y21 := md_Yt (h0 := h) (by assumption) y21
      refine sg_if_ne (pc := 24) (tgt := 45) dX7_read_24 (by decide) (fun c24 => absurd c24 (by omega)) (fun c24 => ?_)
      refine sg_aload_n (pc := 27) (j := 0) dX7_read_27 rfl rfl ?_
      refine sg_iload_n (pc := 28) (j := 1) dX7_read_28 rfl rfl ?_
      refine sg_iload_n (pc := 29) (j := 2) dX7_read_29 rfl rfl ?_
      refine sg_icmp_ne (pc := 30) (tgt := 37) dX7_read_30 (by decide) (fun c30 => ?_) (fun c30 => ?_)
      · refine sg_iconst (pc := 37) (z := 0) dX7_read_37 (by decide) ?_
        refine sg_iconst (pc := 38) (z := 2) dX7_read_38 (by decide) ?_
        refine sg_cE2 (pc := 39) (d' := d - 1) (mc' := 0) (ms' := 0) 8 g dX7_read_39 cb_X7_refuse ml_X7_45 mn_X7_refuse rfl mv_X7_refuse (Nat.le_of_ble_eq_true rfl) (md_oc (by assumption)) (Nat.le_of_ble_eq_true rfl) (by first | exact jl_d0 hd rfl | omega) (by first | exact Nat.le_of_ble_eq_true rfl | omega) (by first | exact Nat.le_of_ble_eq_true rfl | omega) ?_
        refine s_X7_refuse g (by first | exact jl_d1 hd rfl | omega) (by omega) (by assumption) (fun v39 h39 b39 i39 t39 s39 u39 y39 => sg_K1 ?_)
        have x39 := y39.1
        have hk39 := x39.2.1
        have y39 := md_Yt (h0 := h) (by assumption) y39
        refine sg_if_eq (pc := 42) (tgt := 47) dX7_read_42 (by decide) (fun c42 => ?_) (fun c42 => ?_)
        · refine sg_aload_n (pc := 47) (j := 0) dX7_read_47 rfl rfl ?_
          refine md_grw (pc := 48) g dX7_read_48 fk_X7_9 (by assumption) (fun r48 => ?_)
          refine sg_iload_n (pc := 51) (j := 1) dX7_read_51 rfl rfl ?_
          first | refine md_alr (pc := 52) dX7_read_52 (by assumption) (by omega) (by omega) (fun A52 l52 => ?_) | refine md_alt (pc := 52) dX7_read_52 (by assumption) (by omega) (by omega) (fun A52 l52 => ?_)
          refine sg_astore_n (pc := 53) (j := 3) dX7_read_53 rfl (by decide) ?_
          refine sg_aload_n (pc := 54) (j := 3) dX7_read_54 rfl rfl ?_
          refine sg_astore (pc := 55) dX7_read_55 (by decide) ?_
          refine sg_aload (pc := 57) dX7_read_57 rfl ?_
          refine md_len (pc := 59) dX7_read_59 A52 (by omega) ?_
          refine sg_istore (pc := 60) dX7_read_60 (by decide) ?_
          refine sg_iconst (pc := 62) (z := 0) dX7_read_62 (by decide) ?_
          refine sg_istore (pc := 63) dX7_read_63 (by decide) ?_
          have loop65 : ∀ (N : Nat) (p : Int), 0 ≤ p → (((md_n h39 (md_a h39 (md_r h39 M) fr)) : Int) - p).toNat < N → sg_R w mi_X7_read d 3 56 Q 65 [(6, sg_i p), (5, sg_i ((md_n h39 (md_a h39 (md_r h39 M) fr)) : Int)), (4, sg_r (md_a h39 (md_r h39 M) fr)), (0, sg_r M), (1, sg_i fr), (2, sg_i to), (3, sg_r (md_a h39 (md_r h39 M) fr))] [] h39 0 0 := by
            intro N
            induction N with
            | zero => intro p p0 hm; exact absurd hm (Nat.not_lt_zero _)
            | succ N ih =>
              intro p p0 hm
              refine sg_iload (pc := 65) dX7_read_65 rfl ?_
              refine sg_iload (pc := 67) dX7_read_67 rfl ?_
              refine sg_icmp_ge (pc := 69) (tgt := 99) dX7_read_69 (by decide) (fun c69 => ?_) (fun c69 => ?_)
              · refine sg_aload_n (pc := 99) (j := 3) dX7_read_99 rfl rfl ?_
                refine md_len (pc := 100) dX7_read_100 A52 (by omega) ?_
                refine sg_iconst (pc := 101) (z := 2) dX7_read_101 (by decide) ?_
                first | refine sg_iremP (pc := 102) dX7_read_102 (by omega) (by omega) ?_ | refine sg_irem (pc := 102) dX7_read_102 (by first | omega | assumption) ?_
                refine sg_iconst (pc := 103) (z := 1) dX7_read_103 (by decide) ?_
                refine sg_icmp_ne (pc := 104) (tgt := 110) dX7_read_104 (by decide) (fun c104 => ?_) (fun c104 => ?_)
                · refine sg_aload_n (pc := 110) (j := 3) dX7_read_110 rfl rfl ?_
                  refine md_len (pc := 111) dX7_read_111 A52 (by omega) ?_
                  refine sg_iconst (pc := 112) (z := 2) dX7_read_112 (by decide) ?_
                  first | refine sg_idivP (pc := 113) dX7_read_113 (by omega) (by omega) (by omega) ?_ | refine sg_idiv (pc := 113) dX7_read_113 (by first | omega | assumption) ?_
                  refine sg_newa (t := 100) (N := ((md_n h39 (md_a h39 (md_r h39 M) fr)) / 2)) (pc := 114) g dX7_read_114 ac_int rfl (by decide) (by decide) rfl rfl (by decide) (by omega) (by omega) (by omega) (by omega) ?_
                  refine sg_astore (pc := 116) dX7_read_116 (by decide) ?_
                  refine sg_iconst (pc := 118) (z := 0) dX7_read_118 (by decide) ?_
                  refine sg_istore (pc := 119) dX7_read_119 (by decide) ?_
                  have loop121 : ∀ (N : Nat) (h1 : sg_H) (p : Int), md_T 0 h39 h1 ((md_n h39 (md_a h39 (md_r h39 M) fr)) / 2) → 0 ≤ p → ((((md_n h39 (md_a h39 (md_r h39 M) fr)) / 2) : Int) - p).toNat < N → sg_R w mi_X7_read d 3 56 Q 121 [(5, sg_i p), (4, sg_r h39.1), (0, sg_r M), (2, sg_i to), (3, sg_r (md_a h39 (md_r h39 M) fr))] [] h1 1 (0 + ((md_n h39 (md_a h39 (md_r h39 M) fr)) / 2)) := by
                    intro N
                    induction N with
                    | zero => intro h1 p t1 p0 hm; exact absurd hm (Nat.not_lt_zero _)
                    | succ N ihb =>
                      intro h1 p t1 p0 hm
                      have x1 : md_M w h1 M := md_ME x39 (md_TE t1)
                      have hk1 := x1.2.1
                      have y1 : md_Y w h h1 M := md_YE y39 (md_TE t1)
                      refine sg_iload (pc := 121) dX7_read_121 rfl ?_
                      refine sg_aload (pc := 123) dX7_read_123 rfl ?_
                      refine md_len (pc := 125) dX7_read_125 t1.2.2 (by omega) ?_
                      refine sg_icmp_ge (pc := 126) (tgt := 168) dX7_read_126 (by decide) (fun c126 => ?_) (fun c126 => ?_)
                      · refine sg_aload_n (pc := 168) (j := 0) dX7_read_168 rfl rfl ?_
                        refine sg_iload_n (pc := 169) (j := 2) dX7_read_169 rfl rfl ?_
                        refine sg_aload (pc := 170) dX7_read_170 rfl ?_
                        refine sg_cE2 (pc := 172) (d' := d - 1) (mc' := 2) (ms' := 16) 8 g dX7_read_172 cb_X7_set ml_X7_78 mn_X7_set rfl mv_X7_set (Nat.le_of_ble_eq_true rfl) (md_oc (by assumption)) (Nat.le_of_ble_eq_true rfl) (by first | exact jl_d0 hd rfl | omega) (by first | exact Nat.le_of_ble_eq_true rfl | omega) (by first | exact Nat.le_of_ble_eq_true rfl | omega) ?_
                        refine s_X7_set g (by first | exact jl_d1 hd rfl | omega) (by omega) (by assumption) (fun q => ⟨t1.2.2, (by omega)⟩) (fun q => absurd q (by omega)) (fun h172 y172 => sg_K1 ?_)
                        have x172 := y172.1
                        have hk172 := x172.2.1
                        have y172 := md_Yt (h0 := h) (by assumption) y172
                        refine sg_iret (pc := 175) dX7_read_175 rfl (by first | exact Nat.le_of_ble_eq_true rfl | omega) (by first | exact Nat.le_of_ble_eq_true rfl | omega) ?_
                        exact hQ _ _ (by assumption)
                      · refine sg_aload (pc := 129) dX7_read_129 rfl ?_
                        refine sg_iload (pc := 131) dX7_read_131 rfl ?_
                        refine sg_bipush (pc := 133) (z := 16) dX7_read_133 (by decide) ?_
                        refine sg_aload_n (pc := 135) (j := 3) dX7_read_135 rfl rfl ?_
                        refine sg_iconst (pc := 136) (z := 2) dX7_read_136 (by decide) ?_
                        refine sg_iload (pc := 137) dX7_read_137 rfl ?_
                        first | refine sg_imulB (pc := 139) dX7_read_139 (by omega) (by omega) ?_ | refine sg_imul (pc := 139) dX7_read_139 ?_
                        refine md_ald (pc := 140) dX7_read_140 (md_AT A52 t1) (by omega) (by omega) (fun x140 g140 => ?_)
                        refine sg_bipush (pc := 141) (z := 16) dX7_read_141 (by decide) ?_
                        refine sg_cS2 (pc := 143) (d' := d - 1) (mc' := 0) (ms' := 0) g dX7_read_143 cb_X7_numberOf ml_X7_115 ms_X7_numberOf (Nat.le_of_ble_eq_true rfl) (by first | exact jl_d0 hd rfl | omega) (by first | exact Nat.le_of_ble_eq_true rfl | omega) (by first | exact Nat.le_of_ble_eq_true rfl | omega) ?_
                        refine s_X7_numberOf g (by first | exact jl_d1 hd rfl | omega) (fun z143 h143 => sg_K1 ?_)
                        (try simp only [fm_no, fm_one, fn_betw, fn_sign, fn_radix, fn_high, fn_low] at h143)
                        first | refine sg_imulB (pc := 146) dX7_read_146 (by omega) (by omega) ?_ | refine sg_imul (pc := 146) dX7_read_146 ?_
                        refine sg_aload_n (pc := 147) (j := 3) dX7_read_147 rfl rfl ?_
                        refine sg_iconst (pc := 148) (z := 2) dX7_read_148 (by decide) ?_
                        refine sg_iload (pc := 149) dX7_read_149 rfl ?_
                        first | refine sg_imulB (pc := 151) dX7_read_151 (by omega) (by omega) ?_ | refine sg_imul (pc := 151) dX7_read_151 ?_
                        refine sg_iconst (pc := 152) (z := 1) dX7_read_152 (by decide) ?_
                        first | refine sg_iaddB (pc := 153) dX7_read_153 (by omega) (by omega) ?_ | refine sg_iadd (pc := 153) dX7_read_153 ?_
                        refine md_ald (pc := 154) dX7_read_154 (md_AT A52 t1) (by omega) (by omega) (fun x154 g154 => ?_)
                        refine sg_bipush (pc := 155) (z := 16) dX7_read_155 (by decide) ?_
                        refine sg_cS2 (pc := 157) (d' := d - 1) (mc' := 0) (ms' := 0) g dX7_read_157 cb_X7_numberOf ml_X7_115 ms_X7_numberOf (Nat.le_of_ble_eq_true rfl) (by first | exact jl_d0 hd rfl | omega) (by first | exact Nat.le_of_ble_eq_true rfl | omega) (by first | exact Nat.le_of_ble_eq_true rfl | omega) ?_
                        refine s_X7_numberOf g (by first | exact jl_d1 hd rfl | omega) (fun z157 h157 => sg_K1 ?_)
                        (try simp only [fm_no, fm_one, fn_betw, fn_sign, fn_radix, fn_high, fn_low] at h157)
                        first | refine sg_iaddB (pc := 160) dX7_read_160 (by omega) (by omega) ?_ | refine sg_iadd (pc := 160) dX7_read_160 ?_
                        refine md_ast (pc := 161) dX7_read_161 t1 ck_v0 (by omega) (by omega) (fun h161 t161 => ?_)
                        first | refine sg_iincB (pc := 162) dX7_read_162 rfl (by decide) (by decide) (by omega) (by omega) ?_ | refine sg_iinc (pc := 162) dX7_read_162 rfl (by decide) (by decide) ?_
                        refine sg_goto (pc := 165) (tgt := 121) dX7_read_165 (by decide) ?_
                        refine sg_lsub (lv' := [(5, _), (4, _), (0, _), (2, _), (3, _)]) ⟨rfl, rfl, rfl, rfl, rfl, trivial⟩ ?_
                        exact ihb _ _ t161 (by omega) (by omega)
                  refine sg_lsub (lv' := [(5, _), (4, _), (0, _), (2, _), (3, _)]) ⟨rfl, rfl, rfl, rfl, rfl, trivial⟩ ?_
                  exact loop121 _ _ _ md_new (by omega) (Nat.lt_succ_self _)
                · refine sg_bipush (pc := 107) (z := -9) dX7_read_107 (by decide) ?_
                  refine sg_iret (pc := 109) dX7_read_109 rfl (by first | exact Nat.le_of_ble_eq_true rfl | omega) (by first | exact Nat.le_of_ble_eq_true rfl | omega) ?_
                  exact hQ _ _ (by assumption)
              · refine sg_aload (pc := 72) dX7_read_72 rfl ?_
                refine sg_iload (pc := 74) dX7_read_74 rfl ?_
                refine md_ald (pc := 76) dX7_read_76 A52 (by omega) (by omega) (fun x76 g76 => ?_)
                refine sg_istore (pc := 77) dX7_read_77 (by decide) ?_
                refine sg_iload (pc := 79) dX7_read_79 rfl ?_
                refine sg_bipush (pc := 81) (z := 16) dX7_read_81 (by decide) ?_
                refine sg_cS2 (pc := 83) (d' := d - 1) (mc' := 0) (ms' := 0) g dX7_read_83 cb_X7_numberOf ml_X7_115 ms_X7_numberOf (Nat.le_of_ble_eq_true rfl) (by first | exact jl_d0 hd rfl | omega) (by first | exact Nat.le_of_ble_eq_true rfl | omega) (by first | exact Nat.le_of_ble_eq_true rfl | omega) ?_
                refine s_X7_numberOf g (by first | exact jl_d1 hd rfl | omega) (fun z83 h83 => sg_K1 ?_)
                (try simp only [fm_no, fm_one, fn_betw, fn_sign, fn_radix, fn_high, fn_low] at h83)
                refine sg_iconst (pc := 86) (z := -1) dX7_read_86 (by decide) ?_
                refine sg_icmp_ne (pc := 87) (tgt := 93) dX7_read_87 (by decide) (fun c87 => ?_) (fun c87 => ?_)
                · first | refine sg_iincB (pc := 93) dX7_read_93 rfl (by decide) (by decide) (by omega) (by omega) ?_ | refine sg_iinc (pc := 93) dX7_read_93 rfl (by decide) (by decide) ?_
                  refine sg_goto (pc := 96) (tgt := 65) dX7_read_96 (by decide) ?_
                  refine sg_lsub (lv' := [(6, _), (5, _), (4, _), (0, _), (1, _), (2, _), (3, _)]) ⟨rfl, rfl, rfl, rfl, rfl, rfl, rfl, trivial⟩ ?_
                  exact ih _ (by omega) (by omega)
                · refine sg_bipush (pc := 90) (z := -9) dX7_read_90 (by decide) ?_
                  refine sg_iret (pc := 92) dX7_read_92 rfl (by first | exact Nat.le_of_ble_eq_true rfl | omega) (by first | exact Nat.le_of_ble_eq_true rfl | omega) ?_
                  exact hQ _ _ (by assumption)
          refine sg_lsub (lv' := [(6, _), (5, _), (4, _), (0, _), (1, _), (2, _), (3, _)]) ⟨rfl, rfl, rfl, rfl, rfl, rfl, rfl, trivial⟩ ?_
          exact loop65 _ _ (by omega) (Nat.lt_succ_self _)
        · refine sg_iconst (pc := 45) (z := 0) dX7_read_45 (by decide) ?_
          refine sg_iret (pc := 46) dX7_read_46 rfl (by first | exact Nat.le_of_ble_eq_true rfl | omega) (by first | exact Nat.le_of_ble_eq_true rfl | omega) ?_
          exact hQ _ _ (by assumption)
      · refine sg_iconst (pc := 33) (z := 1) dX7_read_33 (by decide) ?_
        refine sg_goto (pc := 34) (tgt := 38) dX7_read_34 (by decide) ?_
        refine sg_iconst (pc := 38) (z := 2) dX7_read_38 (by decide) ?_
        refine sg_cE2 (pc := 39) (d' := d - 1) (mc' := 0) (ms' := 0) 8 g dX7_read_39 cb_X7_refuse ml_X7_45 mn_X7_refuse rfl mv_X7_refuse (Nat.le_of_ble_eq_true rfl) (md_oc (by assumption)) (Nat.le_of_ble_eq_true rfl) (by first | exact jl_d0 hd rfl | omega) (by first | exact Nat.le_of_ble_eq_true rfl | omega) (by first | exact Nat.le_of_ble_eq_true rfl | omega) ?_
        refine s_X7_refuse g (by first | exact jl_d1 hd rfl | omega) (by omega) (by assumption) (fun v39 h39 b39 i39 t39 s39 u39 y39 => sg_K1 ?_)
        have x39 := y39.1
        have hk39 := x39.2.1
        have y39 := md_Yt (h0 := h) (by assumption) y39
        refine sg_if_eq (pc := 42) (tgt := 47) dX7_read_42 (by decide) (fun c42 => absurd c42 (by omega)) (fun c42 => ?_)
        refine sg_iconst (pc := 45) (z := 0) dX7_read_45 (by decide) ?_
        refine sg_iret (pc := 46) dX7_read_46 rfl (by first | exact Nat.le_of_ble_eq_true rfl | omega) (by first | exact Nat.le_of_ble_eq_true rfl | omega) ?_
        exact hQ _ _ (by assumption)
    · refine sg_iconst (pc := 15) (z := 1) dX7_read_15 (by decide) ?_
      refine sg_goto (pc := 16) (tgt := 20) dX7_read_16 (by decide) ?_
      refine sg_iconst (pc := 20) (z := 1) dX7_read_20 (by decide) ?_
      refine sg_cE2 (pc := 21) (d' := d - 1) (mc' := 0) (ms' := 0) 8 g dX7_read_21 cb_X7_start ml_X7_71 mn_X7_start rfl mv_X7_start (Nat.le_of_ble_eq_true rfl) (md_oc (by assumption)) (Nat.le_of_ble_eq_true rfl) (by first | exact jl_d0 hd rfl | omega) (by first | exact Nat.le_of_ble_eq_true rfl | omega) (by first | exact Nat.le_of_ble_eq_true rfl | omega) ?_
      refine s_X7_start g (by first | exact jl_d1 hd rfl | omega) (by omega) (by assumption) (fun v21 h21 b21 i21 t21 s21 u21 y21 => sg_K1 ?_)
      have x21 := y21.1
      have hk21 := x21.2.1
      have y21 := md_Yt (h0 := h) (by assumption) y21
      refine sg_if_ne (pc := 24) (tgt := 45) dX7_read_24 (by decide) (fun c24 => ?_) (fun c24 => absurd c24 (by omega))
      refine sg_iconst (pc := 45) (z := 0) dX7_read_45 (by decide) ?_
      refine sg_iret (pc := 46) dX7_read_46 rfl (by first | exact Nat.le_of_ble_eq_true rfl | omega) (by first | exact Nat.le_of_ble_eq_true rfl | omega) ?_
      exact hQ _ _ (by assumption)

set_option maxRecDepth 100000 in
theorem s_X7_behind {w : sg_W} {Q : sg_O → sg_H → Prop} {h : sg_H} (g : sg_G w) {d : Nat} (hd : 8 ≤ d) {M a m : Nat} {trk : Int} (hv : 0 ≤ trk ∧ trk < 2) (hA : md_A 1 h a m) (hm : m ≤ 40) (hx : md_M w h M) (hQ : ∀ (v : Int) (h' : sg_H), md_Y w h h' M → Q (.inl (some (sg_i v))) h') : sg_C w mi_X7_behind d 3 80 [sg_r M, sg_i trk, sg_r a] h Q := by
  refine sg_of pn_X7 (Nat.le_of_ble_eq_true rfl) ?_
  have y0 := md_Y0 hx
  have hk := hx.2.1
  refine sg_aload_n (pc := 0) (j := 0) dX7_behind_0 rfl rfl ?_
  refine md_grw (pc := 1) g dX7_behind_1 fk_X7_9 (by assumption) (fun r1 => ?_)
  refine sg_iconst (pc := 4) (z := 4) dX7_behind_4 (by decide) ?_
  refine sg_iload_n (pc := 5) (j := 1) dX7_behind_5 rfl rfl ?_
  first | refine sg_iaddB (pc := 6) dX7_behind_6 (by omega) (by omega) ?_ | refine sg_iadd (pc := 6) dX7_behind_6 ?_
  first | refine md_alr (pc := 7) dX7_behind_7 (by assumption) (by omega) (by omega) (fun A7 l7 => ?_) | refine md_alt (pc := 7) dX7_behind_7 (by assumption) (by omega) (by omega) (fun A7 l7 => ?_)
  refine md_len (pc := 8) dX7_behind_8 (by assumption) (by omega) ?_
  refine sg_aload_n (pc := 9) (j := 2) dX7_behind_9 rfl rfl ?_
  refine md_len (pc := 10) dX7_behind_10 hA (by omega) ?_
  first | refine sg_iaddB (pc := 11) dX7_behind_11 (by omega) (by omega) ?_ | refine sg_iadd (pc := 11) dX7_behind_11 ?_
  refine sg_bipush (pc := 12) (z := 24) dX7_behind_12 (by decide) ?_
  refine sg_icmp_le (pc := 14) (tgt := 22) dX7_behind_14 (by decide) (fun c14 => ?_) (fun c14 => ?_)
  · refine sg_aload_n (pc := 22) (j := 0) dX7_behind_22 rfl rfl ?_
    refine sg_iconst (pc := 23) (z := 4) dX7_behind_23 (by decide) ?_
    refine sg_iload_n (pc := 24) (j := 1) dX7_behind_24 rfl rfl ?_
    first | refine sg_iaddB (pc := 25) dX7_behind_25 (by omega) (by omega) ?_ | refine sg_iadd (pc := 25) dX7_behind_25 ?_
    refine sg_aload_n (pc := 26) (j := 0) dX7_behind_26 rfl rfl ?_
    refine md_grw (pc := 27) g dX7_behind_27 fk_X7_9 (by assumption) (fun r27 => ?_)
    refine sg_iconst (pc := 30) (z := 4) dX7_behind_30 (by decide) ?_
    refine sg_iload_n (pc := 31) (j := 1) dX7_behind_31 rfl rfl ?_
    first | refine sg_iaddB (pc := 32) dX7_behind_32 (by omega) (by omega) ?_ | refine sg_iadd (pc := 32) dX7_behind_32 ?_
    first | refine md_alr (pc := 33) dX7_behind_33 (by assumption) (by omega) (by omega) (fun A33 l33 => ?_) | refine md_alt (pc := 33) dX7_behind_33 (by assumption) (by omega) (by omega) (fun A33 l33 => ?_)
    refine sg_aload_n (pc := 34) (j := 2) dX7_behind_34 rfl rfl ?_
    refine sg_cS2 (pc := 35) (d' := d - 1) (mc' := 1) (ms' := ((md_n h (md_a h (md_r h M) (4 + trk))) + m)) g dX7_behind_35 cb_X7_joined ml_X7_61 ms_X7_joined (Nat.le_of_ble_eq_true rfl) (by first | exact jl_d0 hd rfl | omega) (by first | exact Nat.le_of_ble_eq_true rfl | omega) (by first | exact Nat.le_of_ble_eq_true rfl | omega) ?_
    refine s_X7_joined (c := 1) g (by first | exact jl_d1 hd rfl | omega) (by assumption) hA (by omega) (by omega) (fun h35 t35 => sg_K1 ?_)
    have x35 : md_M w h35 M := md_ME (by assumption) (md_TE t35)
    have hk35 := x35.2.1
    have y35 : md_Y w h h35 M := md_YE (by assumption) (md_TE t35)
    refine sg_cE2 (pc := 38) (d' := d - 1) (mc' := 2) (ms' := 16) 8 g dX7_behind_38 cb_X7_set ml_X7_78 mn_X7_set rfl mv_X7_set (Nat.le_of_ble_eq_true rfl) (md_oc (by assumption)) (Nat.le_of_ble_eq_true rfl) (by first | exact jl_d0 hd rfl | omega) (by first | exact Nat.le_of_ble_eq_true rfl | omega) (by first | exact Nat.le_of_ble_eq_true rfl | omega) ?_
    refine s_X7_set g (by first | exact jl_d1 hd rfl | omega) (by omega) (by assumption) (fun q => absurd q (by omega)) (fun q => ⟨t35.2.2, (by omega)⟩) (fun h38 y38 => sg_K1 ?_)
    have x38 := y38.1
    have hk38 := x38.2.1
    have y38 := md_Yt (h0 := h) (by assumption) y38
    refine sg_iret (pc := 41) dX7_behind_41 rfl (by first | exact Nat.le_of_ble_eq_true rfl | omega) (by first | exact Nat.le_of_ble_eq_true rfl | omega) ?_
    exact hQ _ _ (by assumption)
  · refine sg_bipush (pc := 17) (z := -9) dX7_behind_17 (by decide) ?_
    refine sg_goto (pc := 19) (tgt := 41) dX7_behind_19 (by decide) ?_
    refine sg_iret (pc := 41) dX7_behind_41 rfl (by first | exact Nat.le_of_ble_eq_true rfl | omega) (by first | exact Nat.le_of_ble_eq_true rfl | omega) ?_
    exact hQ _ _ (by assumption)

set_option maxRecDepth 100000 in
theorem s_X7_send {w : sg_W} {Q : sg_O → sg_H → Prop} {h : sg_H} (g : sg_G w) {d : Nat} (hd : 9 ≤ d) {M : Nat} {trk x : Int}  (hx : md_M w h M) (hQ : ∀ (v : Int) (h' : sg_H), md_Y w h h' M → Q (.inl (some (sg_i v))) h') : sg_C w mi_X7_send d 4 82 [sg_r M, sg_i trk, sg_i x] h Q := by
  refine sg_of pn_X7 (Nat.le_of_ble_eq_true rfl) ?_
  have y0 := md_Y0 hx
  have hk := hx.2.1
  refine sg_aload_n (pc := 0) (j := 0) dX7_send_0 rfl rfl ?_
  refine sg_iload_n (pc := 1) (j := 1) dX7_send_1 rfl rfl ?_
  refine sg_cS1 (pc := 2) (d' := d - 1) (mc' := 0) (ms' := 0) g dX7_send_2 cb_X7_isNoTrack ml_X7_129 ms_X7_isNoTrack (Nat.le_of_ble_eq_true rfl) (by first | exact jl_d0 hd rfl | omega) (by first | exact Nat.le_of_ble_eq_true rfl | omega) (by first | exact Nat.le_of_ble_eq_true rfl | omega) ?_
  refine s_X7_isNoTrack g (by first | exact jl_d1 hd rfl | omega) (fun z2 h2 b2 => sg_K1 ?_)
  (try simp only [fm_no, fm_one, fn_betw, fn_sign, fn_radix, fn_high, fn_low] at h2)
  refine sg_iconst (pc := 5) (z := 1) dX7_send_5 (by decide) ?_
  refine sg_cE2 (pc := 6) (d' := d - 1) (mc' := 0) (ms' := 0) 8 g dX7_send_6 cb_X7_start ml_X7_71 mn_X7_start rfl mv_X7_start (Nat.le_of_ble_eq_true rfl) (md_oc (by assumption)) (Nat.le_of_ble_eq_true rfl) (by first | exact jl_d0 hd rfl | omega) (by first | exact Nat.le_of_ble_eq_true rfl | omega) (by first | exact Nat.le_of_ble_eq_true rfl | omega) ?_
  refine s_X7_start g (by first | exact jl_d1 hd rfl | omega) (by omega) (by assumption) (fun v6 h6 b6 i6 t6 s6 u6 y6 => sg_K1 ?_)
  have x6 := y6.1
  have hk6 := x6.2.1
  have y6 := md_Yt (h0 := h) (by assumption) y6
  refine sg_if_ne (pc := 9) (tgt := 35) dX7_send_9 (by decide) (fun c9 => ?_) (fun c9 => ?_)
  · refine sg_iconst (pc := 35) (z := 0) dX7_send_35 (by decide) ?_
    refine sg_goto (pc := 36) (tgt := 48) dX7_send_36 (by decide) ?_
    refine sg_iret (pc := 48) dX7_send_48 rfl (by first | exact Nat.le_of_ble_eq_true rfl | omega) (by first | exact Nat.le_of_ble_eq_true rfl | omega) ?_
    exact hQ _ _ (by assumption)
  · refine sg_aload_n (pc := 12) (j := 0) dX7_send_12 rfl rfl ?_
    refine sg_iload_n (pc := 13) (j := 2) dX7_send_13 rfl rfl ?_
    refine sg_iconst (pc := 14) (z := 0) dX7_send_14 (by decide) ?_
    refine sg_ldc (pc := 15) (z := 1114111) g dX7_send_15 cn_X7_132 (by decide) ?_
    refine sg_cS3 (pc := 17) (d' := d - 1) (mc' := 0) (ms' := 0) g dX7_send_17 cb_X7_isOf ml_X7_22 ms_X7_isOf (Nat.le_of_ble_eq_true rfl) (by first | exact jl_d0 hd rfl | omega) (by first | exact Nat.le_of_ble_eq_true rfl | omega) (by first | exact Nat.le_of_ble_eq_true rfl | omega) ?_
    refine s_X7_isOf g (by first | exact jl_d1 hd rfl | omega) (fun z17 h17 b17 => sg_K1 ?_)
    (try simp only [fm_no, fm_one, fn_betw, fn_sign, fn_radix, fn_high, fn_low] at h17)
    refine sg_if_ne (pc := 20) (tgt := 27) dX7_send_20 (by decide) (fun c20 => ?_) (fun c20 => ?_)
    · refine sg_iconst (pc := 27) (z := 0) dX7_send_27 (by decide) ?_
      refine sg_iconst (pc := 28) (z := 2) dX7_send_28 (by decide) ?_
      refine sg_cE2 (pc := 29) (d' := d - 1) (mc' := 0) (ms' := 0) 8 g dX7_send_29 cb_X7_refuse ml_X7_45 mn_X7_refuse rfl mv_X7_refuse (Nat.le_of_ble_eq_true rfl) (md_oc (by assumption)) (Nat.le_of_ble_eq_true rfl) (by first | exact jl_d0 hd rfl | omega) (by first | exact Nat.le_of_ble_eq_true rfl | omega) (by first | exact Nat.le_of_ble_eq_true rfl | omega) ?_
      refine s_X7_refuse g (by first | exact jl_d1 hd rfl | omega) (by omega) (by assumption) (fun v29 h29 b29 i29 t29 s29 u29 y29 => sg_K1 ?_)
      have x29 := y29.1
      have hk29 := x29.2.1
      have y29 := md_Yt (h0 := h) (by assumption) y29
      refine sg_if_eq (pc := 32) (tgt := 39) dX7_send_32 (by decide) (fun c32 => ?_) (fun c32 => ?_)
      · refine sg_aload_n (pc := 39) (j := 0) dX7_send_39 rfl rfl ?_
        refine sg_iload_n (pc := 40) (j := 1) dX7_send_40 rfl rfl ?_
        refine sg_iload_n (pc := 41) (j := 2) dX7_send_41 rfl rfl ?_
        refine sg_cS1 (pc := 42) (d' := d - 1) (mc' := 1) (ms' := 2) g dX7_send_42 cb_X7_sent ml_X7_133 ms_X7_sent (Nat.le_of_ble_eq_true rfl) (by first | exact jl_d0 hd rfl | omega) (by first | exact Nat.le_of_ble_eq_true rfl | omega) (by first | exact Nat.le_of_ble_eq_true rfl | omega) ?_
        refine s_X7_sent g (by first | exact jl_d1 hd rfl | omega) (by omega) (fun h42 m42 l42 u42 o42 w42 t42 fa42 fb42 => sg_K1 ?_)
        have x42 : md_M w h42 M := md_ME (by assumption) (md_TE t42)
        have hk42 := x42.2.1
        have y42 : md_Y w h h42 M := md_YE (by assumption) (md_TE t42)
        refine sg_cE2 (pc := 45) (d' := d - 1) (mc' := 3) (ms' := 80) 8 g dX7_send_45 cb_X7_behind ml_X7_137 mn_X7_behind rfl mv_X7_behind (Nat.le_of_ble_eq_true rfl) (md_oc (by assumption)) (Nat.le_of_ble_eq_true rfl) (by first | exact jl_d0 hd rfl | omega) (by first | exact Nat.le_of_ble_eq_true rfl | omega) (by first | exact Nat.le_of_ble_eq_true rfl | omega) ?_
        refine s_X7_behind g (by first | exact jl_d1 hd rfl | omega) (by omega) t42.2.2 (by omega) (by assumption) (fun v45 h45 y45 => sg_K1 ?_)
        have x45 := y45.1
        have hk45 := x45.2.1
        have y45 := md_Yt (h0 := h) (by assumption) y45
        refine sg_iret (pc := 48) dX7_send_48 rfl (by first | exact Nat.le_of_ble_eq_true rfl | omega) (by first | exact Nat.le_of_ble_eq_true rfl | omega) ?_
        exact hQ _ _ (by assumption)
      · refine sg_iconst (pc := 35) (z := 0) dX7_send_35 (by decide) ?_
        refine sg_goto (pc := 36) (tgt := 48) dX7_send_36 (by decide) ?_
        refine sg_iret (pc := 48) dX7_send_48 rfl (by first | exact Nat.le_of_ble_eq_true rfl | omega) (by first | exact Nat.le_of_ble_eq_true rfl | omega) ?_
        exact hQ _ _ (by assumption)
    · refine sg_iconst (pc := 23) (z := 1) dX7_send_23 (by decide) ?_
      refine sg_goto (pc := 24) (tgt := 28) dX7_send_24 (by decide) ?_
      refine sg_iconst (pc := 28) (z := 2) dX7_send_28 (by decide) ?_
      refine sg_cE2 (pc := 29) (d' := d - 1) (mc' := 0) (ms' := 0) 8 g dX7_send_29 cb_X7_refuse ml_X7_45 mn_X7_refuse rfl mv_X7_refuse (Nat.le_of_ble_eq_true rfl) (md_oc (by assumption)) (Nat.le_of_ble_eq_true rfl) (by first | exact jl_d0 hd rfl | omega) (by first | exact Nat.le_of_ble_eq_true rfl | omega) (by first | exact Nat.le_of_ble_eq_true rfl | omega) ?_
      refine s_X7_refuse g (by first | exact jl_d1 hd rfl | omega) (by omega) (by assumption) (fun v29 h29 b29 i29 t29 s29 u29 y29 => sg_K1 ?_)
      have x29 := y29.1
      have hk29 := x29.2.1
      have y29 := md_Yt (h0 := h) (by assumption) y29
      refine sg_if_eq (pc := 32) (tgt := 39) dX7_send_32 (by decide) (fun c32 => absurd c32 (by omega)) (fun c32 => ?_)
      refine sg_iconst (pc := 35) (z := 0) dX7_send_35 (by decide) ?_
      refine sg_goto (pc := 36) (tgt := 48) dX7_send_36 (by decide) ?_
      refine sg_iret (pc := 48) dX7_send_48 rfl (by first | exact Nat.le_of_ble_eq_true rfl | omega) (by first | exact Nat.le_of_ble_eq_true rfl | omega) ?_
      exact hQ _ _ (by assumption)

set_option maxRecDepth 100000 in
theorem s_X7_put {w : sg_W} {Q : sg_O → sg_H → Prop} {h : sg_H} (g : sg_G w) {d : Nat} (hd : 9 ≤ d) {M : Nat} {trk x : Int}  (hx : md_M w h M) (hQ : ∀ (v : Int) (h' : sg_H), md_Y w h h' M → Q (.inl (some (sg_i v))) h') : sg_C w mi_X7_put d 4 81 [sg_r M, sg_i trk, sg_i x] h Q := by
  refine sg_of pn_X7 (Nat.le_of_ble_eq_true rfl) ?_
  have y0 := md_Y0 hx
  have hk := hx.2.1
  refine sg_aload_n (pc := 0) (j := 0) dX7_put_0 rfl rfl ?_
  refine sg_iload_n (pc := 1) (j := 1) dX7_put_1 rfl rfl ?_
  refine sg_cS1 (pc := 2) (d' := d - 1) (mc' := 0) (ms' := 0) g dX7_put_2 cb_X7_isNoTrack ml_X7_129 ms_X7_isNoTrack (Nat.le_of_ble_eq_true rfl) (by first | exact jl_d0 hd rfl | omega) (by first | exact Nat.le_of_ble_eq_true rfl | omega) (by first | exact Nat.le_of_ble_eq_true rfl | omega) ?_
  refine s_X7_isNoTrack g (by first | exact jl_d1 hd rfl | omega) (fun z2 h2 b2 => sg_K1 ?_)
  (try simp only [fm_no, fm_one, fn_betw, fn_sign, fn_radix, fn_high, fn_low] at h2)
  refine sg_iconst (pc := 5) (z := 1) dX7_put_5 (by decide) ?_
  refine sg_cE2 (pc := 6) (d' := d - 1) (mc' := 0) (ms' := 0) 8 g dX7_put_6 cb_X7_start ml_X7_71 mn_X7_start rfl mv_X7_start (Nat.le_of_ble_eq_true rfl) (md_oc (by assumption)) (Nat.le_of_ble_eq_true rfl) (by first | exact jl_d0 hd rfl | omega) (by first | exact Nat.le_of_ble_eq_true rfl | omega) (by first | exact Nat.le_of_ble_eq_true rfl | omega) ?_
  refine s_X7_start g (by first | exact jl_d1 hd rfl | omega) (by omega) (by assumption) (fun v6 h6 b6 i6 t6 s6 u6 y6 => sg_K1 ?_)
  have x6 := y6.1
  have hk6 := x6.2.1
  have y6 := md_Yt (h0 := h) (by assumption) y6
  refine sg_if_ne (pc := 9) (tgt := 35) dX7_put_9 (by decide) (fun c9 => ?_) (fun c9 => ?_)
  · refine sg_iconst (pc := 35) (z := 0) dX7_put_35 (by decide) ?_
    refine sg_goto (pc := 36) (tgt := 51) dX7_put_36 (by decide) ?_
    refine sg_iret (pc := 51) dX7_put_51 rfl (by first | exact Nat.le_of_ble_eq_true rfl | omega) (by first | exact Nat.le_of_ble_eq_true rfl | omega) ?_
    exact hQ _ _ (by assumption)
  · refine sg_aload_n (pc := 12) (j := 0) dX7_put_12 rfl rfl ?_
    refine sg_iload_n (pc := 13) (j := 2) dX7_put_13 rfl rfl ?_
    refine sg_iconst (pc := 14) (z := 0) dX7_put_14 (by decide) ?_
    refine sg_ldc (pc := 15) (z := 65535) g dX7_put_15 cn_X7_140 (by decide) ?_
    refine sg_cS3 (pc := 17) (d' := d - 1) (mc' := 0) (ms' := 0) g dX7_put_17 cb_X7_isOf ml_X7_22 ms_X7_isOf (Nat.le_of_ble_eq_true rfl) (by first | exact jl_d0 hd rfl | omega) (by first | exact Nat.le_of_ble_eq_true rfl | omega) (by first | exact Nat.le_of_ble_eq_true rfl | omega) ?_
    refine s_X7_isOf g (by first | exact jl_d1 hd rfl | omega) (fun z17 h17 b17 => sg_K1 ?_)
    (try simp only [fm_no, fm_one, fn_betw, fn_sign, fn_radix, fn_high, fn_low] at h17)
    refine sg_if_ne (pc := 20) (tgt := 27) dX7_put_20 (by decide) (fun c20 => ?_) (fun c20 => ?_)
    · refine sg_iconst (pc := 27) (z := 0) dX7_put_27 (by decide) ?_
      refine sg_iconst (pc := 28) (z := 2) dX7_put_28 (by decide) ?_
      refine sg_cE2 (pc := 29) (d' := d - 1) (mc' := 0) (ms' := 0) 8 g dX7_put_29 cb_X7_refuse ml_X7_45 mn_X7_refuse rfl mv_X7_refuse (Nat.le_of_ble_eq_true rfl) (md_oc (by assumption)) (Nat.le_of_ble_eq_true rfl) (by first | exact jl_d0 hd rfl | omega) (by first | exact Nat.le_of_ble_eq_true rfl | omega) (by first | exact Nat.le_of_ble_eq_true rfl | omega) ?_
      refine s_X7_refuse g (by first | exact jl_d1 hd rfl | omega) (by omega) (by assumption) (fun v29 h29 b29 i29 t29 s29 u29 y29 => sg_K1 ?_)
      have x29 := y29.1
      have hk29 := x29.2.1
      have y29 := md_Yt (h0 := h) (by assumption) y29
      refine sg_if_eq (pc := 32) (tgt := 39) dX7_put_32 (by decide) (fun c32 => ?_) (fun c32 => ?_)
      · refine sg_aload_n (pc := 39) (j := 0) dX7_put_39 rfl rfl ?_
        refine sg_iload_n (pc := 40) (j := 1) dX7_put_40 rfl rfl ?_
        refine sg_iconst (pc := 41) (z := 1) dX7_put_41 (by decide) ?_
        refine sg_newa (t := 100) (N := 1) (pc := 42) g dX7_put_42 ac_int rfl (by decide) (by decide) rfl rfl (by decide) (by omega) (by omega) (by omega) (by omega) ?_
        refine sg_dup (pc := 44) dX7_put_44 rfl ?_
        refine sg_iconst (pc := 45) (z := 0) dX7_put_45 (by decide) ?_
        refine sg_iload_n (pc := 46) (j := 2) dX7_put_46 rfl rfl ?_
        refine md_ast (pc := 47) dX7_put_47 (md_new (c := 1)) (by rw [ck_v1]; omega) (by omega) (by omega) (fun h47 t47 => ?_)
        have x47 : md_M w h47 M := md_ME (by assumption) (md_TE t47)
        have hk47 := x47.2.1
        have y47 : md_Y w h h47 M := md_YE (by assumption) (md_TE t47)
        refine sg_cE2 (pc := 48) (d' := d - 1) (mc' := 3) (ms' := 80) 8 g dX7_put_48 cb_X7_behind ml_X7_137 mn_X7_behind rfl mv_X7_behind (Nat.le_of_ble_eq_true rfl) (md_oc (by assumption)) (Nat.le_of_ble_eq_true rfl) (by first | exact jl_d0 hd rfl | omega) (by first | exact Nat.le_of_ble_eq_true rfl | omega) (by first | exact Nat.le_of_ble_eq_true rfl | omega) ?_
        refine s_X7_behind g (by first | exact jl_d1 hd rfl | omega) (by omega) t47.2.2 (by omega) (by assumption) (fun v48 h48 y48 => sg_K1 ?_)
        have x48 := y48.1
        have hk48 := x48.2.1
        have y48 := md_Yt (h0 := h) (by assumption) y48
        refine sg_iret (pc := 51) dX7_put_51 rfl (by first | exact Nat.le_of_ble_eq_true rfl | omega) (by first | exact Nat.le_of_ble_eq_true rfl | omega) ?_
        exact hQ _ _ (by assumption)
      · refine sg_iconst (pc := 35) (z := 0) dX7_put_35 (by decide) ?_
        refine sg_goto (pc := 36) (tgt := 51) dX7_put_36 (by decide) ?_
        refine sg_iret (pc := 51) dX7_put_51 rfl (by first | exact Nat.le_of_ble_eq_true rfl | omega) (by first | exact Nat.le_of_ble_eq_true rfl | omega) ?_
        exact hQ _ _ (by assumption)
    · refine sg_iconst (pc := 23) (z := 1) dX7_put_23 (by decide) ?_
      refine sg_goto (pc := 24) (tgt := 28) dX7_put_24 (by decide) ?_
      refine sg_iconst (pc := 28) (z := 2) dX7_put_28 (by decide) ?_
      refine sg_cE2 (pc := 29) (d' := d - 1) (mc' := 0) (ms' := 0) 8 g dX7_put_29 cb_X7_refuse ml_X7_45 mn_X7_refuse rfl mv_X7_refuse (Nat.le_of_ble_eq_true rfl) (md_oc (by assumption)) (Nat.le_of_ble_eq_true rfl) (by first | exact jl_d0 hd rfl | omega) (by first | exact Nat.le_of_ble_eq_true rfl | omega) (by first | exact Nat.le_of_ble_eq_true rfl | omega) ?_
      refine s_X7_refuse g (by first | exact jl_d1 hd rfl | omega) (by omega) (by assumption) (fun v29 h29 b29 i29 t29 s29 u29 y29 => sg_K1 ?_)
      have x29 := y29.1
      have hk29 := x29.2.1
      have y29 := md_Yt (h0 := h) (by assumption) y29
      refine sg_if_eq (pc := 32) (tgt := 39) dX7_put_32 (by decide) (fun c32 => absurd c32 (by omega)) (fun c32 => ?_)
      refine sg_iconst (pc := 35) (z := 0) dX7_put_35 (by decide) ?_
      refine sg_goto (pc := 36) (tgt := 51) dX7_put_36 (by decide) ?_
      refine sg_iret (pc := 51) dX7_put_51 rfl (by first | exact Nat.le_of_ble_eq_true rfl | omega) (by first | exact Nat.le_of_ble_eq_true rfl | omega) ?_
      exact hQ _ _ (by assumption)

set_option maxRecDepth 100000 in
theorem s_X7_cut {w : sg_W} {Q : sg_O → sg_H → Prop} {h : sg_H} (g : sg_G w) {d : Nat} (hd : 9 ≤ d) {M : Nat} {trk many : Int}  (hx : md_M w h M) (hQ : ∀ (v : Int) (h' : sg_H), md_Y w h h' M → Q (.inl (some (sg_i v))) h') : sg_C w mi_X7_cut d 3 56 [sg_r M, sg_i trk, sg_i many] h Q := by
  refine sg_of pn_X7 (Nat.le_of_ble_eq_true rfl) ?_
  have y0 := md_Y0 hx
  have hk := hx.2.1
  refine sg_aload_n (pc := 0) (j := 0) dX7_cut_0 rfl rfl ?_
  refine sg_iload_n (pc := 1) (j := 1) dX7_cut_1 rfl rfl ?_
  refine sg_cS1 (pc := 2) (d' := d - 1) (mc' := 0) (ms' := 0) g dX7_cut_2 cb_X7_isNoTrack ml_X7_129 ms_X7_isNoTrack (Nat.le_of_ble_eq_true rfl) (by first | exact jl_d0 hd rfl | omega) (by first | exact Nat.le_of_ble_eq_true rfl | omega) (by first | exact Nat.le_of_ble_eq_true rfl | omega) ?_
  refine s_X7_isNoTrack g (by first | exact jl_d1 hd rfl | omega) (fun z2 h2 b2 => sg_K1 ?_)
  (try simp only [fm_no, fm_one, fn_betw, fn_sign, fn_radix, fn_high, fn_low] at h2)
  refine sg_iconst (pc := 5) (z := 1) dX7_cut_5 (by decide) ?_
  refine sg_cE2 (pc := 6) (d' := d - 1) (mc' := 0) (ms' := 0) 8 g dX7_cut_6 cb_X7_start ml_X7_71 mn_X7_start rfl mv_X7_start (Nat.le_of_ble_eq_true rfl) (md_oc (by assumption)) (Nat.le_of_ble_eq_true rfl) (by first | exact jl_d0 hd rfl | omega) (by first | exact Nat.le_of_ble_eq_true rfl | omega) (by first | exact Nat.le_of_ble_eq_true rfl | omega) ?_
  refine s_X7_start g (by first | exact jl_d1 hd rfl | omega) (by omega) (by assumption) (fun v6 h6 b6 i6 t6 s6 u6 y6 => sg_K1 ?_)
  have x6 := y6.1
  have hk6 := x6.2.1
  have y6 := md_Yt (h0 := h) (by assumption) y6
  refine sg_if_ne (pc := 9) (tgt := 42) dX7_cut_9 (by decide) (fun c9 => ?_) (fun c9 => ?_)
  · refine sg_iconst (pc := 42) (z := 0) dX7_cut_42 (by decide) ?_
    refine sg_goto (pc := 43) (tgt := 76) dX7_cut_43 (by decide) ?_
    refine sg_iret (pc := 76) dX7_cut_76 rfl (by first | exact Nat.le_of_ble_eq_true rfl | omega) (by first | exact Nat.le_of_ble_eq_true rfl | omega) ?_
    exact hQ _ _ (by assumption)
  · refine sg_aload_n (pc := 12) (j := 0) dX7_cut_12 rfl rfl ?_
    refine sg_iload_n (pc := 13) (j := 2) dX7_cut_13 rfl rfl ?_
    refine sg_iconst (pc := 14) (z := 0) dX7_cut_14 (by decide) ?_
    refine sg_aload_n (pc := 15) (j := 0) dX7_cut_15 rfl rfl ?_
    refine md_grw (pc := 16) g dX7_cut_16 fk_X7_9 (by assumption) (fun r16 => ?_)
    refine sg_iconst (pc := 19) (z := 4) dX7_cut_19 (by decide) ?_
    refine sg_iload_n (pc := 20) (j := 1) dX7_cut_20 rfl rfl ?_
    first | refine sg_iaddB (pc := 21) dX7_cut_21 (by omega) (by omega) ?_ | refine sg_iadd (pc := 21) dX7_cut_21 ?_
    first | refine md_alr (pc := 22) dX7_cut_22 (by assumption) (by omega) (by omega) (fun A22 l22 => ?_) | refine md_alt (pc := 22) dX7_cut_22 (by assumption) (by omega) (by omega) (fun A22 l22 => ?_)
    refine md_len (pc := 23) dX7_cut_23 (by assumption) (by omega) ?_
    refine sg_cS3 (pc := 24) (d' := d - 1) (mc' := 0) (ms' := 0) g dX7_cut_24 cb_X7_isOf ml_X7_22 ms_X7_isOf (Nat.le_of_ble_eq_true rfl) (by first | exact jl_d0 hd rfl | omega) (by first | exact Nat.le_of_ble_eq_true rfl | omega) (by first | exact Nat.le_of_ble_eq_true rfl | omega) ?_
    refine s_X7_isOf g (by first | exact jl_d1 hd rfl | omega) (fun z24 h24 b24 => sg_K1 ?_)
    (try simp only [fm_no, fm_one, fn_betw, fn_sign, fn_radix, fn_high, fn_low] at h24)
    refine sg_if_ne (pc := 27) (tgt := 34) dX7_cut_27 (by decide) (fun c27 => ?_) (fun c27 => ?_)
    · refine sg_iconst (pc := 34) (z := 0) dX7_cut_34 (by decide) ?_
      refine sg_iconst (pc := 35) (z := 2) dX7_cut_35 (by decide) ?_
      refine sg_cE2 (pc := 36) (d' := d - 1) (mc' := 0) (ms' := 0) 8 g dX7_cut_36 cb_X7_refuse ml_X7_45 mn_X7_refuse rfl mv_X7_refuse (Nat.le_of_ble_eq_true rfl) (md_oc (by assumption)) (Nat.le_of_ble_eq_true rfl) (by first | exact jl_d0 hd rfl | omega) (by first | exact Nat.le_of_ble_eq_true rfl | omega) (by first | exact Nat.le_of_ble_eq_true rfl | omega) ?_
      refine s_X7_refuse g (by first | exact jl_d1 hd rfl | omega) (by omega) (by assumption) (fun v36 h36 b36 i36 t36 s36 u36 y36 => sg_K1 ?_)
      have x36 := y36.1
      have hk36 := x36.2.1
      have y36 := md_Yt (h0 := h) (by assumption) y36
      refine sg_if_eq (pc := 39) (tgt := 46) dX7_cut_39 (by decide) (fun c39 => ?_) (fun c39 => ?_)
      · have s46 := s36 (4 + trk)
        refine sg_aload_n (pc := 46) (j := 0) dX7_cut_46 rfl rfl ?_
        refine sg_iconst (pc := 47) (z := 4) dX7_cut_47 (by decide) ?_
        refine sg_iload_n (pc := 48) (j := 1) dX7_cut_48 rfl rfl ?_
        first | refine sg_iaddB (pc := 49) dX7_cut_49 (by omega) (by omega) ?_ | refine sg_iadd (pc := 49) dX7_cut_49 ?_
        refine sg_aload_n (pc := 50) (j := 0) dX7_cut_50 rfl rfl ?_
        refine md_grw (pc := 51) g dX7_cut_51 fk_X7_9 (by assumption) (fun r51 => ?_)
        refine sg_iconst (pc := 54) (z := 4) dX7_cut_54 (by decide) ?_
        refine sg_iload_n (pc := 55) (j := 1) dX7_cut_55 rfl rfl ?_
        first | refine sg_iaddB (pc := 56) dX7_cut_56 (by omega) (by omega) ?_ | refine sg_iadd (pc := 56) dX7_cut_56 ?_
        first | refine md_alr (pc := 57) dX7_cut_57 (by assumption) (by omega) (by omega) (fun A57 l57 => ?_) | refine md_alt (pc := 57) dX7_cut_57 (by assumption) (by omega) (by omega) (fun A57 l57 => ?_)
        refine sg_iconst (pc := 58) (z := 0) dX7_cut_58 (by decide) ?_
        refine sg_aload_n (pc := 59) (j := 0) dX7_cut_59 rfl rfl ?_
        refine md_grw (pc := 60) g dX7_cut_60 fk_X7_9 (by assumption) (fun r60 => ?_)
        refine sg_iconst (pc := 63) (z := 4) dX7_cut_63 (by decide) ?_
        refine sg_iload_n (pc := 64) (j := 1) dX7_cut_64 rfl rfl ?_
        first | refine sg_iaddB (pc := 65) dX7_cut_65 (by omega) (by omega) ?_ | refine sg_iadd (pc := 65) dX7_cut_65 ?_
        first | refine md_alr (pc := 66) dX7_cut_66 (by assumption) (by omega) (by omega) (fun A66 l66 => ?_) | refine md_alt (pc := 66) dX7_cut_66 (by assumption) (by omega) (by omega) (fun A66 l66 => ?_)
        refine md_len (pc := 67) dX7_cut_67 (by assumption) (by omega) ?_
        refine sg_iload_n (pc := 68) (j := 2) dX7_cut_68 rfl rfl ?_
        first | refine sg_isubB (pc := 69) dX7_cut_69 (by omega) (by omega) ?_ | refine sg_isub (pc := 69) dX7_cut_69 ?_
        refine sg_cS3 (pc := 70) (d' := d - 1) (mc' := 1) (ms' := (((md_n h36 (md_a h36 (md_r h36 M) (4 + trk))) : Int) - many).toNat) g dX7_cut_70 cb_X7_part ml_X7_82 ms_X7_part (Nat.le_of_ble_eq_true rfl) (by first | exact jl_d0 hd rfl | omega) (by first | exact Nat.le_of_ble_eq_true rfl | omega) (by first | exact Nat.le_of_ble_eq_true rfl | omega) ?_
        refine s_X7_part (c := 1) (m := (((md_n h36 (md_a h36 (md_r h36 M) (4 + trk))) : Int) - many).toNat) (n := (md_n h36 (md_a h36 (md_r h36 M) (4 + trk)))) g (by first | exact jl_d1 hd rfl | omega) (by first | assumption | (exfalso; omega)) (by omega) (by omega) (by omega) (by omega) (fun h70 t70 => sg_K1 ?_)
        have x70 : md_M w h70 M := md_ME (by assumption) (md_TE t70)
        have hk70 := x70.2.1
        have y70 : md_Y w h h70 M := md_YE (by assumption) (md_TE t70)
        refine sg_cE2 (pc := 73) (d' := d - 1) (mc' := 2) (ms' := 16) 8 g dX7_cut_73 cb_X7_set ml_X7_78 mn_X7_set rfl mv_X7_set (Nat.le_of_ble_eq_true rfl) (md_oc (by assumption)) (Nat.le_of_ble_eq_true rfl) (by first | exact jl_d0 hd rfl | omega) (by first | exact Nat.le_of_ble_eq_true rfl | omega) (by first | exact Nat.le_of_ble_eq_true rfl | omega) ?_
        refine s_X7_set g (by first | exact jl_d1 hd rfl | omega) (by omega) (by assumption) (fun q => absurd q (by omega)) (fun q => ⟨t70.2.2, (by omega)⟩) (fun h73 y73 => sg_K1 ?_)
        have x73 := y73.1
        have hk73 := x73.2.1
        have y73 := md_Yt (h0 := h) (by assumption) y73
        refine sg_iret (pc := 76) dX7_cut_76 rfl (by first | exact Nat.le_of_ble_eq_true rfl | omega) (by first | exact Nat.le_of_ble_eq_true rfl | omega) ?_
        exact hQ _ _ (by assumption)
      · refine sg_iconst (pc := 42) (z := 0) dX7_cut_42 (by decide) ?_
        refine sg_goto (pc := 43) (tgt := 76) dX7_cut_43 (by decide) ?_
        refine sg_iret (pc := 76) dX7_cut_76 rfl (by first | exact Nat.le_of_ble_eq_true rfl | omega) (by first | exact Nat.le_of_ble_eq_true rfl | omega) ?_
        exact hQ _ _ (by assumption)
    · refine sg_iconst (pc := 30) (z := 1) dX7_cut_30 (by decide) ?_
      refine sg_goto (pc := 31) (tgt := 35) dX7_cut_31 (by decide) ?_
      refine sg_iconst (pc := 35) (z := 2) dX7_cut_35 (by decide) ?_
      refine sg_cE2 (pc := 36) (d' := d - 1) (mc' := 0) (ms' := 0) 8 g dX7_cut_36 cb_X7_refuse ml_X7_45 mn_X7_refuse rfl mv_X7_refuse (Nat.le_of_ble_eq_true rfl) (md_oc (by assumption)) (Nat.le_of_ble_eq_true rfl) (by first | exact jl_d0 hd rfl | omega) (by first | exact Nat.le_of_ble_eq_true rfl | omega) (by first | exact Nat.le_of_ble_eq_true rfl | omega) ?_
      refine s_X7_refuse g (by first | exact jl_d1 hd rfl | omega) (by omega) (by assumption) (fun v36 h36 b36 i36 t36 s36 u36 y36 => sg_K1 ?_)
      have x36 := y36.1
      have hk36 := x36.2.1
      have y36 := md_Yt (h0 := h) (by assumption) y36
      refine sg_if_eq (pc := 39) (tgt := 46) dX7_cut_39 (by decide) (fun c39 => absurd c39 (by omega)) (fun c39 => ?_)
      refine sg_iconst (pc := 42) (z := 0) dX7_cut_42 (by decide) ?_
      refine sg_goto (pc := 43) (tgt := 76) dX7_cut_43 (by decide) ?_
      refine sg_iret (pc := 76) dX7_cut_76 rfl (by first | exact Nat.le_of_ble_eq_true rfl | omega) (by first | exact Nat.le_of_ble_eq_true rfl | omega) ?_
      exact hQ _ _ (by assumption)

set_option maxRecDepth 100000 in
theorem s_X7_flip {w : sg_W} {Q : sg_O → sg_H → Prop} {h : sg_H} (g : sg_G w) {d : Nat} (hd : 9 ≤ d) {M : Nat} {trk : Int}  (hx : md_M w h M) (hQ : ∀ (v : Int) (h' : sg_H), md_Y w h h' M → Q (.inl (some (sg_i v))) h') : sg_C w mi_X7_flip d 3 56 [sg_r M, sg_i trk] h Q := by
  refine sg_of pn_X7 (Nat.le_of_ble_eq_true rfl) ?_
  have y0 := md_Y0 hx
  have hk := hx.2.1
  refine sg_aload_n (pc := 0) (j := 0) dX7_flip_0 rfl rfl ?_
  refine sg_iload_n (pc := 1) (j := 1) dX7_flip_1 rfl rfl ?_
  refine sg_cS1 (pc := 2) (d' := d - 1) (mc' := 0) (ms' := 0) g dX7_flip_2 cb_X7_isNoTrack ml_X7_129 ms_X7_isNoTrack (Nat.le_of_ble_eq_true rfl) (by first | exact jl_d0 hd rfl | omega) (by first | exact Nat.le_of_ble_eq_true rfl | omega) (by first | exact Nat.le_of_ble_eq_true rfl | omega) ?_
  refine s_X7_isNoTrack g (by first | exact jl_d1 hd rfl | omega) (fun z2 h2 b2 => sg_K1 ?_)
  (try simp only [fm_no, fm_one, fn_betw, fn_sign, fn_radix, fn_high, fn_low] at h2)
  refine sg_iconst (pc := 5) (z := 1) dX7_flip_5 (by decide) ?_
  refine sg_cE2 (pc := 6) (d' := d - 1) (mc' := 0) (ms' := 0) 8 g dX7_flip_6 cb_X7_start ml_X7_71 mn_X7_start rfl mv_X7_start (Nat.le_of_ble_eq_true rfl) (md_oc (by assumption)) (Nat.le_of_ble_eq_true rfl) (by first | exact jl_d0 hd rfl | omega) (by first | exact Nat.le_of_ble_eq_true rfl | omega) (by first | exact Nat.le_of_ble_eq_true rfl | omega) ?_
  refine s_X7_start g (by first | exact jl_d1 hd rfl | omega) (by omega) (by assumption) (fun v6 h6 b6 i6 t6 s6 u6 y6 => sg_K1 ?_)
  have x6 := y6.1
  have hk6 := x6.2.1
  have y6 := md_Yt (h0 := h) (by assumption) y6
  refine sg_if_eq (pc := 9) (tgt := 14) dX7_flip_9 (by decide) (fun c9 => ?_) (fun c9 => ?_)
  · refine sg_aload_n (pc := 14) (j := 0) dX7_flip_14 rfl rfl ?_
    refine md_grw (pc := 15) g dX7_flip_15 fk_X7_9 (by assumption) (fun r15 => ?_)
    refine sg_iconst (pc := 18) (z := 4) dX7_flip_18 (by decide) ?_
    refine sg_iload_n (pc := 19) (j := 1) dX7_flip_19 rfl rfl ?_
    first | refine sg_iaddB (pc := 20) dX7_flip_20 (by omega) (by omega) ?_ | refine sg_iadd (pc := 20) dX7_flip_20 ?_
    first | refine md_alr (pc := 21) dX7_flip_21 (by assumption) (by omega) (by omega) (fun A21 l21 => ?_) | refine md_alt (pc := 21) dX7_flip_21 (by assumption) (by omega) (by omega) (fun A21 l21 => ?_)
    refine md_len (pc := 22) dX7_flip_22 (by assumption) (by omega) ?_
    refine sg_newa (t := 100) (N := (md_n h6 (md_a h6 (md_r h6 M) (4 + trk)))) (pc := 23) g dX7_flip_23 ac_int rfl (by decide) (by decide) rfl rfl (by decide) (by omega) (by omega) (by omega) (by omega) ?_
    refine sg_astore_n (pc := 25) (j := 2) dX7_flip_25 rfl (by decide) ?_
    refine sg_iconst (pc := 26) (z := 0) dX7_flip_26 (by decide) ?_
    refine sg_istore_n (pc := 27) (j := 3) dX7_flip_27 rfl (by decide) ?_
    refine sg_iconst (pc := 28) (z := 0) dX7_flip_28 (by decide) ?_
    refine sg_istore (pc := 29) dX7_flip_29 (by decide) ?_
    have loop31 : ∀ (N : Nat) (h1 : sg_H) (p s : Int), md_T 1 h6 h1 (md_n h6 (md_a h6 (md_r h6 M) (4 + trk))) → 0 ≤ p → (((md_n h6 (md_a h6 (md_r h6 M) (4 + trk))) : Int) - p).toNat < N → sg_R w mi_X7_flip d 3 56 Q 31 [(4, sg_i p), (3, sg_i s), (0, sg_r M), (1, sg_i trk), (2, sg_r h6.1)] [] h1 1 (0 + (md_n h6 (md_a h6 (md_r h6 M) (4 + trk)))) := by
      intro N
      induction N with
      | zero => intro h1 p s t1 p0 hm; exact absurd hm (Nat.not_lt_zero _)
      | succ N ih =>
        intro h1 p s t1 p0 hm
        have x1 : md_M w h1 M := md_ME x6 (md_TE t1)
        have hk1 := x1.2.1
        have y1 : md_Y w h h1 M := md_YE y6 (md_TE t1)
        have s1 := md_SE x6 (md_TE t1) (i := 4 + trk) (by omega) (by omega)
        refine sg_iload (pc := 31) dX7_flip_31 rfl ?_
        refine sg_aload_n (pc := 33) (j := 2) dX7_flip_33 rfl rfl ?_
        refine md_len (pc := 34) dX7_flip_34 t1.2.2 (by omega) ?_
        refine sg_icmp_ge (pc := 35) (tgt := 75) dX7_flip_35 (by decide) (fun c35 => ?_) (fun c35 => ?_)
        · refine sg_aload_n (pc := 75) (j := 0) dX7_flip_75 rfl rfl ?_
          refine sg_iconst (pc := 76) (z := 4) dX7_flip_76 (by decide) ?_
          refine sg_iload_n (pc := 77) (j := 1) dX7_flip_77 rfl rfl ?_
          first | refine sg_iaddB (pc := 78) dX7_flip_78 (by omega) (by omega) ?_ | refine sg_iadd (pc := 78) dX7_flip_78 ?_
          refine sg_aload_n (pc := 79) (j := 2) dX7_flip_79 rfl rfl ?_
          refine sg_cE2 (pc := 80) (d' := d - 1) (mc' := 2) (ms' := 16) 8 g dX7_flip_80 cb_X7_set ml_X7_78 mn_X7_set rfl mv_X7_set (Nat.le_of_ble_eq_true rfl) (md_oc (by assumption)) (Nat.le_of_ble_eq_true rfl) (by first | exact jl_d0 hd rfl | omega) (by first | exact Nat.le_of_ble_eq_true rfl | omega) (by first | exact Nat.le_of_ble_eq_true rfl | omega) ?_
          refine s_X7_set g (by first | exact jl_d1 hd rfl | omega) (by omega) (by assumption) (fun q => absurd q (by omega)) (fun q => ⟨t1.2.2, (by omega)⟩) (fun h80 y80 => sg_K1 ?_)
          have x80 := y80.1
          have hk80 := x80.2.1
          have y80 := md_Yt (h0 := h) (by assumption) y80
          refine sg_pop (pc := 83) dX7_flip_83 rfl ?_
          refine sg_iload_n (pc := 84) (j := 3) dX7_flip_84 rfl rfl ?_
          refine sg_iret (pc := 85) dX7_flip_85 rfl (by first | exact Nat.le_of_ble_eq_true rfl | omega) (by first | exact Nat.le_of_ble_eq_true rfl | omega) ?_
          exact hQ _ _ (by assumption)
        · refine sg_aload_n (pc := 38) (j := 2) dX7_flip_38 rfl rfl ?_
          refine sg_iload (pc := 39) dX7_flip_39 rfl ?_
          refine sg_aload_n (pc := 41) (j := 0) dX7_flip_41 rfl rfl ?_
          refine md_grw (pc := 42) g dX7_flip_42 fk_X7_9 (by assumption) (fun r42 => ?_)
          refine sg_iconst (pc := 45) (z := 4) dX7_flip_45 (by decide) ?_
          refine sg_iload_n (pc := 46) (j := 1) dX7_flip_46 rfl rfl ?_
          first | refine sg_iaddB (pc := 47) dX7_flip_47 (by omega) (by omega) ?_ | refine sg_iadd (pc := 47) dX7_flip_47 ?_
          first | refine md_alr (pc := 48) dX7_flip_48 (by assumption) (by omega) (by omega) (fun A48 l48 => ?_) | refine md_alt (pc := 48) dX7_flip_48 (by assumption) (by omega) (by omega) (fun A48 l48 => ?_)
          refine sg_iload (pc := 49) dX7_flip_49 rfl ?_
          refine md_ald (pc := 51) dX7_flip_51 A48 (by omega) (by omega) (fun x51 g51 => ?_)
          have q51 := ck_v1.mp g51
          refine sg_cS1 (pc := 52) (d' := d - 1) (mc' := 0) (ms' := 0) g dX7_flip_52 cb_X7_turnedUnit ml_X7_141 ms_X7_turnedUnit (Nat.le_of_ble_eq_true rfl) (by first | exact jl_d0 hd rfl | omega) (by first | exact Nat.le_of_ble_eq_true rfl | omega) (by first | exact Nat.le_of_ble_eq_true rfl | omega) ?_
          refine s_X7_turnedUnit g (by first | exact jl_d1 hd rfl | omega) (fun z52 h52 => sg_K1 ?_)
          refine md_ast (pc := 55) dX7_flip_55 t1 (by rw [ck_v1]; omega) (by omega) (by omega) (fun h55 t55 => ?_)
          refine sg_iload_n (pc := 56) (j := 3) dX7_flip_56 rfl rfl ?_
          refine sg_aload_n (pc := 57) (j := 2) dX7_flip_57 rfl rfl ?_
          refine sg_iload (pc := 58) dX7_flip_58 rfl ?_
          refine md_ald (pc := 60) dX7_flip_60 t55.2.2 (by omega) (by omega) (fun x60 g60 => ?_)
          refine sg_cS1 (pc := 61) (d' := d - 1) (mc' := 0) (ms' := 0) g dX7_flip_61 cb_X7_isHalf ml_X7_144 ms_X7_isHalf (Nat.le_of_ble_eq_true rfl) (by first | exact jl_d0 hd rfl | omega) (by first | exact Nat.le_of_ble_eq_true rfl | omega) (by first | exact Nat.le_of_ble_eq_true rfl | omega) ?_
          refine s_X7_isHalf g (by first | exact jl_d1 hd rfl | omega) (fun z61 h61 b61 => sg_K1 ?_)
          (try simp only [fm_no, fm_one, fn_betw, fn_sign, fn_radix, fn_high, fn_low] at h61)
          refine sg_cS1 (pc := 64) (d' := d - 1) (mc' := 0) (ms' := 0) g dX7_flip_64 cb_X7_one ml_X7_92 ms_X7_one (Nat.le_of_ble_eq_true rfl) (by first | exact jl_d0 hd rfl | omega) (by first | exact Nat.le_of_ble_eq_true rfl | omega) (by first | exact Nat.le_of_ble_eq_true rfl | omega) ?_
          refine s_X7_one g (by first | exact jl_d1 hd rfl | omega) (fun z64 h64 b64 => sg_K1 ?_)
          (try simp only [fm_no, fm_one, fn_betw, fn_sign, fn_radix, fn_high, fn_low] at h64)
          first | refine sg_iaddB (pc := 67) dX7_flip_67 (by omega) (by omega) ?_ | refine sg_iadd (pc := 67) dX7_flip_67 ?_
          refine sg_istore_n (pc := 68) (j := 3) dX7_flip_68 rfl (by decide) ?_
          first | refine sg_iincB (pc := 69) dX7_flip_69 rfl (by decide) (by decide) (by omega) (by omega) ?_ | refine sg_iinc (pc := 69) dX7_flip_69 rfl (by decide) (by decide) ?_
          refine sg_goto (pc := 72) (tgt := 31) dX7_flip_72 (by decide) ?_
          refine sg_lsub (lv' := [(4, _), (3, _), (0, _), (1, _), (2, _)]) ⟨rfl, rfl, rfl, rfl, rfl, trivial⟩ ?_
          exact ih _ _ _ t55 (by omega) (by omega)
    refine sg_lsub (lv' := [(4, _), (3, _), (0, _), (1, _), (2, _)]) ⟨rfl, rfl, rfl, rfl, rfl, trivial⟩ ?_
    exact loop31 _ _ _ _ md_new (by omega) (Nat.lt_succ_self _)
  · refine sg_iconst (pc := 12) (z := 0) dX7_flip_12 (by decide) ?_
    refine sg_iret (pc := 13) dX7_flip_13 rfl (by first | exact Nat.le_of_ble_eq_true rfl | omega) (by first | exact Nat.le_of_ble_eq_true rfl | omega) ?_
    exact hQ _ _ (by assumption)

