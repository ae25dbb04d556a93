set_option maxRecDepth 100000 in
set_option maxHeartbeats 800000 in
theorem f_X7_write {w : sg_W} {Q : sg_O → sg_H → Prop} {h : sg_H} (g : sg_G w) {d : Nat} (hd : 9 ≤ d) {M : Nat} {row nr rx : Int} {A : fa_A} {L : List Int} (hA : md_ab h M = A) (hL : fa_L A row.toNat = L) (ok : fa_ok A) (hx : md_M w h M) (hQ : ∀ (v : Int) (h' : sg_H), ((row < 0 ∨ 4 ≤ row) → md_t h' M = 1) → (¬ (row < 0 ∨ 4 ≤ row) → (nr < 0 ∨ 999999 < nr ∨ rx < 2 ∨ 36 < rx) → md_t h' M = 2) → (¬ (row < 0 ∨ 4 ≤ row) → ¬ (nr < 0 ∨ 999999 < nr ∨ rx < 2 ∨ 36 < rx) → md_t h' M = 0) → (md_t h' M = 0 → v = (if 40 < L.length + (fs_digs nr rx).length then (-9 : Int) else ((fs_digs nr rx).length : Int)) ∧ md_ab h' M = (if 40 < L.length + (fs_digs nr rx).length then A else fa_put A row.toNat (L ++ (fs_digs nr rx)))) → (md_t h' M ≠ 0 → md_ab h' M = A) → md_W w h h' M → Q (.inl (some (sg_i v))) h') : sg_C w mi_X7_write d 44 560 [sg_r M, sg_i row, sg_i nr, sg_i rx] h Q := by
  refine sg_of pn_X7 (Nat.le_of_ble_eq_true rfl) ?_
  have y0 := md_Y0 hx
  have hk := hx.2.1
  refine sg_aload_n (pc := 0) (j := 0) (dc_X7_write_0.1.1.1.1) rfl rfl ?_
  refine sg_iload_n (pc := 1) (j := 1) (dc_X7_write_0.1.1.1.2) rfl rfl ?_
  refine sg_cS1 (pc := 2) (d' := d - 1) (mc' := 0) (ms' := 0) g (dc_X7_write_0.1.1.2.1) cb_X7_isNoRow ml_X7_68 ms_X7_isNoRow (Nat.le_of_ble_eq_true rfl) (by first | exact jl_d0 hd rfl | omega) (by first | exact Nat.le_of_ble_eq_true rfl | omega) (by first | exact Nat.le_of_ble_eq_true rfl | omega) ?_
  refine s_X7_isNoRow g (by first | exact jl_d1 hd rfl | omega) (fun z2 h2 b2 => sg_K1 ?_)
  (try simp only [fm_no, fm_one, fn_betw, fn_sign, fn_radix, fn_high, fn_low] at h2)
  refine sg_iconst (pc := 5) (z := 1) (dc_X7_write_0.1.1.2.2) (by decide) ?_
  refine sg_cE2 (pc := 6) (d' := d - 1) (mc' := 0) (ms' := 0) 8 g (dc_X7_write_0.1.2.1.1) cb_X7_start ml_X7_71 mn_X7_start rfl mv_X7_start (Nat.le_of_ble_eq_true rfl) (md_oc (by assumption)) (Nat.le_of_ble_eq_true rfl) (by first | exact jl_d0 hd rfl | omega) (by first | exact Nat.le_of_ble_eq_true rfl | omega) (by first | exact Nat.le_of_ble_eq_true rfl | omega) ?_
  refine s_X7_start g (by first | exact jl_d1 hd rfl | omega) (by omega) (by assumption) (fun v6 h6 b6 i6 t6 s6 u6 y6 => sg_K1 ?_)
  have x6 := y6.1
  have hk6 := x6.2.1
  have y6 := md_Yt (h0 := h) (by assumption) y6
  refine sg_if_ne (pc := 9) (tgt := 42) (dc_X7_write_0.1.2.1.2) (by decide) (fun c9 => ?_) (fun c9 => ?_)
  · refine sg_iconst (pc := 42) (z := 0) (dc_X7_write_31.1.2.1.2) (by decide) ?_
    refine sg_iret (pc := 43) (dc_X7_write_31.1.2.2.1) rfl (by first | exact Nat.le_of_ble_eq_true rfl | omega) (by first | exact Nat.le_of_ble_eq_true rfl | omega) ?_
    exact hQ _ _ (by omega) (by omega) (by omega) (fun q => absurd q (by omega)) (fun _ => md_Ya (by assumption) hA) (md_YW (by assumption))
  · refine sg_aload_n (pc := 12) (j := 0) (dc_X7_write_0.1.2.2.1) rfl rfl ?_
    refine sg_iload_n (pc := 13) (j := 2) (dc_X7_write_0.1.2.2.2) rfl rfl ?_
    refine sg_iconst (pc := 14) (z := 0) (dc_X7_write_0.2.1.1.1) (by decide) ?_
    refine sg_ldc (pc := 15) (z := 999999) g (dc_X7_write_0.2.1.1.2) cn_X7_107 (by decide) ?_
    refine sg_cS3 (pc := 17) (d' := d - 1) (mc' := 0) (ms' := 0) g (dc_X7_write_0.2.1.2.1) cb_X7_isOf ml_X7_22 ms_X7_isOf (Nat.le_of_ble_eq_true rfl) (by first | exact jl_d0 hd rfl | omega) (by first | exact Nat.le_of_ble_eq_true rfl | omega) (by first | exact Nat.le_of_ble_eq_true rfl | omega) ?_
    refine s_X7_isOf g (by first | exact jl_d1 hd rfl | omega) (fun z17 h17 b17 => sg_K1 ?_)
    (try simp only [fm_no, fm_one, fn_betw, fn_sign, fn_radix, fn_high, fn_low] at h17)
    refine sg_if_eq (pc := 20) (tgt := 30) (dc_X7_write_0.2.1.2.2) (by decide) (fun c20 => ?_) (fun c20 => ?_)
    · refine sg_iconst (pc := 30) (z := 1) (dc_X7_write_0.2.2.2.2) (by decide) ?_
      refine sg_goto (pc := 31) (tgt := 35) (dc_X7_write_31.1.1.1.1) (by decide) ?_
      refine sg_iconst (pc := 35) (z := 2) (dc_X7_write_31.1.1.2.1) (by decide) ?_
      refine sg_cE2 (pc := 36) (d' := d - 1) (mc' := 0) (ms' := 0) 8 g (dc_X7_write_31.1.1.2.2) cb_X7_refuse ml_X7_45 mn_X7_refuse rfl mv_X7_refuse (Nat.le_of_ble_eq_true rfl) (md_oc (by assumption)) (Nat.le_of_ble_eq_true rfl) (by first | exact jl_d0 hd rfl | omega) (by first | exact Nat.le_of_ble_eq_true rfl | omega) (by first | exact Nat.le_of_ble_eq_true rfl | omega) ?_
      refine s_X7_refuse g (by first | exact jl_d1 hd rfl | omega) (by omega) (by assumption) (fun v36 h36 b36 i36 t36 s36 u36 y36 => sg_K1 ?_)
      have x36 := y36.1
      have hk36 := x36.2.1
      have y36 := md_Yt (h0 := h) (by assumption) y36
      refine sg_if_eq (pc := 39) (tgt := 44) (dc_X7_write_31.1.2.1.1) (by decide) (fun c39 => absurd c39 (by omega)) (fun c39 => ?_)
      refine sg_iconst (pc := 42) (z := 0) (dc_X7_write_31.1.2.1.2) (by decide) ?_
      refine sg_iret (pc := 43) (dc_X7_write_31.1.2.2.1) rfl (by first | exact Nat.le_of_ble_eq_true rfl | omega) (by first | exact Nat.le_of_ble_eq_true rfl | omega) ?_
      exact hQ _ _ (by omega) (by omega) (by omega) (fun q => absurd q (by omega)) (fun _ => md_Ya (by assumption) hA) (md_YW (by assumption))
    · refine sg_iload_n (pc := 23) (j := 3) (dc_X7_write_0.2.2.1.1) rfl rfl ?_
      refine sg_cS1 (pc := 24) (d' := d - 1) (mc' := 0) (ms' := 0) g (dc_X7_write_0.2.2.1.2) cb_X7_isRadix ml_X7_37 ms_X7_isRadix (Nat.le_of_ble_eq_true rfl) (by first | exact jl_d0 hd rfl | omega) (by first | exact Nat.le_of_ble_eq_true rfl | omega) (by first | exact Nat.le_of_ble_eq_true rfl | omega) ?_
      refine s_X7_isRadix g (by first | exact jl_d1 hd rfl | omega) (fun z24 h24 b24 => sg_K1 ?_)
      (try simp only [fm_no, fm_one, fn_betw, fn_sign, fn_radix, fn_high, fn_low] at h24)
      refine sg_if_ne (pc := 27) (tgt := 34) (dc_X7_write_0.2.2.2.1) (by decide) (fun c27 => ?_) (fun c27 => ?_)
      · refine sg_iconst (pc := 34) (z := 0) (dc_X7_write_31.1.1.1.2) (by decide) ?_
        refine sg_iconst (pc := 35) (z := 2) (dc_X7_write_31.1.1.2.1) (by decide) ?_
        refine sg_cE2 (pc := 36) (d' := d - 1) (mc' := 0) (ms' := 0) 8 g (dc_X7_write_31.1.1.2.2) cb_X7_refuse ml_X7_45 mn_X7_refuse rfl mv_X7_refuse (Nat.le_of_ble_eq_true rfl) (md_oc (by assumption)) (Nat.le_of_ble_eq_true rfl) (by first | exact jl_d0 hd rfl | omega) (by first | exact Nat.le_of_ble_eq_true rfl | omega) (by first | exact Nat.le_of_ble_eq_true rfl | omega) ?_
        refine s_X7_refuse g (by first | exact jl_d1 hd rfl | omega) (by omega) (by assumption) (fun v36 h36 b36 i36 t36 s36 u36 y36 => sg_K1 ?_)
        have x36 := y36.1
        have hk36 := x36.2.1
        have y36 := md_Yt (h0 := h) (by assumption) y36
        refine sg_if_eq (pc := 39) (tgt := 44) (dc_X7_write_31.1.2.1.1) (by decide) (fun c39 => ?_) (fun c39 => absurd c39 (by omega))
        have row0 : 0 ≤ row ∧ row < 4 := by omega
        have nr0 : 0 ≤ nr ∧ nr ≤ 999999 := by omega
        have rx0 : 2 ≤ rx ∧ rx ≤ 36 := by omega
        have tz : md_t h36 M = 0 := by omega
        clear h2 b2 i6 t6 b6 h17 b17 h24 b24 i36 t36 b36 c9 c20 c27 c39
        refine sg_iconst (pc := 44) (z := 1) (dc_X7_write_31.1.2.2.2) (by decide) ?_
        refine sg_newa (t := 100) (N := 1) (pc := 45) g (dc_X7_write_31.2.1.1.1) ac_int rfl (by decide) (by decide) rfl rfl (by decide) (by omega) (by omega) (by omega) (by omega) ?_
        refine sg_dup (pc := 47) (dc_X7_write_31.2.1.1.2) rfl ?_
        refine sg_iconst (pc := 48) (z := 0) (dc_X7_write_31.2.1.2.1) (by decide) ?_
        refine sg_iload_n (pc := 49) (j := 2) (dc_X7_write_31.2.1.2.2) rfl rfl ?_
        refine sg_iload_n (pc := 50) (j := 3) (dc_X7_write_31.2.2.1.1) rfl rfl ?_
        first | refine sg_iremP (pc := 51) (dc_X7_write_31.2.2.1.2) (by omega) (by omega) ?_ | refine sg_irem (pc := 51) (dc_X7_write_31.2.2.1.2) (by first | omega | assumption) ?_
        refine sg_iload_n (pc := 52) (j := 3) (dc_X7_write_31.2.2.2.1) rfl rfl ?_
        refine sg_cS2 (pc := 53) (d' := d - 1) (mc' := 0) (ms' := 0) g (dc_X7_write_31.2.2.2.2) cb_X7_digitOf ml_X7_108 ms_X7_digitOf (Nat.le_of_ble_eq_true rfl) (by first | exact jl_d0 hd rfl | omega) (by first | exact Nat.le_of_ble_eq_true rfl | omega) (by first | exact Nat.le_of_ble_eq_true rfl | omega) ?_
        refine s_X7_digitOf g (by first | exact jl_d1 hd rfl | omega) (fun z53 h53 => sg_K1 ?_)
        (try simp only [fm_no, fm_one, fn_betw, fn_sign, fn_radix, fn_high, fn_low] at h53)
        refine md_astF (pc := 56) (dc_X7_write_56.1.1.1.1) (md_newF (c := 0)) ck_v0 (by decide) (by decide) (fun h56 t56 => ?_)
        have t56 : md_F 0 h36 h56 (tt_b 1 (fun j => fs_dg nr rx (1 - 1 - j))) := md_Fw t56 (by rw [show tt_b 1 (fun j => fs_dg nr rx (1 - 1 - j)) = [fs_dg nr rx 0] from rfl]; unfold fs_dg; rw [Int.pow_zero, Int.ediv_one, ← h53]; rfl)
        refine sg_astore (pc := 57) (dc_X7_write_56.1.1.1.2) (by decide) ?_
        refine sg_iload_n (pc := 59) (j := 2) (dc_X7_write_56.1.1.2.1) rfl rfl ?_
        refine sg_iload_n (pc := 60) (j := 3) (dc_X7_write_56.1.1.2.2) rfl rfl ?_
        first | refine sg_idivP (pc := 61) (dc_X7_write_56.1.2.1.1) (by omega) (by omega) (by omega) ?_ | refine sg_idiv (pc := 61) (dc_X7_write_56.1.2.1.1) (by first | omega | assumption) ?_
        refine sg_istore (pc := 62) (dc_X7_write_56.1.2.1.2) (by decide) ?_
        have loop64 : ∀ (N : Nat) (h1 : sg_H) (l : Int) (a m k1 n1 : Nat), (md_E h36 h1) → (md_X 0 h1 a (tt_b m (fun j => fs_dg nr rx (m - 1 - j)))) → (1 ≤ m ∧ m ≤ 20) → (0 ≤ l ∧ l ≤ jt m) → (k1 + 1 ≤ 2 * m) → (n1 ≤ 22 * m) → (l = nr / rx ^ m) → ((∀ k : Nat, 1 ≤ k → k < m → nr / rx ^ k ≠ 0)) → l.toNat < N → sg_R w mi_X7_write d 44 560 Q 64 [(5, sg_i l), (0, sg_r M), (1, sg_i row), (2, sg_i nr), (3, sg_i rx), (4, sg_r a)] [] h1 k1 n1 := by
          intro N
          induction N with
          | zero => intro h1 l a m k1 n1 E1 A1 m1 l0 kb nb le lk hm; exact absurd hm (Nat.not_lt_zero _)
          | succ N ih =>
            intro h1 l a m k1 n1 E1 A1 m1 l0 kb nb le lk hm
            have x1 : md_M w h1 M := md_ME x36 E1
            have hk1 := x1.2.1
            have y1 : md_Y w h h1 M := md_YE y36 E1
            have th1 := md_tE (w := w) (M := M) x36 E1
            have lT : (tt_b m (fun j => fs_dg nr rx (m - 1 - j))).length = m := tt_len
            refine sg_iload (pc := 64) (dc_X7_write_56.1.2.2.1) rfl ?_
            refine sg_if_le (pc := 66) (tgt := 99) (dc_X7_write_56.1.2.2.2) (by decide) (fun c66 => ?_) (fun c66 => ?_)
            · have dn : fs_dn nr rx m := ⟨m1.1, by rw [← le]; omega, lk⟩
              have dE := fs_digsE dn
              rw [← dE] at A1
              have dl : (fs_digs nr rx).length = m := by rw [dE]; exact tt_len
              refine sg_aload_n (pc := 99) (j := 0) (dc_X7_write_79.2.1.2.1) rfl rfl ?_
              refine md_grw (pc := 100) g (dc_X7_write_79.2.1.2.2) fk_X7_9 (by assumption) (fun r100 => ?_)
              refine sg_iload_n (pc := 103) (j := 1) (dc_X7_write_79.2.2.1.1) rfl rfl ?_
              first | refine md_alX (pc := 104) (dc_X7_write_79.2.2.1.2) hA (by assumption) (by assumption) (by omega) (by omega) (fun X104 l104 => ?_) | refine md_alXt (pc := 104) (dc_X7_write_79.2.2.1.2) hA (by assumption) (by assumption) (by omega) (by omega) (fun X104 l104 => ?_)
              refine md_xlen (pc := 105) (dc_X7_write_79.2.2.2.1) (by assumption) (by omega) ?_
              refine sg_aload (pc := 106) (dc_X7_write_79.2.2.2.2) rfl ?_
              refine md_xlen (pc := 108) (dc_X7_write_108.1.1.1.1) A1 (by omega) ?_
              first | refine sg_iaddB (pc := 109) (dc_X7_write_108.1.1.1.2) (by omega) (by omega) ?_ | refine sg_iadd (pc := 109) (dc_X7_write_108.1.1.1.2) ?_
              refine sg_bipush (pc := 110) (z := 40) (dc_X7_write_108.1.1.2.1) (by decide) ?_
              refine sg_icmp_le (pc := 112) (tgt := 118) (dc_X7_write_108.1.1.2.2) (by decide) (fun c112 => ?_) (fun c112 => ?_)
              · refine sg_aload_n (pc := 118) (j := 0) (dc_X7_write_108.1.2.2.1) rfl rfl ?_
                refine sg_iload_n (pc := 119) (j := 1) (dc_X7_write_108.1.2.2.2) rfl rfl ?_
                refine sg_aload_n (pc := 120) (j := 0) (dc_X7_write_108.2.1.1.1) rfl rfl ?_
                refine md_grw (pc := 121) g (dc_X7_write_108.2.1.1.2) fk_X7_9 (by assumption) (fun r121 => ?_)
                refine sg_iload_n (pc := 124) (j := 1) (dc_X7_write_108.2.1.2.1) rfl rfl ?_
                first | refine md_alX (pc := 125) (dc_X7_write_108.2.1.2.2) hA (by assumption) (by assumption) (by omega) (by omega) (fun X125 l125 => ?_) | refine md_alXt (pc := 125) (dc_X7_write_108.2.1.2.2) hA (by assumption) (by assumption) (by omega) (by omega) (fun X125 l125 => ?_)
                refine sg_aload (pc := 126) (dc_X7_write_108.2.2.1.1) rfl ?_
                refine sg_cS2 (pc := 128) (d' := d - 1) (mc' := 1) (ms' := (L.length + (fs_digs nr rx).length)) g (dc_X7_write_108.2.2.1.2) cb_X7_joined ml_X7_61 ms_X7_joined (Nat.le_of_ble_eq_true rfl) (by first | exact jl_d0 hd rfl | omega) (by first | exact Nat.le_of_ble_eq_true rfl | omega) (by first | exact Nat.le_of_ble_eq_true rfl | omega) ?_
                refine f_X7_joined (c := 0) g (by first | exact jl_d1 hd rfl | omega) (by assumption) A1 (by omega) (by omega) (fun h128 t128 => sg_K1 ?_)
                have x128 : md_M w h128 M := md_ME (by assumption) (md_FE t128)
                have th128 := md_tE (w := w) (M := M) (by assumption) (md_FE t128)
                have hk128 := x128.2.1
                have y128 : md_Y w h h128 M := md_YE (by assumption) (md_FE t128)
                refine sg_cE2 (pc := 131) (d' := d - 1) (mc' := 2) (ms' := 16) 8 g (dc_X7_write_108.2.2.2.1) cb_X7_set ml_X7_78 mn_X7_set rfl mv_X7_set (Nat.le_of_ble_eq_true rfl) (md_oc (by assumption)) (Nat.le_of_ble_eq_true rfl) (by first | exact jl_d0 hd rfl | omega) (by first | exact Nat.le_of_ble_eq_true rfl | omega) (by first | exact Nat.le_of_ble_eq_true rfl | omega) ?_
                refine s_X7_set g (by first | exact jl_d1 hd rfl | omega) (by omega) (by assumption) (fun q => ⟨md_XA (md_FX t128), by first | omega | (simp only [List.length_take, List.length_reverse, List.length_map, List.length_append, tt_len]; omega)⟩) (fun q => absurd q (by omega)) (fun h131 y131 t131 ab131 => sg_K1 ?_)
                rw [md_Ya y128 hA, md_xl (md_FX t128)] at ab131
                have x131 := y131.1
                have hk131 := x131.2.1
                have z131 : md_W w h h131 M := md_Wt y128 y131
                refine sg_pop (pc := 134) (dc_X7_write_108.2.2.2.2) rfl ?_
                refine sg_aload (pc := 135) (dc_X7_write_135.1.1) rfl ?_
                refine md_xlen (pc := 137) (dc_X7_write_135.1.2) (md_XP (md_XE A1 (md_FE t128)) (show md_W w h128 h131 M by assumption).2) (by omega) ?_
                refine sg_iret (pc := 138) (dc_X7_write_135.2.1) rfl (by first | exact Nat.le_of_ble_eq_true rfl | omega) (by first | exact Nat.le_of_ble_eq_true rfl | omega) ?_
                exact hQ _ _ (by omega) (by omega) (by omega) (fun _ => ⟨by rw [if_neg (by omega)], by rw [if_neg (by omega)]; exact ab131⟩) (fun q => absurd (by omega) q) z131
              · refine sg_bipush (pc := 115) (z := -9) (dc_X7_write_108.1.2.1.1) (by decide) ?_
                refine sg_iret (pc := 117) (dc_X7_write_108.1.2.1.2) rfl (by first | exact Nat.le_of_ble_eq_true rfl | omega) (by first | exact Nat.le_of_ble_eq_true rfl | omega) ?_
                exact hQ _ _ (by omega) (by omega) (by omega) (fun _ => ⟨by rw [if_pos (by omega)], by rw [if_pos (by omega)]; exact md_Ya (by assumption) hA⟩) (fun q => absurd (by omega) q) (md_YW (by assumption))
            · have m19 := jt_pos (by omega) l0.2
              have jd := jt_div l0.1 l0.2 (show 2 ≤ rx by omega)
              have jl : l / rx < l := by have := Int.ediv_mul_le l (show rx ≠ 0 by omega); have := Int.mul_le_mul_of_nonneg_left (show 2 ≤ rx by omega) jd.1; omega
              have jb : l ≤ 999999 := Int.le_trans l0.2 (by have := jt_anti 0 m; rw [Nat.zero_add] at this; exact this)
              refine sg_iconst (pc := 69) (z := 1) (dc_X7_write_56.2.1.1.1) (by decide) ?_
              refine sg_newa (t := 100) (N := 1) (pc := 70) g (dc_X7_write_56.2.1.1.2) ac_int rfl (by decide) (by decide) rfl rfl (by decide) (by omega) (by omega) (by omega) (by omega) ?_
              refine sg_dup (pc := 72) (dc_X7_write_56.2.1.2.1) rfl ?_
              refine sg_iconst (pc := 73) (z := 0) (dc_X7_write_56.2.1.2.2) (by decide) ?_
              refine sg_iload (pc := 74) (dc_X7_write_56.2.2.1.1) rfl ?_
              refine sg_iload_n (pc := 76) (j := 3) (dc_X7_write_56.2.2.1.2) rfl rfl ?_
              first | refine sg_iremP (pc := 77) (dc_X7_write_56.2.2.2.1) (by omega) (by omega) ?_ | refine sg_irem (pc := 77) (dc_X7_write_56.2.2.2.1) (by first | omega | assumption) ?_
              refine sg_iload_n (pc := 78) (j := 3) (dc_X7_write_56.2.2.2.2) rfl rfl ?_
              refine sg_cS2 (pc := 79) (d' := d - 1) (mc' := 0) (ms' := 0) g (dc_X7_write_79.1.1.1.1) cb_X7_digitOf ml_X7_108 ms_X7_digitOf (Nat.le_of_ble_eq_true rfl) (by first | exact jl_d0 hd rfl | omega) (by first | exact Nat.le_of_ble_eq_true rfl | omega) (by first | exact Nat.le_of_ble_eq_true rfl | omega) ?_
              refine s_X7_digitOf g (by first | exact jl_d1 hd rfl | omega) (fun z79 h79 => sg_K1 ?_)
              (try simp only [fm_no, fm_one, fn_betw, fn_sign, fn_radix, fn_high, fn_low] at h79)
              refine md_astF (pc := 82) (dc_X7_write_79.1.1.1.2) (md_newF (c := 0)) ck_v0 (by decide) (by decide) (fun h82 t82 => ?_)
              have l82 : [fs_dg nr rx m].length = 1 := rfl
              have t82 : md_F 0 h1 h82 [fs_dg nr rx m] := md_Fw t82 (by unfold fs_dg; rw [← le, ← h79]; rfl)
              refine sg_aload (pc := 83) (dc_X7_write_79.1.1.2.1) rfl ?_
              refine sg_cS2 (pc := 85) (d' := d - 1) (mc' := 1) (ms' := ([fs_dg nr rx m].length + (tt_b m (fun j => fs_dg nr rx (m - 1 - j))).length)) g (dc_X7_write_79.1.1.2.2) cb_X7_joined ml_X7_61 ms_X7_joined (Nat.le_of_ble_eq_true rfl) (by omega) (by omega) (by rw [lT]; omega) ?_
              refine f_X7_joined (L := [fs_dg nr rx m]) (M := (tt_b m (fun j => fs_dg nr rx (m - 1 - j)))) g (by first | exact jl_d1 hd rfl | omega) (md_FX t82) (md_XE A1 (md_FE t82)) (by omega) (by rw [lT]; omega) (fun h85 t85 => sg_K1 ?_)
              have E85 := md_Et E1 (md_Et (md_FE t82) (md_FE t85))
              rw [fo_dig] at t85
              have X86 := md_FX t85
              refine sg_astore (pc := 88) (dc_X7_write_79.1.2.1.1) (by decide) ?_
              refine sg_iload (pc := 90) (dc_X7_write_79.1.2.1.2) rfl ?_
              refine sg_iload_n (pc := 92) (j := 3) (dc_X7_write_79.1.2.2.1) rfl rfl ?_
              first | refine sg_idivP (pc := 93) (dc_X7_write_79.1.2.2.2) (by omega) (by omega) (by omega) ?_ | refine sg_idiv (pc := 93) (dc_X7_write_79.1.2.2.2) (by first | omega | assumption) ?_
              refine sg_istore (pc := 94) (dc_X7_write_79.2.1.1.1) (by decide) ?_
              refine sg_goto (pc := 96) (tgt := 64) (dc_X7_write_79.2.1.1.2) (by decide) ?_
              refine sg_lsub (lv' := [(5, _), (0, _), (1, _), (2, _), (3, _), (4, _)]) ⟨rfl, rfl, rfl, rfl, rfl, rfl, trivial⟩ ?_
              exact ih _ _ _ (m + 1) _ _ E85 X86 (by omega) jd (by omega) (by omega) (by rw [le, fs_dv (by omega) (by omega)]) (fun k k0 k1 => by
                by_cases q : k = m
                · subst q; rw [← le]; omega
                · exact lk k k0 (by omega)) (by first | exact jl_m1 hm (by omega) | exact jl_m2 hm (by omega) | omega)
        refine sg_lsub (lv' := [(5, _), (0, _), (1, _), (2, _), (3, _), (4, _)]) ⟨rfl, rfl, rfl, rfl, rfl, rfl, trivial⟩ ?_
        exact loop64 _ _ _ _ 1 _ _ (md_FE t56) (md_FX t56) (by decide) (jt_div (by omega) (show nr ≤ jt 0 by show nr ≤ 999999; omega) (by omega)) (by decide) (by decide) (by rw [show nr / rx ^ 1 = nr / rx ^ (0 + 1) from rfl, Int.pow_succ, Int.pow_zero, Int.one_mul]) (fun k k0 k1 => absurd k1 (by omega)) (Nat.lt_succ_self _)
      · refine sg_iconst (pc := 30) (z := 1) (dc_X7_write_0.2.2.2.2) (by decide) ?_
        refine sg_goto (pc := 31) (tgt := 35) (dc_X7_write_31.1.1.1.1) (by decide) ?_
        refine sg_iconst (pc := 35) (z := 2) (dc_X7_write_31.1.1.2.1) (by decide) ?_
        refine sg_cE2 (pc := 36) (d' := d - 1) (mc' := 0) (ms' := 0) 8 g (dc_X7_write_31.1.1.2.2) cb_X7_refuse ml_X7_45 mn_X7_refuse rfl mv_X7_refuse (Nat.le_of_ble_eq_true rfl) (md_oc (by assumption)) (Nat.le_of_ble_eq_true rfl) (by first | exact jl_d0 hd rfl | omega) (by first | exact Nat.le_of_ble_eq_true rfl | omega) (by first | exact Nat.le_of_ble_eq_true rfl | omega) ?_
        refine s_X7_refuse g (by first | exact jl_d1 hd rfl | omega) (by omega) (by assumption) (fun v36 h36 b36 i36 t36 s36 u36 y36 => sg_K1 ?_)
        have x36 := y36.1
        have hk36 := x36.2.1
        have y36 := md_Yt (h0 := h) (by assumption) y36
        refine sg_if_eq (pc := 39) (tgt := 44) (dc_X7_write_31.1.2.1.1) (by decide) (fun c39 => absurd c39 (by omega)) (fun c39 => ?_)
        refine sg_iconst (pc := 42) (z := 0) (dc_X7_write_31.1.2.1.2) (by decide) ?_
        refine sg_iret (pc := 43) (dc_X7_write_31.1.2.2.1) rfl (by first | exact Nat.le_of_ble_eq_true rfl | omega) (by first | exact Nat.le_of_ble_eq_true rfl | omega) ?_
        exact hQ _ _ (by omega) (by omega) (by omega) (fun q => absurd q (by omega)) (fun _ => md_Ya (by assumption) hA) (md_YW (by assumption))


