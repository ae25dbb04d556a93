set_option maxRecDepth 100000 in
theorem f_X7_toldOf {w : sg_W} {Q : sg_O → sg_H → Prop} {h : sg_H} (g : sg_G w) {d : Nat} (hd : 6 ≤ d) {M : Nat} {row radix : Int} (hv : 0 ≤ row ∧ row < 4 ∧ 2 ≤ radix ∧ radix ≤ 36) {A : fa_A} {L : List Int} (hA : md_ab h M = A) (hL : fa_L A row.toNat = L) (hx : md_M w h M) (hQ : ∀ v : Int, v = fs_told L radix → Q (.inl (some (sg_i v))) h) : sg_C w mi_X7_toldOf d 0 0 [sg_r M, sg_i row, sg_i radix] h Q := by
  refine sg_of pn_X7 (Nat.le_of_ble_eq_true rfl) ?_
  have y0 := md_Y0 hx
  have hk := hx.2.1
  refine sg_lconst (pc := 0) (z := 0) (dc_X7_toldOf_0.1.1.1.1) (by decide) ?_
  refine sg_lstore_n (pc := 1) (j := 3) (dc_X7_toldOf_0.1.1.1.2) rfl (by decide) ?_
  refine sg_aload_n (pc := 2) (j := 0) (dc_X7_toldOf_0.1.1.2.1) rfl rfl ?_
  refine md_grw (pc := 3) g (dc_X7_toldOf_0.1.1.2.2) fk_X7_9 (by assumption) (fun r3 => ?_)
  refine sg_iload_n (pc := 6) (j := 1) (dc_X7_toldOf_0.1.2.1.1) rfl rfl ?_
  first | refine md_alX (pc := 7) (dc_X7_toldOf_0.1.2.1.2) hA (by assumption) (by assumption) (by omega) (by omega) (fun X7 l7 => ?_) | refine md_alXt (pc := 7) (dc_X7_toldOf_0.1.2.1.2) hA (by assumption) (by assumption) (by omega) (by omega) (fun X7 l7 => ?_)
  refine sg_astore (pc := 8) (dc_X7_toldOf_0.1.2.2.1) (by decide) ?_
  refine sg_aload (pc := 10) (dc_X7_toldOf_0.1.2.2.2) rfl ?_
  refine md_xlen (pc := 12) (dc_X7_toldOf_0.2.1.1.1) (by assumption) (by omega) ?_
  refine sg_istore (pc := 13) (dc_X7_toldOf_0.2.1.1.2) (by decide) ?_
  refine sg_iconst (pc := 15) (z := 0) (dc_X7_toldOf_0.2.1.2.1) (by decide) ?_
  refine sg_istore (pc := 16) (dc_X7_toldOf_0.2.1.2.2) (by decide) ?_
  have loop18 : ∀ (N : Nat) (p s : Int), (0 ≤ p ∧ p ≤ (L.length : Int)) → (s = fs_tf L radix p.toNat) → (∀ j : Nat, (j : Int) < p → fn_num (L.getD j 0) radix ≠ -1) → ((L.length : Int) - p).toNat < N → sg_R w mi_X7_toldOf d 0 0 Q 18 [(7, sg_i p), (3, sg_l s), (0, sg_r M), (1, sg_i row), (2, sg_i radix), (5, sg_r (md_a h (md_r h M) row)), (6, sg_i (L.length : Int))] [] h 0 0 := by
    intro N
    induction N with
    | zero => intro p s p0 s0 p1 hm; exact absurd hm (Nat.not_lt_zero _)
    | succ N ih =>
      intro p s p0 s0 p1 hm
      have sb := fs_tfb (L := L) (r := radix) p.toNat
      rw [← s0] at sb
      refine sg_iload (pc := 18) (dc_X7_toldOf_0.2.2.1.1) rfl ?_
      refine sg_iload (pc := 20) (dc_X7_toldOf_0.2.2.1.2) rfl ?_
      refine sg_icmp_ge (pc := 22) (tgt := 68) (dc_X7_toldOf_0.2.2.2.1) (by decide) (fun c22 => ?_) (fun c22 => ?_)
      · refine sg_aload_n (pc := 68) (j := 0) (dc_X7_toldOf_52.2.1.1.1) rfl rfl ?_
        refine md_grw (pc := 69) g (dc_X7_toldOf_52.2.1.1.2) fk_X7_9 (by assumption) (fun r69 => ?_)
        refine sg_iload_n (pc := 72) (j := 1) (dc_X7_toldOf_52.2.1.2.1) rfl rfl ?_
        first | refine md_alX (pc := 73) (dc_X7_toldOf_52.2.1.2.2) hA (by assumption) (by assumption) (by omega) (by omega) (fun X73 l73 => ?_) | refine md_alXt (pc := 73) (dc_X7_toldOf_52.2.1.2.2) hA (by assumption) (by assumption) (by omega) (by omega) (fun X73 l73 => ?_)
        refine md_xlen (pc := 74) (dc_X7_toldOf_52.2.2.1.1) (by assumption) (by omega) ?_
        refine sg_if_ne (pc := 75) (tgt := 83) (dc_X7_toldOf_52.2.2.1.2) (by decide) (fun c75 => ?_) (fun c75 => ?_)
        · refine sg_lload_n (pc := 83) (j := 3) (dc_X7_toldOf_83.1.1) rfl rfl ?_
          refine sg_l2i (pc := 84) (dc_X7_toldOf_83.1.2) ?_
          refine sg_iret (pc := 85) (dc_X7_toldOf_83.2.1) rfl (by first | exact Nat.le_of_ble_eq_true rfl | omega) (by first | exact Nat.le_of_ble_eq_true rfl | omega) ?_
          exact hQ _ (fs_theE fs_tU (Or.inr ⟨by rw [sg_w_id (by omega) (by omega), s0, show p.toNat = L.length by omega], by omega, fun j j1 => p1 j (by omega)⟩))
        · refine sg_bipush (pc := 78) (z := -9) (dc_X7_toldOf_52.2.2.2.1) (by decide) ?_
          refine sg_goto (pc := 80) (tgt := 85) (dc_X7_toldOf_52.2.2.2.2) (by decide) ?_
          refine sg_iret (pc := 85) (dc_X7_toldOf_83.2.1) rfl (by first | exact Nat.le_of_ble_eq_true rfl | omega) (by first | exact Nat.le_of_ble_eq_true rfl | omega) ?_
          exact hQ _ (fs_theE fs_tU (Or.inl ⟨rfl, Or.inl (by omega)⟩))
      · refine sg_aload (pc := 25) (dc_X7_toldOf_0.2.2.2.2) rfl ?_
        refine sg_iload (pc := 27) (dc_X7_toldOf_27.1.1.1.1) rfl ?_
        refine md_xld (pc := 29) (dc_X7_toldOf_27.1.1.1.2) (by assumption) (by omega) (by omega) (fun g29 => ?_)
        refine sg_istore (pc := 30) (dc_X7_toldOf_27.1.1.2.1) (by decide) ?_
        refine sg_iload (pc := 32) (dc_X7_toldOf_27.1.1.2.2) rfl ?_
        refine sg_iload_n (pc := 34) (j := 2) (dc_X7_toldOf_27.1.2.1.1) rfl rfl ?_
        refine sg_cS2 (pc := 35) (d' := d - 1) (mc' := 0) (ms' := 0) g (dc_X7_toldOf_27.1.2.1.2) cb_X7_numberOf ml_X7_115 ms_X7_numberOf (Nat.le_of_ble_eq_true rfl) (by first | exact jl_d0 hd rfl | omega) (by first | exact Nat.le_of_ble_eq_true rfl | omega) (by first | exact Nat.le_of_ble_eq_true rfl | omega) ?_
        refine s_X7_numberOf g (by first | exact jl_d1 hd rfl | omega) (fun z35 h35 => sg_K1 ?_)
        (try simp only [fm_no, fm_one, fn_betw, fn_sign, fn_radix, fn_high, fn_low] at h35)
        refine sg_iconst (pc := 38) (z := -1) (dc_X7_toldOf_27.1.2.2.1) (by decide) ?_
        refine sg_icmp_ne (pc := 39) (tgt := 45) (dc_X7_toldOf_27.1.2.2.2) (by decide) (fun c39 => ?_) (fun c39 => ?_)
        · refine sg_lload_n (pc := 45) (j := 3) (dc_X7_toldOf_27.2.1.2.1) rfl rfl ?_
          refine sg_iload_n (pc := 46) (j := 2) (dc_X7_toldOf_27.2.1.2.2) rfl rfl ?_
          refine sg_i2l (pc := 47) (dc_X7_toldOf_27.2.2.1.1) ?_
          refine sg_lmul (pc := 48) (dc_X7_toldOf_27.2.2.1.2) ?_
          refine sg_iload (pc := 49) (dc_X7_toldOf_27.2.2.2.1) rfl ?_
          refine sg_iload_n (pc := 51) (j := 2) (dc_X7_toldOf_27.2.2.2.2) rfl rfl ?_
          refine sg_cS2 (pc := 52) (d' := d - 1) (mc' := 0) (ms' := 0) g (dc_X7_toldOf_52.1.1.1.1) cb_X7_numberOf ml_X7_115 ms_X7_numberOf (Nat.le_of_ble_eq_true rfl) (by first | exact jl_d0 hd rfl | omega) (by first | exact Nat.le_of_ble_eq_true rfl | omega) (by first | exact Nat.le_of_ble_eq_true rfl | omega) ?_
          refine s_X7_numberOf g (by first | exact jl_d1 hd rfl | omega) (fun z52 h52 => sg_K1 ?_)
          (try simp only [fm_no, fm_one, fn_betw, fn_sign, fn_radix, fn_high, fn_low] at h52)
          refine sg_i2l (pc := 55) (dc_X7_toldOf_52.1.1.1.2) ?_
          refine sg_ladd (pc := 56) (dc_X7_toldOf_52.1.1.2.1) ?_
          refine sg_ldc2 (pc := 57) (z := 1000003) g (dc_X7_toldOf_52.1.1.2.2) cn_X7_199 (by decide) ?_
          refine sg_lrem (pc := 60) (dc_X7_toldOf_52.1.2.1.1) (by first | omega | assumption) ?_
          have nb := fn_nb (L.getD p.toNat 0) radix
          rw [← h52] at nb
          have mb0 : 0 ≤ s * radix := Int.mul_nonneg sb.1 (by omega)
          have mb1 : s * radix ≤ 1000003 * 36 := Int.le_trans (Int.mul_le_mul_of_nonneg_left (show radix ≤ 36 by omega) sb.1) (Int.mul_le_mul_of_nonneg_right (Int.le_of_lt sb.2) (by decide))
          have w61 : (sg_W64 (sg_W64 (s * radix) + z52)).tmod 1000003 = (s * radix + z52) % 1000003 := by
            rw [sg_W64e (a := s * radix) (by omega) (by omega), sg_W64e (by omega) (by omega), Int.tmod_eq_emod_of_nonneg (by omega)]
          rw [w61]
          refine sg_lstore_n (pc := 61) (j := 3) (dc_X7_toldOf_52.1.2.1.2) rfl (by decide) ?_
          first | refine sg_iincB (pc := 62) (dc_X7_toldOf_52.1.2.2.1) rfl (by decide) (by decide) (by omega) (by omega) ?_ | refine sg_iinc (pc := 62) (dc_X7_toldOf_52.1.2.2.1) rfl (by decide) (by decide) ?_
          refine sg_goto (pc := 65) (tgt := 18) (dc_X7_toldOf_52.1.2.2.2) (by decide) ?_
          refine sg_lsub (lv' := [(7, _), (3, _), (0, _), (1, _), (2, _), (5, _), (6, _)]) ⟨rfl, rfl, rfl, rfl, rfl, rfl, rfl, trivial⟩ ?_
          exact ih _ _ (by omega) (by rw [fs_tfs (by omega), ← s0, ← h52]) (fun j j0 => by
            by_cases q : j = p.toNat
            · subst q; omega
            · exact p1 j (by omega)) (by first | exact jl_m1 hm (by omega) | exact jl_m2 hm (by omega) | omega)
        · refine sg_bipush (pc := 42) (z := -9) (dc_X7_toldOf_27.2.1.1.1) (by decide) ?_
          refine sg_iret (pc := 44) (dc_X7_toldOf_27.2.1.1.2) rfl (by first | exact Nat.le_of_ble_eq_true rfl | omega) (by first | exact Nat.le_of_ble_eq_true rfl | omega) ?_
          exact hQ _ (fs_theE fs_tU (Or.inl ⟨rfl, Or.inr ⟨p.toNat, by omega, by omega⟩⟩))
  refine sg_lsub (lv' := [(7, _), (3, _), (0, _), (1, _), (2, _), (5, _), (6, _)]) ⟨rfl, rfl, rfl, rfl, rfl, rfl, rfl, trivial⟩ ?_
  exact loop18 _ _ _ (by omega) rfl (fun j j0 => absurd j0 (by omega)) (Nat.lt_succ_self _)

set_option maxRecDepth 100000 in
theorem f_X7_told {w : sg_W} {Q : sg_O → sg_H → Prop} {h : sg_H} (g : sg_G w) {d : Nat} (hd : 9 ≤ d) {M : Nat} {row radix : Int} {A : fa_A} {L : List Int} (hA : md_ab h M = A) (hL : fa_L A row.toNat = L) (hx : md_M w h M) (hQ : ∀ (v : Int) (h' : sg_H), ((row < 0 ∨ 4 ≤ row) → md_t h' M = 1) → (¬ (row < 0 ∨ 4 ≤ row) → (radix < 2 ∨ 36 < radix) → md_t h' M = 2) → (¬ (row < 0 ∨ 4 ≤ row) → ¬ (radix < 2 ∨ 36 < radix) → md_t h' M = 0) → (md_t h' M = 0 → v = fs_told L radix) → md_Y w h h' M → Q (.inl (some (sg_i v))) h') : sg_C w mi_X7_told d 0 0 [sg_r M, sg_i row, sg_i radix] h Q := by
  refine sg_of pn_X7 (Nat.le_of_ble_eq_true rfl) ?_
  have y0 := md_Y0 hx
  have hk := hx.2.1
  refine sg_aload_n (pc := 0) (j := 0) (dc_X7_told_0.1.1.1.1) rfl rfl ?_
  refine sg_iload_n (pc := 1) (j := 1) (dc_X7_told_0.1.1.1.2) rfl rfl ?_
  refine sg_cS1 (pc := 2) (d' := d - 1) (mc' := 0) (ms' := 0) g (dc_X7_told_0.1.1.2.1) cb_X7_isNoRow ml_X7_68 ms_X7_isNoRow (Nat.le_of_ble_eq_true rfl) (by first | exact jl_d0 hd rfl | omega) (by first | exact Nat.le_of_ble_eq_true rfl | omega) (by first | exact Nat.le_of_ble_eq_true rfl | omega) ?_
  refine s_X7_isNoRow g (by first | exact jl_d1 hd rfl | omega) (fun z2 h2 b2 => sg_K1 ?_)
  (try simp only [fm_no, fm_one, fn_betw, fn_sign, fn_radix, fn_high, fn_low] at h2)
  refine sg_iconst (pc := 5) (z := 1) (dc_X7_told_0.1.1.2.2) (by decide) ?_
  refine sg_cE2 (pc := 6) (d' := d - 1) (mc' := 0) (ms' := 0) 8 g (dc_X7_told_0.1.2.1.1) cb_X7_start ml_X7_71 mn_X7_start rfl mv_X7_start (Nat.le_of_ble_eq_true rfl) (md_oc (by assumption)) (Nat.le_of_ble_eq_true rfl) (by first | exact jl_d0 hd rfl | omega) (by first | exact Nat.le_of_ble_eq_true rfl | omega) (by first | exact Nat.le_of_ble_eq_true rfl | omega) ?_
  refine s_X7_start g (by first | exact jl_d1 hd rfl | omega) (by omega) (by assumption) (fun v6 h6 b6 i6 t6 s6 u6 y6 => sg_K1 ?_)
  have x6 := y6.1
  have hk6 := x6.2.1
  have y6 := md_Yt (h0 := h) (by assumption) y6
  refine sg_if_ne (pc := 9) (tgt := 32) (dc_X7_told_0.1.2.1.2) (by decide) (fun c9 => ?_) (fun c9 => ?_)
  · refine sg_iconst (pc := 32) (z := 0) (dc_X7_told_32.1.1.1) (by decide) ?_
    refine sg_goto (pc := 33) (tgt := 42) (dc_X7_told_32.1.1.2) (by decide) ?_
    refine sg_iret (pc := 42) (dc_X7_told_32.2.2.1) rfl (by first | exact Nat.le_of_ble_eq_true rfl | omega) (by first | exact Nat.le_of_ble_eq_true rfl | omega) ?_
    first
      | exact hQ _ _ (by omega) (by omega) (by omega) (fun q => absurd q (by omega)) (by assumption)
      | exact hQ _ _ (by omega) (by omega) (by omega) (fun _ => e39) (by assumption)
  · refine sg_aload_n (pc := 12) (j := 0) (dc_X7_told_0.1.2.2.1) rfl rfl ?_
    refine sg_iload_n (pc := 13) (j := 2) (dc_X7_told_0.1.2.2.2) rfl rfl ?_
    refine sg_cS1 (pc := 14) (d' := d - 1) (mc' := 0) (ms' := 0) g (dc_X7_told_0.2.1.1.1) cb_X7_isRadix ml_X7_37 ms_X7_isRadix (Nat.le_of_ble_eq_true rfl) (by first | exact jl_d0 hd rfl | omega) (by first | exact Nat.le_of_ble_eq_true rfl | omega) (by first | exact Nat.le_of_ble_eq_true rfl | omega) ?_
    refine s_X7_isRadix g (by first | exact jl_d1 hd rfl | omega) (fun z14 h14 b14 => sg_K1 ?_)
    (try simp only [fm_no, fm_one, fn_betw, fn_sign, fn_radix, fn_high, fn_low] at h14)
    refine sg_if_ne (pc := 17) (tgt := 24) (dc_X7_told_0.2.1.1.2) (by decide) (fun c17 => ?_) (fun c17 => ?_)
    · refine sg_iconst (pc := 24) (z := 0) (dc_X7_told_0.2.2.1.1) (by decide) ?_
      refine sg_iconst (pc := 25) (z := 2) (dc_X7_told_0.2.2.1.2) (by decide) ?_
      refine sg_cE2 (pc := 26) (d' := d - 1) (mc' := 0) (ms' := 0) 8 g (dc_X7_told_0.2.2.2.1) cb_X7_refuse ml_X7_45 mn_X7_refuse rfl mv_X7_refuse (Nat.le_of_ble_eq_true rfl) (md_oc (by assumption)) (Nat.le_of_ble_eq_true rfl) (by first | exact jl_d0 hd rfl | omega) (by first | exact Nat.le_of_ble_eq_true rfl | omega) (by first | exact Nat.le_of_ble_eq_true rfl | omega) ?_
      refine s_X7_refuse g (by first | exact jl_d1 hd rfl | omega) (by omega) (by assumption) (fun v26 h26 b26 i26 t26 s26 u26 y26 => sg_K1 ?_)
      have x26 := y26.1
      have hk26 := x26.2.1
      have y26 := md_Yt (h0 := h) (by assumption) y26
      refine sg_if_eq (pc := 29) (tgt := 36) (dc_X7_told_0.2.2.2.2) (by decide) (fun c29 => ?_) (fun c29 => absurd c29 (by omega))
      refine sg_aload_n (pc := 36) (j := 0) (dc_X7_told_32.1.2.1) rfl rfl ?_
      refine sg_iload_n (pc := 37) (j := 1) (dc_X7_told_32.1.2.2) rfl rfl ?_
      refine sg_iload_n (pc := 38) (j := 2) (dc_X7_told_32.2.1.1) rfl rfl ?_
      refine sg_cE2 (pc := 39) (d' := d - 1) (mc' := 0) (ms' := 0) 8 g (dc_X7_told_32.2.1.2) cb_X7_toldOf ml_X7_201 mn_X7_toldOf rfl mv_X7_toldOf (Nat.le_of_ble_eq_true rfl) (md_oc (by assumption)) (Nat.le_of_ble_eq_true rfl) (by first | exact jl_d0 hd rfl | omega) (by first | exact Nat.le_of_ble_eq_true rfl | omega) (by first | exact Nat.le_of_ble_eq_true rfl | omega) ?_
      refine f_X7_toldOf g (by first | exact jl_d1 hd rfl | omega) (by omega) (md_Ya (h0 := h) (by assumption) hA) hL (by assumption) (fun v39 e39 => sg_K1 ?_)
      refine sg_iret (pc := 42) (dc_X7_told_32.2.2.1) rfl (by first | exact Nat.le_of_ble_eq_true rfl | omega) (by first | exact Nat.le_of_ble_eq_true rfl | omega) ?_
      first
        | exact hQ _ _ (by omega) (by omega) (by omega) (fun q => absurd q (by omega)) (by assumption)
        | exact hQ _ _ (by omega) (by omega) (by omega) (fun _ => e39) (by assumption)
    · refine sg_iconst (pc := 20) (z := 1) (dc_X7_told_0.2.1.2.1) (by decide) ?_
      refine sg_goto (pc := 21) (tgt := 25) (dc_X7_told_0.2.1.2.2) (by decide) ?_
      refine sg_iconst (pc := 25) (z := 2) (dc_X7_told_0.2.2.1.2) (by decide) ?_
      refine sg_cE2 (pc := 26) (d' := d - 1) (mc' := 0) (ms' := 0) 8 g (dc_X7_told_0.2.2.2.1) cb_X7_refuse ml_X7_45 mn_X7_refuse rfl mv_X7_refuse (Nat.le_of_ble_eq_true rfl) (md_oc (by assumption)) (Nat.le_of_ble_eq_true rfl) (by first | exact jl_d0 hd rfl | omega) (by first | exact Nat.le_of_ble_eq_true rfl | omega) (by first | exact Nat.le_of_ble_eq_true rfl | omega) ?_
      refine s_X7_refuse g (by first | exact jl_d1 hd rfl | omega) (by omega) (by assumption) (fun v26 h26 b26 i26 t26 s26 u26 y26 => sg_K1 ?_)
      have x26 := y26.1
      have hk26 := x26.2.1
      have y26 := md_Yt (h0 := h) (by assumption) y26
      refine sg_if_eq (pc := 29) (tgt := 36) (dc_X7_told_0.2.2.2.2) (by decide) (fun c29 => absurd c29 (by omega)) (fun c29 => ?_)
      refine sg_iconst (pc := 32) (z := 0) (dc_X7_told_32.1.1.1) (by decide) ?_
      refine sg_goto (pc := 33) (tgt := 42) (dc_X7_told_32.1.1.2) (by decide) ?_
      refine sg_iret (pc := 42) (dc_X7_told_32.2.2.1) rfl (by first | exact Nat.le_of_ble_eq_true rfl | omega) (by first | exact Nat.le_of_ble_eq_true rfl | omega) ?_
      first
        | exact hQ _ _ (by omega) (by omega) (by omega) (fun q => absurd q (by omega)) (by assumption)
        | exact hQ _ _ (by omega) (by omega) (by omega) (fun _ => e39) (by assumption)

