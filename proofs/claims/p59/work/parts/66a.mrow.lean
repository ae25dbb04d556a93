set_option maxRecDepth 100000 in
theorem f_X7_countOf {w : sg_W} {Q : sg_O → sg_H → Prop} {h : sg_H} (g : sg_G w) {d : Nat} (hd : 6 ≤ d) {M : Nat} {row kind : Int} (hv : 0 ≤ row ∧ row < 4 ∧ 0 ≤ kind ∧ kind ≤ 4) {A : fa_A} {L : List Int} (hA : md_ab h M = A) (hL : fa_L A row.toNat = L) (hx : md_M w h M) (hQ : ∀ v : Int, v = fs_cnt L kind L.length → Q (.inl (some (sg_i v))) h) : sg_C w mi_X7_countOf d 0 0 [sg_r M, sg_i row, sg_i kind] h Q := by
  refine sg_of pn_X7 (Nat.le_of_ble_eq_true rfl) ?_
  have y0 := md_Y0 hx
  have hk := hx.2.1
  refine sg_iconst (pc := 0) (z := 0) (dc_X7_countOf_0.1.1.1.1) (by decide) ?_
  refine sg_istore_n (pc := 1) (j := 3) (dc_X7_countOf_0.1.1.1.2) rfl (by decide) ?_
  refine sg_aload_n (pc := 2) (j := 0) (dc_X7_countOf_0.1.1.2.1) rfl rfl ?_
  refine md_grw (pc := 3) g (dc_X7_countOf_0.1.1.2.2) fk_X7_9 (by assumption) (fun r3 => ?_)
  refine sg_iload_n (pc := 6) (j := 1) (dc_X7_countOf_0.1.2.1.1) rfl rfl ?_
  first | refine md_alX (pc := 7) (dc_X7_countOf_0.1.2.1.2) hA (by assumption) (by assumption) (by omega) (by omega) (fun X7 l7 => ?_) | refine md_alXt (pc := 7) (dc_X7_countOf_0.1.2.1.2) hA (by assumption) (by assumption) (by omega) (by omega) (fun X7 l7 => ?_)
  refine sg_astore (pc := 8) (dc_X7_countOf_0.1.2.2.1) (by decide) ?_
  refine sg_aload (pc := 10) (dc_X7_countOf_0.1.2.2.2) rfl ?_
  refine md_xlen (pc := 12) (dc_X7_countOf_0.2.1.1.1) (by assumption) (by omega) ?_
  refine sg_istore (pc := 13) (dc_X7_countOf_0.2.1.1.2) (by decide) ?_
  refine sg_iconst (pc := 15) (z := 0) (dc_X7_countOf_0.2.1.2.1) (by decide) ?_
  refine sg_istore (pc := 16) (dc_X7_countOf_0.2.1.2.2) (by decide) ?_
  have loop18 : ∀ (N : Nat) (p s : Int), (0 ≤ p ∧ p ≤ (L.length : Int)) → (s = fs_cnt L kind p.toNat) → ((L.length : Int) - p).toNat < N → sg_R w mi_X7_countOf d 0 0 Q 18 [(6, sg_i p), (3, sg_i s), (0, sg_r M), (1, sg_i row), (2, sg_i kind), (4, sg_r (md_a h (md_r h M) row)), (5, sg_i (L.length : Int))] [] h 0 0 := by
    intro N
    induction N with
    | zero => intro p s p0 s0 hm; exact absurd hm (Nat.not_lt_zero _)
    | succ N ih =>
      intro p s p0 s0 hm
      have sb := fs_cntb (L := L) (kind := kind) (n := p.toNat)
      rw [← s0] at sb
      refine sg_iload (pc := 18) (dc_X7_countOf_0.2.2.1.1) rfl ?_
      refine sg_iload (pc := 20) (dc_X7_countOf_0.2.2.1.2) rfl ?_
      refine sg_icmp_ge (pc := 22) (tgt := 50) (dc_X7_countOf_0.2.2.2.1) (by decide) (fun c22 => ?_) (fun c22 => ?_)
      · refine sg_iload_n (pc := 50) (j := 3) (dc_X7_countOf_27.2.2.1.1) rfl rfl ?_
        refine sg_iret (pc := 51) (dc_X7_countOf_27.2.2.1.2) rfl (by first | exact Nat.le_of_ble_eq_true rfl | omega) (by first | exact Nat.le_of_ble_eq_true rfl | omega) ?_
        exact hQ _ (by rw [s0, show p.toNat = L.length by omega])
      · refine sg_aload (pc := 25) (dc_X7_countOf_0.2.2.2.2) rfl ?_
        refine sg_iload (pc := 27) (dc_X7_countOf_27.1.1.1.1) rfl ?_
        refine md_xld (pc := 29) (dc_X7_countOf_27.1.1.1.2) (by assumption) (by omega) (by omega) (fun g29 => ?_)
        refine sg_istore (pc := 30) (dc_X7_countOf_27.1.1.2.1) (by decide) ?_
        refine sg_iload_n (pc := 32) (j := 3) (dc_X7_countOf_27.1.1.2.2) rfl rfl ?_
        refine sg_iload (pc := 33) (dc_X7_countOf_27.1.2.1.1) rfl ?_
        refine sg_iload_n (pc := 35) (j := 2) (dc_X7_countOf_27.1.2.1.2) rfl rfl ?_
        refine sg_cS2 (pc := 36) (d' := d - 1) (mc' := 0) (ms' := 0) g (dc_X7_countOf_27.1.2.2.1) cb_X7_isKind ml_X7_26 ms_X7_isKind (Nat.le_of_ble_eq_true rfl) (by first | exact jl_d0 hd rfl | omega) (by first | exact Nat.le_of_ble_eq_true rfl | omega) (by first | exact Nat.le_of_ble_eq_true rfl | omega) ?_
        refine s_X7_isKind g (by first | exact jl_d1 hd rfl | omega) (by assumption) (by omega) (by omega) (fun z36 e36 b36 => sg_K1 ?_)
        refine sg_cS1 (pc := 39) (d' := d - 1) (mc' := 0) (ms' := 0) g (dc_X7_countOf_27.1.2.2.2) cb_X7_one ml_X7_92 ms_X7_one (Nat.le_of_ble_eq_true rfl) (by first | exact jl_d0 hd rfl | omega) (by first | exact Nat.le_of_ble_eq_true rfl | omega) (by first | exact Nat.le_of_ble_eq_true rfl | omega) ?_
        refine s_X7_one g (by first | exact jl_d1 hd rfl | omega) (fun z39 h39 b39 => sg_K1 ?_)
        (try simp only [fm_no, fm_one, fn_betw, fn_sign, fn_radix, fn_high, fn_low] at h39)
        have bk := fs_cnts (L := L) (kind := kind) (p := p) (by omega)
        first | refine sg_iaddB (pc := 42) (dc_X7_countOf_27.2.1.1.1) (by omega) (by omega) ?_ | refine sg_iadd (pc := 42) (dc_X7_countOf_27.2.1.1.1) ?_
        refine sg_istore_n (pc := 43) (j := 3) (dc_X7_countOf_27.2.1.1.2) rfl (by decide) ?_
        first | refine sg_iincB (pc := 44) (dc_X7_countOf_27.2.1.2.1) rfl (by decide) (by decide) (by omega) (by omega) ?_ | refine sg_iinc (pc := 44) (dc_X7_countOf_27.2.1.2.1) rfl (by decide) (by decide) ?_
        refine sg_goto (pc := 47) (tgt := 18) (dc_X7_countOf_27.2.1.2.2) (by decide) ?_
        refine sg_lsub (lv' := [(6, _), (3, _), (0, _), (1, _), (2, _), (4, _), (5, _)]) ⟨rfl, rfl, rfl, rfl, rfl, rfl, rfl, trivial⟩ ?_
        exact ih _ _ (by omega) (by omega) (by first | exact jl_m1 hm (by omega) | exact jl_m2 hm (by omega) | omega)
  refine sg_lsub (lv' := [(6, _), (3, _), (0, _), (1, _), (2, _), (4, _), (5, _)]) ⟨rfl, rfl, rfl, rfl, rfl, rfl, rfl, trivial⟩ ?_
  exact loop18 _ _ _ (by omega) rfl (Nat.lt_succ_self _)

set_option maxRecDepth 100000 in
theorem f_X7_toldOf {w : sg_W} {Q : sg_O → sg_H → Prop} {h : sg_H} (g : sg_G w) {d : Nat} (hd : 6 ≤ d) {M : Nat} {row radix : Int} (hv : 0 ≤ row ∧ row < 4 ∧ 2 ≤ radix ∧ radix ≤ 36) {A : fa_A} {L : List Int} (hA : md_ab h M = A) (hL : fa_L A row.toNat = L) (hx : md_M w h M) (hQ : ∀ v : Int, v = fs_told L radix → Q (.inl (some (sg_i v))) h) : sg_C w mi_X7_toldOf d 0 0 [sg_r M, sg_i row, sg_i radix] h Q := by
  refine sg_of pn_X7 (Nat.le_of_ble_eq_true rfl) ?_
  have y0 := md_Y0 hx
  have hk := hx.2.1
  refine sg_lconst (pc := 0) (z := 0) (dc_X7_toldOf_0.1.1.1.1) (by decide) ?_
  refine sg_lstore_n (pc := 1) (j := 3) (dc_X7_toldOf_0.1.1.1.2) rfl (by decide) ?_
  refine sg_aload_n (pc := 2) (j := 0) (dc_X7_toldOf_0.1.1.2.1) rfl rfl ?_
  refine md_grw (pc := 3) g (dc_X7_toldOf_0.1.1.2.2) fk_X7_9 (by assumption) (fun r3 => ?_)
  refine sg_iload_n (pc := 6) (j := 1) (dc_X7_toldOf_0.1.2.1.1) rfl rfl ?_
  first | refine md_alX (pc := 7) (dc_X7_toldOf_0.1.2.1.2) hA (by assumption) (by assumption) (by omega) (by omega) (fun X7 l7 => ?_) | refine md_alXt (pc := 7) (dc_X7_toldOf_0.1.2.1.2) hA (by assumption) (by assumption) (by omega) (by omega) (fun X7 l7 => ?_)
  refine sg_astore (pc := 8) (dc_X7_toldOf_0.1.2.2.1) (by decide) ?_
  refine sg_aload (pc := 10) (dc_X7_toldOf_0.1.2.2.2) rfl ?_
  refine md_xlen (pc := 12) (dc_X7_toldOf_0.2.1.1.1) (by assumption) (by omega) ?_
  refine sg_istore (pc := 13) (dc_X7_toldOf_0.2.1.1.2) (by decide) ?_
  refine sg_iconst (pc := 15) (z := 0) (dc_X7_toldOf_0.2.1.2.1) (by decide) ?_
  refine sg_istore (pc := 16) (dc_X7_toldOf_0.2.1.2.2) (by decide) ?_
  have loop18 : ∀ (N : Nat) (p s : Int), (0 ≤ p ∧ p ≤ (L.length : Int)) → (s = fs_tf L radix p.toNat) → (∀ j : Nat, (j : Int) < p → fn_num (L.getD j 0) radix ≠ -1) → ((L.length : Int) - p).toNat < N → sg_R w mi_X7_toldOf d 0 0 Q 18 [(7, sg_i p), (3, sg_l s), (0, sg_r M), (1, sg_i row), (2, sg_i radix), (5, sg_r (md_a h (md_r h M) row)), (6, sg_i (L.length : Int))] [] h 0 0 := by
    intro N
    induction N with
    | zero => intro p s p0 s0 p1 hm; exact absurd hm (Nat.not_lt_zero _)
    | succ N ih =>
      intro p s p0 s0 p1 hm
      have sb := fs_tfb (L := L) (r := radix) p.toNat
      rw [← s0] at sb
      refine sg_iload (pc := 18) (dc_X7_toldOf_0.2.2.1.1) rfl ?_
      refine sg_iload (pc := 20) (dc_X7_toldOf_0.2.2.1.2) rfl ?_
      refine sg_icmp_ge (pc := 22) (tgt := 68) (dc_X7_toldOf_0.2.2.2.1) (by decide) (fun c22 => ?_) (fun c22 => ?_)
      · refine sg_aload_n (pc := 68) (j := 0) (dc_X7_toldOf_52.2.1.1.1) rfl rfl ?_
        refine md_grw (pc := 69) g (dc_X7_toldOf_52.2.1.1.2) fk_X7_9 (by assumption) (fun r69 => ?_)
        refine sg_iload_n (pc := 72) (j := 1) (dc_X7_toldOf_52.2.1.2.1) rfl rfl ?_
        first | refine md_alX (pc := 73) (dc_X7_toldOf_52.2.1.2.2) hA (by assumption) (by assumption) (by omega) (by omega) (fun X73 l73 => ?_) | refine md_alXt (pc := 73) (dc_X7_toldOf_52.2.1.2.2) hA (by assumption) (by assumption) (by omega) (by omega) (fun X73 l73 => ?_)
        refine md_xlen (pc := 74) (dc_X7_toldOf_52.2.2.1.1) (by assumption) (by omega) ?_
        refine sg_if_ne (pc := 75) (tgt := 83) (dc_X7_toldOf_52.2.2.1.2) (by decide) (fun c75 => ?_) (fun c75 => ?_)
        · refine sg_lload_n (pc := 83) (j := 3) (dc_X7_toldOf_83.1.1) rfl rfl ?_
          refine sg_l2i (pc := 84) (dc_X7_toldOf_83.1.2) ?_
          refine sg_iret (pc := 85) (dc_X7_toldOf_83.2.1) rfl (by first | exact Nat.le_of_ble_eq_true rfl | omega) (by first | exact Nat.le_of_ble_eq_true rfl | omega) ?_
          exact hQ _ (fs_theE fs_tU (Or.inr ⟨by rw [sg_w_id (by omega) (by omega), s0, show p.toNat = L.length by omega], by omega, fun j j1 => p1 j (by omega)⟩))
        · refine sg_bipush (pc := 78) (z := -9) (dc_X7_toldOf_52.2.2.2.1) (by decide) ?_
          refine sg_goto (pc := 80) (tgt := 85) (dc_X7_toldOf_52.2.2.2.2) (by decide) ?_
          refine sg_iret (pc := 85) (dc_X7_toldOf_83.2.1) rfl (by first | exact Nat.le_of_ble_eq_true rfl | omega) (by first | exact Nat.le_of_ble_eq_true rfl | omega) ?_
          exact hQ _ (fs_theE fs_tU (Or.inl ⟨rfl, Or.inl (by omega)⟩))
      · refine sg_aload (pc := 25) (dc_X7_toldOf_0.2.2.2.2) rfl ?_
        refine sg_iload (pc := 27) (dc_X7_toldOf_27.1.1.1.1) rfl ?_
        refine md_xld (pc := 29) (dc_X7_toldOf_27.1.1.1.2) (by assumption) (by omega) (by omega) (fun g29 => ?_)
        refine sg_istore (pc := 30) (dc_X7_toldOf_27.1.1.2.1) (by decide) ?_
        refine sg_iload (pc := 32) (dc_X7_toldOf_27.1.1.2.2) rfl ?_
        refine sg_iload_n (pc := 34) (j := 2) (dc_X7_toldOf_27.1.2.1.1) rfl rfl ?_
        refine sg_cS2 (pc := 35) (d' := d - 1) (mc' := 0) (ms' := 0) g (dc_X7_toldOf_27.1.2.1.2) cb_X7_numberOf ml_X7_115 ms_X7_numberOf (Nat.le_of_ble_eq_true rfl) (by first | exact jl_d0 hd rfl | omega) (by first | exact Nat.le_of_ble_eq_true rfl | omega) (by first | exact Nat.le_of_ble_eq_true rfl | omega) ?_
        refine s_X7_numberOf g (by first | exact jl_d1 hd rfl | omega) (fun z35 h35 => sg_K1 ?_)
        (try simp only [fm_no, fm_one, fn_betw, fn_sign, fn_radix, fn_high, fn_low] at h35)
        refine sg_iconst (pc := 38) (z := -1) (dc_X7_toldOf_27.1.2.2.1) (by decide) ?_
        refine sg_icmp_ne (pc := 39) (tgt := 45) (dc_X7_toldOf_27.1.2.2.2) (by decide) (fun c39 => ?_) (fun c39 => ?_)
        · refine sg_lload_n (pc := 45) (j := 3) (dc_X7_toldOf_27.2.1.2.1) rfl rfl ?_
          refine sg_iload_n (pc := 46) (j := 2) (dc_X7_toldOf_27.2.1.2.2) rfl rfl ?_
          refine sg_i2l (pc := 47) (dc_X7_toldOf_27.2.2.1.1) ?_
          refine sg_lmul (pc := 48) (dc_X7_toldOf_27.2.2.1.2) ?_
          refine sg_iload (pc := 49) (dc_X7_toldOf_27.2.2.2.1) rfl ?_
          refine sg_iload_n (pc := 51) (j := 2) (dc_X7_toldOf_27.2.2.2.2) rfl rfl ?_
          refine sg_cS2 (pc := 52) (d' := d - 1) (mc' := 0) (ms' := 0) g (dc_X7_toldOf_52.1.1.1.1) cb_X7_numberOf ml_X7_115 ms_X7_numberOf (Nat.le_of_ble_eq_true rfl) (by first | exact jl_d0 hd rfl | omega) (by first | exact Nat.le_of_ble_eq_true rfl | omega) (by first | exact Nat.le_of_ble_eq_true rfl | omega) ?_
          refine s_X7_numberOf g (by first | exact jl_d1 hd rfl | omega) (fun z52 h52 => sg_K1 ?_)
          (try simp only [fm_no, fm_one, fn_betw, fn_sign, fn_radix, fn_high, fn_low] at h52)
          refine sg_i2l (pc := 55) (dc_X7_toldOf_52.1.1.1.2) ?_
          refine sg_ladd (pc := 56) (dc_X7_toldOf_52.1.1.2.1) ?_
          refine sg_ldc2 (pc := 57) (z := 1000003) g (dc_X7_toldOf_52.1.1.2.2) cn_X7_199 (by decide) ?_
          refine sg_lrem (pc := 60) (dc_X7_toldOf_52.1.2.1.1) (by first | omega | assumption) ?_
          have nb := fn_nb (L.getD p.toNat 0) radix
          rw [← h52] at nb
          have mb0 : 0 ≤ s * radix := Int.mul_nonneg sb.1 (by omega)
          have mb1 : s * radix ≤ 1000003 * 36 := Int.le_trans (Int.mul_le_mul_of_nonneg_left (show radix ≤ 36 by omega) sb.1) (Int.mul_le_mul_of_nonneg_right (Int.le_of_lt sb.2) (by decide))
          have w61 : (sg_W64 (sg_W64 (s * radix) + z52)).tmod 1000003 = (s * radix + z52) % 1000003 := by
            rw [sg_W64e (a := s * radix) (by omega) (by omega), sg_W64e (by omega) (by omega), Int.tmod_eq_emod_of_nonneg (by omega)]
          rw [w61]
          refine sg_lstore_n (pc := 61) (j := 3) (dc_X7_toldOf_52.1.2.1.2) rfl (by decide) ?_
          first | refine sg_iincB (pc := 62) (dc_X7_toldOf_52.1.2.2.1) rfl (by decide) (by decide) (by omega) (by omega) ?_ | refine sg_iinc (pc := 62) (dc_X7_toldOf_52.1.2.2.1) rfl (by decide) (by decide) ?_
          refine sg_goto (pc := 65) (tgt := 18) (dc_X7_toldOf_52.1.2.2.2) (by decide) ?_
          refine sg_lsub (lv' := [(7, _), (3, _), (0, _), (1, _), (2, _), (5, _), (6, _)]) ⟨rfl, rfl, rfl, rfl, rfl, rfl, rfl, trivial⟩ ?_
          exact ih _ _ (by omega) (by rw [fs_tfs (by omega), ← s0, ← h52]) (fun j j0 => by
            by_cases q : j = p.toNat
            · subst q; omega
            · exact p1 j (by omega)) (by first | exact jl_m1 hm (by omega) | exact jl_m2 hm (by omega) | omega)
        · refine sg_bipush (pc := 42) (z := -9) (dc_X7_toldOf_27.2.1.1.1) (by decide) ?_
          refine sg_iret (pc := 44) (dc_X7_toldOf_27.2.1.1.2) rfl (by first | exact Nat.le_of_ble_eq_true rfl | omega) (by first | exact Nat.le_of_ble_eq_true rfl | omega) ?_
          exact hQ _ (fs_theE fs_tU (Or.inl ⟨rfl, Or.inr ⟨p.toNat, by omega, by omega⟩⟩))
  refine sg_lsub (lv' := [(7, _), (3, _), (0, _), (1, _), (2, _), (5, _), (6, _)]) ⟨rfl, rfl, rfl, rfl, rfl, rfl, rfl, trivial⟩ ?_
  exact loop18 _ _ _ (by omega) rfl (fun j j0 => absurd j0 (by omega)) (Nat.lt_succ_self _)

set_option maxRecDepth 100000 in
theorem f_X7_valuesOf {w : sg_W} {Q : sg_O → sg_H → Prop} {h : sg_H} (g : sg_G w) {d : Nat} (hd : 6 ≤ d) {M : Nat} {row : Int} (hv : 0 ≤ row ∧ row < 4) {A : fa_A} {L : List Int} (hA : md_ab h M = A) (hL : fa_L A row.toNat = L) (hx : md_M w h M) (hQ : ∀ v : Int, v = fs_vs L L.length → Q (.inl (some (sg_i v))) h) : sg_C w mi_X7_valuesOf d 0 0 [sg_r M, sg_i row] h Q := by
  refine sg_of pn_X7 (Nat.le_of_ble_eq_true rfl) ?_
  have y0 := md_Y0 hx
  have hk := hx.2.1
  refine sg_iconst (pc := 0) (z := 0) (dc_X7_valuesOf_0.1.1.1.1) (by decide) ?_
  refine sg_istore_n (pc := 1) (j := 2) (dc_X7_valuesOf_0.1.1.1.2) rfl (by decide) ?_
  refine sg_aload_n (pc := 2) (j := 0) (dc_X7_valuesOf_0.1.1.2.1) rfl rfl ?_
  refine md_grw (pc := 3) g (dc_X7_valuesOf_0.1.1.2.2) fk_X7_9 (by assumption) (fun r3 => ?_)
  refine sg_iload_n (pc := 6) (j := 1) (dc_X7_valuesOf_0.1.2.1.1) rfl rfl ?_
  first | refine md_alX (pc := 7) (dc_X7_valuesOf_0.1.2.1.2) hA (by assumption) (by assumption) (by omega) (by omega) (fun X7 l7 => ?_) | refine md_alXt (pc := 7) (dc_X7_valuesOf_0.1.2.1.2) hA (by assumption) (by assumption) (by omega) (by omega) (fun X7 l7 => ?_)
  refine sg_astore_n (pc := 8) (j := 3) (dc_X7_valuesOf_0.1.2.2.1) rfl (by decide) ?_
  refine sg_aload_n (pc := 9) (j := 3) (dc_X7_valuesOf_0.1.2.2.2) rfl rfl ?_
  refine md_xlen (pc := 10) (dc_X7_valuesOf_0.2.1.1.1) (by assumption) (by omega) ?_
  refine sg_istore (pc := 11) (dc_X7_valuesOf_0.2.1.1.2) (by decide) ?_
  refine sg_iconst (pc := 13) (z := 0) (dc_X7_valuesOf_0.2.1.2.1) (by decide) ?_
  refine sg_istore (pc := 14) (dc_X7_valuesOf_0.2.1.2.2) (by decide) ?_
  have loop16 : ∀ (N : Nat) (p s : Int), (0 ≤ p ∧ p ≤ (L.length : Int)) → (s = fs_vs L p.toNat) → ((L.length : Int) - p).toNat < N → sg_R w mi_X7_valuesOf d 0 0 Q 16 [(5, sg_i p), (2, sg_i s), (0, sg_r M), (1, sg_i row), (3, sg_r (md_a h (md_r h M) row)), (4, sg_i (L.length : Int))] [] h 0 0 := by
    intro N
    induction N with
    | zero => intro p s p0 s0 hm; exact absurd hm (Nat.not_lt_zero _)
    | succ N ih =>
      intro p s p0 s0 hm
      have sb := fs_vsb (L := L) (n := p.toNat)
      rw [← s0] at sb
      refine sg_iload (pc := 16) (dc_X7_valuesOf_0.2.2.1.1) rfl ?_
      refine sg_iload (pc := 18) (dc_X7_valuesOf_0.2.2.1.2) rfl ?_
      refine sg_icmp_ge (pc := 20) (tgt := 47) (dc_X7_valuesOf_0.2.2.2.1) (by decide) (fun c20 => ?_) (fun c20 => ?_)
      · refine sg_iload_n (pc := 47) (j := 2) (dc_X7_valuesOf_24.2.2.1.1) rfl rfl ?_
        refine sg_iret (pc := 48) (dc_X7_valuesOf_24.2.2.1.2) rfl (by first | exact Nat.le_of_ble_eq_true rfl | omega) (by first | exact Nat.le_of_ble_eq_true rfl | omega) ?_
        exact hQ _ (by rw [s0, show p.toNat = L.length by omega])
      · refine sg_aload_n (pc := 23) (j := 3) (dc_X7_valuesOf_0.2.2.2.2) rfl rfl ?_
        refine sg_iload (pc := 24) (dc_X7_valuesOf_24.1.1.1.1) rfl ?_
        refine md_xld (pc := 26) (dc_X7_valuesOf_24.1.1.1.2) (by assumption) (by omega) (by omega) (fun g26 => ?_)
        refine sg_istore (pc := 27) (dc_X7_valuesOf_24.1.1.2.1) (by decide) ?_
        refine sg_iload_n (pc := 29) (j := 2) (dc_X7_valuesOf_24.1.1.2.2) rfl rfl ?_
        refine sg_iconst (pc := 30) (z := 0) (dc_X7_valuesOf_24.1.2.1.1) (by decide) ?_
        refine sg_iload (pc := 31) (dc_X7_valuesOf_24.1.2.1.2) rfl ?_
        refine sg_cS1 (pc := 33) (d' := d - 1) (mc' := 0) (ms' := 0) g (dc_X7_valuesOf_24.1.2.2.1) cb_X7_valueOf ml_X7_33 ms_X7_valueOf (Nat.le_of_ble_eq_true rfl) (by first | exact jl_d0 hd rfl | omega) (by first | exact Nat.le_of_ble_eq_true rfl | omega) (by first | exact Nat.le_of_ble_eq_true rfl | omega) ?_
        refine s_X7_valueOf g (by first | exact jl_d1 hd rfl | omega) (fun z33 h33 => sg_K1 ?_)
        (try simp only [fm_no, fm_one, fn_betw, fn_sign, fn_radix, fn_high, fn_low] at h33)
        refine sg_mmax (pc := 36) g (dc_X7_valuesOf_24.1.2.2.2) mx_X7_204 mx_st mx_in mx_co (Nat.le_of_ble_eq_true rfl) (by omega) (by omega) (by omega) (fun z36 e36 => ?_)
        have bk := fs_vss (L := L) (p := p) (by omega)
        rw [← h33] at bk
        have nb := fn_vb (L.getD p.toNat 0)
        rw [← h33] at nb
        first | refine sg_iaddB (pc := 39) (dc_X7_valuesOf_24.2.1.1.1) (by omega) (by omega) ?_ | refine sg_iadd (pc := 39) (dc_X7_valuesOf_24.2.1.1.1) ?_
        refine sg_istore_n (pc := 40) (j := 2) (dc_X7_valuesOf_24.2.1.1.2) rfl (by decide) ?_
        first | refine sg_iincB (pc := 41) (dc_X7_valuesOf_24.2.1.2.1) rfl (by decide) (by decide) (by omega) (by omega) ?_ | refine sg_iinc (pc := 41) (dc_X7_valuesOf_24.2.1.2.1) rfl (by decide) (by decide) ?_
        refine sg_goto (pc := 44) (tgt := 16) (dc_X7_valuesOf_24.2.1.2.2) (by decide) ?_
        refine sg_lsub (lv' := [(5, _), (2, _), (0, _), (1, _), (3, _), (4, _)]) ⟨rfl, rfl, rfl, rfl, rfl, rfl, trivial⟩ ?_
        exact ih _ _ (by omega) (by omega) (by first | exact jl_m1 hm (by omega) | exact jl_m2 hm (by omega) | omega)
  refine sg_lsub (lv' := [(5, _), (2, _), (0, _), (1, _), (3, _), (4, _)]) ⟨rfl, rfl, rfl, rfl, rfl, rfl, trivial⟩ ?_
  exact loop16 _ _ _ (by omega) rfl (Nat.lt_succ_self _)

set_option maxRecDepth 100000 in
theorem f_X7_areAlike {w : sg_W} {Q : sg_O → sg_H → Prop} {h : sg_H} (g : sg_G w) {d : Nat} (hd : 6 ≤ d) {M : Nat} {row other : Int} (hv : 0 ≤ row ∧ row < 4 ∧ 0 ≤ other ∧ other < 4) {A : fa_A} {L Z : List Int} (hA : md_ab h M = A) (hL : fa_L A row.toNat = L) (hN : fa_L A other.toNat = Z) (hx : md_M w h M) (hQ : ∀ v : Int, ((v = 0 ∧ ¬ fs_al L Z) ∨ (v = 1 ∧ fs_al L Z)) → Q (.inl (some (sg_i v))) h) : sg_C w mi_X7_areAlike d 0 0 [sg_r M, sg_i row, sg_i other] h Q := by
  refine sg_of pn_X7 (Nat.le_of_ble_eq_true rfl) ?_
  have y0 := md_Y0 hx
  have hk := hx.2.1
  refine sg_aload_n (pc := 0) (j := 0) (dc_X7_areAlike_0.1.1.1.1) rfl rfl ?_
  refine md_grw (pc := 1) g (dc_X7_areAlike_0.1.1.1.2) fk_X7_9 (by assumption) (fun r1 => ?_)
  refine sg_iload_n (pc := 4) (j := 1) (dc_X7_areAlike_0.1.1.2.1) rfl rfl ?_
  first | refine md_alX (pc := 5) (dc_X7_areAlike_0.1.1.2.2) hA (by assumption) (by assumption) (by omega) (by omega) (fun X5 l5 => ?_) | refine md_alXt (pc := 5) (dc_X7_areAlike_0.1.1.2.2) hA (by assumption) (by assumption) (by omega) (by omega) (fun X5 l5 => ?_)
  refine md_xlen (pc := 6) (dc_X7_areAlike_0.1.2.1.1) (by assumption) (by omega) ?_
  refine sg_aload_n (pc := 7) (j := 0) (dc_X7_areAlike_0.1.2.1.2) rfl rfl ?_
  refine md_grw (pc := 8) g (dc_X7_areAlike_0.1.2.2.1) fk_X7_9 (by assumption) (fun r8 => ?_)
  refine sg_iload_n (pc := 11) (j := 2) (dc_X7_areAlike_0.1.2.2.2) rfl rfl ?_
  first | refine md_alX (pc := 12) (dc_X7_areAlike_0.2.1.1.1) hA (by assumption) (by assumption) (by omega) (by omega) (fun X12 l12 => ?_) | refine md_alXt (pc := 12) (dc_X7_areAlike_0.2.1.1.1) hA (by assumption) (by assumption) (by omega) (by omega) (fun X12 l12 => ?_)
  refine md_xlen (pc := 13) (dc_X7_areAlike_0.2.1.1.2) (by assumption) (by omega) ?_
  refine sg_icmp_ne (pc := 14) (tgt := 21) (dc_X7_areAlike_0.2.1.2.1) (by decide) (fun c14 => ?_) (fun c14 => ?_)
  · refine sg_iconst (pc := 21) (z := 0) (dc_X7_areAlike_0.2.2.1.2) (by decide) ?_
    refine sg_istore_n (pc := 22) (j := 3) (dc_X7_areAlike_0.2.2.2.1) rfl (by decide) ?_
    refine sg_iconst (pc := 23) (z := 0) (dc_X7_areAlike_0.2.2.2.2) (by decide) ?_
    refine sg_istore (pc := 24) (dc_X7_areAlike_24.1.1.1.1) (by decide) ?_
    have loop26 : ∀ (N : Nat) (p s : Int), (0 ≤ p) → ((s = 0 ∧ ¬ fs_al L Z) ∨ (s = 1 ∧ p ≤ (L.length : Int) ∧ L.length = Z.length ∧ ∀ j : Nat, (j : Int) < p → fn_upper (L.getD j 0) = fn_upper (Z.getD j 0))) → ((L.length : Int) - p).toNat < N → sg_R w mi_X7_areAlike d 0 0 Q 26 [(4, sg_i p), (3, sg_i s), (0, sg_r M), (1, sg_i row), (2, sg_i other)] [] h 0 0 := by
      intro N
      induction N with
      | zero => intro p s p0 s0 hm; exact absurd hm (Nat.not_lt_zero _)
      | succ N ih =>
        intro p s p0 s0 hm
        refine sg_iload_n (pc := 26) (j := 3) (dc_X7_areAlike_24.1.1.1.2) rfl rfl ?_
        refine sg_if_eq (pc := 27) (tgt := 81) (dc_X7_areAlike_24.1.1.2.1) (by decide) (fun c27 => ?_) (fun c27 => ?_)
        · refine sg_iload_n (pc := 81) (j := 3) (dc_X7_areAlike_51.2.2.2.2) rfl rfl ?_
          refine sg_zret (pc := 82) dc_X7_areAlike_82 rfl (by first | exact Or.inl rfl | exact Or.inr rfl | omega | assumption) (by first | exact Nat.le_of_ble_eq_true rfl | omega) (by first | exact Nat.le_of_ble_eq_true rfl | omega) ?_
          exact hQ _ (s0.elim Or.inl (fun u => Or.inr ⟨u.1, u.2.2.1, fun j j0 => u.2.2.2 j (by omega)⟩))
        · refine sg_iload (pc := 30) (dc_X7_areAlike_24.1.1.2.2) rfl ?_
          refine sg_aload_n (pc := 32) (j := 0) (dc_X7_areAlike_24.1.2.1.1) rfl rfl ?_
          refine md_grw (pc := 33) g (dc_X7_areAlike_24.1.2.1.2) fk_X7_9 (by assumption) (fun r33 => ?_)
          refine sg_iload_n (pc := 36) (j := 1) (dc_X7_areAlike_24.1.2.2.1) rfl rfl ?_
          first | refine md_alX (pc := 37) (dc_X7_areAlike_24.1.2.2.2) hA (by assumption) (by assumption) (by omega) (by omega) (fun X37 l37 => ?_) | refine md_alXt (pc := 37) (dc_X7_areAlike_24.1.2.2.2) hA (by assumption) (by assumption) (by omega) (by omega) (fun X37 l37 => ?_)
          refine md_xlen (pc := 38) (dc_X7_areAlike_24.2.1.1.1) (by assumption) (by omega) ?_
          refine sg_icmp_ge (pc := 39) (tgt := 81) (dc_X7_areAlike_24.2.1.1.2) (by decide) (fun c39 => ?_) (fun c39 => ?_)
          · refine sg_iload_n (pc := 81) (j := 3) (dc_X7_areAlike_51.2.2.2.2) rfl rfl ?_
            refine sg_zret (pc := 82) dc_X7_areAlike_82 rfl (by first | exact Or.inl rfl | exact Or.inr rfl | omega | assumption) (by first | exact Nat.le_of_ble_eq_true rfl | omega) (by first | exact Nat.le_of_ble_eq_true rfl | omega) ?_
            exact hQ _ (s0.elim Or.inl (fun u => Or.inr ⟨u.1, u.2.2.1, fun j j0 => u.2.2.2 j (by omega)⟩))
          · refine sg_aload_n (pc := 42) (j := 0) (dc_X7_areAlike_24.2.1.2.1) rfl rfl ?_
            refine md_grw (pc := 43) g (dc_X7_areAlike_24.2.1.2.2) fk_X7_9 (by assumption) (fun r43 => ?_)
            refine sg_iload_n (pc := 46) (j := 1) (dc_X7_areAlike_24.2.2.1.1) rfl rfl ?_
            first | refine md_alX (pc := 47) (dc_X7_areAlike_24.2.2.1.2) hA (by assumption) (by assumption) (by omega) (by omega) (fun X47 l47 => ?_) | refine md_alXt (pc := 47) (dc_X7_areAlike_24.2.2.1.2) hA (by assumption) (by assumption) (by omega) (by omega) (fun X47 l47 => ?_)
            refine sg_iload (pc := 48) (dc_X7_areAlike_24.2.2.2.1) rfl ?_
            refine md_xld (pc := 50) (dc_X7_areAlike_24.2.2.2.2) (by assumption) (by omega) (by omega) (fun g50 => ?_)
            refine sg_cS1 (pc := 51) (d' := d - 1) (mc' := 0) (ms' := 0) g (dc_X7_areAlike_51.1.1.1.1) cb_X7_upperOf ml_X7_86 ms_X7_upperOf (Nat.le_of_ble_eq_true rfl) (by first | exact jl_d0 hd rfl | omega) (by first | exact Nat.le_of_ble_eq_true rfl | omega) (by first | exact Nat.le_of_ble_eq_true rfl | omega) ?_
            refine s_X7_upperOf g (by first | exact jl_d1 hd rfl | omega) (fun z51 h51 => sg_K1 ?_)
            (try simp only [fm_no, fm_one, fn_betw, fn_sign, fn_radix, fn_high, fn_low] at h51)
            refine sg_aload_n (pc := 54) (j := 0) (dc_X7_areAlike_51.1.1.1.2) rfl rfl ?_
            refine md_grw (pc := 55) g (dc_X7_areAlike_51.1.1.2.1) fk_X7_9 (by assumption) (fun r55 => ?_)
            refine sg_iload_n (pc := 58) (j := 2) (dc_X7_areAlike_51.1.1.2.2) rfl rfl ?_
            first | refine md_alX (pc := 59) (dc_X7_areAlike_51.1.2.1.1) hA (by assumption) (by assumption) (by omega) (by omega) (fun X59 l59 => ?_) | refine md_alXt (pc := 59) (dc_X7_areAlike_51.1.2.1.1) hA (by assumption) (by assumption) (by omega) (by omega) (fun X59 l59 => ?_)
            refine sg_iload (pc := 60) (dc_X7_areAlike_51.1.2.1.2) rfl ?_
            have nl59 : L.length = Z.length := s0.elim (fun q => absurd q.1 (by omega)) (fun u => u.2.2.1)
            refine md_xld (pc := 62) (dc_X7_areAlike_51.1.2.2.1) (by assumption) (by omega) (by omega) (fun g62 => ?_)
            refine sg_cS1 (pc := 63) (d' := d - 1) (mc' := 0) (ms' := 0) g (dc_X7_areAlike_51.1.2.2.2) cb_X7_upperOf ml_X7_86 ms_X7_upperOf (Nat.le_of_ble_eq_true rfl) (by first | exact jl_d0 hd rfl | omega) (by first | exact Nat.le_of_ble_eq_true rfl | omega) (by first | exact Nat.le_of_ble_eq_true rfl | omega) ?_
            refine s_X7_upperOf g (by first | exact jl_d1 hd rfl | omega) (fun z63 h63 => sg_K1 ?_)
            (try simp only [fm_no, fm_one, fn_betw, fn_sign, fn_radix, fn_high, fn_low] at h63)
            refine sg_icmp_ne (pc := 66) (tgt := 73) (dc_X7_areAlike_51.2.1.1.1) (by decide) (fun c66 => ?_) (fun c66 => ?_)
            · refine sg_iconst (pc := 73) (z := 0) (dc_X7_areAlike_51.2.1.2.2) (by decide) ?_
              refine sg_istore_n (pc := 74) (j := 3) (dc_X7_areAlike_51.2.2.1.1) rfl (by decide) ?_
              first | refine sg_iincB (pc := 75) (dc_X7_areAlike_51.2.2.1.2) rfl (by decide) (by decide) (by omega) (by omega) ?_ | refine sg_iinc (pc := 75) (dc_X7_areAlike_51.2.2.1.2) rfl (by decide) (by decide) ?_
              refine sg_goto (pc := 78) (tgt := 26) (dc_X7_areAlike_51.2.2.2.1) (by decide) ?_
              refine sg_lsub (lv' := [(4, _), (3, _), (0, _), (1, _), (2, _)]) ⟨rfl, rfl, rfl, rfl, rfl, trivial⟩ ?_
              exact ih _ _ (by omega) (by
                obtain ⟨u1, u2, u3, u4⟩ : s = 1 ∧ p ≤ (L.length : Int) ∧ L.length = Z.length ∧ ∀ j : Nat, (j : Int) < p → fn_upper (L.getD j 0) = fn_upper (Z.getD j 0) := s0.elim (fun q => absurd q.1 (by omega)) id
                first
                  | exact Or.inr ⟨rfl, by omega, u3, fun j j0 => by
                      by_cases q : j = p.toNat
                      · subst q; omega
                      · exact u4 j (by omega)⟩
                  | exact Or.inl ⟨rfl, fun q => by have := q.2 p.toNat (by omega); omega⟩) (by first | exact jl_m1 hm (by omega) | exact jl_m2 hm (by omega) | omega)
            · refine sg_iconst (pc := 69) (z := 1) (dc_X7_areAlike_51.2.1.1.2) (by decide) ?_
              refine sg_goto (pc := 70) (tgt := 74) (dc_X7_areAlike_51.2.1.2.1) (by decide) ?_
              refine sg_istore_n (pc := 74) (j := 3) (dc_X7_areAlike_51.2.2.1.1) rfl (by decide) ?_
              first | refine sg_iincB (pc := 75) (dc_X7_areAlike_51.2.2.1.2) rfl (by decide) (by decide) (by omega) (by omega) ?_ | refine sg_iinc (pc := 75) (dc_X7_areAlike_51.2.2.1.2) rfl (by decide) (by decide) ?_
              refine sg_goto (pc := 78) (tgt := 26) (dc_X7_areAlike_51.2.2.2.1) (by decide) ?_
              refine sg_lsub (lv' := [(4, _), (3, _), (0, _), (1, _), (2, _)]) ⟨rfl, rfl, rfl, rfl, rfl, trivial⟩ ?_
              exact ih _ _ (by omega) (by
                obtain ⟨u1, u2, u3, u4⟩ : s = 1 ∧ p ≤ (L.length : Int) ∧ L.length = Z.length ∧ ∀ j : Nat, (j : Int) < p → fn_upper (L.getD j 0) = fn_upper (Z.getD j 0) := s0.elim (fun q => absurd q.1 (by omega)) id
                first
                  | exact Or.inr ⟨rfl, by omega, u3, fun j j0 => by
                      by_cases q : j = p.toNat
                      · subst q; omega
                      · exact u4 j (by omega)⟩
                  | exact Or.inl ⟨rfl, fun q => by have := q.2 p.toNat (by omega); omega⟩) (by first | exact jl_m1 hm (by omega) | exact jl_m2 hm (by omega) | omega)
    refine sg_lsub (lv' := [(4, _), (3, _), (0, _), (1, _), (2, _)]) ⟨rfl, rfl, rfl, rfl, rfl, trivial⟩ ?_
    exact loop26 _ _ _ (by omega) (by first | exact Or.inr ⟨rfl, by omega, by omega, fun j j0 => absurd j0 (by omega)⟩ | exact Or.inl ⟨rfl, fun q => by have := q.1; omega⟩) (Nat.lt_succ_self _)
  · refine sg_iconst (pc := 17) (z := 1) (dc_X7_areAlike_0.2.1.2.2) (by decide) ?_
    refine sg_goto (pc := 18) (tgt := 22) (dc_X7_areAlike_0.2.2.1.1) (by decide) ?_
    refine sg_istore_n (pc := 22) (j := 3) (dc_X7_areAlike_0.2.2.2.1) rfl (by decide) ?_
    refine sg_iconst (pc := 23) (z := 0) (dc_X7_areAlike_0.2.2.2.2) (by decide) ?_
    refine sg_istore (pc := 24) (dc_X7_areAlike_24.1.1.1.1) (by decide) ?_
    have loop26 : ∀ (N : Nat) (p s : Int), (0 ≤ p) → ((s = 0 ∧ ¬ fs_al L Z) ∨ (s = 1 ∧ p ≤ (L.length : Int) ∧ L.length = Z.length ∧ ∀ j : Nat, (j : Int) < p → fn_upper (L.getD j 0) = fn_upper (Z.getD j 0))) → ((L.length : Int) - p).toNat < N → sg_R w mi_X7_areAlike d 0 0 Q 26 [(4, sg_i p), (3, sg_i s), (0, sg_r M), (1, sg_i row), (2, sg_i other)] [] h 0 0 := by
      intro N
      induction N with
      | zero => intro p s p0 s0 hm; exact absurd hm (Nat.not_lt_zero _)
      | succ N ih =>
        intro p s p0 s0 hm
        refine sg_iload_n (pc := 26) (j := 3) (dc_X7_areAlike_24.1.1.1.2) rfl rfl ?_
        refine sg_if_eq (pc := 27) (tgt := 81) (dc_X7_areAlike_24.1.1.2.1) (by decide) (fun c27 => ?_) (fun c27 => ?_)
        · refine sg_iload_n (pc := 81) (j := 3) (dc_X7_areAlike_51.2.2.2.2) rfl rfl ?_
          refine sg_zret (pc := 82) dc_X7_areAlike_82 rfl (by first | exact Or.inl rfl | exact Or.inr rfl | omega | assumption) (by first | exact Nat.le_of_ble_eq_true rfl | omega) (by first | exact Nat.le_of_ble_eq_true rfl | omega) ?_
          exact hQ _ (s0.elim Or.inl (fun u => Or.inr ⟨u.1, u.2.2.1, fun j j0 => u.2.2.2 j (by omega)⟩))
        · refine sg_iload (pc := 30) (dc_X7_areAlike_24.1.1.2.2) rfl ?_
          refine sg_aload_n (pc := 32) (j := 0) (dc_X7_areAlike_24.1.2.1.1) rfl rfl ?_
          refine md_grw (pc := 33) g (dc_X7_areAlike_24.1.2.1.2) fk_X7_9 (by assumption) (fun r33 => ?_)
          refine sg_iload_n (pc := 36) (j := 1) (dc_X7_areAlike_24.1.2.2.1) rfl rfl ?_
          first | refine md_alX (pc := 37) (dc_X7_areAlike_24.1.2.2.2) hA (by assumption) (by assumption) (by omega) (by omega) (fun X37 l37 => ?_) | refine md_alXt (pc := 37) (dc_X7_areAlike_24.1.2.2.2) hA (by assumption) (by assumption) (by omega) (by omega) (fun X37 l37 => ?_)
          refine md_xlen (pc := 38) (dc_X7_areAlike_24.2.1.1.1) (by assumption) (by omega) ?_
          refine sg_icmp_ge (pc := 39) (tgt := 81) (dc_X7_areAlike_24.2.1.1.2) (by decide) (fun c39 => ?_) (fun c39 => ?_)
          · refine sg_iload_n (pc := 81) (j := 3) (dc_X7_areAlike_51.2.2.2.2) rfl rfl ?_
            refine sg_zret (pc := 82) dc_X7_areAlike_82 rfl (by first | exact Or.inl rfl | exact Or.inr rfl | omega | assumption) (by first | exact Nat.le_of_ble_eq_true rfl | omega) (by first | exact Nat.le_of_ble_eq_true rfl | omega) ?_
            exact hQ _ (s0.elim Or.inl (fun u => Or.inr ⟨u.1, u.2.2.1, fun j j0 => u.2.2.2 j (by omega)⟩))
          · refine sg_aload_n (pc := 42) (j := 0) (dc_X7_areAlike_24.2.1.2.1) rfl rfl ?_
            refine md_grw (pc := 43) g (dc_X7_areAlike_24.2.1.2.2) fk_X7_9 (by assumption) (fun r43 => ?_)
            refine sg_iload_n (pc := 46) (j := 1) (dc_X7_areAlike_24.2.2.1.1) rfl rfl ?_
            first | refine md_alX (pc := 47) (dc_X7_areAlike_24.2.2.1.2) hA (by assumption) (by assumption) (by omega) (by omega) (fun X47 l47 => ?_) | refine md_alXt (pc := 47) (dc_X7_areAlike_24.2.2.1.2) hA (by assumption) (by assumption) (by omega) (by omega) (fun X47 l47 => ?_)
            refine sg_iload (pc := 48) (dc_X7_areAlike_24.2.2.2.1) rfl ?_
            refine md_xld (pc := 50) (dc_X7_areAlike_24.2.2.2.2) (by assumption) (by omega) (by omega) (fun g50 => ?_)
            refine sg_cS1 (pc := 51) (d' := d - 1) (mc' := 0) (ms' := 0) g (dc_X7_areAlike_51.1.1.1.1) cb_X7_upperOf ml_X7_86 ms_X7_upperOf (Nat.le_of_ble_eq_true rfl) (by first | exact jl_d0 hd rfl | omega) (by first | exact Nat.le_of_ble_eq_true rfl | omega) (by first | exact Nat.le_of_ble_eq_true rfl | omega) ?_
            refine s_X7_upperOf g (by first | exact jl_d1 hd rfl | omega) (fun z51 h51 => sg_K1 ?_)
            (try simp only [fm_no, fm_one, fn_betw, fn_sign, fn_radix, fn_high, fn_low] at h51)
            refine sg_aload_n (pc := 54) (j := 0) (dc_X7_areAlike_51.1.1.1.2) rfl rfl ?_
            refine md_grw (pc := 55) g (dc_X7_areAlike_51.1.1.2.1) fk_X7_9 (by assumption) (fun r55 => ?_)
            refine sg_iload_n (pc := 58) (j := 2) (dc_X7_areAlike_51.1.1.2.2) rfl rfl ?_
            first | refine md_alX (pc := 59) (dc_X7_areAlike_51.1.2.1.1) hA (by assumption) (by assumption) (by omega) (by omega) (fun X59 l59 => ?_) | refine md_alXt (pc := 59) (dc_X7_areAlike_51.1.2.1.1) hA (by assumption) (by assumption) (by omega) (by omega) (fun X59 l59 => ?_)
            refine sg_iload (pc := 60) (dc_X7_areAlike_51.1.2.1.2) rfl ?_
            have nl59 : L.length = Z.length := s0.elim (fun q => absurd q.1 (by omega)) (fun u => u.2.2.1)
            refine md_xld (pc := 62) (dc_X7_areAlike_51.1.2.2.1) (by assumption) (by omega) (by omega) (fun g62 => ?_)
            refine sg_cS1 (pc := 63) (d' := d - 1) (mc' := 0) (ms' := 0) g (dc_X7_areAlike_51.1.2.2.2) cb_X7_upperOf ml_X7_86 ms_X7_upperOf (Nat.le_of_ble_eq_true rfl) (by first | exact jl_d0 hd rfl | omega) (by first | exact Nat.le_of_ble_eq_true rfl | omega) (by first | exact Nat.le_of_ble_eq_true rfl | omega) ?_
            refine s_X7_upperOf g (by first | exact jl_d1 hd rfl | omega) (fun z63 h63 => sg_K1 ?_)
            (try simp only [fm_no, fm_one, fn_betw, fn_sign, fn_radix, fn_high, fn_low] at h63)
            refine sg_icmp_ne (pc := 66) (tgt := 73) (dc_X7_areAlike_51.2.1.1.1) (by decide) (fun c66 => ?_) (fun c66 => ?_)
            · refine sg_iconst (pc := 73) (z := 0) (dc_X7_areAlike_51.2.1.2.2) (by decide) ?_
              refine sg_istore_n (pc := 74) (j := 3) (dc_X7_areAlike_51.2.2.1.1) rfl (by decide) ?_
              first | refine sg_iincB (pc := 75) (dc_X7_areAlike_51.2.2.1.2) rfl (by decide) (by decide) (by omega) (by omega) ?_ | refine sg_iinc (pc := 75) (dc_X7_areAlike_51.2.2.1.2) rfl (by decide) (by decide) ?_
              refine sg_goto (pc := 78) (tgt := 26) (dc_X7_areAlike_51.2.2.2.1) (by decide) ?_
              refine sg_lsub (lv' := [(4, _), (3, _), (0, _), (1, _), (2, _)]) ⟨rfl, rfl, rfl, rfl, rfl, trivial⟩ ?_
              exact ih _ _ (by omega) (by
                obtain ⟨u1, u2, u3, u4⟩ : s = 1 ∧ p ≤ (L.length : Int) ∧ L.length = Z.length ∧ ∀ j : Nat, (j : Int) < p → fn_upper (L.getD j 0) = fn_upper (Z.getD j 0) := s0.elim (fun q => absurd q.1 (by omega)) id
                first
                  | exact Or.inr ⟨rfl, by omega, u3, fun j j0 => by
                      by_cases q : j = p.toNat
                      · subst q; omega
                      · exact u4 j (by omega)⟩
                  | exact Or.inl ⟨rfl, fun q => by have := q.2 p.toNat (by omega); omega⟩) (by first | exact jl_m1 hm (by omega) | exact jl_m2 hm (by omega) | omega)
            · refine sg_iconst (pc := 69) (z := 1) (dc_X7_areAlike_51.2.1.1.2) (by decide) ?_
              refine sg_goto (pc := 70) (tgt := 74) (dc_X7_areAlike_51.2.1.2.1) (by decide) ?_
              refine sg_istore_n (pc := 74) (j := 3) (dc_X7_areAlike_51.2.2.1.1) rfl (by decide) ?_
              first | refine sg_iincB (pc := 75) (dc_X7_areAlike_51.2.2.1.2) rfl (by decide) (by decide) (by omega) (by omega) ?_ | refine sg_iinc (pc := 75) (dc_X7_areAlike_51.2.2.1.2) rfl (by decide) (by decide) ?_
              refine sg_goto (pc := 78) (tgt := 26) (dc_X7_areAlike_51.2.2.2.1) (by decide) ?_
              refine sg_lsub (lv' := [(4, _), (3, _), (0, _), (1, _), (2, _)]) ⟨rfl, rfl, rfl, rfl, rfl, trivial⟩ ?_
              exact ih _ _ (by omega) (by
                obtain ⟨u1, u2, u3, u4⟩ : s = 1 ∧ p ≤ (L.length : Int) ∧ L.length = Z.length ∧ ∀ j : Nat, (j : Int) < p → fn_upper (L.getD j 0) = fn_upper (Z.getD j 0) := s0.elim (fun q => absurd q.1 (by omega)) id
                first
                  | exact Or.inr ⟨rfl, by omega, u3, fun j j0 => by
                      by_cases q : j = p.toNat
                      · subst q; omega
                      · exact u4 j (by omega)⟩
                  | exact Or.inl ⟨rfl, fun q => by have := q.2 p.toNat (by omega); omega⟩) (by first | exact jl_m1 hm (by omega) | exact jl_m2 hm (by omega) | omega)
    refine sg_lsub (lv' := [(4, _), (3, _), (0, _), (1, _), (2, _)]) ⟨rfl, rfl, rfl, rfl, rfl, trivial⟩ ?_
    exact loop26 _ _ _ (by omega) (by first | exact Or.inr ⟨rfl, by omega, by omega, fun j j0 => absurd j0 (by omega)⟩ | exact Or.inl ⟨rfl, fun q => by have := q.1; omega⟩) (Nat.lt_succ_self _)

set_option maxRecDepth 100000 in
theorem f_X7_orderOf {w : sg_W} {Q : sg_O → sg_H → Prop} {h : sg_H} (g : sg_G w) {d : Nat} (hd : 2 ≤ d) {this c a b : Nat} {L Z : List Int} (hA : md_X c h a L) (hB : md_X c h b Z) (hn : L.length ≤ 100) (hm : Z.length ≤ 100) (hQ : ∀ v : Int, v = fs_ord L Z → Q (.inl (some (sg_i v))) h) : sg_C w mi_X7_orderOf d 0 0 [sg_r this, sg_r a, sg_r b] h Q := by
  refine sg_of pn_X7 (Nat.le_of_ble_eq_true rfl) ?_
  refine sg_iconst (pc := 0) (z := 0) (dc_X7_orderOf_0.1.1.1.1) (by decide) ?_
  refine sg_istore_n (pc := 1) (j := 3) (dc_X7_orderOf_0.1.1.1.2) rfl (by decide) ?_
  have loop2 : ∀ (N : Nat) (p : Int), (0 ≤ p ∧ p ≤ (L.length : Int) ∧ p ≤ (Z.length : Int)) → (∀ j : Nat, (j : Int) < p → L.getD j 0 = Z.getD j 0) → ((L.length : Int) - p).toNat < N → sg_R w mi_X7_orderOf d 0 0 Q 2 [(3, sg_i p), (0, sg_r this), (1, sg_r a), (2, sg_r b)] [] h 0 0 := by
    intro N
    induction N with
    | zero => intro p p0 p1 hm; exact absurd hm (Nat.not_lt_zero _)
    | succ N ih =>
      intro p p0 p1 hm
      refine sg_iload_n (pc := 2) (j := 3) (dc_X7_orderOf_0.1.1.2.1) rfl rfl ?_
      refine sg_aload_n (pc := 3) (j := 1) (dc_X7_orderOf_0.1.1.2.2) rfl rfl ?_
      refine md_xlen (pc := 4) (dc_X7_orderOf_0.1.2.1.1) hA (by omega) ?_
      refine sg_icmp_ge (pc := 5) (tgt := 44) (dc_X7_orderOf_0.1.2.1.2) (by decide) (fun c5 => ?_) (fun c5 => ?_)
      · refine sg_aload_n (pc := 44) (j := 1) (dc_X7_orderOf_20.2.2.2.1) rfl rfl ?_
        refine md_xlen (pc := 45) (dc_X7_orderOf_20.2.2.2.2) hA (by omega) ?_
        refine sg_aload_n (pc := 46) (j := 2) (dc_X7_orderOf_46.1.1.1.1) rfl rfl ?_
        refine md_xlen (pc := 47) (dc_X7_orderOf_46.1.1.1.2) hB (by omega) ?_
        refine sg_icmp_ne (pc := 48) (tgt := 55) (dc_X7_orderOf_46.1.1.2.1) (by decide) (fun c48 => ?_) (fun c48 => ?_)
        · refine sg_aload_n (pc := 55) (j := 1) (dc_X7_orderOf_46.1.2.1.2) rfl rfl ?_
          refine md_xlen (pc := 56) (dc_X7_orderOf_46.1.2.2.1) hA (by omega) ?_
          refine sg_aload_n (pc := 57) (j := 2) (dc_X7_orderOf_46.1.2.2.2) rfl rfl ?_
          refine md_xlen (pc := 58) (dc_X7_orderOf_46.2.1.1.1) hB (by omega) ?_
          refine sg_icmp_ge (pc := 59) (tgt := 66) (dc_X7_orderOf_46.2.1.1.2) (by decide) (fun c59 => ?_) (fun c59 => ?_)
          · refine sg_iconst (pc := 66) (z := 1) (dc_X7_orderOf_46.2.2.1.1) (by decide) ?_
            refine sg_iret (pc := 67) (dc_X7_orderOf_46.2.2.1.2) rfl (by first | exact Nat.le_of_ble_eq_true rfl | omega) (by first | exact Nat.le_of_ble_eq_true rfl | omega) ?_
            first
              | (exfalso; omega)
              | exact hQ _ (fs_theE fs_oU (Or.inr ⟨fun i i0 i1 => p1 i (by omega), by unfold fs_cmp; first | rw [if_pos (by omega)] | (rw [if_neg (by omega)]; first | rw [if_pos (by omega)] | rw [if_neg (by omega)])⟩))
          · refine sg_iconst (pc := 62) (z := -1) (dc_X7_orderOf_46.2.1.2.1) (by decide) ?_
            refine sg_goto (pc := 63) (tgt := 67) (dc_X7_orderOf_46.2.1.2.2) (by decide) ?_
            refine sg_iret (pc := 67) (dc_X7_orderOf_46.2.2.1.2) rfl (by first | exact Nat.le_of_ble_eq_true rfl | omega) (by first | exact Nat.le_of_ble_eq_true rfl | omega) ?_
            first
              | (exfalso; omega)
              | exact hQ _ (fs_theE fs_oU (Or.inr ⟨fun i i0 i1 => p1 i (by omega), by unfold fs_cmp; first | rw [if_pos (by omega)] | (rw [if_neg (by omega)]; first | rw [if_pos (by omega)] | rw [if_neg (by omega)])⟩))
        · refine sg_iconst (pc := 51) (z := 0) (dc_X7_orderOf_46.1.1.2.2) (by decide) ?_
          refine sg_goto (pc := 52) (tgt := 67) (dc_X7_orderOf_46.1.2.1.1) (by decide) ?_
          refine sg_iret (pc := 67) (dc_X7_orderOf_46.2.2.1.2) rfl (by first | exact Nat.le_of_ble_eq_true rfl | omega) (by first | exact Nat.le_of_ble_eq_true rfl | omega) ?_
          first
            | (exfalso; omega)
            | exact hQ _ (fs_theE fs_oU (Or.inr ⟨fun i i0 i1 => p1 i (by omega), by unfold fs_cmp; first | rw [if_pos (by omega)] | (rw [if_neg (by omega)]; first | rw [if_pos (by omega)] | rw [if_neg (by omega)])⟩))
      · refine sg_iload_n (pc := 8) (j := 3) (dc_X7_orderOf_0.1.2.2.1) rfl rfl ?_
        refine sg_aload_n (pc := 9) (j := 2) (dc_X7_orderOf_0.1.2.2.2) rfl rfl ?_
        refine md_xlen (pc := 10) (dc_X7_orderOf_0.2.1.1.1) hB (by omega) ?_
        refine sg_icmp_ge (pc := 11) (tgt := 44) (dc_X7_orderOf_0.2.1.1.2) (by decide) (fun c11 => ?_) (fun c11 => ?_)
        · refine sg_aload_n (pc := 44) (j := 1) (dc_X7_orderOf_20.2.2.2.1) rfl rfl ?_
          refine md_xlen (pc := 45) (dc_X7_orderOf_20.2.2.2.2) hA (by omega) ?_
          refine sg_aload_n (pc := 46) (j := 2) (dc_X7_orderOf_46.1.1.1.1) rfl rfl ?_
          refine md_xlen (pc := 47) (dc_X7_orderOf_46.1.1.1.2) hB (by omega) ?_
          refine sg_icmp_ne (pc := 48) (tgt := 55) (dc_X7_orderOf_46.1.1.2.1) (by decide) (fun c48 => ?_) (fun c48 => ?_)
          · refine sg_aload_n (pc := 55) (j := 1) (dc_X7_orderOf_46.1.2.1.2) rfl rfl ?_
            refine md_xlen (pc := 56) (dc_X7_orderOf_46.1.2.2.1) hA (by omega) ?_
            refine sg_aload_n (pc := 57) (j := 2) (dc_X7_orderOf_46.1.2.2.2) rfl rfl ?_
            refine md_xlen (pc := 58) (dc_X7_orderOf_46.2.1.1.1) hB (by omega) ?_
            refine sg_icmp_ge (pc := 59) (tgt := 66) (dc_X7_orderOf_46.2.1.1.2) (by decide) (fun c59 => ?_) (fun c59 => ?_)
            · refine sg_iconst (pc := 66) (z := 1) (dc_X7_orderOf_46.2.2.1.1) (by decide) ?_
              refine sg_iret (pc := 67) (dc_X7_orderOf_46.2.2.1.2) rfl (by first | exact Nat.le_of_ble_eq_true rfl | omega) (by first | exact Nat.le_of_ble_eq_true rfl | omega) ?_
              first
                | (exfalso; omega)
                | exact hQ _ (fs_theE fs_oU (Or.inr ⟨fun i i0 i1 => p1 i (by omega), by unfold fs_cmp; first | rw [if_pos (by omega)] | (rw [if_neg (by omega)]; first | rw [if_pos (by omega)] | rw [if_neg (by omega)])⟩))
            · refine sg_iconst (pc := 62) (z := -1) (dc_X7_orderOf_46.2.1.2.1) (by decide) ?_
              refine sg_goto (pc := 63) (tgt := 67) (dc_X7_orderOf_46.2.1.2.2) (by decide) ?_
              refine sg_iret (pc := 67) (dc_X7_orderOf_46.2.2.1.2) rfl (by first | exact Nat.le_of_ble_eq_true rfl | omega) (by first | exact Nat.le_of_ble_eq_true rfl | omega) ?_
              first
                | (exfalso; omega)
                | exact hQ _ (fs_theE fs_oU (Or.inr ⟨fun i i0 i1 => p1 i (by omega), by unfold fs_cmp; first | rw [if_pos (by omega)] | (rw [if_neg (by omega)]; first | rw [if_pos (by omega)] | rw [if_neg (by omega)])⟩))
          · refine sg_iconst (pc := 51) (z := 0) (dc_X7_orderOf_46.1.1.2.2) (by decide) ?_
            refine sg_goto (pc := 52) (tgt := 67) (dc_X7_orderOf_46.1.2.1.1) (by decide) ?_
            refine sg_iret (pc := 67) (dc_X7_orderOf_46.2.2.1.2) rfl (by first | exact Nat.le_of_ble_eq_true rfl | omega) (by first | exact Nat.le_of_ble_eq_true rfl | omega) ?_
            first
              | (exfalso; omega)
              | exact hQ _ (fs_theE fs_oU (Or.inr ⟨fun i i0 i1 => p1 i (by omega), by unfold fs_cmp; first | rw [if_pos (by omega)] | (rw [if_neg (by omega)]; first | rw [if_pos (by omega)] | rw [if_neg (by omega)])⟩))
        · refine sg_aload_n (pc := 14) (j := 1) (dc_X7_orderOf_0.2.1.2.1) rfl rfl ?_
          refine sg_iload_n (pc := 15) (j := 3) (dc_X7_orderOf_0.2.1.2.2) rfl rfl ?_
          refine md_xld (pc := 16) (dc_X7_orderOf_0.2.2.1.1) hA (by omega) (by omega) (fun g16 => ?_)
          refine sg_aload_n (pc := 17) (j := 2) (dc_X7_orderOf_0.2.2.1.2) rfl rfl ?_
          refine sg_iload_n (pc := 18) (j := 3) (dc_X7_orderOf_0.2.2.2.1) rfl rfl ?_
          refine md_xld (pc := 19) (dc_X7_orderOf_0.2.2.2.2) hB (by omega) (by omega) (fun g19 => ?_)
          refine sg_icmp_eq (pc := 20) (tgt := 38) (dc_X7_orderOf_20.1.1.1.1) (by decide) (fun c20 => ?_) (fun c20 => ?_)
          · first | refine sg_iincB (pc := 38) (dc_X7_orderOf_20.2.2.1.1) rfl (by decide) (by decide) (by omega) (by omega) ?_ | refine sg_iinc (pc := 38) (dc_X7_orderOf_20.2.2.1.1) rfl (by decide) (by decide) ?_
            refine sg_goto (pc := 41) (tgt := 2) (dc_X7_orderOf_20.2.2.1.2) (by decide) ?_
            refine sg_lsub (lv' := [(3, _), (0, _), (1, _), (2, _)]) ⟨rfl, rfl, rfl, rfl, trivial⟩ ?_
            exact ih _ (by omega) (fun j j0 => by
              by_cases q : j = p.toNat
              · subst q; omega
              · exact p1 j (by omega)) (by first | exact jl_m1 hm (by omega) | exact jl_m2 hm (by omega) | omega)
          · refine sg_aload_n (pc := 23) (j := 1) (dc_X7_orderOf_20.1.1.1.2) rfl rfl ?_
            refine sg_iload_n (pc := 24) (j := 3) (dc_X7_orderOf_20.1.1.2.1) rfl rfl ?_
            refine md_xld (pc := 25) (dc_X7_orderOf_20.1.1.2.2) hA (by omega) (by omega) (fun g25 => ?_)
            refine sg_aload_n (pc := 26) (j := 2) (dc_X7_orderOf_20.1.2.1.1) rfl rfl ?_
            refine sg_iload_n (pc := 27) (j := 3) (dc_X7_orderOf_20.1.2.1.2) rfl rfl ?_
            refine md_xld (pc := 28) (dc_X7_orderOf_20.1.2.2.1) hB (by omega) (by omega) (fun g28 => ?_)
            refine sg_icmp_ge (pc := 29) (tgt := 36) (dc_X7_orderOf_20.1.2.2.2) (by decide) (fun c29 => ?_) (fun c29 => ?_)
            · refine sg_iconst (pc := 36) (z := 1) (dc_X7_orderOf_20.2.1.2.1) (by decide) ?_
              refine sg_iret (pc := 37) (dc_X7_orderOf_20.2.1.2.2) rfl (by first | exact Nat.le_of_ble_eq_true rfl | omega) (by first | exact Nat.le_of_ble_eq_true rfl | omega) ?_
              exact hQ _ (fs_theE fs_oU (Or.inl ⟨p.toNat, by omega, by omega, fun i hi => p1 i (by omega), by omega, by unfold fs_cmp; rw [if_neg (by omega)]; first | rw [if_pos (by omega)] | rw [if_neg (by omega)]⟩))
            · refine sg_iconst (pc := 32) (z := -1) (dc_X7_orderOf_20.2.1.1.1) (by decide) ?_
              refine sg_goto (pc := 33) (tgt := 37) (dc_X7_orderOf_20.2.1.1.2) (by decide) ?_
              refine sg_iret (pc := 37) (dc_X7_orderOf_20.2.1.2.2) rfl (by first | exact Nat.le_of_ble_eq_true rfl | omega) (by first | exact Nat.le_of_ble_eq_true rfl | omega) ?_
              exact hQ _ (fs_theE fs_oU (Or.inl ⟨p.toNat, by omega, by omega, fun i hi => p1 i (by omega), by omega, by unfold fs_cmp; rw [if_neg (by omega)]; first | rw [if_pos (by omega)] | rw [if_neg (by omega)]⟩))
  refine sg_lsub (lv' := [(3, _), (0, _), (1, _), (2, _)]) ⟨rfl, rfl, rfl, rfl, trivial⟩ ?_
  exact loop2 _ _ (by omega) (fun j j0 => absurd j0 (by omega)) (Nat.lt_succ_self _)

