set_option maxRecDepth 100000 in
theorem f_X7_sum {w : sg_W} {Q : sg_O → sg_H → Prop} {h : sg_H} (g : sg_G w) {d : Nat} (hd : 9 ≤ d) {M : Nat} {row radix : Int} {A : fa_A} {L : List Int} (hA : md_ab h M = A) (hL : fa_L A row.toNat = L) (hx : md_M w h M) (hQ : ∀ (v : Int) (h' : sg_H), ((row < 0 ∨ 4 ≤ row) → md_t h' M = 1) → (¬ (row < 0 ∨ 4 ≤ row) → md_t h' M = 0) → (md_t h' M = 0 → v = fs_sm L radix L.length) → md_Y w h h' M → Q (.inl (some (sg_i v))) h') : sg_C w mi_X7_sum d 0 0 [sg_r M, sg_i row, sg_i radix] h Q := by
  refine sg_of pn_X7 (Nat.le_of_ble_eq_true rfl) ?_
  have y0 := md_Y0 hx
  have hk := hx.2.1
  refine sg_aload_n (pc := 0) (j := 0) (dc_X7_sum_0.1.1.1.1) rfl rfl ?_
  refine sg_iload_n (pc := 1) (j := 1) (dc_X7_sum_0.1.1.1.2) rfl rfl ?_
  refine sg_cS1 (pc := 2) (d' := d - 1) (mc' := 0) (ms' := 0) g (dc_X7_sum_0.1.1.2.1) cb_X7_isNoRow ml_X7_68 ms_X7_isNoRow (Nat.le_of_ble_eq_true rfl) (by first | exact jl_d0 hd rfl | omega) (by first | exact Nat.le_of_ble_eq_true rfl | omega) (by first | exact Nat.le_of_ble_eq_true rfl | omega) ?_
  refine s_X7_isNoRow g (by first | exact jl_d1 hd rfl | omega) (fun z2 h2 b2 => sg_K1 ?_)
  (try simp only [fm_no, fm_one, fn_betw, fn_sign, fn_radix, fn_high, fn_low] at h2)
  refine sg_iconst (pc := 5) (z := 1) (dc_X7_sum_0.1.1.2.2) (by decide) ?_
  refine sg_cE2 (pc := 6) (d' := d - 1) (mc' := 0) (ms' := 0) 8 g (dc_X7_sum_0.1.2.1.1) cb_X7_start ml_X7_71 mn_X7_start rfl mv_X7_start (Nat.le_of_ble_eq_true rfl) (md_oc (by assumption)) (Nat.le_of_ble_eq_true rfl) (by first | exact jl_d0 hd rfl | omega) (by first | exact Nat.le_of_ble_eq_true rfl | omega) (by first | exact Nat.le_of_ble_eq_true rfl | omega) ?_
  refine s_X7_start g (by first | exact jl_d1 hd rfl | omega) (by omega) (by assumption) (fun v6 h6 b6 i6 t6 s6 u6 y6 => sg_K1 ?_)
  have x6 := y6.1
  have hk6 := x6.2.1
  have y6 := md_Yt (h0 := h) (by assumption) y6
  refine sg_if_eq (pc := 9) (tgt := 14) (dc_X7_sum_0.1.2.1.2) (by decide) (fun c9 => ?_) (fun c9 => ?_)
  · refine sg_iconst (pc := 14) (z := 0) (dc_X7_sum_0.2.1.1.1) (by decide) ?_
    refine sg_istore_n (pc := 15) (j := 3) (dc_X7_sum_0.2.1.1.2) rfl (by decide) ?_
    refine sg_aload_n (pc := 16) (j := 0) (dc_X7_sum_0.2.1.2.1) rfl rfl ?_
    refine md_grw (pc := 17) g (dc_X7_sum_0.2.1.2.2) fk_X7_9 (by assumption) (fun r17 => ?_)
    refine sg_iload_n (pc := 20) (j := 1) (dc_X7_sum_0.2.2.1.1) rfl rfl ?_
    first | refine md_alX (pc := 21) (dc_X7_sum_0.2.2.1.2) hA (by assumption) (by assumption) (by omega) (by omega) (fun X21 l21 => ?_) | refine md_alXt (pc := 21) (dc_X7_sum_0.2.2.1.2) hA (by assumption) (by assumption) (by omega) (by omega) (fun X21 l21 => ?_)
    refine sg_astore (pc := 22) (dc_X7_sum_0.2.2.2.1) (by decide) ?_
    refine sg_aload (pc := 24) (dc_X7_sum_0.2.2.2.2) rfl ?_
    refine md_xlen (pc := 26) (dc_X7_sum_26.1.1.1.1) (by assumption) (by omega) ?_
    refine sg_istore (pc := 27) (dc_X7_sum_26.1.1.1.2) (by decide) ?_
    refine sg_iconst (pc := 29) (z := 0) (dc_X7_sum_26.1.1.2.1) (by decide) ?_
    refine sg_istore (pc := 30) (dc_X7_sum_26.1.1.2.2) (by decide) ?_
    have loop32 : ∀ (N : Nat) (p s : Int), (0 ≤ p ∧ p ≤ (L.length : Int)) → (s = fs_sm L radix p.toNat) → ((L.length : Int) - p).toNat < N → sg_R w mi_X7_sum d 0 0 Q 32 [(6, sg_i p), (3, sg_i s), (0, sg_r M), (1, sg_i row), (2, sg_i radix), (4, sg_r (md_a h6 (md_r h6 M) row)), (5, sg_i (L.length : Int))] [] h6 0 0 := by
      intro N
      induction N with
      | zero => intro p s p0 s0 hm; exact absurd hm (Nat.not_lt_zero _)
      | succ N ih =>
        intro p s p0 s0 hm
        have sb := fs_smb (L := L) (r := radix) (n := p.toNat)
        rw [← s0] at sb
        refine sg_iload (pc := 32) (dc_X7_sum_26.1.2.1.1) rfl ?_
        refine sg_iload (pc := 34) (dc_X7_sum_26.1.2.1.2) rfl ?_
        refine sg_icmp_ge (pc := 36) (tgt := 65) (dc_X7_sum_26.1.2.2.1) (by decide) (fun c36 => ?_) (fun c36 => ?_)
        · refine sg_iload_n (pc := 65) (j := 3) (dc_X7_sum_54.2.1.2) rfl rfl ?_
          refine sg_iret (pc := 66) (dc_X7_sum_54.2.2.1) rfl (by first | exact Nat.le_of_ble_eq_true rfl | omega) (by first | exact Nat.le_of_ble_eq_true rfl | omega) ?_
          first
            | exact hQ _ _ (by omega) (by omega) (fun q => absurd q (by omega)) (by assumption)
            | exact hQ _ _ (by omega) (by omega) (fun _ => (by rw [s0, show p.toNat = L.length by omega])) (by assumption)
        · refine sg_aload (pc := 39) (dc_X7_sum_26.1.2.2.2) rfl ?_
          refine sg_iload (pc := 41) (dc_X7_sum_26.2.1.1.1) rfl ?_
          refine md_xld (pc := 43) (dc_X7_sum_26.2.1.1.2) (by assumption) (by omega) (by omega) (fun g43 => ?_)
          refine sg_istore (pc := 44) (dc_X7_sum_26.2.1.2.1) (by decide) ?_
          refine sg_iload_n (pc := 46) (j := 3) (dc_X7_sum_26.2.1.2.2) rfl rfl ?_
          refine sg_iconst (pc := 47) (z := 0) (dc_X7_sum_26.2.2.1.1) (by decide) ?_
          refine sg_iload (pc := 48) (dc_X7_sum_26.2.2.1.2) rfl ?_
          refine sg_iload_n (pc := 50) (j := 2) (dc_X7_sum_26.2.2.2.1) rfl rfl ?_
          refine sg_cS2 (pc := 51) (d' := d - 1) (mc' := 0) (ms' := 0) g (dc_X7_sum_26.2.2.2.2) cb_X7_numberOf ml_X7_115 ms_X7_numberOf (Nat.le_of_ble_eq_true rfl) (by first | exact jl_d0 hd rfl | omega) (by first | exact Nat.le_of_ble_eq_true rfl | omega) (by first | exact Nat.le_of_ble_eq_true rfl | omega) ?_
          refine s_X7_numberOf g (by first | exact jl_d1 hd rfl | omega) (fun z51 h51 => sg_K1 ?_)
          (try simp only [fm_no, fm_one, fn_betw, fn_sign, fn_radix, fn_high, fn_low] at h51)
          refine sg_mmax (pc := 54) g (dc_X7_sum_54.1.1.1) mx_X7_204 mx_st mx_in mx_co (Nat.le_of_ble_eq_true rfl) (by omega) (by omega) (by omega) (fun z54 e54 => ?_)
          have bk := fs_sms (L := L) (r := radix) (p := p) (by omega)
          rw [← h51] at bk
          have nb := fn_nb (L.getD p.toNat 0) radix
          rw [← h51] at nb
          first | refine sg_iaddB (pc := 57) (dc_X7_sum_54.1.1.2) (by omega) (by omega) ?_ | refine sg_iadd (pc := 57) (dc_X7_sum_54.1.1.2) ?_
          refine sg_istore_n (pc := 58) (j := 3) (dc_X7_sum_54.1.2.1) rfl (by decide) ?_
          first | refine sg_iincB (pc := 59) (dc_X7_sum_54.1.2.2) rfl (by decide) (by decide) (by omega) (by omega) ?_ | refine sg_iinc (pc := 59) (dc_X7_sum_54.1.2.2) rfl (by decide) (by decide) ?_
          refine sg_goto (pc := 62) (tgt := 32) (dc_X7_sum_54.2.1.1) (by decide) ?_
          refine sg_lsub (lv' := [(6, _), (3, _), (0, _), (1, _), (2, _), (4, _), (5, _)]) ⟨rfl, rfl, rfl, rfl, rfl, rfl, rfl, trivial⟩ ?_
          exact ih _ _ (by omega) (by omega) (by first | exact jl_m1 hm (by omega) | exact jl_m2 hm (by omega) | omega)
    refine sg_lsub (lv' := [(6, _), (3, _), (0, _), (1, _), (2, _), (4, _), (5, _)]) ⟨rfl, rfl, rfl, rfl, rfl, rfl, rfl, trivial⟩ ?_
    exact loop32 _ _ _ (by omega) rfl (Nat.lt_succ_self _)
  · refine sg_iconst (pc := 12) (z := 0) (dc_X7_sum_0.1.2.2.1) (by decide) ?_
    refine sg_iret (pc := 13) (dc_X7_sum_0.1.2.2.2) rfl (by first | exact Nat.le_of_ble_eq_true rfl | omega) (by first | exact Nat.le_of_ble_eq_true rfl | omega) ?_
    first
      | exact hQ _ _ (by omega) (by omega) (fun q => absurd q (by omega)) (by assumption)
      | exact hQ _ _ (by omega) (by omega) (fun _ => (by rw [s0, show p.toNat = L.length by omega])) (by assumption)

