set_option maxRecDepth 100000 in
theorem f_X7_valuesOf {w : sg_W} {Q : sg_O → sg_H → Prop} {h : sg_H} (g : sg_G w) {d : Nat} (hd : 6 ≤ d) {M : Nat} {row : Int} (hv : 0 ≤ row ∧ row < 4) {A : fa_A} {L : List Int} (hA : md_ab h M = A) (hL : fa_L A row.toNat = L) (hx : md_M w h M) (hQ : ∀ v : Int, v = fs_vs L L.length → Q (.inl (some (sg_i v))) h) : sg_C w mi_X7_valuesOf d 0 0 [sg_r M, sg_i row] h Q := by
  refine sg_of pn_X7 (Nat.le_of_ble_eq_true rfl) ?_
  have y0 := md_Y0 hx
  have hk := hx.2.1
  refine sg_iconst (pc := 0) (z := 0) (dc_X7_valuesOf_0.1.1.1.1) (by decide) ?_
  refine sg_istore_n (pc := 1) (j := 2) (dc_X7_valuesOf_0.1.1.1.2) rfl (by decide) ?_
  refine sg_aload_n (pc := 2) (j := 0) (dc_X7_valuesOf_0.1.1.2.1) rfl rfl ?_
  refine md_grw (pc := 3) g (dc_X7_valuesOf_0.1.1.2.2) fk_X7_9 (by assumption) (fun r3 => ?_)
  refine sg_iload_n (pc := 6) (j := 1) (dc_X7_valuesOf_0.1.2.1.1) rfl rfl ?_
  first | refine md_alX (pc := 7) (dc_X7_valuesOf_0.1.2.1.2) hA (by assumption) (by assumption) (by omega) (by omega) (fun X7 l7 => ?_) | refine md_alXt (pc := 7) (dc_X7_valuesOf_0.1.2.1.2) hA (by assumption) (by assumption) (by omega) (by omega) (fun X7 l7 => ?_)
  refine sg_astore_n (pc := 8) (j := 3) (dc_X7_valuesOf_0.1.2.2.1) rfl (by decide) ?_
  refine sg_aload_n (pc := 9) (j := 3) (dc_X7_valuesOf_0.1.2.2.2) rfl rfl ?_
  refine md_xlen (pc := 10) (dc_X7_valuesOf_0.2.1.1.1) (by assumption) (by omega) ?_
  refine sg_istore (pc := 11) (dc_X7_valuesOf_0.2.1.1.2) (by decide) ?_
  refine sg_iconst (pc := 13) (z := 0) (dc_X7_valuesOf_0.2.1.2.1) (by decide) ?_
  refine sg_istore (pc := 14) (dc_X7_valuesOf_0.2.1.2.2) (by decide) ?_
  have loop16 : ∀ (N : Nat) (p s : Int), (0 ≤ p ∧ p ≤ (L.length : Int)) → (s = fs_vs L p.toNat) → ((L.length : Int) - p).toNat < N → sg_R w mi_X7_valuesOf d 0 0 Q 16 [(5, sg_i p), (2, sg_i s), (0, sg_r M), (1, sg_i row), (3, sg_r (md_a h (md_r h M) row)), (4, sg_i (L.length : Int))] [] h 0 0 := by
    intro N
    induction N with
    | zero => intro p s p0 s0 hm; exact absurd hm (Nat.not_lt_zero _)
    | succ N ih =>
      intro p s p0 s0 hm
      have sb := fs_vsb (L := L) (n := p.toNat)
      rw [← s0] at sb
      refine sg_iload (pc := 16) (dc_X7_valuesOf_0.2.2.1.1) rfl ?_
      refine sg_iload (pc := 18) (dc_X7_valuesOf_0.2.2.1.2) rfl ?_
      refine sg_icmp_ge (pc := 20) (tgt := 47) (dc_X7_valuesOf_0.2.2.2.1) (by decide) (fun c20 => ?_) (fun c20 => ?_)
      · refine sg_iload_n (pc := 47) (j := 2) (dc_X7_valuesOf_24.2.2.1.1) rfl rfl ?_
        refine sg_iret (pc := 48) (dc_X7_valuesOf_24.2.2.1.2) rfl (by first | exact Nat.le_of_ble_eq_true rfl | omega) (by first | exact Nat.le_of_ble_eq_true rfl | omega) ?_
        exact hQ _ (by rw [s0, show p.toNat = L.length by omega])
      · refine sg_aload_n (pc := 23) (j := 3) (dc_X7_valuesOf_0.2.2.2.2) rfl rfl ?_
        refine sg_iload (pc := 24) (dc_X7_valuesOf_24.1.1.1.1) rfl ?_
        refine md_xld (pc := 26) (dc_X7_valuesOf_24.1.1.1.2) (by assumption) (by omega) (by omega) (fun g26 => ?_)
        refine sg_istore (pc := 27) (dc_X7_valuesOf_24.1.1.2.1) (by decide) ?_
        refine sg_iload_n (pc := 29) (j := 2) (dc_X7_valuesOf_24.1.1.2.2) rfl rfl ?_
        refine sg_iconst (pc := 30) (z := 0) (dc_X7_valuesOf_24.1.2.1.1) (by decide) ?_
        refine sg_iload (pc := 31) (dc_X7_valuesOf_24.1.2.1.2) rfl ?_
        refine sg_cS1 (pc := 33) (d' := d - 1) (mc' := 0) (ms' := 0) g (dc_X7_valuesOf_24.1.2.2.1) cb_X7_valueOf ml_X7_33 ms_X7_valueOf (Nat.le_of_ble_eq_true rfl) (by first | exact jl_d0 hd rfl | omega) (by first | exact Nat.le_of_ble_eq_true rfl | omega) (by first | exact Nat.le_of_ble_eq_true rfl | omega) ?_
        refine s_X7_valueOf g (by first | exact jl_d1 hd rfl | omega) (fun z33 h33 => sg_K1 ?_)
        (try simp only [fm_no, fm_one, fn_betw, fn_sign, fn_radix, fn_high, fn_low] at h33)
        refine sg_mmax (pc := 36) g (dc_X7_valuesOf_24.1.2.2.2) mx_X7_204 mx_st mx_in mx_co (Nat.le_of_ble_eq_true rfl) (by omega) (by omega) (by omega) (fun z36 e36 => ?_)
        have bk := fs_vss (L := L) (p := p) (by omega)
        rw [← h33] at bk
        have nb := fn_vb (L.getD p.toNat 0)
        rw [← h33] at nb
        first | refine sg_iaddB (pc := 39) (dc_X7_valuesOf_24.2.1.1.1) (by omega) (by omega) ?_ | refine sg_iadd (pc := 39) (dc_X7_valuesOf_24.2.1.1.1) ?_
        refine sg_istore_n (pc := 40) (j := 2) (dc_X7_valuesOf_24.2.1.1.2) rfl (by decide) ?_
        first | refine sg_iincB (pc := 41) (dc_X7_valuesOf_24.2.1.2.1) rfl (by decide) (by decide) (by omega) (by omega) ?_ | refine sg_iinc (pc := 41) (dc_X7_valuesOf_24.2.1.2.1) rfl (by decide) (by decide) ?_
        refine sg_goto (pc := 44) (tgt := 16) (dc_X7_valuesOf_24.2.1.2.2) (by decide) ?_
        refine sg_lsub (lv' := [(5, _), (2, _), (0, _), (1, _), (3, _), (4, _)]) ⟨rfl, rfl, rfl, rfl, rfl, rfl, trivial⟩ ?_
        exact ih _ _ (by omega) (by omega) (by first | exact jl_m1 hm (by omega) | exact jl_m2 hm (by omega) | omega)
  refine sg_lsub (lv' := [(5, _), (2, _), (0, _), (1, _), (3, _), (4, _)]) ⟨rfl, rfl, rfl, rfl, rfl, rfl, trivial⟩ ?_
  exact loop16 _ _ _ (by omega) rfl (Nat.lt_succ_self _)

set_option maxRecDepth 100000 in
theorem f_X7_values {w : sg_W} {Q : sg_O → sg_H → Prop} {h : sg_H} (g : sg_G w) {d : Nat} (hd : 9 ≤ d) {M : Nat} {row : Int} {A : fa_A} {L : List Int} (hA : md_ab h M = A) (hL : fa_L A row.toNat = L) (hx : md_M w h M) (hQ : ∀ (v : Int) (h' : sg_H), ((row < 0 ∨ 4 ≤ row) → md_t h' M = 1) → (¬ (row < 0 ∨ 4 ≤ row) → md_t h' M = 0) → (md_t h' M = 0 → v = fs_vs L L.length) → md_Y w h h' M → Q (.inl (some (sg_i v))) h') : sg_C w mi_X7_values d 0 0 [sg_r M, sg_i row] h Q := by
  refine sg_of pn_X7 (Nat.le_of_ble_eq_true rfl) ?_
  have y0 := md_Y0 hx
  have hk := hx.2.1
  refine sg_aload_n (pc := 0) (j := 0) (dc_X7_values_0.1.1.1.1) rfl rfl ?_
  refine sg_iload_n (pc := 1) (j := 1) (dc_X7_values_0.1.1.1.2) rfl rfl ?_
  refine sg_cS1 (pc := 2) (d' := d - 1) (mc' := 0) (ms' := 0) g (dc_X7_values_0.1.1.2.1) cb_X7_isNoRow ml_X7_68 ms_X7_isNoRow (Nat.le_of_ble_eq_true rfl) (by first | exact jl_d0 hd rfl | omega) (by first | exact Nat.le_of_ble_eq_true rfl | omega) (by first | exact Nat.le_of_ble_eq_true rfl | omega) ?_
  refine s_X7_isNoRow g (by first | exact jl_d1 hd rfl | omega) (fun z2 h2 b2 => sg_K1 ?_)
  (try simp only [fm_no, fm_one, fn_betw, fn_sign, fn_radix, fn_high, fn_low] at h2)
  refine sg_iconst (pc := 5) (z := 1) (dc_X7_values_0.1.1.2.2) (by decide) ?_
  refine sg_cE2 (pc := 6) (d' := d - 1) (mc' := 0) (ms' := 0) 8 g (dc_X7_values_0.1.2.1.1) cb_X7_start ml_X7_71 mn_X7_start rfl mv_X7_start (Nat.le_of_ble_eq_true rfl) (md_oc (by assumption)) (Nat.le_of_ble_eq_true rfl) (by first | exact jl_d0 hd rfl | omega) (by first | exact Nat.le_of_ble_eq_true rfl | omega) (by first | exact Nat.le_of_ble_eq_true rfl | omega) ?_
  refine s_X7_start g (by first | exact jl_d1 hd rfl | omega) (by omega) (by assumption) (fun v6 h6 b6 i6 t6 s6 u6 y6 => sg_K1 ?_)
  have x6 := y6.1
  have hk6 := x6.2.1
  have y6 := md_Yt (h0 := h) (by assumption) y6
  refine sg_if_eq (pc := 9) (tgt := 16) (dc_X7_values_0.1.2.1.2) (by decide) (fun c9 => ?_) (fun c9 => ?_)
  · refine sg_aload_n (pc := 16) (j := 0) (dc_X7_values_0.2.1.1.1) rfl rfl ?_
    refine sg_iload_n (pc := 17) (j := 1) (dc_X7_values_0.2.1.1.2) rfl rfl ?_
    refine sg_cE1 (pc := 18) (d' := d - 1) (mc' := 0) (ms' := 0) 8 g (dc_X7_values_0.2.1.2.1) cb_X7_valuesOf ml_X7_209 mn_X7_valuesOf rfl mv_X7_valuesOf (Nat.le_of_ble_eq_true rfl) (md_oc (by assumption)) (Nat.le_of_ble_eq_true rfl) (by first | exact jl_d0 hd rfl | omega) (by first | exact Nat.le_of_ble_eq_true rfl | omega) (by first | exact Nat.le_of_ble_eq_true rfl | omega) ?_
    refine f_X7_valuesOf g (by first | exact jl_d1 hd rfl | omega) (by omega) (md_Ya (h0 := h) (by assumption) hA) hL (by assumption) (fun v18 e18 => sg_K1 ?_)
    refine sg_iret (pc := 21) (dc_X7_values_0.2.1.2.2) rfl (by first | exact Nat.le_of_ble_eq_true rfl | omega) (by first | exact Nat.le_of_ble_eq_true rfl | omega) ?_
    first
      | exact hQ _ _ (by omega) (by omega) (fun q => absurd q (by omega)) (by assumption)
      | exact hQ _ _ (by omega) (by omega) (fun _ => e18) (by assumption)
  · refine sg_iconst (pc := 12) (z := 0) (dc_X7_values_0.1.2.2.1) (by decide) ?_
    refine sg_goto (pc := 13) (tgt := 21) (dc_X7_values_0.1.2.2.2) (by decide) ?_
    refine sg_iret (pc := 21) (dc_X7_values_0.2.1.2.2) rfl (by first | exact Nat.le_of_ble_eq_true rfl | omega) (by first | exact Nat.le_of_ble_eq_true rfl | omega) ?_
    first
      | exact hQ _ _ (by omega) (by omega) (fun q => absurd q (by omega)) (by assumption)
      | exact hQ _ _ (by omega) (by omega) (fun _ => e18) (by assumption)

