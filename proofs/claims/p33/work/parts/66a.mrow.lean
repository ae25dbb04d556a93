set_option maxRecDepth 100000 in
theorem f_X7_countOf {w : sg_W} {Q : sg_O → sg_H → Prop} {h : sg_H} (g : sg_G w) {d : Nat} (hd : 6 ≤ d) {M : Nat} {row kind : Int} (hv : 0 ≤ row ∧ row < 4 ∧ 0 ≤ kind ∧ kind ≤ 4) {A : fa_A} {L : List Int} (hA : md_ab h M = A) (hL : fa_L A row.toNat = L) (hx : md_M w h M) (hQ : ∀ v : Int, v = fs_cnt L kind L.length → Q (.inl (some (sg_i v))) h) : sg_C w mi_X7_countOf d 0 0 [sg_r M, sg_i row, sg_i kind] h Q := by
  refine sg_of pn_X7 (Nat.le_of_ble_eq_true rfl) ?_
  have y0 := md_Y0 hx
  have hk := hx.2.1
  refine sg_iconst (pc := 0) (z := 0) (dc_X7_countOf_0.1.1.1.1) (by decide) ?_
  refine sg_istore_n (pc := 1) (j := 3) (dc_X7_countOf_0.1.1.1.2) rfl (by decide) ?_
  refine sg_aload_n (pc := 2) (j := 0) (dc_X7_countOf_0.1.1.2.1) rfl rfl ?_
  refine md_grw (pc := 3) g (dc_X7_countOf_0.1.1.2.2) fk_X7_9 (by assumption) (fun r3 => ?_)
  refine sg_iload_n (pc := 6) (j := 1) (dc_X7_countOf_0.1.2.1.1) rfl rfl ?_
  first | refine md_alX (pc := 7) (dc_X7_countOf_0.1.2.1.2) hA (by assumption) (by assumption) (by omega) (by omega) (fun X7 l7 => ?_) | refine md_alXt (pc := 7) (dc_X7_countOf_0.1.2.1.2) hA (by assumption) (by assumption) (by omega) (by omega) (fun X7 l7 => ?_)
  refine sg_astore (pc := 8) (dc_X7_countOf_0.1.2.2.1) (by decide) ?_
  refine sg_aload (pc := 10) (dc_X7_countOf_0.1.2.2.2) rfl ?_
  refine md_xlen (pc := 12) (dc_X7_countOf_0.2.1.1.1) (by assumption) (by omega) ?_
  refine sg_istore (pc := 13) (dc_X7_countOf_0.2.1.1.2) (by decide) ?_
  refine sg_iconst (pc := 15) (z := 0) (dc_X7_countOf_0.2.1.2.1) (by decide) ?_
  refine sg_istore (pc := 16) (dc_X7_countOf_0.2.1.2.2) (by decide) ?_
  have loop18 : ∀ (N : Nat) (p s : Int), (0 ≤ p ∧ p ≤ (L.length : Int)) → (s = fs_cnt L kind p.toNat) → ((L.length : Int) - p).toNat < N → sg_R w mi_X7_countOf d 0 0 Q 18 [(6, sg_i p), (3, sg_i s), (0, sg_r M), (1, sg_i row), (2, sg_i kind), (4, sg_r (md_a h (md_r h M) row)), (5, sg_i (L.length : Int))] [] h 0 0 := by
    intro N
    induction N with
    | zero => intro p s p0 s0 hm; exact absurd hm (Nat.not_lt_zero _)
    | succ N ih =>
      intro p s p0 s0 hm
      have sb := fs_cntb (L := L) (kind := kind) (n := p.toNat)
      rw [← s0] at sb
      refine sg_iload (pc := 18) (dc_X7_countOf_0.2.2.1.1) rfl ?_
      refine sg_iload (pc := 20) (dc_X7_countOf_0.2.2.1.2) rfl ?_
      refine sg_icmp_ge (pc := 22) (tgt := 50) (dc_X7_countOf_0.2.2.2.1) (by decide) (fun c22 => ?_) (fun c22 => ?_)
      · refine sg_iload_n (pc := 50) (j := 3) (dc_X7_countOf_27.2.2.1.1) rfl rfl ?_
        refine sg_iret (pc := 51) (dc_X7_countOf_27.2.2.1.2) rfl (by first | exact Nat.le_of_ble_eq_true rfl | omega) (by first | exact Nat.le_of_ble_eq_true rfl | omega) ?_
        exact hQ _ (by rw [s0, show p.toNat = L.length by omega])
      · refine sg_aload (pc := 25) (dc_X7_countOf_0.2.2.2.2) rfl ?_
        refine sg_iload (pc := 27) (dc_X7_countOf_27.1.1.1.1) rfl ?_
        refine md_xld (pc := 29) (dc_X7_countOf_27.1.1.1.2) (by assumption) (by omega) (by omega) (fun g29 => ?_)
        refine sg_istore (pc := 30) (dc_X7_countOf_27.1.1.2.1) (by decide) ?_
        refine sg_iload_n (pc := 32) (j := 3) (dc_X7_countOf_27.1.1.2.2) rfl rfl ?_
        refine sg_iload (pc := 33) (dc_X7_countOf_27.1.2.1.1) rfl ?_
        refine sg_iload_n (pc := 35) (j := 2) (dc_X7_countOf_27.1.2.1.2) rfl rfl ?_
        refine sg_cS2 (pc := 36) (d' := d - 1) (mc' := 0) (ms' := 0) g (dc_X7_countOf_27.1.2.2.1) cb_X7_isKind ml_X7_26 ms_X7_isKind (Nat.le_of_ble_eq_true rfl) (by first | exact jl_d0 hd rfl | omega) (by first | exact Nat.le_of_ble_eq_true rfl | omega) (by first | exact Nat.le_of_ble_eq_true rfl | omega) ?_
        refine s_X7_isKind g (by first | exact jl_d1 hd rfl | omega) (by assumption) (by omega) (by omega) (fun z36 e36 b36 => sg_K1 ?_)
        refine sg_cS1 (pc := 39) (d' := d - 1) (mc' := 0) (ms' := 0) g (dc_X7_countOf_27.1.2.2.2) cb_X7_one ml_X7_92 ms_X7_one (Nat.le_of_ble_eq_true rfl) (by first | exact jl_d0 hd rfl | omega) (by first | exact Nat.le_of_ble_eq_true rfl | omega) (by first | exact Nat.le_of_ble_eq_true rfl | omega) ?_
        refine s_X7_one g (by first | exact jl_d1 hd rfl | omega) (fun z39 h39 b39 => sg_K1 ?_)
        (try simp only [fm_no, fm_one, fn_betw, fn_sign, fn_radix, fn_high, fn_low] at h39)
        have bk := fs_cnts (L := L) (kind := kind) (p := p) (by omega)
        first | refine sg_iaddB (pc := 42) (dc_X7_countOf_27.2.1.1.1) (by omega) (by omega) ?_ | refine sg_iadd (pc := 42) (dc_X7_countOf_27.2.1.1.1) ?_
        refine sg_istore_n (pc := 43) (j := 3) (dc_X7_countOf_27.2.1.1.2) rfl (by decide) ?_
        first | refine sg_iincB (pc := 44) (dc_X7_countOf_27.2.1.2.1) rfl (by decide) (by decide) (by omega) (by omega) ?_ | refine sg_iinc (pc := 44) (dc_X7_countOf_27.2.1.2.1) rfl (by decide) (by decide) ?_
        refine sg_goto (pc := 47) (tgt := 18) (dc_X7_countOf_27.2.1.2.2) (by decide) ?_
        refine sg_lsub (lv' := [(6, _), (3, _), (0, _), (1, _), (2, _), (4, _), (5, _)]) ⟨rfl, rfl, rfl, rfl, rfl, rfl, rfl, trivial⟩ ?_
        exact ih _ _ (by omega) (by omega) (by first | exact jl_m1 hm (by omega) | exact jl_m2 hm (by omega) | omega)
  refine sg_lsub (lv' := [(6, _), (3, _), (0, _), (1, _), (2, _), (4, _), (5, _)]) ⟨rfl, rfl, rfl, rfl, rfl, rfl, rfl, trivial⟩ ?_
  exact loop18 _ _ _ (by omega) rfl (Nat.lt_succ_self _)

set_option maxRecDepth 100000 in
theorem f_X7_count {w : sg_W} {Q : sg_O → sg_H → Prop} {h : sg_H} (g : sg_G w) {d : Nat} (hd : 9 ≤ d) {M : Nat} {row kind : Int} {A : fa_A} {L : List Int} (hA : md_ab h M = A) (hL : fa_L A row.toNat = L) (hx : md_M w h M) (hQ : ∀ (v : Int) (h' : sg_H), ((row < 0 ∨ 4 ≤ row) → md_t h' M = 1) → (¬ (row < 0 ∨ 4 ≤ row) → (kind < 0 ∨ 4 < kind) → md_t h' M = 2) → (¬ (row < 0 ∨ 4 ≤ row) → ¬ (kind < 0 ∨ 4 < kind) → md_t h' M = 0) → (md_t h' M = 0 → v = fs_cnt L kind L.length) → md_Y w h h' M → Q (.inl (some (sg_i v))) h') : sg_C w mi_X7_count d 0 0 [sg_r M, sg_i row, sg_i kind] h Q := by
  refine sg_of pn_X7 (Nat.le_of_ble_eq_true rfl) ?_
  have y0 := md_Y0 hx
  have hk := hx.2.1
  refine sg_aload_n (pc := 0) (j := 0) (dc_X7_count_0.1.1.1.1) rfl rfl ?_
  refine sg_iload_n (pc := 1) (j := 1) (dc_X7_count_0.1.1.1.2) rfl rfl ?_
  refine sg_cS1 (pc := 2) (d' := d - 1) (mc' := 0) (ms' := 0) g (dc_X7_count_0.1.1.2.1) cb_X7_isNoRow ml_X7_68 ms_X7_isNoRow (Nat.le_of_ble_eq_true rfl) (by first | exact jl_d0 hd rfl | omega) (by first | exact Nat.le_of_ble_eq_true rfl | omega) (by first | exact Nat.le_of_ble_eq_true rfl | omega) ?_
  refine s_X7_isNoRow g (by first | exact jl_d1 hd rfl | omega) (fun z2 h2 b2 => sg_K1 ?_)
  (try simp only [fm_no, fm_one, fn_betw, fn_sign, fn_radix, fn_high, fn_low] at h2)
  refine sg_iconst (pc := 5) (z := 1) (dc_X7_count_0.1.1.2.2) (by decide) ?_
  refine sg_cE2 (pc := 6) (d' := d - 1) (mc' := 0) (ms' := 0) 8 g (dc_X7_count_0.1.2.1.1) cb_X7_start ml_X7_71 mn_X7_start rfl mv_X7_start (Nat.le_of_ble_eq_true rfl) (md_oc (by assumption)) (Nat.le_of_ble_eq_true rfl) (by first | exact jl_d0 hd rfl | omega) (by first | exact Nat.le_of_ble_eq_true rfl | omega) (by first | exact Nat.le_of_ble_eq_true rfl | omega) ?_
  refine s_X7_start g (by first | exact jl_d1 hd rfl | omega) (by omega) (by assumption) (fun v6 h6 b6 i6 t6 s6 u6 y6 => sg_K1 ?_)
  have x6 := y6.1
  have hk6 := x6.2.1
  have y6 := md_Yt (h0 := h) (by assumption) y6
  refine sg_if_ne (pc := 9) (tgt := 24) (dc_X7_count_0.1.2.1.2) (by decide) (fun c9 => ?_) (fun c9 => ?_)
  · refine sg_iconst (pc := 24) (z := 0) (dc_X7_count_0.2.2.1.1) (by decide) ?_
    refine sg_goto (pc := 25) (tgt := 34) (dc_X7_count_0.2.2.1.2) (by decide) ?_
    refine sg_iret (pc := 34) (dc_X7_count_30.2.1) rfl (by first | exact Nat.le_of_ble_eq_true rfl | omega) (by first | exact Nat.le_of_ble_eq_true rfl | omega) ?_
    first
      | exact hQ _ _ (by omega) (by omega) (by omega) (fun q => absurd q (by omega)) (by assumption)
      | exact hQ _ _ (by omega) (by omega) (by omega) (fun _ => e31) (by assumption)
  · refine sg_aload_n (pc := 12) (j := 0) (dc_X7_count_0.1.2.2.1) rfl rfl ?_
    refine sg_iload_n (pc := 13) (j := 2) (dc_X7_count_0.1.2.2.2) rfl rfl ?_
    refine sg_cS1 (pc := 14) (d' := d - 1) (mc' := 0) (ms' := 0) g (dc_X7_count_0.2.1.1.1) cb_X7_isNoKind ml_X7_100 ms_X7_isNoKind (Nat.le_of_ble_eq_true rfl) (by first | exact jl_d0 hd rfl | omega) (by first | exact Nat.le_of_ble_eq_true rfl | omega) (by first | exact Nat.le_of_ble_eq_true rfl | omega) ?_
    refine s_X7_isNoKind g (by first | exact jl_d1 hd rfl | omega) (fun z14 h14 b14 => sg_K1 ?_)
    (try simp only [fm_no, fm_one, fn_betw, fn_sign, fn_radix, fn_high, fn_low] at h14)
    refine sg_iconst (pc := 17) (z := 2) (dc_X7_count_0.2.1.1.2) (by decide) ?_
    refine sg_cE2 (pc := 18) (d' := d - 1) (mc' := 0) (ms' := 0) 8 g (dc_X7_count_0.2.1.2.1) cb_X7_refuse ml_X7_45 mn_X7_refuse rfl mv_X7_refuse (Nat.le_of_ble_eq_true rfl) (md_oc (by assumption)) (Nat.le_of_ble_eq_true rfl) (by first | exact jl_d0 hd rfl | omega) (by first | exact Nat.le_of_ble_eq_true rfl | omega) (by first | exact Nat.le_of_ble_eq_true rfl | omega) ?_
    refine s_X7_refuse g (by first | exact jl_d1 hd rfl | omega) (by omega) (by assumption) (fun v18 h18 b18 i18 t18 s18 u18 y18 => sg_K1 ?_)
    have x18 := y18.1
    have hk18 := x18.2.1
    have y18 := md_Yt (h0 := h) (by assumption) y18
    refine sg_if_eq (pc := 21) (tgt := 28) (dc_X7_count_0.2.1.2.2) (by decide) (fun c21 => ?_) (fun c21 => ?_)
    · refine sg_aload_n (pc := 28) (j := 0) (dc_X7_count_0.2.2.2.1) rfl rfl ?_
      refine sg_iload_n (pc := 29) (j := 1) (dc_X7_count_0.2.2.2.2) rfl rfl ?_
      refine sg_iload_n (pc := 30) (j := 2) (dc_X7_count_30.1.1) rfl rfl ?_
      refine sg_cE2 (pc := 31) (d' := d - 1) (mc' := 0) (ms' := 0) 8 g (dc_X7_count_30.1.2) cb_X7_countOf ml_X7_170 mn_X7_countOf rfl mv_X7_countOf (Nat.le_of_ble_eq_true rfl) (md_oc (by assumption)) (Nat.le_of_ble_eq_true rfl) (by first | exact jl_d0 hd rfl | omega) (by first | exact Nat.le_of_ble_eq_true rfl | omega) (by first | exact Nat.le_of_ble_eq_true rfl | omega) ?_
      refine f_X7_countOf g (by first | exact jl_d1 hd rfl | omega) (by omega) (md_Ya (h0 := h) (by assumption) hA) hL (by assumption) (fun v31 e31 => sg_K1 ?_)
      refine sg_iret (pc := 34) (dc_X7_count_30.2.1) rfl (by first | exact Nat.le_of_ble_eq_true rfl | omega) (by first | exact Nat.le_of_ble_eq_true rfl | omega) ?_
      first
        | exact hQ _ _ (by omega) (by omega) (by omega) (fun q => absurd q (by omega)) (by assumption)
        | exact hQ _ _ (by omega) (by omega) (by omega) (fun _ => e31) (by assumption)
    · refine sg_iconst (pc := 24) (z := 0) (dc_X7_count_0.2.2.1.1) (by decide) ?_
      refine sg_goto (pc := 25) (tgt := 34) (dc_X7_count_0.2.2.1.2) (by decide) ?_
      refine sg_iret (pc := 34) (dc_X7_count_30.2.1) rfl (by first | exact Nat.le_of_ble_eq_true rfl | omega) (by first | exact Nat.le_of_ble_eq_true rfl | omega) ?_
      first
        | exact hQ _ _ (by omega) (by omega) (by omega) (fun q => absurd q (by omega)) (by assumption)
        | exact hQ _ _ (by omega) (by omega) (by omega) (fun _ => e31) (by assumption)

