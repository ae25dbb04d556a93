theorem fs_h4 {A : fa_A} : fz (fun k => ((fa_L A k).length : Int)) 4 = fs_hs A := by
  unfold fs_hs
  show 0 + _ + _ + _ + _ = _
  rw [Int.zero_add]
section
variable {w : sg_W} {mi : sg_M} {d mc ms : Nat} {Q : sg_O → sg_H → Prop} {pc : Nat} {lv : List (Nat × sg_V)} {st : List sg_V} {h h0 : sg_H} {k n M : Nat} {A : fa_A} {L : List Int}
theorem md_alXu {i : Int} (hd : decode mi.2.1 pc = .ok (.aaload, 1)) (hA : md_ab h0 M = A) (y : md_Y w h0 h M) (i0 : 4 ≤ i) (i1 : i < 6) (K : md_X 1 h (md_a h (md_r h M) i) (fa_L A i.toNat) → (fa_L A i.toNat).length ≤ 24 → sg_R w mi d mc ms Q (pc + 1) lv (sg_r (md_a h (md_r h M) i) :: st) h k n) : sg_R w mi d mc ms Q pc lv (sg_i i :: sg_r (md_r h M) :: st) h k n := by
  rw [← md_Ya y hA] at K
  obtain ⟨l, q, th, kn, R, b, h2, h0', h3, h4⟩ := id y.1
  have e := md_re h2
  rw [← e] at h3
  have hT := md_rT y.1 i0 i1
  exact md_alt hd h3 i0 i1 (fun _ _ => K hT.1 hT.2)
end
set_option maxRecDepth 100000 in
theorem f_X7_houseOf {w : sg_W} {Q : sg_O → sg_H → Prop} {h : sg_H} (g : sg_G w) {d : Nat} (hd : 3 ≤ d) {M : Nat} {what : Int} (hv : 0 ≤ what ∧ what ≤ 3) {A : fa_A} (hA : md_ab h M = A) (hx : md_M w h M) (hQ : ∀ v : Int, v = fs_house A what → Q (.inl (some (sg_i v))) h) : sg_C w mi_X7_houseOf d 0 0 [sg_r M, sg_i what] h Q := by
  refine sg_of pn_X7 (Nat.le_of_ble_eq_true rfl) ?_
  have y0 := md_Y0 hx
  have hk := hx.2.1
  refine sg_iconst (pc := 0) (z := 0) (dc_X7_houseOf_0.1.1.1.1) (by decide) ?_
  refine sg_istore_n (pc := 1) (j := 2) (dc_X7_houseOf_0.1.1.1.2) rfl (by decide) ?_
  refine sg_iconst (pc := 2) (z := 0) (dc_X7_houseOf_0.1.1.2.1) (by decide) ?_
  refine sg_istore_n (pc := 3) (j := 3) (dc_X7_houseOf_0.1.1.2.2) rfl (by decide) ?_
  have loop4 : ∀ (N : Nat) (p s : Int), (0 ≤ p ∧ p ≤ 4) → (s = fz (fun k => ((fa_L A k).length : Int)) p.toNat) → (0 ≤ s ∧ s ≤ 40 * p) → (4 - p).toNat < N → sg_R w mi_X7_houseOf d 0 0 Q 4 [(3, sg_i p), (2, sg_i s), (0, sg_r M), (1, sg_i what)] [] h 0 0 := by
    intro N
    induction N with
    | zero => intro p s p0 s0 sb hm; exact absurd hm (Nat.not_lt_zero _)
    | succ N ih =>
      intro p s p0 s0 sb hm
      refine sg_iload_n (pc := 4) (j := 3) (dc_X7_houseOf_0.1.2.1.1) rfl rfl ?_
      refine sg_iconst (pc := 5) (z := 4) (dc_X7_houseOf_0.1.2.1.2) (by decide) ?_
      refine sg_icmp_ge (pc := 6) (tgt := 25) (dc_X7_houseOf_0.1.2.2.1) (by decide) (fun c6 => ?_) (fun c6 => ?_)
      · refine sg_iload_n (pc := 25) (j := 1) (dc_X7_houseOf_22.1.1.1.2) rfl rfl ?_
        refine sg_if_ne (pc := 26) (tgt := 33) (dc_X7_houseOf_22.1.1.2.1) (by decide) (fun c26 => ?_) (fun c26 => ?_)
        · refine sg_iload_n (pc := 33) (j := 1) (dc_X7_houseOf_22.1.2.1.2) rfl rfl ?_
          refine sg_iconst (pc := 34) (z := 1) (dc_X7_houseOf_22.1.2.2.1) (by decide) ?_
          refine sg_icmp_ne (pc := 35) (tgt := 56) (dc_X7_houseOf_22.1.2.2.2) (by decide) (fun c35 => ?_) (fun c35 => ?_)
          · refine sg_iload_n (pc := 56) (j := 1) (dc_X7_houseOf_50.1.2.1.1) rfl rfl ?_
            refine sg_iconst (pc := 57) (z := 2) (dc_X7_houseOf_50.1.2.1.2) (by decide) ?_
            refine sg_icmp_ne (pc := 58) (tgt := 71) (dc_X7_houseOf_50.1.2.2.1) (by decide) (fun c58 => ?_) (fun c58 => ?_)
            · refine sg_aload_n (pc := 71) (j := 0) (dc_X7_houseOf_50.2.1.2.2) rfl rfl ?_
              refine md_gkn (pc := 72) g (dc_X7_houseOf_50.2.2.1.1) fk_X7_161 (by assumption) ?_
              refine sg_iret (pc := 75) (dc_X7_houseOf_50.2.2.1.2) rfl (by first | exact Nat.le_of_ble_eq_true rfl | omega) (by first | exact Nat.le_of_ble_eq_true rfl | omega) ?_
              first
                | exact hQ _ (by unfold fs_house; rw [if_pos (by omega), s0, show p.toNat = 4 by omega, fs_h4])
                | exact hQ _ (by unfold fs_house fs_hu; rw [if_neg (by omega), if_pos (by omega)]; rfl)
                | exact hQ _ (by unfold fs_house; rw [if_neg (by omega), if_neg (by omega), if_pos (by omega)]; exact pl.symm)
                | exact hQ _ (by unfold fs_house; rw [if_neg (by omega), if_neg (by omega), if_neg (by omega), ← hA]; rfl)
            · refine sg_aload_n (pc := 61) (j := 0) (dc_X7_houseOf_50.1.2.2.2) rfl rfl ?_
              obtain ⟨th, kn, R, b, m, sz, E, hM, hb, pl⟩ := md_pl hx
              rw [hA] at pl
              refine sg_getf (pc := 62) g (dc_X7_houseOf_50.2.1.1.1) fk_X7_18 hM rfl rfl ?_
              refine sg_cV0 (pc := 65) (d' := d - 1) (mc' := 0) (ms' := 0) g (dc_X7_houseOf_50.2.1.1.2) cb_Jx4a65c_size_8abf5 ml_X7_53 mn_Jx4a65c_size_8abf5 mv_Jx4a65c_size_8abf5 hb (Nat.le_of_ble_eq_true rfl) rfl (Nat.le_of_ble_eq_true rfl) (by first | exact jl_d0 hd rfl | omega) (by first | exact Nat.le_of_ble_eq_true rfl | omega) (by first | exact Nat.le_of_ble_eq_true rfl | omega) ?_
              refine s_al_size g (by first | exact jl_d1 hd rfl | omega) hb ?_
              refine sg_K1 ?_
              refine sg_goto (pc := 68) (tgt := 75) (dc_X7_houseOf_50.2.1.2.1) (by decide) ?_
              refine sg_iret (pc := 75) (dc_X7_houseOf_50.2.2.1.2) rfl (by first | exact Nat.le_of_ble_eq_true rfl | omega) (by first | exact Nat.le_of_ble_eq_true rfl | omega) ?_
              first
                | exact hQ _ (by unfold fs_house; rw [if_pos (by omega), s0, show p.toNat = 4 by omega, fs_h4])
                | exact hQ _ (by unfold fs_house fs_hu; rw [if_neg (by omega), if_pos (by omega)]; rfl)
                | exact hQ _ (by unfold fs_house; rw [if_neg (by omega), if_neg (by omega), if_pos (by omega)]; exact pl.symm)
                | exact hQ _ (by unfold fs_house; rw [if_neg (by omega), if_neg (by omega), if_neg (by omega), ← hA]; rfl)
          · refine sg_aload_n (pc := 38) (j := 0) (dc_X7_houseOf_22.2.1.1.1) rfl rfl ?_
            refine md_grw (pc := 39) g (dc_X7_houseOf_22.2.1.1.2) fk_X7_9 (by assumption) (fun r39 => ?_)
            refine sg_iconst (pc := 42) (z := 4) (dc_X7_houseOf_22.2.1.2.1) (by decide) ?_
            refine md_alXu (pc := 43) (dc_X7_houseOf_22.2.1.2.2) hA y0 (by decide) (by decide) (fun X43 l43 => ?_)
            refine md_xlen (pc := 44) (dc_X7_houseOf_22.2.2.1.1) (by assumption) (by omega) ?_
            refine sg_aload_n (pc := 45) (j := 0) (dc_X7_houseOf_22.2.2.1.2) rfl rfl ?_
            refine md_grw (pc := 46) g (dc_X7_houseOf_22.2.2.2.1) fk_X7_9 (by assumption) (fun r46 => ?_)
            refine sg_iconst (pc := 49) (z := 5) (dc_X7_houseOf_22.2.2.2.2) (by decide) ?_
            refine md_alXu (pc := 50) (dc_X7_houseOf_50.1.1.1.1) hA y0 (by decide) (by decide) (fun X50 l50 => ?_)
            refine md_xlen (pc := 51) (dc_X7_houseOf_50.1.1.1.2) (by assumption) (by omega) ?_
            first | refine sg_iaddB (pc := 52) (dc_X7_houseOf_50.1.1.2.1) (by omega) (by omega) ?_ | refine sg_iadd (pc := 52) (dc_X7_houseOf_50.1.1.2.1) ?_
            refine sg_goto (pc := 53) (tgt := 75) (dc_X7_houseOf_50.1.1.2.2) (by decide) ?_
            refine sg_iret (pc := 75) (dc_X7_houseOf_50.2.2.1.2) rfl (by first | exact Nat.le_of_ble_eq_true rfl | omega) (by first | exact Nat.le_of_ble_eq_true rfl | omega) ?_
            first
              | exact hQ _ (by unfold fs_house; rw [if_pos (by omega), s0, show p.toNat = 4 by omega, fs_h4])
              | exact hQ _ (by unfold fs_house fs_hu; rw [if_neg (by omega), if_pos (by omega)]; rfl)
              | exact hQ _ (by unfold fs_house; rw [if_neg (by omega), if_neg (by omega), if_pos (by omega)]; exact pl.symm)
              | exact hQ _ (by unfold fs_house; rw [if_neg (by omega), if_neg (by omega), if_neg (by omega), ← hA]; rfl)
        · refine sg_iload_n (pc := 29) (j := 2) (dc_X7_houseOf_22.1.1.2.2) rfl rfl ?_
          refine sg_goto (pc := 30) (tgt := 75) (dc_X7_houseOf_22.1.2.1.1) (by decide) ?_
          refine sg_iret (pc := 75) (dc_X7_houseOf_50.2.2.1.2) rfl (by first | exact Nat.le_of_ble_eq_true rfl | omega) (by first | exact Nat.le_of_ble_eq_true rfl | omega) ?_
          first
            | exact hQ _ (by unfold fs_house; rw [if_pos (by omega), s0, show p.toNat = 4 by omega, fs_h4])
            | exact hQ _ (by unfold fs_house fs_hu; rw [if_neg (by omega), if_pos (by omega)]; rfl)
            | exact hQ _ (by unfold fs_house; rw [if_neg (by omega), if_neg (by omega), if_pos (by omega)]; exact pl.symm)
            | exact hQ _ (by unfold fs_house; rw [if_neg (by omega), if_neg (by omega), if_neg (by omega), ← hA]; rfl)
      · refine sg_iload_n (pc := 9) (j := 2) (dc_X7_houseOf_0.1.2.2.2) rfl rfl ?_
        refine sg_aload_n (pc := 10) (j := 0) (dc_X7_houseOf_0.2.1.1.1) rfl rfl ?_
        refine md_grw (pc := 11) g (dc_X7_houseOf_0.2.1.1.2) fk_X7_9 (by assumption) (fun r11 => ?_)
        refine sg_iload_n (pc := 14) (j := 3) (dc_X7_houseOf_0.2.1.2.1) rfl rfl ?_
        refine md_alX (L := fa_L A p.toNat) (pc := 15) (dc_X7_houseOf_0.2.1.2.2) hA y0 rfl (by omega) (by omega) (fun X15 l15 => ?_)
        refine md_xlen (pc := 16) (dc_X7_houseOf_0.2.2.1.1) (by assumption) (by omega) ?_
        first | refine sg_iaddB (pc := 17) (dc_X7_houseOf_0.2.2.1.2) (by omega) (by omega) ?_ | refine sg_iadd (pc := 17) (dc_X7_houseOf_0.2.2.1.2) ?_
        refine sg_istore_n (pc := 18) (j := 2) (dc_X7_houseOf_0.2.2.2.1) rfl (by decide) ?_
        first | refine sg_iincB (pc := 19) (dc_X7_houseOf_0.2.2.2.2) rfl (by decide) (by decide) (by omega) (by omega) ?_ | refine sg_iinc (pc := 19) (dc_X7_houseOf_0.2.2.2.2) rfl (by decide) (by decide) ?_
        refine sg_goto (pc := 22) (tgt := 4) (dc_X7_houseOf_22.1.1.1.1) (by decide) ?_
        refine sg_lsub (lv' := [(3, _), (2, _), (0, _), (1, _)]) ⟨rfl, rfl, rfl, rfl, trivial⟩ ?_
        exact ih _ _ (by omega) (by rw [fz_s (by omega), ← s0]) (by omega) (by first | exact jl_m1 hm (by omega) | exact jl_m2 hm (by omega) | omega)
  refine sg_lsub (lv' := [(3, _), (2, _), (0, _), (1, _)]) ⟨rfl, rfl, rfl, rfl, trivial⟩ ?_
  exact loop4 _ _ _ (by omega) rfl (by omega) (Nat.lt_succ_self _)

set_option maxRecDepth 100000 in
theorem f_X7_house {w : sg_W} {Q : sg_O → sg_H → Prop} {h : sg_H} (g : sg_G w) {d : Nat} (hd : 9 ≤ d) {M : Nat} {what : Int} {A : fa_A} (hA : md_ab h M = A) (hx : md_M w h M) (hQ : ∀ (v : Int) (h' : sg_H), ((what < 0 ∨ 3 < what) → md_t h' M = 1) → (¬ (what < 0 ∨ 3 < what) → md_t h' M = 0) → (md_t h' M = 0 → v = fs_house A what) → md_Y w h h' M → Q (.inl (some (sg_i v))) h') : sg_C w mi_X7_house d 0 0 [sg_r M, sg_i what] h Q := by
  refine sg_of pn_X7 (Nat.le_of_ble_eq_true rfl) ?_
  have y0 := md_Y0 hx
  have hk := hx.2.1
  refine sg_aload_n (pc := 0) (j := 0) (dc_X7_house_0.1.1.1.1) rfl rfl ?_
  refine sg_iload_n (pc := 1) (j := 1) (dc_X7_house_0.1.1.1.2) rfl rfl ?_
  refine sg_iconst (pc := 2) (z := 0) (dc_X7_house_0.1.1.2.1) (by decide) ?_
  refine sg_iconst (pc := 3) (z := 3) (dc_X7_house_0.1.1.2.2) (by decide) ?_
  refine sg_cS3 (pc := 4) (d' := d - 1) (mc' := 0) (ms' := 0) g (dc_X7_house_0.1.2.1.1) cb_X7_isOf ml_X7_22 ms_X7_isOf (Nat.le_of_ble_eq_true rfl) (by first | exact jl_d0 hd rfl | omega) (by first | exact Nat.le_of_ble_eq_true rfl | omega) (by first | exact Nat.le_of_ble_eq_true rfl | omega) ?_
  refine s_X7_isOf g (by first | exact jl_d1 hd rfl | omega) (fun z4 h4 b4 => sg_K1 ?_)
  (try simp only [fm_no, fm_one, fn_betw, fn_sign, fn_radix, fn_high, fn_low] at h4)
  refine sg_if_ne (pc := 7) (tgt := 14) (dc_X7_house_0.1.2.1.2) (by decide) (fun c7 => ?_) (fun c7 => ?_)
  · refine sg_iconst (pc := 14) (z := 0) (dc_X7_house_0.2.1.1.1) (by decide) ?_
    refine sg_iconst (pc := 15) (z := 1) (dc_X7_house_0.2.1.1.2) (by decide) ?_
    refine sg_cE2 (pc := 16) (d' := d - 1) (mc' := 0) (ms' := 0) 8 g (dc_X7_house_0.2.1.2.1) cb_X7_start ml_X7_71 mn_X7_start rfl mv_X7_start (Nat.le_of_ble_eq_true rfl) (md_oc (by assumption)) (Nat.le_of_ble_eq_true rfl) (by first | exact jl_d0 hd rfl | omega) (by first | exact Nat.le_of_ble_eq_true rfl | omega) (by first | exact Nat.le_of_ble_eq_true rfl | omega) ?_
    refine s_X7_start g (by first | exact jl_d1 hd rfl | omega) (by omega) (by assumption) (fun v16 h16 b16 i16 t16 s16 u16 y16 => sg_K1 ?_)
    have x16 := y16.1
    have hk16 := x16.2.1
    have y16 := md_Yt (h0 := h) (by assumption) y16
    refine sg_if_eq (pc := 19) (tgt := 26) (dc_X7_house_0.2.1.2.2) (by decide) (fun c19 => ?_) (fun c19 => absurd c19 (by omega))
    refine sg_aload_n (pc := 26) (j := 0) (dc_X7_house_0.2.2.2.1) rfl rfl ?_
    refine sg_iload_n (pc := 27) (j := 1) (dc_X7_house_0.2.2.2.2) rfl rfl ?_
    refine sg_cE1 (pc := 28) (d' := d - 1) (mc' := 0) (ms' := 0) 8 g (dc_X7_house_28.1) cb_X7_houseOf ml_X7_235 mn_X7_houseOf rfl mv_X7_houseOf (Nat.le_of_ble_eq_true rfl) (md_oc (by assumption)) (Nat.le_of_ble_eq_true rfl) (by first | exact jl_d0 hd rfl | omega) (by first | exact Nat.le_of_ble_eq_true rfl | omega) (by first | exact Nat.le_of_ble_eq_true rfl | omega) ?_
    refine f_X7_houseOf g (by first | exact jl_d1 hd rfl | omega) (by omega) (md_Ya (h0 := h) (by assumption) hA) (by assumption) (fun v28 e28 => sg_K1 ?_)
    refine sg_iret (pc := 31) (dc_X7_house_28.2) rfl (by first | exact Nat.le_of_ble_eq_true rfl | omega) (by first | exact Nat.le_of_ble_eq_true rfl | omega) ?_
    first
      | exact hQ _ _ (by omega) (by omega) (fun q => absurd q (by omega)) (by assumption)
      | exact hQ _ _ (by omega) (by omega) (fun _ => e28) (by assumption)
  · refine sg_iconst (pc := 10) (z := 1) (dc_X7_house_0.1.2.2.1) (by decide) ?_
    refine sg_goto (pc := 11) (tgt := 15) (dc_X7_house_0.1.2.2.2) (by decide) ?_
    refine sg_iconst (pc := 15) (z := 1) (dc_X7_house_0.2.1.1.2) (by decide) ?_
    refine sg_cE2 (pc := 16) (d' := d - 1) (mc' := 0) (ms' := 0) 8 g (dc_X7_house_0.2.1.2.1) cb_X7_start ml_X7_71 mn_X7_start rfl mv_X7_start (Nat.le_of_ble_eq_true rfl) (md_oc (by assumption)) (Nat.le_of_ble_eq_true rfl) (by first | exact jl_d0 hd rfl | omega) (by first | exact Nat.le_of_ble_eq_true rfl | omega) (by first | exact Nat.le_of_ble_eq_true rfl | omega) ?_
    refine s_X7_start g (by first | exact jl_d1 hd rfl | omega) (by omega) (by assumption) (fun v16 h16 b16 i16 t16 s16 u16 y16 => sg_K1 ?_)
    have x16 := y16.1
    have hk16 := x16.2.1
    have y16 := md_Yt (h0 := h) (by assumption) y16
    refine sg_if_eq (pc := 19) (tgt := 26) (dc_X7_house_0.2.1.2.2) (by decide) (fun c19 => absurd c19 (by omega)) (fun c19 => ?_)
    refine sg_iconst (pc := 22) (z := 0) (dc_X7_house_0.2.2.1.1) (by decide) ?_
    refine sg_goto (pc := 23) (tgt := 31) (dc_X7_house_0.2.2.1.2) (by decide) ?_
    refine sg_iret (pc := 31) (dc_X7_house_28.2) rfl (by first | exact Nat.le_of_ble_eq_true rfl | omega) (by first | exact Nat.le_of_ble_eq_true rfl | omega) ?_
    first
      | exact hQ _ _ (by omega) (by omega) (fun q => absurd q (by omega)) (by assumption)
      | exact hQ _ _ (by omega) (by omega) (fun _ => e28) (by assumption)

