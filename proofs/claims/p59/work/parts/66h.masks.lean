/-! what the asks of tracks and of the whole rest on -/
def fs_cc (C : List Int) (t : Int) (n : Nat) : Int := fz (fun k => if fs_ct (C.getD k 0) t then 1 else 0) n
theorem fs_ccs {C : List Int} {t p : Int} (p0 : 0 ≤ p) : fs_cc C t (p + 1).toNat = fs_cc C t p.toNat + (if fs_ct (C.getD p.toNat 0) t then 1 else 0) := fz_s p0
theorem fs_ccb {C : List Int} {t : Int} {n : Nat} : 0 ≤ fs_cc C t n ∧ fs_cc C t n ≤ (n : Int) := by
  unfold fs_cc
  induction n with
  | zero => exact ⟨Int.le_refl _, Int.le_refl _⟩
  | succ n ih =>
    show 0 ≤ fz _ n + (if _ then 1 else 0) ∧ fz _ n + (if _ then 1 else 0) ≤ _
    split <;> omega
theorem fs_hmc {L : List Int} {t : Int} : ∀ n : Nat, fs_hm L t n = fs_cc (fs_cs L n) t (fs_cs L n).length
  | 0 => rfl
  | n + 1 => by
    show fs_hm L t n + (if fs_bg L n ∧ fs_ct (fs_cd L n) t then (1 : Int) else 0) = _
    rw [fs_hmc n]
    by_cases c : fs_bg L n
    · have e : fs_cs L (n + 1) = fs_cs L n ++ [fs_cd L n] := by rw [fs_css, if_pos c]
      have l : (fs_cs L (n + 1)).length = (fs_cs L n).length + 1 := by rw [e, List.length_append]; rfl
      rw [l]
      show _ = fz (fun k => if fs_ct ((fs_cs L (n + 1)).getD k 0) t then (1 : Int) else 0) (fs_cs L n).length + (if fs_ct ((fs_cs L (n + 1)).getD (fs_cs L n).length 0) t then (1 : Int) else 0)
      have g1 : (fs_cs L (n + 1)).getD (fs_cs L n).length 0 = fs_cd L n := by
        rw [e, gd_app, if_neg (Nat.lt_irrefl _), Nat.sub_self]
        rfl
      have g2 : fz (fun k => if fs_ct ((fs_cs L (n + 1)).getD k 0) t then (1 : Int) else 0) (fs_cs L n).length = fs_cc (fs_cs L n) t (fs_cs L n).length := by
        refine fz_c (fun j hj => ?_)
        have : (fs_cs L (n + 1)).getD j 0 = (fs_cs L n).getD j 0 := by rw [e, gd_app, if_pos hj]
        rw [this]
      rw [g1, g2]
      congr 1
      by_cases c2 : fs_ct (fs_cd L n) t
      · rw [if_pos c2, if_pos ⟨c, c2⟩]
      · rw [if_neg c2, if_neg (fun q => c2 q.2)]
    · have e : fs_cs L (n + 1) = fs_cs L n := by rw [fs_css, if_neg c, List.append_nil]
      rw [e, if_neg (fun q => c q.1), Int.add_zero]
theorem fs_h4 {A : fa_A} : fz (fun k => ((fa_L A k).length : Int)) 4 = fs_hs A := by
  unfold fs_hs
  show 0 + _ + _ + _ + _ = _
  rw [Int.zero_add]
theorem md_vX {c : Nat} {h : sg_H} {a : Nat} {L : List Int} (x : md_X c h a L) (i : Int) : md_v h a i = L.getD i.toNat 0 := by
  unfold md_v
  rw [x.2.2]
  simp only [List.getElem?_map, List.getD_eq_getElem?_getD]
  cases L[i.toNat]? <;> rfl
theorem jwc_wn {c : Nat} {h : sg_H} {a : Nat} {L : List Int} (x : md_X c h a L) : ∀ n : Nat, jwc (md_v h a) n = fs_wn L n
  | 0 => rfl
  | n + 1 => by
    show jwc (md_v h a) n + (if fn_isOf (md_v h a n) 2 = 1 ∧ (n = 0 ∨ fn_isOf (md_v h a ((n : Int) - 1)) 2 ≠ 1) then (1 : Int) else 0) = fs_wn L n + (if fs_wb L n then (1 : Int) else 0)
    rw [jwc_wn x n, md_vX x, md_vX x, Int.toNat_natCast, show ((n : Int) - 1).toNat = n - 1 by omega]
    have b1 := fk_b (L.getD n 0) 2
    have b2 := fk_b (L.getD (n - 1) 0) 2
    congr 1
    by_cases q : fs_wb L n
    · have q1 := q.1
      have q2 := q.2
      rw [if_pos q, if_pos ⟨by omega, by omega⟩]
    · rw [if_neg q, if_neg (fun r => q ⟨by omega, by omega⟩)]
section
variable {w : sg_W} {mi : sg_M} {d mc ms : Nat} {Q : sg_O → sg_H → Prop} {pc : Nat} {lv : List (Nat × sg_V)} {st : List sg_V} {h h0 : sg_H} {k n M : Nat} {A : fa_A} {L : List Int}
theorem md_alXu {i : Int} (hd : decode mi.2.1 pc = .ok (.aaload, 1)) (hA : md_ab h0 M = A) (y : md_Y w h0 h M) (i0 : 4 ≤ i) (i1 : i < 6) (K : md_X 1 h (md_a h (md_r h M) i) (fa_L A i.toNat) → (fa_L A i.toNat).length ≤ 24 → sg_R w mi d mc ms Q (pc + 1) lv (sg_r (md_a h (md_r h M) i) :: st) h k n) : sg_R w mi d mc ms Q pc lv (sg_i i :: sg_r (md_r h M) :: st) h k n := by
  rw [← md_Ya y hA] at K
  obtain ⟨l, q, th, kn, R, b, h2, h0', h3, h4⟩ := id y.1
  have e := md_re h2
  rw [← e] at h3
  have hT := md_rT y.1 i0 i1
  exact md_alt hd h3 i0 i1 (fun _ _ => K hT.1 hT.2)
end
set_option maxRecDepth 100000 in
set_option maxHeartbeats 400000 in
theorem f_X7_trackToldG {w : sg_W} {Q : sg_O → sg_H → Prop} {h : sg_H} (g : sg_G w) {d : Nat} (hd : 8 ≤ d) {M : Nat} {trk what : Int} {e f : Nat} (he : what = 1 → 76 ≤ e ∧ 675 ≤ f) (hv : 0 ≤ trk ∧ trk < 2 ∧ 0 ≤ what ∧ what ≤ 3) {A : fa_A} {L : List Int} (hA : md_ab h M = A) (hL : fa_L A (4 + trk.toNat) = L) (hx : md_M w h M) (hQ : ∀ (v : Int) (h' : sg_H), v = fs_how L what → md_E h h' → Q (.inl (some (sg_i v))) h') : sg_C w mi_X7_trackTold d (76 + e) (675 + f) [sg_r M, sg_i trk, sg_i what] h Q := by
  refine sg_of pn_X7 (Nat.le_of_ble_eq_true rfl) ?_
  have y0 := md_Y0 hx
  have hk := hx.2.1
  have cl : (fs_codes L).length ≤ L.length := fs_csl
  obtain ⟨-, l24⟩ := md_rT hx (i := 4 + trk) (by omega) (by omega)
  rw [hA, show (4 + trk).toNat = 4 + trk.toNat by omega, hL] at l24
  refine sg_iconst (pc := 0) (z := 0) (dc_X7_trackTold_0.1.1.1.1) (by decide) ?_
  refine sg_istore_n (pc := 1) (j := 3) (dc_X7_trackTold_0.1.1.1.2) rfl (by decide) ?_
  refine sg_iconst (pc := 2) (z := 0) (dc_X7_trackTold_0.1.1.2.1) (by decide) ?_
  refine sg_istore (pc := 3) (dc_X7_trackTold_0.1.1.2.2) (by decide) ?_
  refine sg_aload_n (pc := 5) (j := 0) (dc_X7_trackTold_0.1.2.1.1) rfl rfl ?_
  refine sg_iload_n (pc := 6) (j := 1) (dc_X7_trackTold_0.1.2.1.2) rfl rfl ?_
  refine sg_cE1 (pc := 7) (d' := d - 1) (mc' := 76) (ms' := 675) 8 g (dc_X7_trackTold_0.1.2.2.1) cb_X7_codes ml_X7_153 mn_X7_codes rfl mv_X7_codes (Nat.le_of_ble_eq_true rfl) (md_oc (by assumption)) (Nat.le_of_ble_eq_true rfl) (by first | exact jl_d0 hd rfl | omega) (by first | exact Nat.le_of_ble_eq_true rfl | omega) (by first | exact Nat.le_of_ble_eq_true rfl | omega) ?_
  refine f_X7_codes g (by first | exact jl_d1 hd rfl | omega) (by omega) (md_Ya (h0 := h) (by assumption) hA) hL (by assumption) (fun h7 a7 E7 C7 => sg_K1 ?_)
  have x7 : md_M w h7 M := md_ME (by assumption) E7
  have hk7 := x7.2.1
  have th7 := md_tE (w := w) (M := M) (by assumption) E7
  have y7 : md_Y w h h7 M := md_YE (by assumption) E7
  refine sg_astore (pc := 10) (dc_X7_trackTold_0.1.2.2.2) (by decide) ?_
  refine sg_aload (pc := 12) (dc_X7_trackTold_0.2.1.1.1) rfl ?_
  refine md_xlen (pc := 14) (dc_X7_trackTold_0.2.1.1.2) C7 (by omega) ?_
  refine sg_istore (pc := 15) (dc_X7_trackTold_0.2.1.2.1) (by decide) ?_
  refine sg_iconst (pc := 17) (z := 0) (dc_X7_trackTold_0.2.1.2.2) (by decide) ?_
  refine sg_istore (pc := 18) (dc_X7_trackTold_0.2.2.1.1) (by decide) ?_
  have loop20 : ∀ (N : Nat) (p x y : Int), (0 ≤ p ∧ p ≤ ((fs_codes L).length : Int)) → (x = fs_cc (fs_codes L) 2 p.toNat) → (y = fs_cc (fs_codes L) 3 p.toNat) → (((fs_codes L).length : Int) - p).toNat < N → sg_R w mi_X7_trackTold d (76 + e) (675 + f) Q 20 [(7, sg_i p), (3, sg_i x), (4, sg_i y), (0, sg_r M), (1, sg_i trk), (2, sg_i what), (5, sg_r a7), (6, sg_i ((fs_codes L).length : Int))] [] h7 76 675 := by
    intro N
    induction N with
    | zero => intro p x y p0 x0 y0s hm; exact absurd hm (Nat.not_lt_zero _)
    | succ N ih =>
      intro p x y p0 x0 y0s hm
      have b2 := fs_ccb (C := (fs_codes L)) (t := 2) (n := p.toNat)
      have b3 := fs_ccb (C := (fs_codes L)) (t := 3) (n := p.toNat)
      rw [← x0] at b2
      rw [← y0s] at b3
      refine sg_iload (pc := 20) (dc_X7_trackTold_0.2.2.1.2) rfl ?_
      refine sg_iload (pc := 22) (dc_X7_trackTold_0.2.2.2.1) rfl ?_
      refine sg_icmp_ge (pc := 24) (tgt := 71) (dc_X7_trackTold_0.2.2.2.2) (by decide) (fun c24 => ?_) (fun c24 => ?_)
      · refine sg_iload_n (pc := 71) (j := 2) (dc_X7_trackTold_56.1.2.2.1) rfl rfl ?_
        refine sg_if_ne (pc := 72) (tgt := 87) (dc_X7_trackTold_56.1.2.2.2) (by decide) (fun c72 => ?_) (fun c72 => ?_)
        · refine sg_iload_n (pc := 87) (j := 2) (dc_X7_trackTold_87.1.1.1.1) rfl rfl ?_
          refine sg_iconst (pc := 88) (z := 1) (dc_X7_trackTold_87.1.1.1.2) (by decide) ?_
          refine sg_icmp_ne (pc := 89) (tgt := 101) (dc_X7_trackTold_87.1.1.2.1) (by decide) (fun c89 => ?_) (fun c89 => ?_)
          · refine sg_iload_n (pc := 101) (j := 2) (dc_X7_trackTold_87.2.1.1.1) rfl rfl ?_
            refine sg_iconst (pc := 102) (z := 2) (dc_X7_trackTold_87.2.1.1.2) (by decide) ?_
            refine sg_icmp_ne (pc := 103) (tgt := 110) (dc_X7_trackTold_87.2.1.2.1) (by decide) (fun c103 => ?_) (fun c103 => ?_)
            · refine sg_iload (pc := 110) (dc_X7_trackTold_87.2.2.1.2) rfl ?_
              refine sg_iret (pc := 112) (dc_X7_trackTold_87.2.2.2.1) rfl (by first | exact Nat.le_of_ble_eq_true rfl | omega) (by first | exact Nat.le_of_ble_eq_true rfl | omega) ?_
              first
                | exact hQ _ _ (by unfold fs_how; rw [if_pos (by omega)]) E7
                | exact hQ _ _ (by unfold fs_how; rw [if_neg (by omega), show what = 1 by omega, fs_hc]) (md_Et E7 E94)
                | exact hQ _ _ (by unfold fs_how; rw [if_neg (by omega), show what = 2 by omega, fs_hmc, x0, show p.toNat = (fs_codes L).length by omega]) E7
                | exact hQ _ _ (by unfold fs_how; rw [if_neg (by omega), show what = 3 by omega, fs_hmc, y0s, show p.toNat = (fs_codes L).length by omega]) E7
            · refine sg_iload_n (pc := 106) (j := 3) (dc_X7_trackTold_87.2.1.2.2) rfl rfl ?_
              refine sg_goto (pc := 107) (tgt := 112) (dc_X7_trackTold_87.2.2.1.1) (by decide) ?_
              refine sg_iret (pc := 112) (dc_X7_trackTold_87.2.2.2.1) rfl (by first | exact Nat.le_of_ble_eq_true rfl | omega) (by first | exact Nat.le_of_ble_eq_true rfl | omega) ?_
              first
                | exact hQ _ _ (by unfold fs_how; rw [if_pos (by omega)]) E7
                | exact hQ _ _ (by unfold fs_how; rw [if_neg (by omega), show what = 1 by omega, fs_hc]) (md_Et E7 E94)
                | exact hQ _ _ (by unfold fs_how; rw [if_neg (by omega), show what = 2 by omega, fs_hmc, x0, show p.toNat = (fs_codes L).length by omega]) E7
                | exact hQ _ _ (by unfold fs_how; rw [if_neg (by omega), show what = 3 by omega, fs_hmc, y0s, show p.toNat = (fs_codes L).length by omega]) E7
          · refine sg_aload_n (pc := 92) (j := 0) (dc_X7_trackTold_87.1.1.2.2) rfl rfl ?_
            refine sg_iload_n (pc := 93) (j := 1) (dc_X7_trackTold_87.1.2.1.1) rfl rfl ?_
            refine sg_cE1 (pc := 94) (d' := d - 1) (mc' := 76) (ms' := 675) 8 g (dc_X7_trackTold_87.1.2.1.2) cb_X7_codes ml_X7_153 mn_X7_codes rfl mv_X7_codes (Nat.le_of_ble_eq_true rfl) (md_oc (by assumption)) (Nat.le_of_ble_eq_true rfl) (by first | exact jl_d0 hd rfl | omega) (by first | exact Nat.le_of_ble_eq_true rfl | omega) (by first | exact Nat.le_of_ble_eq_true rfl | omega) ?_
            refine f_X7_codes g (by first | exact jl_d1 hd rfl | omega) (by omega) (md_Ya (h0 := h) (by assumption) hA) hL (by assumption) (fun h94 a94 E94 C94 => sg_K1 ?_)
            have x94 : md_M w h94 M := md_ME (by assumption) E94
            have hk94 := x94.2.1
            have th94 := md_tE (w := w) (M := M) (by assumption) E94
            have y94 : md_Y w h h94 M := md_YE (by assumption) E94
            refine md_xlen (pc := 97) (dc_X7_trackTold_87.1.2.2.1) C94 (by omega) ?_
            refine sg_goto (pc := 98) (tgt := 112) (dc_X7_trackTold_87.1.2.2.2) (by decide) ?_
            refine sg_iret (pc := 112) (dc_X7_trackTold_87.2.2.2.1) rfl (by first | exact Nat.le_of_ble_eq_true rfl | omega) (by first | exact Nat.le_of_ble_eq_true rfl | omega) ?_
            first
              | exact hQ _ _ (by unfold fs_how; rw [if_pos (by omega)]) E7
              | exact hQ _ _ (by unfold fs_how; rw [if_neg (by omega), show what = 1 by omega, fs_hc]) (md_Et E7 E94)
              | exact hQ _ _ (by unfold fs_how; rw [if_neg (by omega), show what = 2 by omega, fs_hmc, x0, show p.toNat = (fs_codes L).length by omega]) E7
              | exact hQ _ _ (by unfold fs_how; rw [if_neg (by omega), show what = 3 by omega, fs_hmc, y0s, show p.toNat = (fs_codes L).length by omega]) E7
        · refine sg_aload_n (pc := 75) (j := 0) (dc_X7_trackTold_56.2.1.1.1) rfl rfl ?_
          refine md_grw (pc := 76) g (dc_X7_trackTold_56.2.1.1.2) fk_X7_9 (by assumption) (fun r76 => ?_)
          refine sg_iconst (pc := 79) (z := 4) (dc_X7_trackTold_56.2.1.2.1) (by decide) ?_
          refine sg_iload_n (pc := 80) (j := 1) (dc_X7_trackTold_56.2.1.2.2) rfl rfl ?_
          first | refine sg_iaddB (pc := 81) (dc_X7_trackTold_56.2.2.1.1) (by omega) (by omega) ?_ | refine sg_iadd (pc := 81) (dc_X7_trackTold_56.2.2.1.1) ?_
          first | refine md_alX (pc := 82) (dc_X7_trackTold_56.2.2.1.2) hA (by assumption) (by assumption) (by omega) (by omega) (fun X82 l82 => ?_) | refine md_alXt (pc := 82) (dc_X7_trackTold_56.2.2.1.2) hA (by assumption) (by assumption) (by omega) (by omega) (fun X82 l82 => ?_)
          refine md_xlen (pc := 83) (dc_X7_trackTold_56.2.2.2.1) (by assumption) (by omega) ?_
          refine sg_goto (pc := 84) (tgt := 112) (dc_X7_trackTold_56.2.2.2.2) (by decide) ?_
          refine sg_iret (pc := 112) (dc_X7_trackTold_87.2.2.2.1) rfl (by first | exact Nat.le_of_ble_eq_true rfl | omega) (by first | exact Nat.le_of_ble_eq_true rfl | omega) ?_
          first
            | exact hQ _ _ (by unfold fs_how; rw [if_pos (by omega)]) E7
            | exact hQ _ _ (by unfold fs_how; rw [if_neg (by omega), show what = 1 by omega, fs_hc]) (md_Et E7 E94)
            | exact hQ _ _ (by unfold fs_how; rw [if_neg (by omega), show what = 2 by omega, fs_hmc, x0, show p.toNat = (fs_codes L).length by omega]) E7
            | exact hQ _ _ (by unfold fs_how; rw [if_neg (by omega), show what = 3 by omega, fs_hmc, y0s, show p.toNat = (fs_codes L).length by omega]) E7
      · refine sg_aload (pc := 27) (dc_X7_trackTold_27.1.1.1.1) rfl ?_
        refine sg_iload (pc := 29) (dc_X7_trackTold_27.1.1.1.2) rfl ?_
        refine md_xld (pc := 31) (dc_X7_trackTold_27.1.1.2.1) C7 (by omega) (by omega) (fun g31 => ?_)
        have q31 := ck_v2.mp g31
        refine sg_istore (pc := 32) (dc_X7_trackTold_27.1.1.2.2) (by decide) ?_
        refine sg_iload_n (pc := 34) (j := 3) (dc_X7_trackTold_27.1.2.1.1) rfl rfl ?_
        refine sg_iload (pc := 35) (dc_X7_trackTold_27.1.2.1.2) rfl ?_
        refine sg_ldc (pc := 37) (z := 65535) g (dc_X7_trackTold_27.1.2.2.1) cn_X7_140 (by decide) ?_
        refine sg_icmp_le (pc := 39) (tgt := 46) (dc_X7_trackTold_27.1.2.2.2) (by decide) (fun c39 => ?_) (fun c39 => ?_)
        · have s2 := fs_ccs (C := (fs_codes L)) (t := 2) (p := p) (by omega)
          rw [if_neg (fun q => by rcases q with q | ⟨-, q⟩ | ⟨q, -⟩ <;> first | omega | (unfold fn_wide at q; split at q <;> omega))] at s2
          refine sg_iconst (pc := 46) (z := 0) (dc_X7_trackTold_27.2.1.2.1) (by decide) ?_
          refine sg_cS1 (pc := 47) (d' := d - 1) (mc' := 0) (ms' := 0) g (dc_X7_trackTold_27.2.1.2.2) cb_X7_one ml_X7_92 ms_X7_one (Nat.le_of_ble_eq_true rfl) (by first | exact jl_d0 hd rfl | omega) (by first | exact Nat.le_of_ble_eq_true rfl | omega) (by first | exact Nat.le_of_ble_eq_true rfl | omega) ?_
          refine s_X7_one g (by first | exact jl_d1 hd rfl | omega) (fun z47 h47 b47 => sg_K1 ?_)
          (try simp only [fm_one, if_true, if_false] at h47)
          first | refine sg_iaddB (pc := 50) (dc_X7_trackTold_27.2.2.1.1) (by omega) (by omega) ?_ | refine sg_iadd (pc := 50) (dc_X7_trackTold_27.2.2.1.1) ?_
          refine sg_istore_n (pc := 51) (j := 3) (dc_X7_trackTold_27.2.2.1.2) rfl (by decide) ?_
          refine sg_iload (pc := 52) (dc_X7_trackTold_27.2.2.2.1) rfl ?_
          refine sg_iload (pc := 54) (dc_X7_trackTold_27.2.2.2.2) rfl ?_
          refine sg_cS1 (pc := 56) (d' := d - 1) (mc' := 0) (ms' := 0) g (dc_X7_trackTold_56.1.1.1.1) cb_X7_isHalf ml_X7_144 ms_X7_isHalf (Nat.le_of_ble_eq_true rfl) (by first | exact jl_d0 hd rfl | omega) (by first | exact Nat.le_of_ble_eq_true rfl | omega) (by first | exact Nat.le_of_ble_eq_true rfl | omega) ?_
          refine s_X7_isHalf g (by first | exact jl_d1 hd rfl | omega) (fun z56 h56 b56 => sg_K1 ?_)
          (try simp only [fm_one, if_true, if_false] at h56)
          refine sg_cS1 (pc := 59) (d' := d - 1) (mc' := 0) (ms' := 0) g (dc_X7_trackTold_56.1.1.1.2) cb_X7_one ml_X7_92 ms_X7_one (Nat.le_of_ble_eq_true rfl) (by first | exact jl_d0 hd rfl | omega) (by first | exact Nat.le_of_ble_eq_true rfl | omega) (by first | exact Nat.le_of_ble_eq_true rfl | omega) ?_
          refine s_X7_one g (by first | exact jl_d1 hd rfl | omega) (fun z59 h59 b59 => sg_K1 ?_)
          (try simp only [fm_one, if_true, if_false] at h59)
          have s3 : fs_cc (fs_codes L) 3 (p + 1).toNat = fs_cc (fs_codes L) 3 p.toNat + z59 := by
            rw [fs_ccs (by omega), h59]
            congr 1
            by_cases q : z56 = 0
            · rw [if_pos q, if_neg (fun r => by rcases r with r | ⟨r, -⟩ | ⟨-, r⟩ <;> omega)]
            · rw [if_neg q, if_pos (Or.inr (Or.inr ⟨rfl, by omega⟩))]
          first | refine sg_iaddB (pc := 62) (dc_X7_trackTold_56.1.1.2.1) (by omega) (by omega) ?_ | refine sg_iadd (pc := 62) (dc_X7_trackTold_56.1.1.2.1) ?_
          refine sg_istore (pc := 63) (dc_X7_trackTold_56.1.1.2.2) (by decide) ?_
          first | refine sg_iincB (pc := 65) (dc_X7_trackTold_56.1.2.1.1) rfl (by decide) (by decide) (by omega) (by omega) ?_ | refine sg_iinc (pc := 65) (dc_X7_trackTold_56.1.2.1.1) rfl (by decide) (by decide) ?_
          refine sg_goto (pc := 68) (tgt := 20) (dc_X7_trackTold_56.1.2.1.2) (by decide) ?_
          refine sg_lsub (lv' := [(7, _), (3, _), (4, _), (0, _), (1, _), (2, _), (5, _), (6, _)]) ⟨rfl, rfl, rfl, rfl, rfl, rfl, rfl, rfl, trivial⟩ ?_
          exact ih _ _ _ (by omega) (by omega) (by omega) (by first | exact jl_m1 hm (by omega) | exact jl_m2 hm (by omega) | omega)
        · have s2 := fs_ccs (C := (fs_codes L)) (t := 2) (p := p) (by omega)
          rw [if_pos (Or.inr (Or.inl ⟨rfl, by unfold fn_wide; rw [if_pos (by omega)]⟩))] at s2
          refine sg_iconst (pc := 42) (z := 1) (dc_X7_trackTold_27.2.1.1.1) (by decide) ?_
          refine sg_goto (pc := 43) (tgt := 47) (dc_X7_trackTold_27.2.1.1.2) (by decide) ?_
          refine sg_cS1 (pc := 47) (d' := d - 1) (mc' := 0) (ms' := 0) g (dc_X7_trackTold_27.2.1.2.2) cb_X7_one ml_X7_92 ms_X7_one (Nat.le_of_ble_eq_true rfl) (by first | exact jl_d0 hd rfl | omega) (by first | exact Nat.le_of_ble_eq_true rfl | omega) (by first | exact Nat.le_of_ble_eq_true rfl | omega) ?_
          refine s_X7_one g (by first | exact jl_d1 hd rfl | omega) (fun z47 h47 b47 => sg_K1 ?_)
          (try simp only [fm_one, if_true, if_false] at h47)
          first | refine sg_iaddB (pc := 50) (dc_X7_trackTold_27.2.2.1.1) (by omega) (by omega) ?_ | refine sg_iadd (pc := 50) (dc_X7_trackTold_27.2.2.1.1) ?_
          refine sg_istore_n (pc := 51) (j := 3) (dc_X7_trackTold_27.2.2.1.2) rfl (by decide) ?_
          refine sg_iload (pc := 52) (dc_X7_trackTold_27.2.2.2.1) rfl ?_
          refine sg_iload (pc := 54) (dc_X7_trackTold_27.2.2.2.2) rfl ?_
          refine sg_cS1 (pc := 56) (d' := d - 1) (mc' := 0) (ms' := 0) g (dc_X7_trackTold_56.1.1.1.1) cb_X7_isHalf ml_X7_144 ms_X7_isHalf (Nat.le_of_ble_eq_true rfl) (by first | exact jl_d0 hd rfl | omega) (by first | exact Nat.le_of_ble_eq_true rfl | omega) (by first | exact Nat.le_of_ble_eq_true rfl | omega) ?_
          refine s_X7_isHalf g (by first | exact jl_d1 hd rfl | omega) (fun z56 h56 b56 => sg_K1 ?_)
          (try simp only [fm_one, if_true, if_false] at h56)
          refine sg_cS1 (pc := 59) (d' := d - 1) (mc' := 0) (ms' := 0) g (dc_X7_trackTold_56.1.1.1.2) cb_X7_one ml_X7_92 ms_X7_one (Nat.le_of_ble_eq_true rfl) (by first | exact jl_d0 hd rfl | omega) (by first | exact Nat.le_of_ble_eq_true rfl | omega) (by first | exact Nat.le_of_ble_eq_true rfl | omega) ?_
          refine s_X7_one g (by first | exact jl_d1 hd rfl | omega) (fun z59 h59 b59 => sg_K1 ?_)
          (try simp only [fm_one, if_true, if_false] at h59)
          have s3 : fs_cc (fs_codes L) 3 (p + 1).toNat = fs_cc (fs_codes L) 3 p.toNat + z59 := by
            rw [fs_ccs (by omega), h59]
            congr 1
            by_cases q : z56 = 0
            · rw [if_pos q, if_neg (fun r => by rcases r with r | ⟨r, -⟩ | ⟨-, r⟩ <;> omega)]
            · rw [if_neg q, if_pos (Or.inr (Or.inr ⟨rfl, by omega⟩))]
          first | refine sg_iaddB (pc := 62) (dc_X7_trackTold_56.1.1.2.1) (by omega) (by omega) ?_ | refine sg_iadd (pc := 62) (dc_X7_trackTold_56.1.1.2.1) ?_
          refine sg_istore (pc := 63) (dc_X7_trackTold_56.1.1.2.2) (by decide) ?_
          first | refine sg_iincB (pc := 65) (dc_X7_trackTold_56.1.2.1.1) rfl (by decide) (by decide) (by omega) (by omega) ?_ | refine sg_iinc (pc := 65) (dc_X7_trackTold_56.1.2.1.1) rfl (by decide) (by decide) ?_
          refine sg_goto (pc := 68) (tgt := 20) (dc_X7_trackTold_56.1.2.1.2) (by decide) ?_
          refine sg_lsub (lv' := [(7, _), (3, _), (4, _), (0, _), (1, _), (2, _), (5, _), (6, _)]) ⟨rfl, rfl, rfl, rfl, rfl, rfl, rfl, rfl, trivial⟩ ?_
          exact ih _ _ _ (by omega) (by omega) (by omega) (by first | exact jl_m1 hm (by omega) | exact jl_m2 hm (by omega) | omega)
  refine sg_lsub (lv' := [(7, _), (3, _), (4, _), (0, _), (1, _), (2, _), (5, _), (6, _)]) ⟨rfl, rfl, rfl, rfl, rfl, rfl, rfl, rfl, trivial⟩ ?_
  exact loop20 _ _ _ _ (by omega) rfl rfl (Nat.lt_succ_self _)

set_option maxRecDepth 100000 in
theorem f_X7_houseOf {w : sg_W} {Q : sg_O → sg_H → Prop} {h : sg_H} (g : sg_G w) {d : Nat} (hd : 3 ≤ d) {M : Nat} {what : Int} (hv : 0 ≤ what ∧ what ≤ 3) {A : fa_A} (hA : md_ab h M = A) (hx : md_M w h M) (hQ : ∀ v : Int, v = fs_house A what → Q (.inl (some (sg_i v))) h) : sg_C w mi_X7_houseOf d 0 0 [sg_r M, sg_i what] h Q := by
  refine sg_of pn_X7 (Nat.le_of_ble_eq_true rfl) ?_
  have y0 := md_Y0 hx
  have hk := hx.2.1
  refine sg_iconst (pc := 0) (z := 0) (dc_X7_houseOf_0.1.1.1.1) (by decide) ?_
  refine sg_istore_n (pc := 1) (j := 2) (dc_X7_houseOf_0.1.1.1.2) rfl (by decide) ?_
  refine sg_iconst (pc := 2) (z := 0) (dc_X7_houseOf_0.1.1.2.1) (by decide) ?_
  refine sg_istore_n (pc := 3) (j := 3) (dc_X7_houseOf_0.1.1.2.2) rfl (by decide) ?_
  have loop4 : ∀ (N : Nat) (p s : Int), (0 ≤ p ∧ p ≤ 4) → (s = fz (fun k => ((fa_L A k).length : Int)) p.toNat) → (0 ≤ s ∧ s ≤ 40 * p) → (4 - p).toNat < N → sg_R w mi_X7_houseOf d 0 0 Q 4 [(3, sg_i p), (2, sg_i s), (0, sg_r M), (1, sg_i what)] [] h 0 0 := by
    intro N
    induction N with
    | zero => intro p s p0 s0 sb hm; exact absurd hm (Nat.not_lt_zero _)
    | succ N ih =>
      intro p s p0 s0 sb hm
      refine sg_iload_n (pc := 4) (j := 3) (dc_X7_houseOf_0.1.2.1.1) rfl rfl ?_
      refine sg_iconst (pc := 5) (z := 4) (dc_X7_houseOf_0.1.2.1.2) (by decide) ?_
      refine sg_icmp_ge (pc := 6) (tgt := 25) (dc_X7_houseOf_0.1.2.2.1) (by decide) (fun c6 => ?_) (fun c6 => ?_)
      · refine sg_iload_n (pc := 25) (j := 1) (dc_X7_houseOf_22.1.1.1.2) rfl rfl ?_
        refine sg_if_ne (pc := 26) (tgt := 33) (dc_X7_houseOf_22.1.1.2.1) (by decide) (fun c26 => ?_) (fun c26 => ?_)
        · refine sg_iload_n (pc := 33) (j := 1) (dc_X7_houseOf_22.1.2.1.2) rfl rfl ?_
          refine sg_iconst (pc := 34) (z := 1) (dc_X7_houseOf_22.1.2.2.1) (by decide) ?_
          refine sg_icmp_ne (pc := 35) (tgt := 56) (dc_X7_houseOf_22.1.2.2.2) (by decide) (fun c35 => ?_) (fun c35 => ?_)
          · refine sg_iload_n (pc := 56) (j := 1) (dc_X7_houseOf_50.1.2.1.1) rfl rfl ?_
            refine sg_iconst (pc := 57) (z := 2) (dc_X7_houseOf_50.1.2.1.2) (by decide) ?_
            refine sg_icmp_ne (pc := 58) (tgt := 71) (dc_X7_houseOf_50.1.2.2.1) (by decide) (fun c58 => ?_) (fun c58 => ?_)
            · refine sg_aload_n (pc := 71) (j := 0) (dc_X7_houseOf_50.2.1.2.2) rfl rfl ?_
              refine md_gkn (pc := 72) g (dc_X7_houseOf_50.2.2.1.1) fk_X7_161 (by assumption) ?_
              refine sg_iret (pc := 75) (dc_X7_houseOf_50.2.2.1.2) rfl (by first | exact Nat.le_of_ble_eq_true rfl | omega) (by first | exact Nat.le_of_ble_eq_true rfl | omega) ?_
              first
                | exact hQ _ (by unfold fs_house; rw [if_pos (by omega), s0, show p.toNat = 4 by omega, fs_h4])
                | exact hQ _ (by unfold fs_house fs_hu; rw [if_neg (by omega), if_pos (by omega)]; rfl)
                | exact hQ _ (by unfold fs_house; rw [if_neg (by omega), if_neg (by omega), if_pos (by omega)]; exact pl.symm)
                | exact hQ _ (by unfold fs_house; rw [if_neg (by omega), if_neg (by omega), if_neg (by omega), ← hA]; rfl)
            · refine sg_aload_n (pc := 61) (j := 0) (dc_X7_houseOf_50.1.2.2.2) rfl rfl ?_
              obtain ⟨th, kn, R, b, m, sz, E, hM, hb, pl⟩ := md_pl hx
              rw [hA] at pl
              refine sg_getf (pc := 62) g (dc_X7_houseOf_50.2.1.1.1) fk_X7_18 hM rfl rfl ?_
              refine sg_cV0 (pc := 65) (d' := d - 1) (mc' := 0) (ms' := 0) g (dc_X7_houseOf_50.2.1.1.2) cb_Jx4a65c_size_8abf5 ml_X7_53 mn_Jx4a65c_size_8abf5 mv_Jx4a65c_size_8abf5 hb (Nat.le_of_ble_eq_true rfl) rfl (Nat.le_of_ble_eq_true rfl) (by first | exact jl_d0 hd rfl | omega) (by first | exact Nat.le_of_ble_eq_true rfl | omega) (by first | exact Nat.le_of_ble_eq_true rfl | omega) ?_
              refine s_al_size g (by first | exact jl_d1 hd rfl | omega) hb ?_
              refine sg_K1 ?_
              refine sg_goto (pc := 68) (tgt := 75) (dc_X7_houseOf_50.2.1.2.1) (by decide) ?_
              refine sg_iret (pc := 75) (dc_X7_houseOf_50.2.2.1.2) rfl (by first | exact Nat.le_of_ble_eq_true rfl | omega) (by first | exact Nat.le_of_ble_eq_true rfl | omega) ?_
              first
                | exact hQ _ (by unfold fs_house; rw [if_pos (by omega), s0, show p.toNat = 4 by omega, fs_h4])
                | exact hQ _ (by unfold fs_house fs_hu; rw [if_neg (by omega), if_pos (by omega)]; rfl)
                | exact hQ _ (by unfold fs_house; rw [if_neg (by omega), if_neg (by omega), if_pos (by omega)]; exact pl.symm)
                | exact hQ _ (by unfold fs_house; rw [if_neg (by omega), if_neg (by omega), if_neg (by omega), ← hA]; rfl)
          · refine sg_aload_n (pc := 38) (j := 0) (dc_X7_houseOf_22.2.1.1.1) rfl rfl ?_
            refine md_grw (pc := 39) g (dc_X7_houseOf_22.2.1.1.2) fk_X7_9 (by assumption) (fun r39 => ?_)
            refine sg_iconst (pc := 42) (z := 4) (dc_X7_houseOf_22.2.1.2.1) (by decide) ?_
            refine md_alXu (pc := 43) (dc_X7_houseOf_22.2.1.2.2) hA y0 (by decide) (by decide) (fun X43 l43 => ?_)
            refine md_xlen (pc := 44) (dc_X7_houseOf_22.2.2.1.1) (by assumption) (by omega) ?_
            refine sg_aload_n (pc := 45) (j := 0) (dc_X7_houseOf_22.2.2.1.2) rfl rfl ?_
            refine md_grw (pc := 46) g (dc_X7_houseOf_22.2.2.2.1) fk_X7_9 (by assumption) (fun r46 => ?_)
            refine sg_iconst (pc := 49) (z := 5) (dc_X7_houseOf_22.2.2.2.2) (by decide) ?_
            refine md_alXu (pc := 50) (dc_X7_houseOf_50.1.1.1.1) hA y0 (by decide) (by decide) (fun X50 l50 => ?_)
            refine md_xlen (pc := 51) (dc_X7_houseOf_50.1.1.1.2) (by assumption) (by omega) ?_
            first | refine sg_iaddB (pc := 52) (dc_X7_houseOf_50.1.1.2.1) (by omega) (by omega) ?_ | refine sg_iadd (pc := 52) (dc_X7_houseOf_50.1.1.2.1) ?_
            refine sg_goto (pc := 53) (tgt := 75) (dc_X7_houseOf_50.1.1.2.2) (by decide) ?_
            refine sg_iret (pc := 75) (dc_X7_houseOf_50.2.2.1.2) rfl (by first | exact Nat.le_of_ble_eq_true rfl | omega) (by first | exact Nat.le_of_ble_eq_true rfl | omega) ?_
            first
              | exact hQ _ (by unfold fs_house; rw [if_pos (by omega), s0, show p.toNat = 4 by omega, fs_h4])
              | exact hQ _ (by unfold fs_house fs_hu; rw [if_neg (by omega), if_pos (by omega)]; rfl)
              | exact hQ _ (by unfold fs_house; rw [if_neg (by omega), if_neg (by omega), if_pos (by omega)]; exact pl.symm)
              | exact hQ _ (by unfold fs_house; rw [if_neg (by omega), if_neg (by omega), if_neg (by omega), ← hA]; rfl)
        · refine sg_iload_n (pc := 29) (j := 2) (dc_X7_houseOf_22.1.1.2.2) rfl rfl ?_
          refine sg_goto (pc := 30) (tgt := 75) (dc_X7_houseOf_22.1.2.1.1) (by decide) ?_
          refine sg_iret (pc := 75) (dc_X7_houseOf_50.2.2.1.2) rfl (by first | exact Nat.le_of_ble_eq_true rfl | omega) (by first | exact Nat.le_of_ble_eq_true rfl | omega) ?_
          first
            | exact hQ _ (by unfold fs_house; rw [if_pos (by omega), s0, show p.toNat = 4 by omega, fs_h4])
            | exact hQ _ (by unfold fs_house fs_hu; rw [if_neg (by omega), if_pos (by omega)]; rfl)
            | exact hQ _ (by unfold fs_house; rw [if_neg (by omega), if_neg (by omega), if_pos (by omega)]; exact pl.symm)
            | exact hQ _ (by unfold fs_house; rw [if_neg (by omega), if_neg (by omega), if_neg (by omega), ← hA]; rfl)
      · refine sg_iload_n (pc := 9) (j := 2) (dc_X7_houseOf_0.1.2.2.2) rfl rfl ?_
        refine sg_aload_n (pc := 10) (j := 0) (dc_X7_houseOf_0.2.1.1.1) rfl rfl ?_
        refine md_grw (pc := 11) g (dc_X7_houseOf_0.2.1.1.2) fk_X7_9 (by assumption) (fun r11 => ?_)
        refine sg_iload_n (pc := 14) (j := 3) (dc_X7_houseOf_0.2.1.2.1) rfl rfl ?_
        refine md_alX (L := fa_L A p.toNat) (pc := 15) (dc_X7_houseOf_0.2.1.2.2) hA y0 rfl (by omega) (by omega) (fun X15 l15 => ?_)
        refine md_xlen (pc := 16) (dc_X7_houseOf_0.2.2.1.1) (by assumption) (by omega) ?_
        first | refine sg_iaddB (pc := 17) (dc_X7_houseOf_0.2.2.1.2) (by omega) (by omega) ?_ | refine sg_iadd (pc := 17) (dc_X7_houseOf_0.2.2.1.2) ?_
        refine sg_istore_n (pc := 18) (j := 2) (dc_X7_houseOf_0.2.2.2.1) rfl (by decide) ?_
        first | refine sg_iincB (pc := 19) (dc_X7_houseOf_0.2.2.2.2) rfl (by decide) (by decide) (by omega) (by omega) ?_ | refine sg_iinc (pc := 19) (dc_X7_houseOf_0.2.2.2.2) rfl (by decide) (by decide) ?_
        refine sg_goto (pc := 22) (tgt := 4) (dc_X7_houseOf_22.1.1.1.1) (by decide) ?_
        refine sg_lsub (lv' := [(3, _), (2, _), (0, _), (1, _)]) ⟨rfl, rfl, rfl, rfl, trivial⟩ ?_
        exact ih _ _ (by omega) (by rw [fz_s (by omega), ← s0]) (by omega) (by first | exact jl_m1 hm (by omega) | exact jl_m2 hm (by omega) | omega)
  refine sg_lsub (lv' := [(3, _), (2, _), (0, _), (1, _)]) ⟨rfl, rfl, rfl, rfl, trivial⟩ ?_
  exact loop4 _ _ _ (by omega) rfl (by omega) (Nat.lt_succ_self _)

set_option maxRecDepth 100000 in
theorem f_X7_isSound {w : sg_W} {Q : sg_O → sg_H → Prop} {h : sg_H} (g : sg_G w) {d : Nat} (hd : 3 ≤ d) {M : Nat} {A : fa_A} (hA : md_ab h M = A) (hx : md_M w h M) (hQ : ∀ (v : Int) (h' : sg_H), (md_t h' M = 0) → (md_t h' M = 0 → v = 1) → md_Y w h h' M → Q (.inl (some (sg_i v))) h') : sg_C w mi_X7_isSound d 0 0 [sg_r M] h Q := by
  refine sg_of pn_X7 (Nat.le_of_ble_eq_true rfl) ?_
  have y0 := md_Y0 hx
  have hk := hx.2.1
  refine sg_aload_n (pc := 0) (j := 0) (dc_X7_isSound_0.1.1.1.1) rfl rfl ?_
  refine sg_iconst (pc := 1) (z := 0) (dc_X7_isSound_0.1.1.1.2) (by decide) ?_
  refine md_pth (pc := 2) g (dc_X7_isSound_0.1.1.2.1) fk_X7_41 (by assumption) (by omega) (fun h2 y2 e2 s2 u2 => ?_)
  have x2 := y2.1
  refine sg_aload_n (pc := 5) (j := 0) (dc_X7_isSound_0.1.1.2.2) rfl rfl ?_
  refine md_grw (pc := 6) g (dc_X7_isSound_0.1.2.1.1) fk_X7_9 (by assumption) (fun r6 => ?_)
  refine sg_iconst (pc := 9) (z := 4) (dc_X7_isSound_0.1.2.1.2) (by decide) ?_
  refine md_alXt (t := 0) (L := fa_L A (4 + 0)) (pc := 10) (dc_X7_isSound_0.1.2.2.1) hA y2 rfl (by omega) (by omega) (fun X10 l10 => ?_)
  refine md_xlen (pc := 11) (dc_X7_isSound_0.1.2.2.2) (by assumption) (by omega) ?_
  refine sg_bipush (pc := 12) (z := 24) (dc_X7_isSound_0.2.1.1.1) (by decide) ?_
  refine sg_icmp_gt (pc := 14) (tgt := 33) (dc_X7_isSound_0.2.1.1.2) (by decide) (fun c14 => ?_) (fun c14 => ?_)
  · exfalso
    omega
  · refine sg_aload_n (pc := 17) (j := 0) (dc_X7_isSound_0.2.1.2.1) rfl rfl ?_
    refine md_grw (pc := 18) g (dc_X7_isSound_0.2.1.2.2) fk_X7_9 (by assumption) (fun r18 => ?_)
    refine sg_iconst (pc := 21) (z := 5) (dc_X7_isSound_0.2.2.1.1) (by decide) ?_
    refine md_alXt (t := 1) (L := fa_L A (4 + 1)) (pc := 22) (dc_X7_isSound_0.2.2.1.2) hA y2 rfl (by omega) (by omega) (fun X22 l22 => ?_)
    refine md_xlen (pc := 23) (dc_X7_isSound_0.2.2.2.1) (by assumption) (by omega) ?_
    refine sg_bipush (pc := 24) (z := 24) (dc_X7_isSound_0.2.2.2.2) (by decide) ?_
    refine sg_icmp_gt (pc := 26) (tgt := 33) (dc_X7_isSound_26.1.1.1.1) (by decide) (fun c26 => ?_) (fun c26 => ?_)
    · exfalso
      omega
    · refine sg_iconst (pc := 29) (z := 1) (dc_X7_isSound_26.1.1.1.2) (by decide) ?_
      refine sg_goto (pc := 30) (tgt := 34) (dc_X7_isSound_26.1.1.2.1) (by decide) ?_
      refine sg_istore_n (pc := 34) (j := 1) (dc_X7_isSound_26.1.2.1.1) rfl (by decide) ?_
      refine sg_iconst (pc := 35) (z := 0) (dc_X7_isSound_26.1.2.1.2) (by decide) ?_
      refine sg_istore_n (pc := 36) (j := 2) (dc_X7_isSound_26.1.2.2.1) rfl (by decide) ?_
      have loop37 : ∀ (N : Nat) (p : Int), (0 ≤ p ∧ p ≤ 4) → (4 - p).toNat < N → sg_R w mi_X7_isSound d 0 0 Q 37 [(2, sg_i p), (1, sg_i 1), (0, sg_r M)] [] h2 0 0 := by
        intro N
        induction N with
        | zero => intro p p0 hm; exact absurd hm (Nat.not_lt_zero _)
        | succ N ih =>
          intro p p0 hm
          refine sg_iload_n (pc := 37) (j := 2) (dc_X7_isSound_26.1.2.2.2) rfl rfl ?_
          refine sg_iconst (pc := 38) (z := 4) (dc_X7_isSound_26.2.1.1.1) (by decide) ?_
          refine sg_icmp_ge (pc := 39) (tgt := 68) (dc_X7_isSound_26.2.1.1.2) (by decide) (fun c39 => ?_) (fun c39 => ?_)
          · refine sg_iload_n (pc := 68) (j := 1) (dc_X7_isSound_50.2.1.1.2) rfl rfl ?_
            refine sg_zret (pc := 69) (dc_X7_isSound_50.2.1.2.1) rfl (by first | exact Or.inl rfl | exact Or.inr rfl | omega | assumption) (by first | exact Nat.le_of_ble_eq_true rfl | omega) (by first | exact Nat.le_of_ble_eq_true rfl | omega) ?_
            first
              | exact hQ _ _ (by omega) (fun q => absurd q (by omega)) (by assumption)
              | exact hQ _ _ (by omega) (fun _ => rfl) (by assumption)
          · refine sg_iload_n (pc := 42) (j := 1) (dc_X7_isSound_26.2.1.2.1) rfl rfl ?_
            refine sg_aload_n (pc := 43) (j := 0) (dc_X7_isSound_26.2.1.2.2) rfl rfl ?_
            refine md_grw (pc := 44) g (dc_X7_isSound_26.2.2.1.1) fk_X7_9 (by assumption) (fun r44 => ?_)
            refine sg_iload_n (pc := 47) (j := 2) (dc_X7_isSound_26.2.2.1.2) rfl rfl ?_
            refine md_alX (L := fa_L A p.toNat) (pc := 48) (dc_X7_isSound_26.2.2.2.1) hA y2 rfl (by omega) (by omega) (fun X48 l48 => ?_)
            refine md_xlen (pc := 49) (dc_X7_isSound_26.2.2.2.2) (by assumption) (by omega) ?_
            refine sg_bipush (pc := 50) (z := 40) (dc_X7_isSound_50.1.1.1.1) (by decide) ?_
            refine sg_icmp_gt (pc := 52) (tgt := 59) (dc_X7_isSound_50.1.1.1.2) (by decide) (fun c52 => ?_) (fun c52 => ?_)
            · exfalso
              omega
            · refine sg_iconst (pc := 55) (z := 1) (dc_X7_isSound_50.1.1.2.1) (by decide) ?_
              refine sg_goto (pc := 56) (tgt := 60) (dc_X7_isSound_50.1.1.2.2) (by decide) ?_
              refine sg_iand (pc := 60) (dc_X7_isSound_50.1.2.1.2) ?_
              refine sg_istore_n (pc := 61) (j := 1) (dc_X7_isSound_50.1.2.2.1) rfl (by decide) ?_
              first | refine sg_iincB (pc := 62) (dc_X7_isSound_50.1.2.2.2) rfl (by decide) (by decide) (by omega) (by omega) ?_ | refine sg_iinc (pc := 62) (dc_X7_isSound_50.1.2.2.2) rfl (by decide) (by decide) ?_
              refine sg_goto (pc := 65) (tgt := 37) (dc_X7_isSound_50.2.1.1.1) (by decide) ?_
              refine sg_lsub (lv' := [(2, _), (1, _), (0, _)]) ⟨rfl, rfl, rfl, trivial⟩ ?_
              exact ih _ (by omega) (by first | exact jl_m1 hm (by omega) | exact jl_m2 hm (by omega) | omega)
      refine sg_lsub (lv' := [(2, _), (1, _), (0, _)]) ⟨rfl, rfl, rfl, trivial⟩ ?_
      exact loop37 _ _ (by omega) (Nat.lt_succ_self _)

