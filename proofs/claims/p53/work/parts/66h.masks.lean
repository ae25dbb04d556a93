/-! what the asks of tracks and of the whole rest on -/
def fs_cc (C : List Int) (t : Int) (n : Nat) : Int := fz (fun k => if fs_ct (C.getD k 0) t then 1 else 0) n
theorem fs_ccs {C : List Int} {t p : Int} (p0 : 0 ≤ p) : fs_cc C t (p + 1).toNat = fs_cc C t p.toNat + (if fs_ct (C.getD p.toNat 0) t then 1 else 0) := fz_s p0
theorem fs_ccb {C : List Int} {t : Int} {n : Nat} : 0 ≤ fs_cc C t n ∧ fs_cc C t n ≤ (n : Int) := by
  unfold fs_cc
  induction n with
  | zero => exact ⟨Int.le_refl _, Int.le_refl _⟩
  | succ n ih =>
    show 0 ≤ fz _ n + (if _ then 1 else 0) ∧ fz _ n + (if _ then 1 else 0) ≤ _
    split <;> omega
theorem fs_hmc {L : List Int} {t : Int} : ∀ n : Nat, fs_hm L t n = fs_cc (fs_cs L n) t (fs_cs L n).length
  | 0 => rfl
  | n + 1 => by
    show fs_hm L t n + (if fs_bg L n ∧ fs_ct (fs_cd L n) t then (1 : Int) else 0) = _
    rw [fs_hmc n]
    by_cases c : fs_bg L n
    · have e : fs_cs L (n + 1) = fs_cs L n ++ [fs_cd L n] := by rw [fs_css, if_pos c]
      have l : (fs_cs L (n + 1)).length = (fs_cs L n).length + 1 := by rw [e, List.length_append]; rfl
      rw [l]
      show _ = fz (fun k => if fs_ct ((fs_cs L (n + 1)).getD k 0) t then (1 : Int) else 0) (fs_cs L n).length + (if fs_ct ((fs_cs L (n + 1)).getD (fs_cs L n).length 0) t then (1 : Int) else 0)
      have g1 : (fs_cs L (n + 1)).getD (fs_cs L n).length 0 = fs_cd L n := by
        rw [e, gd_app, if_neg (Nat.lt_irrefl _), Nat.sub_self]
        rfl
      have g2 : fz (fun k => if fs_ct ((fs_cs L (n + 1)).getD k 0) t then (1 : Int) else 0) (fs_cs L n).length = fs_cc (fs_cs L n) t (fs_cs L n).length := by
        refine fz_c (fun j hj => ?_)
        have : (fs_cs L (n + 1)).getD j 0 = (fs_cs L n).getD j 0 := by rw [e, gd_app, if_pos hj]
        rw [this]
      rw [g1, g2]
      congr 1
      by_cases c2 : fs_ct (fs_cd L n) t
      · rw [if_pos c2, if_pos ⟨c, c2⟩]
      · rw [if_neg c2, if_neg (fun q => c2 q.2)]
    · have e : fs_cs L (n + 1) = fs_cs L n := by rw [fs_css, if_neg c, List.append_nil]
      rw [e, if_neg (fun q => c q.1), Int.add_zero]
section
variable {w : sg_W} {mi : sg_M} {d mc ms : Nat} {Q : sg_O → sg_H → Prop} {pc : Nat} {lv : List (Nat × sg_V)} {st : List sg_V} {h h0 : sg_H} {k n M : Nat} {A : fa_A} {L : List Int}
end
set_option maxRecDepth 100000 in
set_option maxHeartbeats 400000 in
theorem f_X7_trackTold {w : sg_W} {Q : sg_O → sg_H → Prop} {h : sg_H} (g : sg_G w) {d : Nat} (hd : 8 ≤ d) {M : Nat} {trk what : Int} (hv : 0 ≤ trk ∧ trk < 2 ∧ 0 ≤ what ∧ what ≤ 3) {A : fa_A} {L : List Int} (hA : md_ab h M = A) (hL : fa_L A (4 + trk.toNat) = L) (hx : md_M w h M) (hQ : ∀ (v : Int) (h' : sg_H), v = fs_how L what → md_E h h' → Q (.inl (some (sg_i v))) h') : sg_C w mi_X7_trackTold d 152 1350 [sg_r M, sg_i trk, sg_i what] h Q := by
  refine sg_of pn_X7 (Nat.le_of_ble_eq_true rfl) ?_
  have y0 := md_Y0 hx
  have hk := hx.2.1
  have cl : (fs_codes L).length ≤ L.length := fs_csl
  obtain ⟨-, l24⟩ := md_rT hx (i := 4 + trk) (by omega) (by omega)
  rw [hA, show (4 + trk).toNat = 4 + trk.toNat by omega, hL] at l24
  refine sg_iconst (pc := 0) (z := 0) (dc_X7_trackTold_0.1.1.1.1) (by decide) ?_
  refine sg_istore_n (pc := 1) (j := 3) (dc_X7_trackTold_0.1.1.1.2) rfl (by decide) ?_
  refine sg_iconst (pc := 2) (z := 0) (dc_X7_trackTold_0.1.1.2.1) (by decide) ?_
  refine sg_istore (pc := 3) (dc_X7_trackTold_0.1.1.2.2) (by decide) ?_
  refine sg_aload_n (pc := 5) (j := 0) (dc_X7_trackTold_0.1.2.1.1) rfl rfl ?_
  refine sg_iload_n (pc := 6) (j := 1) (dc_X7_trackTold_0.1.2.1.2) rfl rfl ?_
  refine sg_cE1 (pc := 7) (d' := d - 1) (mc' := 76) (ms' := 675) 8 g (dc_X7_trackTold_0.1.2.2.1) cb_X7_codes ml_X7_153 mn_X7_codes rfl mv_X7_codes (Nat.le_of_ble_eq_true rfl) (md_oc (by assumption)) (Nat.le_of_ble_eq_true rfl) (by first | exact jl_d0 hd rfl | omega) (by first | exact Nat.le_of_ble_eq_true rfl | omega) (by first | exact Nat.le_of_ble_eq_true rfl | omega) ?_
  refine f_X7_codes g (by first | exact jl_d1 hd rfl | omega) (by omega) (md_Ya (h0 := h) (by assumption) hA) hL (by assumption) (fun h7 a7 E7 C7 => sg_K1 ?_)
  have x7 : md_M w h7 M := md_ME (by assumption) E7
  have hk7 := x7.2.1
  have th7 := md_tE (w := w) (M := M) (by assumption) E7
  have y7 : md_Y w h h7 M := md_YE (by assumption) E7
  refine sg_astore (pc := 10) (dc_X7_trackTold_0.1.2.2.2) (by decide) ?_
  refine sg_aload (pc := 12) (dc_X7_trackTold_0.2.1.1.1) rfl ?_
  refine md_xlen (pc := 14) (dc_X7_trackTold_0.2.1.1.2) C7 (by omega) ?_
  refine sg_istore (pc := 15) (dc_X7_trackTold_0.2.1.2.1) (by decide) ?_
  refine sg_iconst (pc := 17) (z := 0) (dc_X7_trackTold_0.2.1.2.2) (by decide) ?_
  refine sg_istore (pc := 18) (dc_X7_trackTold_0.2.2.1.1) (by decide) ?_
  have loop20 : ∀ (N : Nat) (p x y : Int), (0 ≤ p ∧ p ≤ ((fs_codes L).length : Int)) → (x = fs_cc (fs_codes L) 2 p.toNat) → (y = fs_cc (fs_codes L) 3 p.toNat) → (((fs_codes L).length : Int) - p).toNat < N → sg_R w mi_X7_trackTold d 152 1350 Q 20 [(7, sg_i p), (3, sg_i x), (4, sg_i y), (0, sg_r M), (1, sg_i trk), (2, sg_i what), (5, sg_r a7), (6, sg_i ((fs_codes L).length : Int))] [] h7 76 675 := by
    intro N
    induction N with
    | zero => intro p x y p0 x0 y0s hm; exact absurd hm (Nat.not_lt_zero _)
    | succ N ih =>
      intro p x y p0 x0 y0s hm
      have b2 := fs_ccb (C := (fs_codes L)) (t := 2) (n := p.toNat)
      have b3 := fs_ccb (C := (fs_codes L)) (t := 3) (n := p.toNat)
      rw [← x0] at b2
      rw [← y0s] at b3
      refine sg_iload (pc := 20) (dc_X7_trackTold_0.2.2.1.2) rfl ?_
      refine sg_iload (pc := 22) (dc_X7_trackTold_0.2.2.2.1) rfl ?_
      refine sg_icmp_ge (pc := 24) (tgt := 71) (dc_X7_trackTold_0.2.2.2.2) (by decide) (fun c24 => ?_) (fun c24 => ?_)
      · refine sg_iload_n (pc := 71) (j := 2) (dc_X7_trackTold_56.1.2.2.1) rfl rfl ?_
        refine sg_if_ne (pc := 72) (tgt := 87) (dc_X7_trackTold_56.1.2.2.2) (by decide) (fun c72 => ?_) (fun c72 => ?_)
        · refine sg_iload_n (pc := 87) (j := 2) (dc_X7_trackTold_87.1.1.1.1) rfl rfl ?_
          refine sg_iconst (pc := 88) (z := 1) (dc_X7_trackTold_87.1.1.1.2) (by decide) ?_
          refine sg_icmp_ne (pc := 89) (tgt := 101) (dc_X7_trackTold_87.1.1.2.1) (by decide) (fun c89 => ?_) (fun c89 => ?_)
          · refine sg_iload_n (pc := 101) (j := 2) (dc_X7_trackTold_87.2.1.1.1) rfl rfl ?_
            refine sg_iconst (pc := 102) (z := 2) (dc_X7_trackTold_87.2.1.1.2) (by decide) ?_
            refine sg_icmp_ne (pc := 103) (tgt := 110) (dc_X7_trackTold_87.2.1.2.1) (by decide) (fun c103 => ?_) (fun c103 => ?_)
            · refine sg_iload (pc := 110) (dc_X7_trackTold_87.2.2.1.2) rfl ?_
              refine sg_iret (pc := 112) (dc_X7_trackTold_87.2.2.2.1) rfl (by first | exact Nat.le_of_ble_eq_true rfl | omega) (by first | exact Nat.le_of_ble_eq_true rfl | omega) ?_
              first
                | exact hQ _ _ (by unfold fs_how; rw [if_pos (by omega)]) E7
                | exact hQ _ _ (by unfold fs_how; rw [if_neg (by omega), show what = 1 by omega, fs_hc]) (md_Et E7 E94)
                | exact hQ _ _ (by unfold fs_how; rw [if_neg (by omega), show what = 2 by omega, fs_hmc, x0, show p.toNat = (fs_codes L).length by omega]) E7
                | exact hQ _ _ (by unfold fs_how; rw [if_neg (by omega), show what = 3 by omega, fs_hmc, y0s, show p.toNat = (fs_codes L).length by omega]) E7
            · refine sg_iload_n (pc := 106) (j := 3) (dc_X7_trackTold_87.2.1.2.2) rfl rfl ?_
              refine sg_goto (pc := 107) (tgt := 112) (dc_X7_trackTold_87.2.2.1.1) (by decide) ?_
              refine sg_iret (pc := 112) (dc_X7_trackTold_87.2.2.2.1) rfl (by first | exact Nat.le_of_ble_eq_true rfl | omega) (by first | exact Nat.le_of_ble_eq_true rfl | omega) ?_
              first
                | exact hQ _ _ (by unfold fs_how; rw [if_pos (by omega)]) E7
                | exact hQ _ _ (by unfold fs_how; rw [if_neg (by omega), show what = 1 by omega, fs_hc]) (md_Et E7 E94)
                | exact hQ _ _ (by unfold fs_how; rw [if_neg (by omega), show what = 2 by omega, fs_hmc, x0, show p.toNat = (fs_codes L).length by omega]) E7
                | exact hQ _ _ (by unfold fs_how; rw [if_neg (by omega), show what = 3 by omega, fs_hmc, y0s, show p.toNat = (fs_codes L).length by omega]) E7
          · refine sg_aload_n (pc := 92) (j := 0) (dc_X7_trackTold_87.1.1.2.2) rfl rfl ?_
            refine sg_iload_n (pc := 93) (j := 1) (dc_X7_trackTold_87.1.2.1.1) rfl rfl ?_
            refine sg_cE1 (pc := 94) (d' := d - 1) (mc' := 76) (ms' := 675) 8 g (dc_X7_trackTold_87.1.2.1.2) cb_X7_codes ml_X7_153 mn_X7_codes rfl mv_X7_codes (Nat.le_of_ble_eq_true rfl) (md_oc (by assumption)) (Nat.le_of_ble_eq_true rfl) (by first | exact jl_d0 hd rfl | omega) (by first | exact Nat.le_of_ble_eq_true rfl | omega) (by first | exact Nat.le_of_ble_eq_true rfl | omega) ?_
            refine f_X7_codes g (by first | exact jl_d1 hd rfl | omega) (by omega) (md_Ya (h0 := h) (by assumption) hA) hL (by assumption) (fun h94 a94 E94 C94 => sg_K1 ?_)
            have x94 : md_M w h94 M := md_ME (by assumption) E94
            have hk94 := x94.2.1
            have th94 := md_tE (w := w) (M := M) (by assumption) E94
            have y94 : md_Y w h h94 M := md_YE (by assumption) E94
            refine md_xlen (pc := 97) (dc_X7_trackTold_87.1.2.2.1) C94 (by omega) ?_
            refine sg_goto (pc := 98) (tgt := 112) (dc_X7_trackTold_87.1.2.2.2) (by decide) ?_
            refine sg_iret (pc := 112) (dc_X7_trackTold_87.2.2.2.1) rfl (by first | exact Nat.le_of_ble_eq_true rfl | omega) (by first | exact Nat.le_of_ble_eq_true rfl | omega) ?_
            first
              | exact hQ _ _ (by unfold fs_how; rw [if_pos (by omega)]) E7
              | exact hQ _ _ (by unfold fs_how; rw [if_neg (by omega), show what = 1 by omega, fs_hc]) (md_Et E7 E94)
              | exact hQ _ _ (by unfold fs_how; rw [if_neg (by omega), show what = 2 by omega, fs_hmc, x0, show p.toNat = (fs_codes L).length by omega]) E7
              | exact hQ _ _ (by unfold fs_how; rw [if_neg (by omega), show what = 3 by omega, fs_hmc, y0s, show p.toNat = (fs_codes L).length by omega]) E7
        · refine sg_aload_n (pc := 75) (j := 0) (dc_X7_trackTold_56.2.1.1.1) rfl rfl ?_
          refine md_grw (pc := 76) g (dc_X7_trackTold_56.2.1.1.2) fk_X7_9 (by assumption) (fun r76 => ?_)
          refine sg_iconst (pc := 79) (z := 4) (dc_X7_trackTold_56.2.1.2.1) (by decide) ?_
          refine sg_iload_n (pc := 80) (j := 1) (dc_X7_trackTold_56.2.1.2.2) rfl rfl ?_
          first | refine sg_iaddB (pc := 81) (dc_X7_trackTold_56.2.2.1.1) (by omega) (by omega) ?_ | refine sg_iadd (pc := 81) (dc_X7_trackTold_56.2.2.1.1) ?_
          first | refine md_alX (pc := 82) (dc_X7_trackTold_56.2.2.1.2) hA (by assumption) (by assumption) (by omega) (by omega) (fun X82 l82 => ?_) | refine md_alXt (pc := 82) (dc_X7_trackTold_56.2.2.1.2) hA (by assumption) (by assumption) (by omega) (by omega) (fun X82 l82 => ?_)
          refine md_xlen (pc := 83) (dc_X7_trackTold_56.2.2.2.1) (by assumption) (by omega) ?_
          refine sg_goto (pc := 84) (tgt := 112) (dc_X7_trackTold_56.2.2.2.2) (by decide) ?_
          refine sg_iret (pc := 112) (dc_X7_trackTold_87.2.2.2.1) rfl (by first | exact Nat.le_of_ble_eq_true rfl | omega) (by first | exact Nat.le_of_ble_eq_true rfl | omega) ?_
          first
            | exact hQ _ _ (by unfold fs_how; rw [if_pos (by omega)]) E7
            | exact hQ _ _ (by unfold fs_how; rw [if_neg (by omega), show what = 1 by omega, fs_hc]) (md_Et E7 E94)
            | exact hQ _ _ (by unfold fs_how; rw [if_neg (by omega), show what = 2 by omega, fs_hmc, x0, show p.toNat = (fs_codes L).length by omega]) E7
            | exact hQ _ _ (by unfold fs_how; rw [if_neg (by omega), show what = 3 by omega, fs_hmc, y0s, show p.toNat = (fs_codes L).length by omega]) E7
      · refine sg_aload (pc := 27) (dc_X7_trackTold_27.1.1.1.1) rfl ?_
        refine sg_iload (pc := 29) (dc_X7_trackTold_27.1.1.1.2) rfl ?_
        refine md_xld (pc := 31) (dc_X7_trackTold_27.1.1.2.1) C7 (by omega) (by omega) (fun g31 => ?_)
        have q31 := ck_v2.mp g31
        refine sg_istore (pc := 32) (dc_X7_trackTold_27.1.1.2.2) (by decide) ?_
        refine sg_iload_n (pc := 34) (j := 3) (dc_X7_trackTold_27.1.2.1.1) rfl rfl ?_
        refine sg_iload (pc := 35) (dc_X7_trackTold_27.1.2.1.2) rfl ?_
        refine sg_ldc (pc := 37) (z := 65535) g (dc_X7_trackTold_27.1.2.2.1) cn_X7_140 (by decide) ?_
        refine sg_icmp_le (pc := 39) (tgt := 46) (dc_X7_trackTold_27.1.2.2.2) (by decide) (fun c39 => ?_) (fun c39 => ?_)
        · have s2 := fs_ccs (C := (fs_codes L)) (t := 2) (p := p) (by omega)
          rw [if_neg (fun q => by rcases q with q | ⟨-, q⟩ | ⟨q, -⟩ <;> first | omega | (unfold fn_wide at q; split at q <;> omega))] at s2
          refine sg_iconst (pc := 46) (z := 0) (dc_X7_trackTold_27.2.1.2.1) (by decide) ?_
          refine sg_cS1 (pc := 47) (d' := d - 1) (mc' := 0) (ms' := 0) g (dc_X7_trackTold_27.2.1.2.2) cb_X7_one ml_X7_92 ms_X7_one (Nat.le_of_ble_eq_true rfl) (by first | exact jl_d0 hd rfl | omega) (by first | exact Nat.le_of_ble_eq_true rfl | omega) (by first | exact Nat.le_of_ble_eq_true rfl | omega) ?_
          refine s_X7_one g (by first | exact jl_d1 hd rfl | omega) (fun z47 h47 b47 => sg_K1 ?_)
          (try simp only [fm_one, if_true, if_false] at h47)
          first | refine sg_iaddB (pc := 50) (dc_X7_trackTold_27.2.2.1.1) (by omega) (by omega) ?_ | refine sg_iadd (pc := 50) (dc_X7_trackTold_27.2.2.1.1) ?_
          refine sg_istore_n (pc := 51) (j := 3) (dc_X7_trackTold_27.2.2.1.2) rfl (by decide) ?_
          refine sg_iload (pc := 52) (dc_X7_trackTold_27.2.2.2.1) rfl ?_
          refine sg_iload (pc := 54) (dc_X7_trackTold_27.2.2.2.2) rfl ?_
          refine sg_cS1 (pc := 56) (d' := d - 1) (mc' := 0) (ms' := 0) g (dc_X7_trackTold_56.1.1.1.1) cb_X7_isHalf ml_X7_144 ms_X7_isHalf (Nat.le_of_ble_eq_true rfl) (by first | exact jl_d0 hd rfl | omega) (by first | exact Nat.le_of_ble_eq_true rfl | omega) (by first | exact Nat.le_of_ble_eq_true rfl | omega) ?_
          refine s_X7_isHalf g (by first | exact jl_d1 hd rfl | omega) (fun z56 h56 b56 => sg_K1 ?_)
          (try simp only [fm_one, if_true, if_false] at h56)
          refine sg_cS1 (pc := 59) (d' := d - 1) (mc' := 0) (ms' := 0) g (dc_X7_trackTold_56.1.1.1.2) cb_X7_one ml_X7_92 ms_X7_one (Nat.le_of_ble_eq_true rfl) (by first | exact jl_d0 hd rfl | omega) (by first | exact Nat.le_of_ble_eq_true rfl | omega) (by first | exact Nat.le_of_ble_eq_true rfl | omega) ?_
          refine s_X7_one g (by first | exact jl_d1 hd rfl | omega) (fun z59 h59 b59 => sg_K1 ?_)
          (try simp only [fm_one, if_true, if_false] at h59)
          have s3 : fs_cc (fs_codes L) 3 (p + 1).toNat = fs_cc (fs_codes L) 3 p.toNat + z59 := by
            rw [fs_ccs (by omega), h59]
            congr 1
            by_cases q : z56 = 0
            · rw [if_pos q, if_neg (fun r => by rcases r with r | ⟨r, -⟩ | ⟨-, r⟩ <;> omega)]
            · rw [if_neg q, if_pos (Or.inr (Or.inr ⟨rfl, by omega⟩))]
          first | refine sg_iaddB (pc := 62) (dc_X7_trackTold_56.1.1.2.1) (by omega) (by omega) ?_ | refine sg_iadd (pc := 62) (dc_X7_trackTold_56.1.1.2.1) ?_
          refine sg_istore (pc := 63) (dc_X7_trackTold_56.1.1.2.2) (by decide) ?_
          first | refine sg_iincB (pc := 65) (dc_X7_trackTold_56.1.2.1.1) rfl (by decide) (by decide) (by omega) (by omega) ?_ | refine sg_iinc (pc := 65) (dc_X7_trackTold_56.1.2.1.1) rfl (by decide) (by decide) ?_
          refine sg_goto (pc := 68) (tgt := 20) (dc_X7_trackTold_56.1.2.1.2) (by decide) ?_
          refine sg_lsub (lv' := [(7, _), (3, _), (4, _), (0, _), (1, _), (2, _), (5, _), (6, _)]) ⟨rfl, rfl, rfl, rfl, rfl, rfl, rfl, rfl, trivial⟩ ?_
          exact ih _ _ _ (by omega) (by omega) (by omega) (by first | exact jl_m1 hm (by omega) | exact jl_m2 hm (by omega) | omega)
        · have s2 := fs_ccs (C := (fs_codes L)) (t := 2) (p := p) (by omega)
          rw [if_pos (Or.inr (Or.inl ⟨rfl, by unfold fn_wide; rw [if_pos (by omega)]⟩))] at s2
          refine sg_iconst (pc := 42) (z := 1) (dc_X7_trackTold_27.2.1.1.1) (by decide) ?_
          refine sg_goto (pc := 43) (tgt := 47) (dc_X7_trackTold_27.2.1.1.2) (by decide) ?_
          refine sg_cS1 (pc := 47) (d' := d - 1) (mc' := 0) (ms' := 0) g (dc_X7_trackTold_27.2.1.2.2) cb_X7_one ml_X7_92 ms_X7_one (Nat.le_of_ble_eq_true rfl) (by first | exact jl_d0 hd rfl | omega) (by first | exact Nat.le_of_ble_eq_true rfl | omega) (by first | exact Nat.le_of_ble_eq_true rfl | omega) ?_
          refine s_X7_one g (by first | exact jl_d1 hd rfl | omega) (fun z47 h47 b47 => sg_K1 ?_)
          (try simp only [fm_one, if_true, if_false] at h47)
          first | refine sg_iaddB (pc := 50) (dc_X7_trackTold_27.2.2.1.1) (by omega) (by omega) ?_ | refine sg_iadd (pc := 50) (dc_X7_trackTold_27.2.2.1.1) ?_
          refine sg_istore_n (pc := 51) (j := 3) (dc_X7_trackTold_27.2.2.1.2) rfl (by decide) ?_
          refine sg_iload (pc := 52) (dc_X7_trackTold_27.2.2.2.1) rfl ?_
          refine sg_iload (pc := 54) (dc_X7_trackTold_27.2.2.2.2) rfl ?_
          refine sg_cS1 (pc := 56) (d' := d - 1) (mc' := 0) (ms' := 0) g (dc_X7_trackTold_56.1.1.1.1) cb_X7_isHalf ml_X7_144 ms_X7_isHalf (Nat.le_of_ble_eq_true rfl) (by first | exact jl_d0 hd rfl | omega) (by first | exact Nat.le_of_ble_eq_true rfl | omega) (by first | exact Nat.le_of_ble_eq_true rfl | omega) ?_
          refine s_X7_isHalf g (by first | exact jl_d1 hd rfl | omega) (fun z56 h56 b56 => sg_K1 ?_)
          (try simp only [fm_one, if_true, if_false] at h56)
          refine sg_cS1 (pc := 59) (d' := d - 1) (mc' := 0) (ms' := 0) g (dc_X7_trackTold_56.1.1.1.2) cb_X7_one ml_X7_92 ms_X7_one (Nat.le_of_ble_eq_true rfl) (by first | exact jl_d0 hd rfl | omega) (by first | exact Nat.le_of_ble_eq_true rfl | omega) (by first | exact Nat.le_of_ble_eq_true rfl | omega) ?_
          refine s_X7_one g (by first | exact jl_d1 hd rfl | omega) (fun z59 h59 b59 => sg_K1 ?_)
          (try simp only [fm_one, if_true, if_false] at h59)
          have s3 : fs_cc (fs_codes L) 3 (p + 1).toNat = fs_cc (fs_codes L) 3 p.toNat + z59 := by
            rw [fs_ccs (by omega), h59]
            congr 1
            by_cases q : z56 = 0
            · rw [if_pos q, if_neg (fun r => by rcases r with r | ⟨r, -⟩ | ⟨-, r⟩ <;> omega)]
            · rw [if_neg q, if_pos (Or.inr (Or.inr ⟨rfl, by omega⟩))]
          first | refine sg_iaddB (pc := 62) (dc_X7_trackTold_56.1.1.2.1) (by omega) (by omega) ?_ | refine sg_iadd (pc := 62) (dc_X7_trackTold_56.1.1.2.1) ?_
          refine sg_istore (pc := 63) (dc_X7_trackTold_56.1.1.2.2) (by decide) ?_
          first | refine sg_iincB (pc := 65) (dc_X7_trackTold_56.1.2.1.1) rfl (by decide) (by decide) (by omega) (by omega) ?_ | refine sg_iinc (pc := 65) (dc_X7_trackTold_56.1.2.1.1) rfl (by decide) (by decide) ?_
          refine sg_goto (pc := 68) (tgt := 20) (dc_X7_trackTold_56.1.2.1.2) (by decide) ?_
          refine sg_lsub (lv' := [(7, _), (3, _), (4, _), (0, _), (1, _), (2, _), (5, _), (6, _)]) ⟨rfl, rfl, rfl, rfl, rfl, rfl, rfl, rfl, trivial⟩ ?_
          exact ih _ _ _ (by omega) (by omega) (by omega) (by first | exact jl_m1 hm (by omega) | exact jl_m2 hm (by omega) | omega)
  refine sg_lsub (lv' := [(7, _), (3, _), (4, _), (0, _), (1, _), (2, _), (5, _), (6, _)]) ⟨rfl, rfl, rfl, rfl, rfl, rfl, rfl, rfl, trivial⟩ ?_
  exact loop20 _ _ _ _ (by omega) rfl rfl (Nat.lt_succ_self _)

set_option maxRecDepth 100000 in
theorem f_X7_ofTrack {w : sg_W} {Q : sg_O → sg_H → Prop} {h : sg_H} (g : sg_G w) {d : Nat} (hd : 9 ≤ d) {M : Nat} {trk what : Int} {A : fa_A} {L : List Int} (hA : md_ab h M = A) (hL : fa_L A (4 + trk.toNat) = L) (hx : md_M w h M) (hQ : ∀ (v : Int) (h' : sg_H), ((trk < 0 ∨ 2 ≤ trk) → md_t h' M = 1) → (¬ (trk < 0 ∨ 2 ≤ trk) → (what < 0 ∨ 3 < what) → md_t h' M = 2) → (¬ (trk < 0 ∨ 2 ≤ trk) → ¬ (what < 0 ∨ 3 < what) → md_t h' M = 0) → (md_t h' M = 0 → v = fs_how L what) → md_Y w h h' M → Q (.inl (some (sg_i v))) h') : sg_C w mi_X7_ofTrack d 152 1350 [sg_r M, sg_i trk, sg_i what] h Q := by
  refine sg_of pn_X7 (Nat.le_of_ble_eq_true rfl) ?_
  have y0 := md_Y0 hx
  have hk := hx.2.1
  refine sg_aload_n (pc := 0) (j := 0) (dc_X7_ofTrack_0.1.1.1.1) rfl rfl ?_
  refine sg_iload_n (pc := 1) (j := 1) (dc_X7_ofTrack_0.1.1.1.2) rfl rfl ?_
  refine sg_cS1 (pc := 2) (d' := d - 1) (mc' := 0) (ms' := 0) g (dc_X7_ofTrack_0.1.1.2.1) cb_X7_isNoTrack ml_X7_129 ms_X7_isNoTrack (Nat.le_of_ble_eq_true rfl) (by first | exact jl_d0 hd rfl | omega) (by first | exact Nat.le_of_ble_eq_true rfl | omega) (by first | exact Nat.le_of_ble_eq_true rfl | omega) ?_
  refine s_X7_isNoTrack g (by first | exact jl_d1 hd rfl | omega) (fun z2 h2 b2 => sg_K1 ?_)
  (try simp only [fm_no, fm_one, fn_betw, fn_sign, fn_radix, fn_high, fn_low] at h2)
  refine sg_iconst (pc := 5) (z := 1) (dc_X7_ofTrack_0.1.1.2.2) (by decide) ?_
  refine sg_cE2 (pc := 6) (d' := d - 1) (mc' := 0) (ms' := 0) 8 g (dc_X7_ofTrack_0.1.2.1.1) cb_X7_start ml_X7_71 mn_X7_start rfl mv_X7_start (Nat.le_of_ble_eq_true rfl) (md_oc (by assumption)) (Nat.le_of_ble_eq_true rfl) (by first | exact jl_d0 hd rfl | omega) (by first | exact Nat.le_of_ble_eq_true rfl | omega) (by first | exact Nat.le_of_ble_eq_true rfl | omega) ?_
  refine s_X7_start g (by first | exact jl_d1 hd rfl | omega) (by omega) (by assumption) (fun v6 h6 b6 i6 t6 s6 u6 y6 => sg_K1 ?_)
  have x6 := y6.1
  have hk6 := x6.2.1
  have y6 := md_Yt (h0 := h) (by assumption) y6
  refine sg_if_ne (pc := 9) (tgt := 34) (dc_X7_ofTrack_0.1.2.1.2) (by decide) (fun c9 => ?_) (fun c9 => ?_)
  · refine sg_iconst (pc := 34) (z := 0) (dc_X7_ofTrack_28.1.1.2.1) (by decide) ?_
    refine sg_goto (pc := 35) (tgt := 44) (dc_X7_ofTrack_28.1.1.2.2) (by decide) ?_
    refine sg_iret (pc := 44) (dc_X7_ofTrack_28.2.1.1.1) rfl (by first | exact Nat.le_of_ble_eq_true rfl | omega) (by first | exact Nat.le_of_ble_eq_true rfl | omega) ?_
    first
      | exact hQ _ _ (by omega) (by omega) (by omega) (fun q => absurd q (by omega)) (by assumption)
      | exact hQ _ _ (by omega) (by omega) (by omega) (fun _ => e41) (by assumption)
  · refine sg_aload_n (pc := 12) (j := 0) (dc_X7_ofTrack_0.1.2.2.1) rfl rfl ?_
    refine sg_iload_n (pc := 13) (j := 2) (dc_X7_ofTrack_0.1.2.2.2) rfl rfl ?_
    refine sg_iconst (pc := 14) (z := 0) (dc_X7_ofTrack_0.2.1.1.1) (by decide) ?_
    refine sg_iconst (pc := 15) (z := 3) (dc_X7_ofTrack_0.2.1.1.2) (by decide) ?_
    refine sg_cS3 (pc := 16) (d' := d - 1) (mc' := 0) (ms' := 0) g (dc_X7_ofTrack_0.2.1.2.1) cb_X7_isOf ml_X7_22 ms_X7_isOf (Nat.le_of_ble_eq_true rfl) (by first | exact jl_d0 hd rfl | omega) (by first | exact Nat.le_of_ble_eq_true rfl | omega) (by first | exact Nat.le_of_ble_eq_true rfl | omega) ?_
    refine s_X7_isOf g (by first | exact jl_d1 hd rfl | omega) (fun z16 h16 b16 => sg_K1 ?_)
    (try simp only [fm_no, fm_one, fn_betw, fn_sign, fn_radix, fn_high, fn_low] at h16)
    refine sg_if_ne (pc := 19) (tgt := 26) (dc_X7_ofTrack_0.2.1.2.2) (by decide) (fun c19 => ?_) (fun c19 => ?_)
    · refine sg_iconst (pc := 26) (z := 0) (dc_X7_ofTrack_0.2.2.2.1) (by decide) ?_
      refine sg_iconst (pc := 27) (z := 2) (dc_X7_ofTrack_0.2.2.2.2) (by decide) ?_
      refine sg_cE2 (pc := 28) (d' := d - 1) (mc' := 0) (ms' := 0) 8 g (dc_X7_ofTrack_28.1.1.1.1) cb_X7_refuse ml_X7_45 mn_X7_refuse rfl mv_X7_refuse (Nat.le_of_ble_eq_true rfl) (md_oc (by assumption)) (Nat.le_of_ble_eq_true rfl) (by first | exact jl_d0 hd rfl | omega) (by first | exact Nat.le_of_ble_eq_true rfl | omega) (by first | exact Nat.le_of_ble_eq_true rfl | omega) ?_
      refine s_X7_refuse g (by first | exact jl_d1 hd rfl | omega) (by omega) (by assumption) (fun v28 h28 b28 i28 t28 s28 u28 y28 => sg_K1 ?_)
      have x28 := y28.1
      have hk28 := x28.2.1
      have y28 := md_Yt (h0 := h) (by assumption) y28
      refine sg_if_eq (pc := 31) (tgt := 38) (dc_X7_ofTrack_28.1.1.1.2) (by decide) (fun c31 => ?_) (fun c31 => absurd c31 (by omega))
      refine sg_aload_n (pc := 38) (j := 0) (dc_X7_ofTrack_28.1.2.1.1) rfl rfl ?_
      refine sg_iload_n (pc := 39) (j := 1) (dc_X7_ofTrack_28.1.2.1.2) rfl rfl ?_
      refine sg_iload_n (pc := 40) (j := 2) (dc_X7_ofTrack_28.1.2.2.1) rfl rfl ?_
      refine sg_cE2 (pc := 41) (d' := d - 1) (mc' := 152) (ms' := 1350) 8 g (dc_X7_ofTrack_28.1.2.2.2) cb_X7_trackTold ml_X7_229 mn_X7_trackTold rfl mv_X7_trackTold (Nat.le_of_ble_eq_true rfl) (md_oc (by assumption)) (Nat.le_of_ble_eq_true rfl) (by first | exact jl_d0 hd rfl | omega) (by first | exact Nat.le_of_ble_eq_true rfl | omega) (by first | exact Nat.le_of_ble_eq_true rfl | omega) ?_
      refine f_X7_trackTold g (by first | exact jl_d1 hd rfl | omega) (by omega) (md_Ya (h0 := h) (by assumption) hA) hL (by assumption) (fun v41 h41 e41 E41 => sg_K1 ?_)
      have x41 : md_M w h41 M := md_ME (by assumption) E41
      have th41 := md_tE (w := w) (M := M) (by assumption) E41
      have y41 : md_Y w h h41 M := md_YE (by assumption) E41
      refine sg_iret (pc := 44) (dc_X7_ofTrack_28.2.1.1.1) rfl (by first | exact Nat.le_of_ble_eq_true rfl | omega) (by first | exact Nat.le_of_ble_eq_true rfl | omega) ?_
      first
        | exact hQ _ _ (by omega) (by omega) (by omega) (fun q => absurd q (by omega)) (by assumption)
        | exact hQ _ _ (by omega) (by omega) (by omega) (fun _ => e41) (by assumption)
    · refine sg_iconst (pc := 22) (z := 1) (dc_X7_ofTrack_0.2.2.1.1) (by decide) ?_
      refine sg_goto (pc := 23) (tgt := 27) (dc_X7_ofTrack_0.2.2.1.2) (by decide) ?_
      refine sg_iconst (pc := 27) (z := 2) (dc_X7_ofTrack_0.2.2.2.2) (by decide) ?_
      refine sg_cE2 (pc := 28) (d' := d - 1) (mc' := 0) (ms' := 0) 8 g (dc_X7_ofTrack_28.1.1.1.1) cb_X7_refuse ml_X7_45 mn_X7_refuse rfl mv_X7_refuse (Nat.le_of_ble_eq_true rfl) (md_oc (by assumption)) (Nat.le_of_ble_eq_true rfl) (by first | exact jl_d0 hd rfl | omega) (by first | exact Nat.le_of_ble_eq_true rfl | omega) (by first | exact Nat.le_of_ble_eq_true rfl | omega) ?_
      refine s_X7_refuse g (by first | exact jl_d1 hd rfl | omega) (by omega) (by assumption) (fun v28 h28 b28 i28 t28 s28 u28 y28 => sg_K1 ?_)
      have x28 := y28.1
      have hk28 := x28.2.1
      have y28 := md_Yt (h0 := h) (by assumption) y28
      refine sg_if_eq (pc := 31) (tgt := 38) (dc_X7_ofTrack_28.1.1.1.2) (by decide) (fun c31 => absurd c31 (by omega)) (fun c31 => ?_)
      refine sg_iconst (pc := 34) (z := 0) (dc_X7_ofTrack_28.1.1.2.1) (by decide) ?_
      refine sg_goto (pc := 35) (tgt := 44) (dc_X7_ofTrack_28.1.1.2.2) (by decide) ?_
      refine sg_iret (pc := 44) (dc_X7_ofTrack_28.2.1.1.1) rfl (by first | exact Nat.le_of_ble_eq_true rfl | omega) (by first | exact Nat.le_of_ble_eq_true rfl | omega) ?_
      first
        | exact hQ _ _ (by omega) (by omega) (by omega) (fun q => absurd q (by omega)) (by assumption)
        | exact hQ _ _ (by omega) (by omega) (by omega) (fun _ => e41) (by assumption)

