section
variable {w : sg_W} {mi : sg_M} {d mc ms : Nat} {Q : sg_O → sg_H → Prop} {pc : Nat} {lv : List (Nat × sg_V)} {st : List sg_V} {h h0 : sg_H} {k n : Nat} {a N : Nat}
end
set_option maxRecDepth 100000 in
theorem s_X7_trackTold {w : sg_W} {Q : sg_O → sg_H → Prop} {h : sg_H} (g : sg_G w) {d : Nat} (hd : 8 ≤ d) {M e f : Nat} {trk what : Int} (hv : 0 ≤ trk ∧ trk < 2) (he : what = 1 → 76 ≤ e ∧ 675 ≤ f) (hx : md_M w h M) (hQ : ∀ (v : Int) (h' : sg_H), md_E h h' → Q (.inl (some (sg_i v))) h') : sg_C w mi_X7_trackTold d (76 + e) (675 + f) [sg_r M, sg_i trk, sg_i what] h Q := by
  refine sg_of pn_X7 (Nat.le_of_ble_eq_true rfl) ?_
  refine sg_iconst (pc := 0) (z := 0) (dc_X7_trackTold_0.1.1.1.1) (by decide) ?_
  refine sg_istore_n (pc := 1) (j := 3) (dc_X7_trackTold_0.1.1.1.2) rfl (by decide) ?_
  refine sg_iconst (pc := 2) (z := 0) (dc_X7_trackTold_0.1.1.2.1) (by decide) ?_
  refine sg_istore (pc := 3) (dc_X7_trackTold_0.1.1.2.2) (by decide) ?_
  refine sg_aload_n (pc := 5) (j := 0) (dc_X7_trackTold_0.1.2.1.1) rfl rfl ?_
  refine sg_iload_n (pc := 6) (j := 1) (dc_X7_trackTold_0.1.2.1.2) rfl rfl ?_
  refine sg_cE1 (pc := 7) (d' := d - 1) (mc' := 76) (ms' := 675) 8 g (dc_X7_trackTold_0.1.2.2.1) cb_X7_codes ml_X7_153 mn_X7_codes rfl mv_X7_codes (Nat.le_of_ble_eq_true rfl) (md_oc (by assumption)) (Nat.le_of_ble_eq_true rfl) (by first | exact jl_d0 hd rfl | omega) (by first | exact Nat.le_of_ble_eq_true rfl | omega) (by first | exact Nat.le_of_ble_eq_true rfl | omega) ?_
  refine s_X7_codes g (by first | exact jl_d1 hd rfl | omega) (by omega) (by assumption) (fun h7 a7 m7 E7 A7 l7 w7 => sg_K1 ?_)
  have X7 : md_M w h7 M := md_ME (by assumption) E7
  have k7 := X7.2.1
  try have Y7 : md_Y w h h7 M := md_YE (by assumption) E7
  refine sg_astore (pc := 10) (dc_X7_trackTold_0.1.2.2.2) (by decide) ?_
  refine sg_aload (pc := 12) (dc_X7_trackTold_0.2.1.1.1) rfl ?_
  refine md_len (pc := 14) (dc_X7_trackTold_0.2.1.1.2) (by assumption) (by omega) ?_
  refine sg_istore (pc := 15) (dc_X7_trackTold_0.2.1.2.1) (by decide) ?_
  refine sg_iconst (pc := 17) (z := 0) (dc_X7_trackTold_0.2.1.2.2) (by decide) ?_
  refine sg_istore (pc := 18) (dc_X7_trackTold_0.2.2.1.1) (by decide) ?_
  have loop20 : ∀ (N : Nat) (p x y : Int), (0 ≤ p) → ((m7 : Int) - p).toNat < N → sg_R w mi_X7_trackTold d (76 + e) (675 + f) Q 20 [(7, sg_i p), (3, sg_i x), (4, sg_i y), (0, sg_r M), (1, sg_i trk), (2, sg_i what), (5, sg_r a7), (6, sg_i (m7 : Int))] [] h7 76 675 := by
    intro N
    induction N with
    | zero => intro p x y p0 hm; exact absurd hm (Nat.not_lt_zero _)
    | succ N ih =>
      intro p x y p0 hm
      refine sg_iload (pc := 20) (dc_X7_trackTold_0.2.2.1.2) rfl ?_
      refine sg_iload (pc := 22) (dc_X7_trackTold_0.2.2.2.1) rfl ?_
      refine sg_icmp_ge (pc := 24) (tgt := 71) (dc_X7_trackTold_0.2.2.2.2) (by decide) (fun c24 => ?_) (fun c24 => ?_)
      · refine sg_iload_n (pc := 71) (j := 2) (dc_X7_trackTold_56.1.2.2.1) rfl rfl ?_
        refine sg_if_ne (pc := 72) (tgt := 87) (dc_X7_trackTold_56.1.2.2.2) (by decide) (fun c72 => ?_) (fun c72 => ?_)
        · refine sg_iload_n (pc := 87) (j := 2) (dc_X7_trackTold_87.1.1.1.1) rfl rfl ?_
          refine sg_iconst (pc := 88) (z := 1) (dc_X7_trackTold_87.1.1.1.2) (by decide) ?_
          refine sg_icmp_ne (pc := 89) (tgt := 101) (dc_X7_trackTold_87.1.1.2.1) (by decide) (fun c89 => ?_) (fun c89 => ?_)
          · refine sg_iload_n (pc := 101) (j := 2) (dc_X7_trackTold_87.2.1.1.1) rfl rfl ?_
            refine sg_iconst (pc := 102) (z := 2) (dc_X7_trackTold_87.2.1.1.2) (by decide) ?_
            refine sg_icmp_ne (pc := 103) (tgt := 110) (dc_X7_trackTold_87.2.1.2.1) (by decide) (fun c103 => ?_) (fun c103 => ?_)
            · refine sg_iload (pc := 110) (dc_X7_trackTold_87.2.2.1.2) rfl ?_
              refine sg_iret (pc := 112) (dc_X7_trackTold_87.2.2.2.1) rfl (by first | exact Nat.le_of_ble_eq_true rfl | omega) (by first | exact Nat.le_of_ble_eq_true rfl | omega) ?_
              exact hQ _ _ (by first | exact md_Et E7 E94 | exact E7)
            · refine sg_iload_n (pc := 106) (j := 3) (dc_X7_trackTold_87.2.1.2.2) rfl rfl ?_
              refine sg_goto (pc := 107) (tgt := 112) (dc_X7_trackTold_87.2.2.1.1) (by decide) ?_
              refine sg_iret (pc := 112) (dc_X7_trackTold_87.2.2.2.1) rfl (by first | exact Nat.le_of_ble_eq_true rfl | omega) (by first | exact Nat.le_of_ble_eq_true rfl | omega) ?_
              exact hQ _ _ (by first | exact md_Et E7 E94 | exact E7)
          · refine sg_aload_n (pc := 92) (j := 0) (dc_X7_trackTold_87.1.1.2.2) rfl rfl ?_
            refine sg_iload_n (pc := 93) (j := 1) (dc_X7_trackTold_87.1.2.1.1) rfl rfl ?_
            refine sg_cE1 (pc := 94) (d' := d - 1) (mc' := 76) (ms' := 675) 8 g (dc_X7_trackTold_87.1.2.1.2) cb_X7_codes ml_X7_153 mn_X7_codes rfl mv_X7_codes (Nat.le_of_ble_eq_true rfl) (md_oc (by assumption)) (Nat.le_of_ble_eq_true rfl) (by first | exact jl_d0 hd rfl | omega) (by first | exact Nat.le_of_ble_eq_true rfl | omega) (by first | exact Nat.le_of_ble_eq_true rfl | omega) ?_
            refine s_X7_codes g (by first | exact jl_d1 hd rfl | omega) (by omega) (by assumption) (fun h94 a94 m94 E94 A94 l94 w94 => sg_K1 ?_)
            have X94 : md_M w h94 M := md_ME (by assumption) E94
            have k94 := X94.2.1
            try have Y94 : md_Y w h h94 M := md_YE (by assumption) E94
            refine md_len (pc := 97) (dc_X7_trackTold_87.1.2.2.1) (by assumption) (by omega) ?_
            refine sg_goto (pc := 98) (tgt := 112) (dc_X7_trackTold_87.1.2.2.2) (by decide) ?_
            refine sg_iret (pc := 112) (dc_X7_trackTold_87.2.2.2.1) rfl (by first | exact Nat.le_of_ble_eq_true rfl | omega) (by first | exact Nat.le_of_ble_eq_true rfl | omega) ?_
            exact hQ _ _ (by first | exact md_Et E7 E94 | exact E7)
        · refine sg_aload_n (pc := 75) (j := 0) (dc_X7_trackTold_56.2.1.1.1) rfl rfl ?_
          refine md_grw (pc := 76) g (dc_X7_trackTold_56.2.1.1.2) fk_X7_9 (by assumption) (fun r76 => ?_)
          refine sg_iconst (pc := 79) (z := 4) (dc_X7_trackTold_56.2.1.2.1) (by decide) ?_
          refine sg_iload_n (pc := 80) (j := 1) (dc_X7_trackTold_56.2.1.2.2) rfl rfl ?_
          first | refine sg_iaddB (pc := 81) (dc_X7_trackTold_56.2.2.1.1) (by omega) (by omega) ?_ | refine sg_iadd (pc := 81) (dc_X7_trackTold_56.2.2.1.1) ?_
          first | refine md_alr (pc := 82) (dc_X7_trackTold_56.2.2.1.2) (by assumption) (by omega) (by omega) (fun A82 l82 => ?_) | refine md_alt (pc := 82) (dc_X7_trackTold_56.2.2.1.2) (by assumption) (by omega) (by omega) (fun A82 l82 => ?_)
          refine md_len (pc := 83) (dc_X7_trackTold_56.2.2.2.1) (by assumption) (by omega) ?_
          refine sg_goto (pc := 84) (tgt := 112) (dc_X7_trackTold_56.2.2.2.2) (by decide) ?_
          refine sg_iret (pc := 112) (dc_X7_trackTold_87.2.2.2.1) rfl (by first | exact Nat.le_of_ble_eq_true rfl | omega) (by first | exact Nat.le_of_ble_eq_true rfl | omega) ?_
          exact hQ _ _ (by first | exact md_Et E7 E94 | exact E7)
      · refine sg_aload (pc := 27) (dc_X7_trackTold_27.1.1.1.1) rfl ?_
        refine sg_iload (pc := 29) (dc_X7_trackTold_27.1.1.1.2) rfl ?_
        refine md_ald (pc := 31) (dc_X7_trackTold_27.1.1.2.1) A7 (by omega) (by omega) (fun x31 g31 => ?_)
        refine sg_istore (pc := 32) (dc_X7_trackTold_27.1.1.2.2) (by decide) ?_
        refine sg_iload_n (pc := 34) (j := 3) (dc_X7_trackTold_27.1.2.1.1) rfl rfl ?_
        refine sg_iload (pc := 35) (dc_X7_trackTold_27.1.2.1.2) rfl ?_
        refine sg_ldc (pc := 37) (z := 65535) g (dc_X7_trackTold_27.1.2.2.1) cn_X7_140 (by decide) ?_
        refine sg_icmp_le (pc := 39) (tgt := 46) (dc_X7_trackTold_27.1.2.2.2) (by decide) (fun c39 => ?_) (fun c39 => ?_)
        · refine sg_iconst (pc := 46) (z := 0) (dc_X7_trackTold_27.2.1.2.1) (by decide) ?_
          refine sg_cS1 (pc := 47) (d' := d - 1) (mc' := 0) (ms' := 0) g (dc_X7_trackTold_27.2.1.2.2) cb_X7_one ml_X7_92 ms_X7_one (Nat.le_of_ble_eq_true rfl) (by first | exact jl_d0 hd rfl | omega) (by first | exact Nat.le_of_ble_eq_true rfl | omega) (by first | exact Nat.le_of_ble_eq_true rfl | omega) ?_
          refine s_X7_one g (by first | exact jl_d1 hd rfl | omega) (fun z47 h47 b47 => sg_K1 ?_)
          (try simp only [fm_no, fm_one, fn_betw, fn_sign, fn_radix, fn_high, fn_low] at h47)
          first | refine sg_iaddB (pc := 50) (dc_X7_trackTold_27.2.2.1.1) (by omega) (by omega) ?_ | refine sg_iadd (pc := 50) (dc_X7_trackTold_27.2.2.1.1) ?_
          refine sg_istore_n (pc := 51) (j := 3) (dc_X7_trackTold_27.2.2.1.2) rfl (by decide) ?_
          refine sg_iload (pc := 52) (dc_X7_trackTold_27.2.2.2.1) rfl ?_
          refine sg_iload (pc := 54) (dc_X7_trackTold_27.2.2.2.2) rfl ?_
          refine sg_cS1 (pc := 56) (d' := d - 1) (mc' := 0) (ms' := 0) g (dc_X7_trackTold_56.1.1.1.1) cb_X7_isHalf ml_X7_144 ms_X7_isHalf (Nat.le_of_ble_eq_true rfl) (by first | exact jl_d0 hd rfl | omega) (by first | exact Nat.le_of_ble_eq_true rfl | omega) (by first | exact Nat.le_of_ble_eq_true rfl | omega) ?_
          refine s_X7_isHalf g (by first | exact jl_d1 hd rfl | omega) (fun z56 h56 b56 => sg_K1 ?_)
          (try simp only [fm_no, fm_one, fn_betw, fn_sign, fn_radix, fn_high, fn_low] at h56)
          refine sg_cS1 (pc := 59) (d' := d - 1) (mc' := 0) (ms' := 0) g (dc_X7_trackTold_56.1.1.1.2) cb_X7_one ml_X7_92 ms_X7_one (Nat.le_of_ble_eq_true rfl) (by first | exact jl_d0 hd rfl | omega) (by first | exact Nat.le_of_ble_eq_true rfl | omega) (by first | exact Nat.le_of_ble_eq_true rfl | omega) ?_
          refine s_X7_one g (by first | exact jl_d1 hd rfl | omega) (fun z59 h59 b59 => sg_K1 ?_)
          (try simp only [fm_no, fm_one, fn_betw, fn_sign, fn_radix, fn_high, fn_low] at h59)
          first | refine sg_iaddB (pc := 62) (dc_X7_trackTold_56.1.1.2.1) (by omega) (by omega) ?_ | refine sg_iadd (pc := 62) (dc_X7_trackTold_56.1.1.2.1) ?_
          refine sg_istore (pc := 63) (dc_X7_trackTold_56.1.1.2.2) (by decide) ?_
          first | refine sg_iincB (pc := 65) (dc_X7_trackTold_56.1.2.1.1) rfl (by decide) (by decide) (by omega) (by omega) ?_ | refine sg_iinc (pc := 65) (dc_X7_trackTold_56.1.2.1.1) rfl (by decide) (by decide) ?_
          refine sg_goto (pc := 68) (tgt := 20) (dc_X7_trackTold_56.1.2.1.2) (by decide) ?_
          refine sg_lsub (lv' := [(7, _), (3, _), (4, _), (0, _), (1, _), (2, _), (5, _), (6, _)]) ⟨rfl, rfl, rfl, rfl, rfl, rfl, rfl, rfl, trivial⟩ ?_
          exact ih _ _ _ (by omega) (by first | exact jl_m1 hm (by omega) | exact jl_m2 hm (by omega) | omega)
        · refine sg_iconst (pc := 42) (z := 1) (dc_X7_trackTold_27.2.1.1.1) (by decide) ?_
          refine sg_goto (pc := 43) (tgt := 47) (dc_X7_trackTold_27.2.1.1.2) (by decide) ?_
          refine sg_cS1 (pc := 47) (d' := d - 1) (mc' := 0) (ms' := 0) g (dc_X7_trackTold_27.2.1.2.2) cb_X7_one ml_X7_92 ms_X7_one (Nat.le_of_ble_eq_true rfl) (by first | exact jl_d0 hd rfl | omega) (by first | exact Nat.le_of_ble_eq_true rfl | omega) (by first | exact Nat.le_of_ble_eq_true rfl | omega) ?_
          refine s_X7_one g (by first | exact jl_d1 hd rfl | omega) (fun z47 h47 b47 => sg_K1 ?_)
          (try simp only [fm_no, fm_one, fn_betw, fn_sign, fn_radix, fn_high, fn_low] at h47)
          first | refine sg_iaddB (pc := 50) (dc_X7_trackTold_27.2.2.1.1) (by omega) (by omega) ?_ | refine sg_iadd (pc := 50) (dc_X7_trackTold_27.2.2.1.1) ?_
          refine sg_istore_n (pc := 51) (j := 3) (dc_X7_trackTold_27.2.2.1.2) rfl (by decide) ?_
          refine sg_iload (pc := 52) (dc_X7_trackTold_27.2.2.2.1) rfl ?_
          refine sg_iload (pc := 54) (dc_X7_trackTold_27.2.2.2.2) rfl ?_
          refine sg_cS1 (pc := 56) (d' := d - 1) (mc' := 0) (ms' := 0) g (dc_X7_trackTold_56.1.1.1.1) cb_X7_isHalf ml_X7_144 ms_X7_isHalf (Nat.le_of_ble_eq_true rfl) (by first | exact jl_d0 hd rfl | omega) (by first | exact Nat.le_of_ble_eq_true rfl | omega) (by first | exact Nat.le_of_ble_eq_true rfl | omega) ?_
          refine s_X7_isHalf g (by first | exact jl_d1 hd rfl | omega) (fun z56 h56 b56 => sg_K1 ?_)
          (try simp only [fm_no, fm_one, fn_betw, fn_sign, fn_radix, fn_high, fn_low] at h56)
          refine sg_cS1 (pc := 59) (d' := d - 1) (mc' := 0) (ms' := 0) g (dc_X7_trackTold_56.1.1.1.2) cb_X7_one ml_X7_92 ms_X7_one (Nat.le_of_ble_eq_true rfl) (by first | exact jl_d0 hd rfl | omega) (by first | exact Nat.le_of_ble_eq_true rfl | omega) (by first | exact Nat.le_of_ble_eq_true rfl | omega) ?_
          refine s_X7_one g (by first | exact jl_d1 hd rfl | omega) (fun z59 h59 b59 => sg_K1 ?_)
          (try simp only [fm_no, fm_one, fn_betw, fn_sign, fn_radix, fn_high, fn_low] at h59)
          first | refine sg_iaddB (pc := 62) (dc_X7_trackTold_56.1.1.2.1) (by omega) (by omega) ?_ | refine sg_iadd (pc := 62) (dc_X7_trackTold_56.1.1.2.1) ?_
          refine sg_istore (pc := 63) (dc_X7_trackTold_56.1.1.2.2) (by decide) ?_
          first | refine sg_iincB (pc := 65) (dc_X7_trackTold_56.1.2.1.1) rfl (by decide) (by decide) (by omega) (by omega) ?_ | refine sg_iinc (pc := 65) (dc_X7_trackTold_56.1.2.1.1) rfl (by decide) (by decide) ?_
          refine sg_goto (pc := 68) (tgt := 20) (dc_X7_trackTold_56.1.2.1.2) (by decide) ?_
          refine sg_lsub (lv' := [(7, _), (3, _), (4, _), (0, _), (1, _), (2, _), (5, _), (6, _)]) ⟨rfl, rfl, rfl, rfl, rfl, rfl, rfl, rfl, trivial⟩ ?_
          exact ih _ _ _ (by omega) (by first | exact jl_m1 hm (by omega) | exact jl_m2 hm (by omega) | omega)
  refine sg_lsub (lv' := [(7, _), (3, _), (4, _), (0, _), (1, _), (2, _), (5, _), (6, _)]) ⟨rfl, rfl, rfl, rfl, rfl, rfl, rfl, rfl, trivial⟩ ?_
  exact loop20 _ _ _ _ (by omega) (Nat.lt_succ_self _)

set_option maxRecDepth 100000 in
theorem s_X7_ofTrack {w : sg_W} {Q : sg_O → sg_H → Prop} {h : sg_H} (g : sg_G w) {d : Nat} (hd : 9 ≤ d) {M : Nat} {trk what : Int}  (hx : md_M w h M) (hQ : ∀ (v : Int) (h' : sg_H), md_Y w h h' M → Q (.inl (some (sg_i v))) h') : sg_C w mi_X7_ofTrack d 152 1350 [sg_r M, sg_i trk, sg_i what] h Q := by
  refine sg_of pn_X7 (Nat.le_of_ble_eq_true rfl) ?_
  have y0 := md_Y0 hx
  have hk := hx.2.1
  refine sg_aload_n (pc := 0) (j := 0) (dc_X7_ofTrack_0.1.1.1.1) rfl rfl ?_
  refine sg_iload_n (pc := 1) (j := 1) (dc_X7_ofTrack_0.1.1.1.2) rfl rfl ?_
  refine sg_cS1 (pc := 2) (d' := d - 1) (mc' := 0) (ms' := 0) g (dc_X7_ofTrack_0.1.1.2.1) cb_X7_isNoTrack ml_X7_129 ms_X7_isNoTrack (Nat.le_of_ble_eq_true rfl) (by first | exact jl_d0 hd rfl | omega) (by first | exact Nat.le_of_ble_eq_true rfl | omega) (by first | exact Nat.le_of_ble_eq_true rfl | omega) ?_
  refine s_X7_isNoTrack g (by first | exact jl_d1 hd rfl | omega) (fun z2 h2 b2 => sg_K1 ?_)
  (try simp only [fm_no, fm_one, fn_betw, fn_sign, fn_radix, fn_high, fn_low] at h2)
  refine sg_iconst (pc := 5) (z := 1) (dc_X7_ofTrack_0.1.1.2.2) (by decide) ?_
  refine sg_cE2 (pc := 6) (d' := d - 1) (mc' := 0) (ms' := 0) 8 g (dc_X7_ofTrack_0.1.2.1.1) cb_X7_start ml_X7_71 mn_X7_start rfl mv_X7_start (Nat.le_of_ble_eq_true rfl) (md_oc (by assumption)) (Nat.le_of_ble_eq_true rfl) (by first | exact jl_d0 hd rfl | omega) (by first | exact Nat.le_of_ble_eq_true rfl | omega) (by first | exact Nat.le_of_ble_eq_true rfl | omega) ?_
  refine s_X7_start g (by first | exact jl_d1 hd rfl | omega) (by omega) (by assumption) (fun v6 h6 b6 i6 t6 s6 u6 y6 => sg_K1 ?_)
  have x6 := y6.1
  have hk6 := x6.2.1
  have y6 := md_Yt (h0 := h) (by assumption) y6
  refine sg_if_ne (pc := 9) (tgt := 34) (dc_X7_ofTrack_0.1.2.1.2) (by decide) (fun c9 => ?_) (fun c9 => ?_)
  · refine sg_iconst (pc := 34) (z := 0) (dc_X7_ofTrack_28.1.1.2.1) (by decide) ?_
    refine sg_goto (pc := 35) (tgt := 44) (dc_X7_ofTrack_28.1.1.2.2) (by decide) ?_
    refine sg_iret (pc := 44) (dc_X7_ofTrack_28.2.1.1.1) rfl (by first | exact Nat.le_of_ble_eq_true rfl | omega) (by first | exact Nat.le_of_ble_eq_true rfl | omega) ?_
    exact hQ _ _ (by assumption)
  · refine sg_aload_n (pc := 12) (j := 0) (dc_X7_ofTrack_0.1.2.2.1) rfl rfl ?_
    refine sg_iload_n (pc := 13) (j := 2) (dc_X7_ofTrack_0.1.2.2.2) rfl rfl ?_
    refine sg_iconst (pc := 14) (z := 0) (dc_X7_ofTrack_0.2.1.1.1) (by decide) ?_
    refine sg_iconst (pc := 15) (z := 3) (dc_X7_ofTrack_0.2.1.1.2) (by decide) ?_
    refine sg_cS3 (pc := 16) (d' := d - 1) (mc' := 0) (ms' := 0) g (dc_X7_ofTrack_0.2.1.2.1) cb_X7_isOf ml_X7_22 ms_X7_isOf (Nat.le_of_ble_eq_true rfl) (by first | exact jl_d0 hd rfl | omega) (by first | exact Nat.le_of_ble_eq_true rfl | omega) (by first | exact Nat.le_of_ble_eq_true rfl | omega) ?_
    refine s_X7_isOf g (by first | exact jl_d1 hd rfl | omega) (fun z16 h16 b16 => sg_K1 ?_)
    (try simp only [fm_no, fm_one, fn_betw, fn_sign, fn_radix, fn_high, fn_low] at h16)
    refine sg_if_ne (pc := 19) (tgt := 26) (dc_X7_ofTrack_0.2.1.2.2) (by decide) (fun c19 => ?_) (fun c19 => ?_)
    · refine sg_iconst (pc := 26) (z := 0) (dc_X7_ofTrack_0.2.2.2.1) (by decide) ?_
      refine sg_iconst (pc := 27) (z := 2) (dc_X7_ofTrack_0.2.2.2.2) (by decide) ?_
      refine sg_cE2 (pc := 28) (d' := d - 1) (mc' := 0) (ms' := 0) 8 g (dc_X7_ofTrack_28.1.1.1.1) cb_X7_refuse ml_X7_45 mn_X7_refuse rfl mv_X7_refuse (Nat.le_of_ble_eq_true rfl) (md_oc (by assumption)) (Nat.le_of_ble_eq_true rfl) (by first | exact jl_d0 hd rfl | omega) (by first | exact Nat.le_of_ble_eq_true rfl | omega) (by first | exact Nat.le_of_ble_eq_true rfl | omega) ?_
      refine s_X7_refuse g (by first | exact jl_d1 hd rfl | omega) (by omega) (by assumption) (fun v28 h28 b28 i28 t28 s28 u28 y28 => sg_K1 ?_)
      have x28 := y28.1
      have hk28 := x28.2.1
      have y28 := md_Yt (h0 := h) (by assumption) y28
      refine sg_if_eq (pc := 31) (tgt := 38) (dc_X7_ofTrack_28.1.1.1.2) (by decide) (fun c31 => ?_) (fun c31 => absurd c31 (by omega))
      refine sg_aload_n (pc := 38) (j := 0) (dc_X7_ofTrack_28.1.2.1.1) rfl rfl ?_
      refine sg_iload_n (pc := 39) (j := 1) (dc_X7_ofTrack_28.1.2.1.2) rfl rfl ?_
      refine sg_iload_n (pc := 40) (j := 2) (dc_X7_ofTrack_28.1.2.2.1) rfl rfl ?_
      refine sg_cE2 (pc := 41) (d' := d - 1) (mc' := (76 + 76)) (ms' := (675 + 675)) 8 g (dc_X7_ofTrack_28.1.2.2.2) cb_X7_trackTold ml_X7_229 mn_X7_trackTold rfl mv_X7_trackTold (Nat.le_of_ble_eq_true rfl) (md_oc (by assumption)) (Nat.le_of_ble_eq_true rfl) (by first | exact jl_d0 hd rfl | omega) (by first | exact Nat.le_of_ble_eq_true rfl | omega) (by first | exact Nat.le_of_ble_eq_true rfl | omega) ?_
      refine s_X7_trackTold (e := 76) (f := 675) g (by first | exact jl_d1 hd rfl | omega) (by omega) (by omega) (by assumption) (fun v41 h41 E41 => sg_K1 ?_)
      have X41 : md_M w h41 M := md_ME (by assumption) E41
      have Y41 : md_Y w h h41 M := md_YE (by assumption) E41
      refine sg_iret (pc := 44) (dc_X7_ofTrack_28.2.1.1.1) rfl (by first | exact Nat.le_of_ble_eq_true rfl | omega) (by first | exact Nat.le_of_ble_eq_true rfl | omega) ?_
      exact hQ _ _ (by assumption)
    · refine sg_iconst (pc := 22) (z := 1) (dc_X7_ofTrack_0.2.2.1.1) (by decide) ?_
      refine sg_goto (pc := 23) (tgt := 27) (dc_X7_ofTrack_0.2.2.1.2) (by decide) ?_
      refine sg_iconst (pc := 27) (z := 2) (dc_X7_ofTrack_0.2.2.2.2) (by decide) ?_
      refine sg_cE2 (pc := 28) (d' := d - 1) (mc' := 0) (ms' := 0) 8 g (dc_X7_ofTrack_28.1.1.1.1) cb_X7_refuse ml_X7_45 mn_X7_refuse rfl mv_X7_refuse (Nat.le_of_ble_eq_true rfl) (md_oc (by assumption)) (Nat.le_of_ble_eq_true rfl) (by first | exact jl_d0 hd rfl | omega) (by first | exact Nat.le_of_ble_eq_true rfl | omega) (by first | exact Nat.le_of_ble_eq_true rfl | omega) ?_
      refine s_X7_refuse g (by first | exact jl_d1 hd rfl | omega) (by omega) (by assumption) (fun v28 h28 b28 i28 t28 s28 u28 y28 => sg_K1 ?_)
      have x28 := y28.1
      have hk28 := x28.2.1
      have y28 := md_Yt (h0 := h) (by assumption) y28
      refine sg_if_eq (pc := 31) (tgt := 38) (dc_X7_ofTrack_28.1.1.1.2) (by decide) (fun c31 => absurd c31 (by omega)) (fun c31 => ?_)
      refine sg_iconst (pc := 34) (z := 0) (dc_X7_ofTrack_28.1.1.2.1) (by decide) ?_
      refine sg_goto (pc := 35) (tgt := 44) (dc_X7_ofTrack_28.1.1.2.2) (by decide) ?_
      refine sg_iret (pc := 44) (dc_X7_ofTrack_28.2.1.1.1) rfl (by first | exact Nat.le_of_ble_eq_true rfl | omega) (by first | exact Nat.le_of_ble_eq_true rfl | omega) ?_
      exact hQ _ _ (by assumption)

set_option maxRecDepth 100000 in
theorem s_X7_nth {w : sg_W} {Q : sg_O → sg_H → Prop} {h : sg_H} (g : sg_G w) {d : Nat} (hd : 8 ≤ d) {M : Nat} {trk kk : Int}  (hx : md_M w h M) (hQ : ∀ (v : Int) (h' : sg_H), md_Y w h h' M → Q (.inl (some (sg_i v))) h') : sg_C w mi_X7_nth d 152 1350 [sg_r M, sg_i trk, sg_i kk] h Q := by
  refine sg_of pn_X7 (Nat.le_of_ble_eq_true rfl) ?_
  have y0 := md_Y0 hx
  have hk := hx.2.1
  refine sg_aload_n (pc := 0) (j := 0) (dc_X7_nth_0.1.1.1.1) rfl rfl ?_
  refine sg_iload_n (pc := 1) (j := 1) (dc_X7_nth_0.1.1.1.2) rfl rfl ?_
  refine sg_cS1 (pc := 2) (d' := d - 1) (mc' := 0) (ms' := 0) g (dc_X7_nth_0.1.1.2.1) cb_X7_isNoTrack ml_X7_129 ms_X7_isNoTrack (Nat.le_of_ble_eq_true rfl) (by first | exact jl_d0 hd rfl | omega) (by first | exact Nat.le_of_ble_eq_true rfl | omega) (by first | exact Nat.le_of_ble_eq_true rfl | omega) ?_
  refine s_X7_isNoTrack g (by first | exact jl_d1 hd rfl | omega) (fun z2 h2 b2 => sg_K1 ?_)
  (try simp only [fm_no, fm_one, fn_betw, fn_sign, fn_radix, fn_high, fn_low] at h2)
  refine sg_if_ne (pc := 5) (tgt := 24) (dc_X7_nth_0.1.1.2.2) (by decide) (fun c5 => ?_) (fun c5 => ?_)
  · refine sg_iconst (pc := 24) (z := 1) (dc_X7_nth_0.2.2.2.1) (by decide) ?_
    refine sg_goto (pc := 25) (tgt := 29) (dc_X7_nth_0.2.2.2.2) (by decide) ?_
    refine sg_iconst (pc := 29) (z := 1) (dc_X7_nth_28.1.1.1.2) (by decide) ?_
    refine sg_cE2 (pc := 30) (d' := d - 1) (mc' := 0) (ms' := 0) 8 g (dc_X7_nth_28.1.1.2.1) cb_X7_start ml_X7_71 mn_X7_start rfl mv_X7_start (Nat.le_of_ble_eq_true rfl) (md_oc (by assumption)) (Nat.le_of_ble_eq_true rfl) (by first | exact jl_d0 hd rfl | omega) (by first | exact Nat.le_of_ble_eq_true rfl | omega) (by first | exact Nat.le_of_ble_eq_true rfl | omega) ?_
    refine s_X7_start g (by first | exact jl_d1 hd rfl | omega) (by omega) (by assumption) (fun v30 h30 b30 i30 t30 s30 u30 y30 => sg_K1 ?_)
    have x30 := y30.1
    have hk30 := x30.2.1
    have y30 := md_Yt (h0 := h) (by assumption) y30
    refine sg_if_eq (pc := 33) (tgt := 40) (dc_X7_nth_28.1.1.2.2) (by decide) (fun c33 => absurd c33 (by omega)) (fun c33 => ?_)
    refine sg_iconst (pc := 36) (z := 0) (dc_X7_nth_28.1.2.1.1) (by decide) ?_
    refine sg_goto (pc := 37) (tgt := 47) (dc_X7_nth_28.1.2.1.2) (by decide) ?_
    refine sg_iret (pc := 47) (dc_X7_nth_28.2.1.2.2) rfl (by first | exact Nat.le_of_ble_eq_true rfl | omega) (by first | exact Nat.le_of_ble_eq_true rfl | omega) ?_
    exact hQ _ _ (by assumption)
  · refine sg_iload_n (pc := 8) (j := 2) (dc_X7_nth_0.1.2.1.1) rfl rfl ?_
    refine sg_iconst (pc := 9) (z := 0) (dc_X7_nth_0.1.2.1.2) (by decide) ?_
    refine sg_aload_n (pc := 10) (j := 0) (dc_X7_nth_0.1.2.2.1) rfl rfl ?_
    refine sg_iload_n (pc := 11) (j := 1) (dc_X7_nth_0.1.2.2.2) rfl rfl ?_
    refine sg_cE1 (pc := 12) (d' := d - 1) (mc' := 76) (ms' := 675) 8 g (dc_X7_nth_0.2.1.1.1) cb_X7_codes ml_X7_153 mn_X7_codes rfl mv_X7_codes (Nat.le_of_ble_eq_true rfl) (md_oc (by assumption)) (Nat.le_of_ble_eq_true rfl) (by first | exact jl_d0 hd rfl | omega) (by first | exact Nat.le_of_ble_eq_true rfl | omega) (by first | exact Nat.le_of_ble_eq_true rfl | omega) ?_
    refine s_X7_codes g (by first | exact jl_d1 hd rfl | omega) (by omega) (by assumption) (fun h12 a12 m12 E12 A12 l12 w12 => sg_K1 ?_)
    have X12 : md_M w h12 M := md_ME (by assumption) E12
    have k12 := X12.2.1
    try have Y12 : md_Y w h h12 M := md_YE (by assumption) E12
    refine md_len (pc := 15) (dc_X7_nth_0.2.1.1.2) A12 (by omega) ?_
    refine sg_iconst (pc := 16) (z := 1) (dc_X7_nth_0.2.1.2.1) (by decide) ?_
    first | refine sg_isubB (pc := 17) (dc_X7_nth_0.2.1.2.2) (by omega) (by omega) ?_ | refine sg_isub (pc := 17) (dc_X7_nth_0.2.1.2.2) ?_
    refine sg_cS3 (pc := 18) (d' := d - 1) (mc' := 0) (ms' := 0) g (dc_X7_nth_0.2.2.1.1) cb_X7_isOf ml_X7_22 ms_X7_isOf (Nat.le_of_ble_eq_true rfl) (by first | exact jl_d0 hd rfl | omega) (by first | exact Nat.le_of_ble_eq_true rfl | omega) (by first | exact Nat.le_of_ble_eq_true rfl | omega) ?_
    refine s_X7_isOf g (by first | exact jl_d1 hd rfl | omega) (fun z18 h18 b18 => sg_K1 ?_)
    (try simp only [fm_no, fm_one, fn_betw, fn_sign, fn_radix, fn_high, fn_low] at h18)
    refine sg_if_ne (pc := 21) (tgt := 28) (dc_X7_nth_0.2.2.1.2) (by decide) (fun c21 => ?_) (fun c21 => ?_)
    · refine sg_iconst (pc := 28) (z := 0) (dc_X7_nth_28.1.1.1.1) (by decide) ?_
      refine sg_iconst (pc := 29) (z := 1) (dc_X7_nth_28.1.1.1.2) (by decide) ?_
      refine sg_cE2 (pc := 30) (d' := d - 1) (mc' := 0) (ms' := 0) 8 g (dc_X7_nth_28.1.1.2.1) cb_X7_start ml_X7_71 mn_X7_start rfl mv_X7_start (Nat.le_of_ble_eq_true rfl) (md_oc (by assumption)) (Nat.le_of_ble_eq_true rfl) (by first | exact jl_d0 hd rfl | omega) (by first | exact Nat.le_of_ble_eq_true rfl | omega) (by first | exact Nat.le_of_ble_eq_true rfl | omega) ?_
      refine s_X7_start g (by first | exact jl_d1 hd rfl | omega) (by omega) (by assumption) (fun v30 h30 b30 i30 t30 s30 u30 y30 => sg_K1 ?_)
      have x30 := y30.1
      have hk30 := x30.2.1
      have y30 := md_Yt (h0 := h) (by assumption) y30
      refine sg_if_eq (pc := 33) (tgt := 40) (dc_X7_nth_28.1.1.2.2) (by decide) (fun c33 => ?_) (fun c33 => absurd c33 (by omega))
      try have q1 := md_Uv u30 (i := 4 + trk) (by omega) (by omega)
      try have q2 := md_vE hx E12 (i := 4 + trk) (by omega) (by omega)
      try have q3 := md_SE hx E12 (i := 4 + trk) (by omega) (by omega)
      refine sg_aload_n (pc := 40) (j := 0) (dc_X7_nth_28.1.2.2.1) rfl rfl ?_
      refine sg_iload_n (pc := 41) (j := 1) (dc_X7_nth_28.1.2.2.2) rfl rfl ?_
      refine sg_cE1 (pc := 42) (d' := d - 1) (mc' := 76) (ms' := 675) 8 g (dc_X7_nth_28.2.1.1.1) cb_X7_codes ml_X7_153 mn_X7_codes rfl mv_X7_codes (Nat.le_of_ble_eq_true rfl) (md_oc (by assumption)) (Nat.le_of_ble_eq_true rfl) (by first | exact jl_d0 hd rfl | omega) (by first | exact Nat.le_of_ble_eq_true rfl | omega) (by first | exact Nat.le_of_ble_eq_true rfl | omega) ?_
      refine s_X7_codes g (by first | exact jl_d1 hd rfl | omega) (by omega) (by assumption) (fun h42 a42 m42 E42 A42 l42 w42 => sg_K1 ?_)
      have X42 : md_M w h42 M := md_ME (by assumption) E42
      have k42 := X42.2.1
      try have Y42 : md_Y w h h42 M := md_YE (by assumption) E42
      refine sg_iload_n (pc := 45) (j := 2) (dc_X7_nth_28.2.1.1.2) rfl rfl ?_
      try rw [q1.1, q1.2, q2, q3] at w42
      refine md_ald (pc := 46) (dc_X7_nth_28.2.1.2.1) A42 (by omega) (by omega) (fun x46 g46 => ?_)
      refine sg_iret (pc := 47) (dc_X7_nth_28.2.1.2.2) rfl (by first | exact Nat.le_of_ble_eq_true rfl | omega) (by first | exact Nat.le_of_ble_eq_true rfl | omega) ?_
      exact hQ _ _ (by assumption)
    · refine sg_iconst (pc := 24) (z := 1) (dc_X7_nth_0.2.2.2.1) (by decide) ?_
      refine sg_goto (pc := 25) (tgt := 29) (dc_X7_nth_0.2.2.2.2) (by decide) ?_
      refine sg_iconst (pc := 29) (z := 1) (dc_X7_nth_28.1.1.1.2) (by decide) ?_
      refine sg_cE2 (pc := 30) (d' := d - 1) (mc' := 0) (ms' := 0) 8 g (dc_X7_nth_28.1.1.2.1) cb_X7_start ml_X7_71 mn_X7_start rfl mv_X7_start (Nat.le_of_ble_eq_true rfl) (md_oc (by assumption)) (Nat.le_of_ble_eq_true rfl) (by first | exact jl_d0 hd rfl | omega) (by first | exact Nat.le_of_ble_eq_true rfl | omega) (by first | exact Nat.le_of_ble_eq_true rfl | omega) ?_
      refine s_X7_start g (by first | exact jl_d1 hd rfl | omega) (by omega) (by assumption) (fun v30 h30 b30 i30 t30 s30 u30 y30 => sg_K1 ?_)
      have x30 := y30.1
      have hk30 := x30.2.1
      have y30 := md_Yt (h0 := h) (by assumption) y30
      refine sg_if_eq (pc := 33) (tgt := 40) (dc_X7_nth_28.1.1.2.2) (by decide) (fun c33 => absurd c33 (by omega)) (fun c33 => ?_)
      refine sg_iconst (pc := 36) (z := 0) (dc_X7_nth_28.1.2.1.1) (by decide) ?_
      refine sg_goto (pc := 37) (tgt := 47) (dc_X7_nth_28.1.2.1.2) (by decide) ?_
      refine sg_iret (pc := 47) (dc_X7_nth_28.2.1.2.2) rfl (by first | exact Nat.le_of_ble_eq_true rfl | omega) (by first | exact Nat.le_of_ble_eq_true rfl | omega) ?_
      exact hQ _ _ (by assumption)

set_option maxRecDepth 100000 in
theorem s_X7_half {w : sg_W} {Q : sg_O → sg_H → Prop} {h : sg_H} (g : sg_G w) {d : Nat} (hd : 4 ≤ d) {M : Nat} {x y : Int}  (hx : md_M w h M) (hQ : ∀ (v : Int) (h' : sg_H), ((x < 65536 ∨ 1114111 < x) → md_t h' M = 1) → (¬ (x < 65536 ∨ 1114111 < x) → md_t h' M = 0 ∧ v = (if y = 0 then 56320 + (x - 65536) % 1024 else 55296 + (x - 65536) / 1024)) → md_Y w h h' M → Q (.inl (some (sg_i v))) h') : sg_C w mi_X7_half d 1 2 [sg_r M, sg_i x, sg_i y] h Q := by
  refine sg_of pn_X7 (Nat.le_of_ble_eq_true rfl) ?_
  have y0 := md_Y0 hx
  have hk := hx.2.1
  refine sg_aload_n (pc := 0) (j := 0) (dc_X7_half_0.1.1.1.1) rfl rfl ?_
  refine sg_iload_n (pc := 1) (j := 1) (dc_X7_half_0.1.1.1.2) rfl rfl ?_
  refine sg_ldc (pc := 2) (z := 65536) g (dc_X7_half_0.1.1.2.1) cn_X7_128 (by decide) ?_
  refine sg_ldc (pc := 4) (z := 1114111) g (dc_X7_half_0.1.1.2.2) cn_X7_132 (by decide) ?_
  refine sg_cS3 (pc := 6) (d' := d - 1) (mc' := 0) (ms' := 0) g (dc_X7_half_0.1.2.1.1) cb_X7_isOf ml_X7_22 ms_X7_isOf (Nat.le_of_ble_eq_true rfl) (by first | exact jl_d0 hd rfl | omega) (by first | exact Nat.le_of_ble_eq_true rfl | omega) (by first | exact Nat.le_of_ble_eq_true rfl | omega) ?_
  refine s_X7_isOf g (by first | exact jl_d1 hd rfl | omega) (fun z6 h6 b6 => sg_K1 ?_)
  (try simp only [fm_no, fn_betw] at h6)
  refine sg_if_ne (pc := 9) (tgt := 16) (dc_X7_half_0.1.2.1.2) (by decide) (fun c9 => ?_) (fun c9 => ?_)
  · refine sg_iconst (pc := 16) (z := 0) (dc_X7_half_0.2.1.1.1) (by decide) ?_
    refine sg_iconst (pc := 17) (z := 1) (dc_X7_half_0.2.1.1.2) (by decide) ?_
    refine sg_cE2 (pc := 18) (d' := d - 1) (mc' := 0) (ms' := 0) 8 g (dc_X7_half_0.2.1.2.1) cb_X7_start ml_X7_71 mn_X7_start rfl mv_X7_start (Nat.le_of_ble_eq_true rfl) (md_oc (by assumption)) (Nat.le_of_ble_eq_true rfl) (by first | exact jl_d0 hd rfl | omega) (by first | exact Nat.le_of_ble_eq_true rfl | omega) (by first | exact Nat.le_of_ble_eq_true rfl | omega) ?_
    refine s_X7_start g (by first | exact jl_d1 hd rfl | omega) (by omega) (by assumption) (fun v18 h18 b18 i18 t18 s18 u18 y18 => sg_K1 ?_)
    have x18 := y18.1
    have hk18 := x18.2.1
    have y18 := md_Yt (h0 := h) (by assumption) y18
    refine sg_if_eq (pc := 21) (tgt := 28) (dc_X7_half_0.2.1.2.2) (by decide) (fun c21 => ?_) (fun c21 => absurd c21 (by omega))
    refine sg_iload_n (pc := 28) (j := 1) (dc_X7_half_0.2.2.2.1) rfl rfl ?_
    refine sg_cS1 (pc := 29) (d' := d - 1) (mc' := 1) (ms' := 2) g (dc_X7_half_0.2.2.2.2) cb_X7_sent ml_X7_133 ms_X7_sent (Nat.le_of_ble_eq_true rfl) (by first | exact jl_d0 hd rfl | omega) (by first | exact Nat.le_of_ble_eq_true rfl | omega) (by first | exact Nat.le_of_ble_eq_true rfl | omega) ?_
    refine s_X7_sent g (by first | exact jl_d1 hd rfl | omega) (by omega) (fun h29 m29 l29 u29 o29 w29 t29 fa29 fb29 => sg_K1 ?_)
    refine sg_iload_n (pc := 32) (j := 2) (dc_X7_half_32.1.1.1) rfl rfl ?_
    refine sg_if_eq (pc := 33) (tgt := 40) (dc_X7_half_32.1.1.2) (by decide) (fun c33 => ?_) (fun c33 => ?_)
    · refine sg_iconst (pc := 40) (z := 1) (dc_X7_half_32.2.1.1) (by decide) ?_
      refine md_alv (pc := 41) (dc_X7_half_32.2.1.2) t29.2.2 (by omega) (by omega) (fun g41 => ?_)
      have Y41 := md_YE (h0 := h) (by assumption) (md_TE t29)
      have th41 := md_tE x18 (md_TE t29)
      refine sg_iret (pc := 42) (dc_X7_half_32.2.2.1) rfl (by first | exact Nat.le_of_ble_eq_true rfl | omega) (by first | exact Nat.le_of_ble_eq_true rfl | omega) ?_
      exact hQ _ _ (by omega) (by omega) (by assumption)
    · refine sg_iconst (pc := 36) (z := 0) (dc_X7_half_32.1.2.1) (by decide) ?_
      refine sg_goto (pc := 37) (tgt := 41) (dc_X7_half_32.1.2.2) (by decide) ?_
      refine md_alv (pc := 41) (dc_X7_half_32.2.1.2) t29.2.2 (by omega) (by omega) (fun g41 => ?_)
      have Y41 := md_YE (h0 := h) (by assumption) (md_TE t29)
      have th41 := md_tE x18 (md_TE t29)
      refine sg_iret (pc := 42) (dc_X7_half_32.2.2.1) rfl (by first | exact Nat.le_of_ble_eq_true rfl | omega) (by first | exact Nat.le_of_ble_eq_true rfl | omega) ?_
      exact hQ _ _ (by omega) (by omega) (by assumption)
  · refine sg_iconst (pc := 12) (z := 1) (dc_X7_half_0.1.2.2.1) (by decide) ?_
    refine sg_goto (pc := 13) (tgt := 17) (dc_X7_half_0.1.2.2.2) (by decide) ?_
    refine sg_iconst (pc := 17) (z := 1) (dc_X7_half_0.2.1.1.2) (by decide) ?_
    refine sg_cE2 (pc := 18) (d' := d - 1) (mc' := 0) (ms' := 0) 8 g (dc_X7_half_0.2.1.2.1) cb_X7_start ml_X7_71 mn_X7_start rfl mv_X7_start (Nat.le_of_ble_eq_true rfl) (md_oc (by assumption)) (Nat.le_of_ble_eq_true rfl) (by first | exact jl_d0 hd rfl | omega) (by first | exact Nat.le_of_ble_eq_true rfl | omega) (by first | exact Nat.le_of_ble_eq_true rfl | omega) ?_
    refine s_X7_start g (by first | exact jl_d1 hd rfl | omega) (by omega) (by assumption) (fun v18 h18 b18 i18 t18 s18 u18 y18 => sg_K1 ?_)
    have x18 := y18.1
    have hk18 := x18.2.1
    have y18 := md_Yt (h0 := h) (by assumption) y18
    refine sg_if_eq (pc := 21) (tgt := 28) (dc_X7_half_0.2.1.2.2) (by decide) (fun c21 => absurd c21 (by omega)) (fun c21 => ?_)
    refine sg_iconst (pc := 24) (z := 0) (dc_X7_half_0.2.2.1.1) (by decide) ?_
    refine sg_goto (pc := 25) (tgt := 42) (dc_X7_half_0.2.2.1.2) (by decide) ?_
    refine sg_iret (pc := 42) (dc_X7_half_32.2.2.1) rfl (by first | exact Nat.le_of_ble_eq_true rfl | omega) (by first | exact Nat.le_of_ble_eq_true rfl | omega) ?_
    exact hQ _ _ (by omega) (by omega) (by assumption)

set_option maxRecDepth 100000 in
theorem s_X7_valuesOf {w : sg_W} {Q : sg_O → sg_H → Prop} {h : sg_H} (g : sg_G w) {d : Nat} (hd : 6 ≤ d) {M : Nat} {row : Int} (hv : 0 ≤ row ∧ row < 4) (hx : md_M w h M) (hQ : ∀ v : Int, Q (.inl (some (sg_i v))) h) : sg_C w mi_X7_valuesOf d 0 0 [sg_r M, sg_i row] h Q := by
  refine sg_of pn_X7 (Nat.le_of_ble_eq_true rfl) ?_
  have y0 := md_Y0 hx
  have hk := hx.2.1
  refine sg_iconst (pc := 0) (z := 0) (dc_X7_valuesOf_0.1.1.1.1) (by decide) ?_
  refine sg_istore_n (pc := 1) (j := 2) (dc_X7_valuesOf_0.1.1.1.2) rfl (by decide) ?_
  refine sg_aload_n (pc := 2) (j := 0) (dc_X7_valuesOf_0.1.1.2.1) rfl rfl ?_
  refine md_grw (pc := 3) g (dc_X7_valuesOf_0.1.1.2.2) fk_X7_9 (by assumption) (fun r3 => ?_)
  refine sg_iload_n (pc := 6) (j := 1) (dc_X7_valuesOf_0.1.2.1.1) rfl rfl ?_
  first | refine md_alr (pc := 7) (dc_X7_valuesOf_0.1.2.1.2) (by assumption) (by omega) (by omega) (fun A7 l7 => ?_) | refine md_alt (pc := 7) (dc_X7_valuesOf_0.1.2.1.2) (by assumption) (by omega) (by omega) (fun A7 l7 => ?_)
  refine sg_astore_n (pc := 8) (j := 3) (dc_X7_valuesOf_0.1.2.2.1) rfl (by decide) ?_
  refine sg_aload_n (pc := 9) (j := 3) (dc_X7_valuesOf_0.1.2.2.2) rfl rfl ?_
  refine md_len (pc := 10) (dc_X7_valuesOf_0.2.1.1.1) (by assumption) (by omega) ?_
  refine sg_istore (pc := 11) (dc_X7_valuesOf_0.2.1.1.2) (by decide) ?_
  refine sg_iconst (pc := 13) (z := 0) (dc_X7_valuesOf_0.2.1.2.1) (by decide) ?_
  refine sg_istore (pc := 14) (dc_X7_valuesOf_0.2.1.2.2) (by decide) ?_
  have loop16 : ∀ (N : Nat) (p s : Int), (0 ≤ p) → (((md_n h (md_a h (md_r h M) row)) : Int) - p).toNat < N → sg_R w mi_X7_valuesOf d 0 0 Q 16 [(5, sg_i p), (2, sg_i s), (0, sg_r M), (1, sg_i row), (3, sg_r (md_a h (md_r h M) row)), (4, sg_i ((md_n h (md_a h (md_r h M) row)) : Int))] [] h 0 0 := by
    intro N
    induction N with
    | zero => intro p s p0 hm; exact absurd hm (Nat.not_lt_zero _)
    | succ N ih =>
      intro p s p0 hm
      refine sg_iload (pc := 16) (dc_X7_valuesOf_0.2.2.1.1) rfl ?_
      refine sg_iload (pc := 18) (dc_X7_valuesOf_0.2.2.1.2) rfl ?_
      refine sg_icmp_ge (pc := 20) (tgt := 47) (dc_X7_valuesOf_0.2.2.2.1) (by decide) (fun c20 => ?_) (fun c20 => ?_)
      · refine sg_iload_n (pc := 47) (j := 2) (dc_X7_valuesOf_24.2.2.1.1) rfl rfl ?_
        refine sg_iret (pc := 48) (dc_X7_valuesOf_24.2.2.1.2) rfl (by first | exact Nat.le_of_ble_eq_true rfl | omega) (by first | exact Nat.le_of_ble_eq_true rfl | omega) ?_
        exact hQ _
      · refine sg_aload_n (pc := 23) (j := 3) (dc_X7_valuesOf_0.2.2.2.2) rfl rfl ?_
        refine sg_iload (pc := 24) (dc_X7_valuesOf_24.1.1.1.1) rfl ?_
        refine md_ald (pc := 26) (dc_X7_valuesOf_24.1.1.1.2) (by assumption) (by omega) (by omega) (fun x26 g26 => ?_)
        try have q26 := ck_v1.mp g26
        refine sg_istore (pc := 27) (dc_X7_valuesOf_24.1.1.2.1) (by decide) ?_
        refine sg_iload_n (pc := 29) (j := 2) (dc_X7_valuesOf_24.1.1.2.2) rfl rfl ?_
        refine sg_iconst (pc := 30) (z := 0) (dc_X7_valuesOf_24.1.2.1.1) (by decide) ?_
        refine sg_iload (pc := 31) (dc_X7_valuesOf_24.1.2.1.2) rfl ?_
        refine sg_cS1 (pc := 33) (d' := d - 1) (mc' := 0) (ms' := 0) g (dc_X7_valuesOf_24.1.2.2.1) cb_X7_valueOf ml_X7_33 ms_X7_valueOf (Nat.le_of_ble_eq_true rfl) (by first | exact jl_d0 hd rfl | omega) (by first | exact Nat.le_of_ble_eq_true rfl | omega) (by first | exact Nat.le_of_ble_eq_true rfl | omega) ?_
        refine s_X7_valueOf g (by first | exact jl_d1 hd rfl | omega) (fun z33 h33 => sg_K1 ?_)
        (try simp only [fm_no, fm_one, fn_betw, fn_sign, fn_radix, fn_high, fn_low] at h33)
        refine sg_mmax (pc := 36) g (dc_X7_valuesOf_24.1.2.2.2) mx_X7_204 mx_st mx_in mx_co (Nat.le_of_ble_eq_true rfl) (by omega) (by omega) (by omega) (fun z36 e36 => ?_)
        first | refine sg_iaddB (pc := 39) (dc_X7_valuesOf_24.2.1.1.1) (by omega) (by omega) ?_ | refine sg_iadd (pc := 39) (dc_X7_valuesOf_24.2.1.1.1) ?_
        refine sg_istore_n (pc := 40) (j := 2) (dc_X7_valuesOf_24.2.1.1.2) rfl (by decide) ?_
        first | refine sg_iincB (pc := 41) (dc_X7_valuesOf_24.2.1.2.1) rfl (by decide) (by decide) (by omega) (by omega) ?_ | refine sg_iinc (pc := 41) (dc_X7_valuesOf_24.2.1.2.1) rfl (by decide) (by decide) ?_
        refine sg_goto (pc := 44) (tgt := 16) (dc_X7_valuesOf_24.2.1.2.2) (by decide) ?_
        refine sg_lsub (lv' := [(5, _), (2, _), (0, _), (1, _), (3, _), (4, _)]) ⟨rfl, rfl, rfl, rfl, rfl, rfl, trivial⟩ ?_
        exact ih _ _ (by omega) (by first | exact jl_m1 hm (by omega) | exact jl_m2 hm (by omega) | omega)
  refine sg_lsub (lv' := [(5, _), (2, _), (0, _), (1, _), (3, _), (4, _)]) ⟨rfl, rfl, rfl, rfl, rfl, rfl, trivial⟩ ?_
  exact loop16 _ _ _ (by omega) (Nat.lt_succ_self _)

set_option maxRecDepth 100000 in
theorem s_X7_values {w : sg_W} {Q : sg_O → sg_H → Prop} {h : sg_H} (g : sg_G w) {d : Nat} (hd : 9 ≤ d) {M : Nat} {row : Int}  (hx : md_M w h M) (hQ : ∀ (v : Int) (h' : sg_H), md_Y w h h' M → Q (.inl (some (sg_i v))) h') : sg_C w mi_X7_values d 0 0 [sg_r M, sg_i row] h Q := by
  refine sg_of pn_X7 (Nat.le_of_ble_eq_true rfl) ?_
  have y0 := md_Y0 hx
  have hk := hx.2.1
  refine sg_aload_n (pc := 0) (j := 0) (dc_X7_values_0.1.1.1.1) rfl rfl ?_
  refine sg_iload_n (pc := 1) (j := 1) (dc_X7_values_0.1.1.1.2) rfl rfl ?_
  refine sg_cS1 (pc := 2) (d' := d - 1) (mc' := 0) (ms' := 0) g (dc_X7_values_0.1.1.2.1) cb_X7_isNoRow ml_X7_68 ms_X7_isNoRow (Nat.le_of_ble_eq_true rfl) (by first | exact jl_d0 hd rfl | omega) (by first | exact Nat.le_of_ble_eq_true rfl | omega) (by first | exact Nat.le_of_ble_eq_true rfl | omega) ?_
  refine s_X7_isNoRow g (by first | exact jl_d1 hd rfl | omega) (fun z2 h2 b2 => sg_K1 ?_)
  (try simp only [fm_no, fm_one, fn_betw, fn_sign, fn_radix, fn_high, fn_low] at h2)
  refine sg_iconst (pc := 5) (z := 1) (dc_X7_values_0.1.1.2.2) (by decide) ?_
  refine sg_cE2 (pc := 6) (d' := d - 1) (mc' := 0) (ms' := 0) 8 g (dc_X7_values_0.1.2.1.1) cb_X7_start ml_X7_71 mn_X7_start rfl mv_X7_start (Nat.le_of_ble_eq_true rfl) (md_oc (by assumption)) (Nat.le_of_ble_eq_true rfl) (by first | exact jl_d0 hd rfl | omega) (by first | exact Nat.le_of_ble_eq_true rfl | omega) (by first | exact Nat.le_of_ble_eq_true rfl | omega) ?_
  refine s_X7_start g (by first | exact jl_d1 hd rfl | omega) (by omega) (by assumption) (fun v6 h6 b6 i6 t6 s6 u6 y6 => sg_K1 ?_)
  have x6 := y6.1
  have hk6 := x6.2.1
  have y6 := md_Yt (h0 := h) (by assumption) y6
  refine sg_if_eq (pc := 9) (tgt := 16) (dc_X7_values_0.1.2.1.2) (by decide) (fun c9 => ?_) (fun c9 => ?_)
  · refine sg_aload_n (pc := 16) (j := 0) (dc_X7_values_0.2.1.1.1) rfl rfl ?_
    refine sg_iload_n (pc := 17) (j := 1) (dc_X7_values_0.2.1.1.2) rfl rfl ?_
    refine sg_cE1 (pc := 18) (d' := d - 1) (mc' := 0) (ms' := 0) 8 g (dc_X7_values_0.2.1.2.1) cb_X7_valuesOf ml_X7_209 mn_X7_valuesOf rfl mv_X7_valuesOf (Nat.le_of_ble_eq_true rfl) (md_oc (by assumption)) (Nat.le_of_ble_eq_true rfl) (by first | exact jl_d0 hd rfl | omega) (by first | exact Nat.le_of_ble_eq_true rfl | omega) (by first | exact Nat.le_of_ble_eq_true rfl | omega) ?_
    refine s_X7_valuesOf g (by first | exact jl_d1 hd rfl | omega) (by omega) (by assumption) (fun v18 => sg_K1 ?_)
    refine sg_iret (pc := 21) (dc_X7_values_0.2.1.2.2) rfl (by first | exact Nat.le_of_ble_eq_true rfl | omega) (by first | exact Nat.le_of_ble_eq_true rfl | omega) ?_
    exact hQ _ _ (by assumption)
  · refine sg_iconst (pc := 12) (z := 0) (dc_X7_values_0.1.2.2.1) (by decide) ?_
    refine sg_goto (pc := 13) (tgt := 21) (dc_X7_values_0.1.2.2.2) (by decide) ?_
    refine sg_iret (pc := 21) (dc_X7_values_0.2.1.2.2) rfl (by first | exact Nat.le_of_ble_eq_true rfl | omega) (by first | exact Nat.le_of_ble_eq_true rfl | omega) ?_
    exact hQ _ _ (by assumption)

set_option maxRecDepth 100000 in
theorem s_X7_sum {w : sg_W} {Q : sg_O → sg_H → Prop} {h : sg_H} (g : sg_G w) {d : Nat} (hd : 9 ≤ d) {M : Nat} {row r : Int}  (hx : md_M w h M) (hQ : ∀ (v : Int) (h' : sg_H), md_Y w h h' M → Q (.inl (some (sg_i v))) h') : sg_C w mi_X7_sum d 0 0 [sg_r M, sg_i row, sg_i r] h Q := by
  refine sg_of pn_X7 (Nat.le_of_ble_eq_true rfl) ?_
  have y0 := md_Y0 hx
  have hk := hx.2.1
  refine sg_aload_n (pc := 0) (j := 0) (dc_X7_sum_0.1.1.1.1) rfl rfl ?_
  refine sg_iload_n (pc := 1) (j := 1) (dc_X7_sum_0.1.1.1.2) rfl rfl ?_
  refine sg_cS1 (pc := 2) (d' := d - 1) (mc' := 0) (ms' := 0) g (dc_X7_sum_0.1.1.2.1) cb_X7_isNoRow ml_X7_68 ms_X7_isNoRow (Nat.le_of_ble_eq_true rfl) (by first | exact jl_d0 hd rfl | omega) (by first | exact Nat.le_of_ble_eq_true rfl | omega) (by first | exact Nat.le_of_ble_eq_true rfl | omega) ?_
  refine s_X7_isNoRow g (by first | exact jl_d1 hd rfl | omega) (fun z2 h2 b2 => sg_K1 ?_)
  (try simp only [fm_no, fm_one, fn_betw, fn_sign, fn_radix, fn_high, fn_low] at h2)
  refine sg_iconst (pc := 5) (z := 1) (dc_X7_sum_0.1.1.2.2) (by decide) ?_
  refine sg_cE2 (pc := 6) (d' := d - 1) (mc' := 0) (ms' := 0) 8 g (dc_X7_sum_0.1.2.1.1) cb_X7_start ml_X7_71 mn_X7_start rfl mv_X7_start (Nat.le_of_ble_eq_true rfl) (md_oc (by assumption)) (Nat.le_of_ble_eq_true rfl) (by first | exact jl_d0 hd rfl | omega) (by first | exact Nat.le_of_ble_eq_true rfl | omega) (by first | exact Nat.le_of_ble_eq_true rfl | omega) ?_
  refine s_X7_start g (by first | exact jl_d1 hd rfl | omega) (by omega) (by assumption) (fun v6 h6 b6 i6 t6 s6 u6 y6 => sg_K1 ?_)
  have x6 := y6.1
  have hk6 := x6.2.1
  have y6 := md_Yt (h0 := h) (by assumption) y6
  refine sg_if_eq (pc := 9) (tgt := 14) (dc_X7_sum_0.1.2.1.2) (by decide) (fun c9 => ?_) (fun c9 => ?_)
  · refine sg_iconst (pc := 14) (z := 0) (dc_X7_sum_0.2.1.1.1) (by decide) ?_
    refine sg_istore_n (pc := 15) (j := 3) (dc_X7_sum_0.2.1.1.2) rfl (by decide) ?_
    refine sg_aload_n (pc := 16) (j := 0) (dc_X7_sum_0.2.1.2.1) rfl rfl ?_
    refine md_grw (pc := 17) g (dc_X7_sum_0.2.1.2.2) fk_X7_9 (by assumption) (fun r17 => ?_)
    refine sg_iload_n (pc := 20) (j := 1) (dc_X7_sum_0.2.2.1.1) rfl rfl ?_
    first | refine md_alr (pc := 21) (dc_X7_sum_0.2.2.1.2) (by assumption) (by omega) (by omega) (fun A21 l21 => ?_) | refine md_alt (pc := 21) (dc_X7_sum_0.2.2.1.2) (by assumption) (by omega) (by omega) (fun A21 l21 => ?_)
    refine sg_astore (pc := 22) (dc_X7_sum_0.2.2.2.1) (by decide) ?_
    refine sg_aload (pc := 24) (dc_X7_sum_0.2.2.2.2) rfl ?_
    refine md_len (pc := 26) (dc_X7_sum_26.1.1.1.1) (by assumption) (by omega) ?_
    refine sg_istore (pc := 27) (dc_X7_sum_26.1.1.1.2) (by decide) ?_
    refine sg_iconst (pc := 29) (z := 0) (dc_X7_sum_26.1.1.2.1) (by decide) ?_
    refine sg_istore (pc := 30) (dc_X7_sum_26.1.1.2.2) (by decide) ?_
    have loop32 : ∀ (N : Nat) (p s : Int), (0 ≤ p) → (40 - p).toNat < N → sg_R w mi_X7_sum d 0 0 Q 32 [(6, sg_i p), (3, sg_i s), (0, sg_r M), (1, sg_i row), (2, sg_i r), (4, sg_r (md_a h6 (md_r h6 M) row)), (5, sg_i ((md_n h6 (md_a h6 (md_r h6 M) row) : Nat) : Int))] [] h6 0 0 := by
      intro N
      induction N with
      | zero => intro p s p0 hm; exact absurd hm (Nat.not_lt_zero _)
      | succ N ih =>
        intro p s p0 hm
        refine sg_iload (pc := 32) (dc_X7_sum_26.1.2.1.1) rfl ?_
        refine sg_iload (pc := 34) (dc_X7_sum_26.1.2.1.2) rfl ?_
        refine sg_icmp_ge (pc := 36) (tgt := 65) (dc_X7_sum_26.1.2.2.1) (by decide) (fun c36 => ?_) (fun c36 => ?_)
        · refine sg_iload_n (pc := 65) (j := 3) (dc_X7_sum_54.2.1.2) rfl rfl ?_
          refine sg_iret (pc := 66) (dc_X7_sum_54.2.2.1) rfl (by first | exact Nat.le_of_ble_eq_true rfl | omega) (by first | exact Nat.le_of_ble_eq_true rfl | omega) ?_
          exact hQ _ _ (by assumption)
        · refine sg_aload (pc := 39) (dc_X7_sum_26.1.2.2.2) rfl ?_
          refine sg_iload (pc := 41) (dc_X7_sum_26.2.1.1.1) rfl ?_
          refine md_ald (pc := 43) (dc_X7_sum_26.2.1.1.2) (by assumption) (by omega) (by omega) (fun x43 g43 => ?_)
          try have q43 := ck_v1.mp g43
          refine sg_istore (pc := 44) (dc_X7_sum_26.2.1.2.1) (by decide) ?_
          refine sg_iload_n (pc := 46) (j := 3) (dc_X7_sum_26.2.1.2.2) rfl rfl ?_
          refine sg_iconst (pc := 47) (z := 0) (dc_X7_sum_26.2.2.1.1) (by decide) ?_
          refine sg_iload (pc := 48) (dc_X7_sum_26.2.2.1.2) rfl ?_
          refine sg_iload_n (pc := 50) (j := 2) (dc_X7_sum_26.2.2.2.1) rfl rfl ?_
          refine sg_cS2 (pc := 51) (d' := d - 1) (mc' := 0) (ms' := 0) g (dc_X7_sum_26.2.2.2.2) cb_X7_numberOf ml_X7_115 ms_X7_numberOf (Nat.le_of_ble_eq_true rfl) (by first | exact jl_d0 hd rfl | omega) (by first | exact Nat.le_of_ble_eq_true rfl | omega) (by first | exact Nat.le_of_ble_eq_true rfl | omega) ?_
          refine s_X7_numberOf g (by first | exact jl_d1 hd rfl | omega) (fun z51 h51 => sg_K1 ?_)
          (try simp only [fm_no, fm_one, fn_betw, fn_sign, fn_radix, fn_high, fn_low] at h51)
          refine sg_mmax (pc := 54) g (dc_X7_sum_54.1.1.1) mx_X7_204 mx_st mx_in mx_co (Nat.le_of_ble_eq_true rfl) (by omega) (by omega) (by omega) (fun z54 e54 => ?_)
          first | refine sg_iaddB (pc := 57) (dc_X7_sum_54.1.1.2) (by omega) (by omega) ?_ | refine sg_iadd (pc := 57) (dc_X7_sum_54.1.1.2) ?_
          refine sg_istore_n (pc := 58) (j := 3) (dc_X7_sum_54.1.2.1) rfl (by decide) ?_
          first | refine sg_iincB (pc := 59) (dc_X7_sum_54.1.2.2) rfl (by decide) (by decide) (by omega) (by omega) ?_ | refine sg_iinc (pc := 59) (dc_X7_sum_54.1.2.2) rfl (by decide) (by decide) ?_
          refine sg_goto (pc := 62) (tgt := 32) (dc_X7_sum_54.2.1.1) (by decide) ?_
          refine sg_lsub (lv' := [(6, _), (3, _), (0, _), (1, _), (2, _), (4, _), (5, _)]) ⟨rfl, rfl, rfl, rfl, rfl, rfl, rfl, trivial⟩ ?_
          exact ih _ _ (by omega) (by first | exact jl_m1 hm (by omega) | exact jl_m2 hm (by omega) | omega)
    refine sg_lsub (lv' := [(6, _), (3, _), (0, _), (1, _), (2, _), (4, _), (5, _)]) ⟨rfl, rfl, rfl, rfl, rfl, rfl, rfl, trivial⟩ ?_
    exact loop32 _ _ _ (by omega) (Nat.lt_succ_self _)
  · refine sg_iconst (pc := 12) (z := 0) (dc_X7_sum_0.1.2.2.1) (by decide) ?_
    refine sg_iret (pc := 13) (dc_X7_sum_0.1.2.2.2) rfl (by first | exact Nat.le_of_ble_eq_true rfl | omega) (by first | exact Nat.le_of_ble_eq_true rfl | omega) ?_
    exact hQ _ _ (by assumption)

