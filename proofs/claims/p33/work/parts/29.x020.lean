set_option maxRecDepth 100000 in
theorem s_X5_withTrack {w : sg_W} {Q : sg_O → sg_H → Prop} {h : sg_H} (g : sg_G w) {d : Nat} (hd : 15 ≤ d) {B : Nat} (hx : ck_X h B) {x trk : Int} (hv : 0 ≤ trk ∧ trk < 2) (hQ : ∀ v : Int, Q (.inl (some (sg_l v))) h) : sg_C w mi_X5_withTrack d 0 0 [sg_r B, sg_l x, sg_i trk] h Q := by
  refine sg_of pn_X5 (Nat.le_of_ble_eq_true rfl) ?_
  have y0 := ck_Y0 hx
  refine sg_aload_n (pc := 0) (j := 0) (dc_X5_withTrack_0.1.1.1.1) rfl rfl ?_
  refine sg_iload_n (pc := 1) (j := 3) (dc_X5_withTrack_0.1.1.1.2) rfl rfl ?_
  refine sg_cE1 (pc := 2) (d' := d - 1) (mc' := 0) (ms' := 0) 6 g (dc_X5_withTrack_0.1.1.2.1) cb_X5_trackOf ml_X5_151 mn_X5_trackOf rfl mv_X5_trackOf (Nat.le_of_ble_eq_true rfl) (ck_oc (by assumption)) (Nat.le_of_ble_eq_true rfl) (by first | exact jl_d0 hd rfl | omega) (by first | exact Nat.le_of_ble_eq_true rfl | omega) (by first | exact Nat.le_of_ble_eq_true rfl | omega) ?_
  refine s_X5_trackOf_N g (by first | exact jl_d1 hd rfl | omega) (by assumption) (by omega) (fun a2 l2 r2 r2b => sg_K1 ?_)
  refine sg_astore (pc := 5) (dc_X5_withTrack_0.1.1.2.2) (by decide) ?_
  refine sg_lload_n (pc := 7) (j := 1) (dc_X5_withTrack_0.1.2.1.1) rfl rfl ?_
  refine sg_lstore (pc := 8) (dc_X5_withTrack_0.1.2.1.2) (by decide) ?_
  refine sg_iconst (pc := 10) (z := 0) (dc_X5_withTrack_0.1.2.2.1) (by decide) ?_
  refine sg_istore (pc := 11) (dc_X5_withTrack_0.1.2.2.2) (by decide) ?_
  have loop13 : ∀ (N : Nat) (p s : Int), (0 ≤ p) → (4 - p).toNat < N → sg_R w mi_X5_withTrack d 0 0 Q 13 [(7, sg_i p), (5, sg_l s), (0, sg_r B), (3, sg_i trk), (4, sg_r a2)] [] h 0 0 := by
    intro N
    induction N with
    | zero => intro p s p0 hm; exact absurd hm (Nat.not_lt_zero _)
    | succ N ih =>
      intro p s p0 hm
      refine sg_iload (pc := 13) (dc_X5_withTrack_0.2.1.1.1) rfl ?_
      refine sg_iconst (pc := 15) (z := 3) (dc_X5_withTrack_0.2.1.1.2) (by decide) ?_
      refine sg_icmp_gt (pc := 16) (tgt := 40) (dc_X5_withTrack_0.2.1.2.1) (by decide) (fun c16 => ?_) (fun c16 => ?_)
      · refine sg_iconst (pc := 40) (z := 0) (dc_X5_withTrack_29.1.2.1.1) (by decide) ?_
        refine sg_istore (pc := 41) (dc_X5_withTrack_29.1.2.1.2) (by decide) ?_
        have loop43 : ∀ (N : Nat) (p s : Int), (0 ≤ p) → (40 - p).toNat < N → sg_R w mi_X5_withTrack d 0 0 Q 43 [(7, sg_i p), (5, sg_l s), (0, sg_r B), (3, sg_i trk), (4, sg_r a2)] [] h 0 0 := by
          intro N
          induction N with
          | zero => intro p s p0 hm; exact absurd hm (Nat.not_lt_zero _)
          | succ N ih =>
            intro p s p0 hm
            refine sg_iload (pc := 43) (dc_X5_withTrack_29.1.2.2.1) rfl ?_
            refine sg_aload (pc := 45) (dc_X5_withTrack_29.1.2.2.2) rfl ?_
            refine sg_cE0 (pc := 47) (d' := d - 1) (mc' := 0) (ms' := 0) 3 g (dc_X5_withTrack_29.2.1.1.1) cb_X0_size ml_X5_63 mn_X0_size rfl mv_X0_size (Nat.le_of_ble_eq_true rfl) (ck_lc (by assumption) (by first | assumption | exact ck_rev)) (Nat.le_of_ble_eq_true rfl) (by first | exact jl_d0 hd rfl | omega) (by first | exact Nat.le_of_ble_eq_true rfl | omega) (by first | exact Nat.le_of_ble_eq_true rfl | omega) ?_
            refine s_X0_size g (by first | exact jl_d1 hd rfl | omega) (by assumption) (by first | assumption | exact ck_rev) (fun z47 l47 u47 N47 => sg_K1 ?_)
            refine sg_icmp_ge (pc := 50) (tgt := 124) (dc_X5_withTrack_29.2.1.1.2) (by decide) (fun c50 => ?_) (fun c50 => ?_)
            · refine sg_lload (pc := 124) (dc_X5_withTrack_97.2.1.2.2) rfl ?_
              refine sg_lret (pc := 126) (dc_X5_withTrack_97.2.2.1.1) rfl (by first | exact Nat.le_of_ble_eq_true rfl | omega) (by first | exact Nat.le_of_ble_eq_true rfl | omega) ?_
              exact hQ _
            · refine sg_aload (pc := 53) (dc_X5_withTrack_29.2.1.2.1) rfl ?_
              refine sg_iload (pc := 55) (dc_X5_withTrack_29.2.1.2.2) rfl ?_
              refine sg_cE1 (pc := 57) (d' := d - 1) (mc' := 0) (ms' := 0) 3 g (dc_X5_withTrack_29.2.2.1.1) cb_X0_get ml_X5_75 mn_X0_get rfl mv_X0_get (Nat.le_of_ble_eq_true rfl) (ck_lc (by assumption) (by first | assumption | exact ck_rev)) (Nat.le_of_ble_eq_true rfl) (by first | exact jl_d0 hd rfl | omega) (by first | exact Nat.le_of_ble_eq_true rfl | omega) (by first | exact Nat.le_of_ble_eq_true rfl | omega) ?_
              refine s_X0_get g (by first | exact jl_d1 hd rfl | omega) (by assumption) (by first | assumption | exact ck_rev) (fun z57 G57 v57 => sg_K1 ?_)
              have q60 := ck_v1.mp (v57 _ N47 (by omega) (by omega))
              refine sg_istore (pc := 60) (dc_X5_withTrack_29.2.2.1.2) (by decide) ?_
              refine sg_lload (pc := 62) (dc_X5_withTrack_29.2.2.2.1) rfl ?_
              refine sg_iload (pc := 64) (dc_X5_withTrack_29.2.2.2.2) rfl ?_
              refine sg_i2l (pc := 66) (dc_X5_withTrack_66.1.1.1.1) ?_
              refine sg_cS2 (pc := 67) (d' := d - 1) (mc' := 0) (ms' := 0) g (dc_X5_withTrack_66.1.1.1.2) cb_X5_with ml_X5_293 ms_X5_with (Nat.le_of_ble_eq_true rfl) (by first | exact jl_d0 hd rfl | omega) (by first | exact Nat.le_of_ble_eq_true rfl | omega) (by first | exact Nat.le_of_ble_eq_true rfl | omega) ?_
              refine s_X5_with g (by first | exact jl_d1 hd rfl | omega) (fun z67 h67 => sg_K1 ?_)
              refine sg_lstore (pc := 70) (dc_X5_withTrack_66.1.1.2.1) (by decide) ?_
              refine sg_iconst (pc := 72) (z := 0) (dc_X5_withTrack_66.1.1.2.2) (by decide) ?_
              refine sg_istore (pc := 73) (dc_X5_withTrack_66.1.2.1.1) (by decide) ?_
              have loop75 : ∀ (N : Nat) (p2 s2 : Int), (0 ≤ p2) → (4 - p2).toNat < N → sg_R w mi_X5_withTrack d 0 0 Q 75 [(9, sg_i p2), (5, sg_l s2), (7, sg_i p), (8, sg_i z57), (0, sg_r B), (3, sg_i trk), (4, sg_r a2)] [] h 0 0 := by
                intro N
                induction N with
                | zero => intro p2 s2 p02 hm; exact absurd hm (Nat.not_lt_zero _)
                | succ N ihb =>
                  intro p2 s2 p02 hm
                  refine sg_iload (pc := 75) (dc_X5_withTrack_66.1.2.1.2) rfl ?_
                  refine sg_iconst (pc := 77) (z := 3) (dc_X5_withTrack_66.1.2.2.1) (by decide) ?_
                  refine sg_icmp_gt (pc := 78) (tgt := 103) (dc_X5_withTrack_66.1.2.2.2) (by decide) (fun c78 => ?_) (fun c78 => ?_)
                  · refine sg_lload (pc := 103) (dc_X5_withTrack_97.1.1.2.1) rfl ?_
                    refine sg_aload (pc := 105) (dc_X5_withTrack_97.1.1.2.2) rfl ?_
                    refine sg_iload (pc := 107) (dc_X5_withTrack_97.1.2.1.1) rfl ?_
                    refine sg_cS2 (pc := 109) (d' := d - 1) (mc' := 0) (ms' := 0) g (dc_X5_withTrack_97.1.2.1.2) cb_X4_codeFrom ml_X5_266 ms_X4_codeFrom (Nat.le_of_ble_eq_true rfl) (by first | exact jl_d0 hd rfl | omega) (by first | exact Nat.le_of_ble_eq_true rfl | omega) (by first | exact Nat.le_of_ble_eq_true rfl | omega) ?_
                    refine s_X4_codeFrom g (by first | exact jl_d1 hd rfl | omega) (by assumption) (by assumption) (fun z109 v109 => sg_K1 ?_)
                    refine sg_i2l (pc := 112) (dc_X5_withTrack_97.1.2.2.1) ?_
                    refine sg_cS2 (pc := 113) (d' := d - 1) (mc' := 0) (ms' := 0) g (dc_X5_withTrack_97.1.2.2.2) cb_X5_with ml_X5_293 ms_X5_with (Nat.le_of_ble_eq_true rfl) (by first | exact jl_d0 hd rfl | omega) (by first | exact Nat.le_of_ble_eq_true rfl | omega) (by first | exact Nat.le_of_ble_eq_true rfl | omega) ?_
                    refine s_X5_with g (by first | exact jl_d1 hd rfl | omega) (fun z113 h113 => sg_K1 ?_)
                    refine sg_lstore (pc := 116) (dc_X5_withTrack_97.2.1.1.1) (by decide) ?_
                    first | refine sg_iincB (pc := 118) (dc_X5_withTrack_97.2.1.1.2) rfl (by decide) (by decide) (by omega) (by omega) ?_ | refine sg_iinc (pc := 118) (dc_X5_withTrack_97.2.1.1.2) rfl (by decide) (by decide) ?_
                    refine sg_goto (pc := 121) (tgt := 43) (dc_X5_withTrack_97.2.1.2.1) (by decide) ?_
                    refine sg_lsub (lv' := [(7, _), (5, _), (0, _), (3, _), (4, _)]) ⟨rfl, rfl, rfl, rfl, rfl, trivial⟩ ?_
                    exact ih _ _ (by omega) (by first | exact jl_m1 hm (by omega) | exact jl_m2 hm (by omega) | omega)
                  · refine sg_lload (pc := 81) (dc_X5_withTrack_66.2.1.1.1) rfl ?_
                    refine sg_aload_n (pc := 83) (j := 0) (dc_X5_withTrack_66.2.1.1.2) rfl rfl ?_
                    refine sg_iload (pc := 84) (dc_X5_withTrack_66.2.1.2.1) rfl ?_
                    refine sg_iload (pc := 86) (dc_X5_withTrack_66.2.1.2.2) rfl ?_
                    refine sg_cE2 (pc := 88) (d' := d - 1) (mc' := 0) (ms' := 0) 6 g (dc_X5_withTrack_66.2.2.1.1) cb_X5_ofUnit ml_X5_356 mn_X5_ofUnit rfl mv_X5_ofUnit (Nat.le_of_ble_eq_true rfl) (ck_oc (by assumption)) (Nat.le_of_ble_eq_true rfl) (by first | exact jl_d0 hd rfl | omega) (by first | exact Nat.le_of_ble_eq_true rfl | omega) (by first | exact Nat.le_of_ble_eq_true rfl | omega) ?_
                    refine s_X5_ofUnit_N g (by first | exact jl_d1 hd rfl | omega) (by omega) (fun v88 n88 e88 => sg_K1 ?_)
                    refine sg_i2l (pc := 91) (dc_X5_withTrack_66.2.2.1.2) ?_
                    refine sg_cS2 (pc := 92) (d' := d - 1) (mc' := 0) (ms' := 0) g (dc_X5_withTrack_66.2.2.2.1) cb_X5_with ml_X5_293 ms_X5_with (Nat.le_of_ble_eq_true rfl) (by first | exact jl_d0 hd rfl | omega) (by first | exact Nat.le_of_ble_eq_true rfl | omega) (by first | exact Nat.le_of_ble_eq_true rfl | omega) ?_
                    refine s_X5_with g (by first | exact jl_d1 hd rfl | omega) (fun z92 h92 => sg_K1 ?_)
                    refine sg_lstore (pc := 95) (dc_X5_withTrack_66.2.2.2.2) (by decide) ?_
                    first | refine sg_iincB (pc := 97) (dc_X5_withTrack_97.1.1.1.1) rfl (by decide) (by decide) (by omega) (by omega) ?_ | refine sg_iinc (pc := 97) (dc_X5_withTrack_97.1.1.1.1) rfl (by decide) (by decide) ?_
                    refine sg_goto (pc := 100) (tgt := 75) (dc_X5_withTrack_97.1.1.1.2) (by decide) ?_
                    refine sg_lsub (lv' := [(9, _), (5, _), (7, _), (8, _), (0, _), (3, _), (4, _)]) ⟨rfl, rfl, rfl, rfl, rfl, rfl, rfl, trivial⟩ ?_
                    exact ihb _ _ (by omega) (by first | exact jl_m1 hm (by omega) | exact jl_m2 hm (by omega) | omega)
              refine sg_lsub (lv' := [(9, _), (5, _), (7, _), (8, _), (0, _), (3, _), (4, _)]) ⟨rfl, rfl, rfl, rfl, rfl, rfl, rfl, trivial⟩ ?_
              exact loop75 _ _ _ (by omega) (Nat.lt_succ_self _)
        refine sg_lsub (lv' := [(7, _), (5, _), (0, _), (3, _), (4, _)]) ⟨rfl, rfl, rfl, rfl, rfl, trivial⟩ ?_
        exact loop43 _ _ _ (by omega) (Nat.lt_succ_self _)
      · refine sg_lload (pc := 19) (dc_X5_withTrack_0.2.1.2.2) rfl ?_
        refine sg_aload (pc := 21) (dc_X5_withTrack_0.2.2.1.1) rfl ?_
        refine sg_iload (pc := 23) (dc_X5_withTrack_0.2.2.1.2) rfl ?_
        refine sg_cS2 (pc := 25) (d' := d - 1) (mc' := 0) (ms' := 0) g (dc_X5_withTrack_0.2.2.2.1) cb_X4_howMany ml_X5_180 ms_X4_howMany (Nat.le_of_ble_eq_true rfl) (by first | exact jl_d0 hd rfl | omega) (by first | exact Nat.le_of_ble_eq_true rfl | omega) (by first | exact Nat.le_of_ble_eq_true rfl | omega) ?_
        refine s_X4_howMany g (by first | exact jl_d1 hd rfl | omega) (by assumption) (by assumption) (fun z25 => sg_K1 ?_)
        refine sg_i2l (pc := 28) (dc_X5_withTrack_0.2.2.2.2) ?_
        refine sg_cS2 (pc := 29) (d' := d - 1) (mc' := 0) (ms' := 0) g (dc_X5_withTrack_29.1.1.1.1) cb_X5_with ml_X5_293 ms_X5_with (Nat.le_of_ble_eq_true rfl) (by first | exact jl_d0 hd rfl | omega) (by first | exact Nat.le_of_ble_eq_true rfl | omega) (by first | exact Nat.le_of_ble_eq_true rfl | omega) ?_
        refine s_X5_with g (by first | exact jl_d1 hd rfl | omega) (fun z29 h29 => sg_K1 ?_)
        refine sg_lstore (pc := 32) (dc_X5_withTrack_29.1.1.1.2) (by decide) ?_
        first | refine sg_iincB (pc := 34) (dc_X5_withTrack_29.1.1.2.1) rfl (by decide) (by decide) (by omega) (by omega) ?_ | refine sg_iinc (pc := 34) (dc_X5_withTrack_29.1.1.2.1) rfl (by decide) (by decide) ?_
        refine sg_goto (pc := 37) (tgt := 13) (dc_X5_withTrack_29.1.1.2.2) (by decide) ?_
        refine sg_lsub (lv' := [(7, _), (5, _), (0, _), (3, _), (4, _)]) ⟨rfl, rfl, rfl, rfl, rfl, trivial⟩ ?_
        exact ih _ _ (by omega) (by first | exact jl_m1 hm (by omega) | exact jl_m2 hm (by omega) | omega)
  refine sg_lsub (lv' := [(7, _), (5, _), (0, _), (3, _), (4, _)]) ⟨rfl, rfl, rfl, rfl, rfl, trivial⟩ ?_
  exact loop13 _ _ _ (by omega) (Nat.lt_succ_self _)

