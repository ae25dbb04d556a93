set_option maxRecDepth 100000 in
theorem s_X5_digest {w : sg_W} {Q : sg_O → sg_H → Prop} {h : sg_H} (g : sg_G w) {d : Nat} (hd : 16 ≤ d) {B : Nat} (hx : ck_X h B) (hQ : ∀ v : Int, Q (.inl (some (sg_l v))) h) : sg_C w mi_X5_digest d 0 0 [sg_r B] h Q := by
  refine sg_of pn_X5 (Nat.le_of_ble_eq_true rfl) ?_
  have y0 := ck_Y0 hx
  refine sg_ldc2 (pc := 0) (z := 7707) g (dc_X5_digest_0.1.1.1.1) cn_X5_284 (by decide) ?_
  refine sg_lstore_n (pc := 3) (j := 1) (dc_X5_digest_0.1.1.1.2) rfl (by decide) ?_
  refine sg_iconst (pc := 4) (z := 0) (dc_X5_digest_0.1.1.2.1) (by decide) ?_
  refine sg_istore_n (pc := 5) (j := 3) (dc_X5_digest_0.1.1.2.2) rfl (by decide) ?_
  have loop6 : ∀ (N : Nat) (p s : Int), (0 ≤ p) → (4 - p).toNat < N → sg_R w mi_X5_digest d 0 0 Q 6 [(3, sg_i p), (1, sg_l s), (0, sg_r B)] [] h 0 0 := by
    intro N
    induction N with
    | zero => intro p s p0 hm; exact absurd hm (Nat.not_lt_zero _)
    | succ N ih =>
      intro p s p0 hm
      refine sg_iload_n (pc := 6) (j := 3) (dc_X5_digest_0.1.2.1.1) rfl rfl ?_
      refine sg_iconst (pc := 7) (z := 4) (dc_X5_digest_0.1.2.1.2) (by decide) ?_
      refine sg_icmp_ge (pc := 8) (tgt := 24) (dc_X5_digest_0.1.2.2.1) (by decide) (fun c8 => ?_) (fun c8 => ?_)
      · refine sg_lload_n (pc := 24) (j := 1) (dc_X5_digest_0.2.2.2.1) rfl rfl ?_
        refine sg_aload_n (pc := 25) (j := 0) (dc_X5_digest_0.2.2.2.2) rfl rfl ?_
        refine sg_iconst (pc := 26) (z := 0) (dc_X5_digest_26.1.1.1.1) (by decide) ?_
        refine sg_iconst (pc := 27) (z := 1) (dc_X5_digest_26.1.1.1.2) (by decide) ?_
        refine sg_cE2 (pc := 28) (d' := d - 1) (mc' := 0) (ms' := 0) 6 g (dc_X5_digest_26.1.1.2.1) cb_X5_order ml_X5_290 mn_X5_order rfl mv_X5_order (Nat.le_of_ble_eq_true rfl) (ck_oc (by assumption)) (Nat.le_of_ble_eq_true rfl) (by first | exact jl_d0 hd rfl | omega) (by first | exact Nat.le_of_ble_eq_true rfl | omega) (by first | exact Nat.le_of_ble_eq_true rfl | omega) ?_
        refine s_X5_order_N g (by first | exact jl_d1 hd rfl | omega) (by assumption) (by omega) (fun v28 => sg_K1 ?_)
        refine sg_i2l (pc := 31) (dc_X5_digest_26.1.1.2.2) ?_
        refine sg_cS2 (pc := 32) (d' := d - 1) (mc' := 0) (ms' := 0) g (dc_X5_digest_26.1.2.1.1) cb_X5_with ml_X5_293 ms_X5_with (Nat.le_of_ble_eq_true rfl) (by first | exact jl_d0 hd rfl | omega) (by first | exact Nat.le_of_ble_eq_true rfl | omega) (by first | exact Nat.le_of_ble_eq_true rfl | omega) ?_
        refine s_X5_with g (by first | exact jl_d1 hd rfl | omega) (fun z32 h32 => sg_K1 ?_)
        refine sg_lstore_n (pc := 35) (j := 1) (dc_X5_digest_26.1.2.1.2) rfl (by decide) ?_
        refine sg_lload_n (pc := 36) (j := 1) (dc_X5_digest_26.1.2.2.1) rfl rfl ?_
        refine sg_aload_n (pc := 37) (j := 0) (dc_X5_digest_26.1.2.2.2) rfl rfl ?_
        refine sg_iconst (pc := 38) (z := 2) (dc_X5_digest_26.2.1.1.1) (by decide) ?_
        refine sg_iconst (pc := 39) (z := 3) (dc_X5_digest_26.2.1.1.2) (by decide) ?_
        refine sg_cE2 (pc := 40) (d' := d - 1) (mc' := 0) (ms' := 0) 6 g (dc_X5_digest_26.2.1.2.1) cb_X5_order ml_X5_290 mn_X5_order rfl mv_X5_order (Nat.le_of_ble_eq_true rfl) (ck_oc (by assumption)) (Nat.le_of_ble_eq_true rfl) (by first | exact jl_d0 hd rfl | omega) (by first | exact Nat.le_of_ble_eq_true rfl | omega) (by first | exact Nat.le_of_ble_eq_true rfl | omega) ?_
        refine s_X5_order_N g (by first | exact jl_d1 hd rfl | omega) (by assumption) (by omega) (fun v40 => sg_K1 ?_)
        refine sg_i2l (pc := 43) (dc_X5_digest_26.2.1.2.2) ?_
        refine sg_cS2 (pc := 44) (d' := d - 1) (mc' := 0) (ms' := 0) g (dc_X5_digest_26.2.2.1.1) cb_X5_with ml_X5_293 ms_X5_with (Nat.le_of_ble_eq_true rfl) (by first | exact jl_d0 hd rfl | omega) (by first | exact Nat.le_of_ble_eq_true rfl | omega) (by first | exact Nat.le_of_ble_eq_true rfl | omega) ?_
        refine s_X5_with g (by first | exact jl_d1 hd rfl | omega) (fun z44 h44 => sg_K1 ?_)
        refine sg_lstore_n (pc := 47) (j := 1) (dc_X5_digest_26.2.2.1.2) rfl (by decide) ?_
        refine sg_lload_n (pc := 48) (j := 1) (dc_X5_digest_26.2.2.2.1) rfl rfl ?_
        refine sg_aload_n (pc := 49) (j := 0) (dc_X5_digest_26.2.2.2.2) rfl rfl ?_
        refine sg_iconst (pc := 50) (z := 0) (dc_X5_digest_50.1.1.1.1) (by decide) ?_
        refine sg_iconst (pc := 51) (z := 1) (dc_X5_digest_50.1.1.1.2) (by decide) ?_
        refine sg_cE2 (pc := 52) (d' := d - 1) (mc' := 0) (ms' := 0) 6 g (dc_X5_digest_50.1.1.2.1) cb_X5_isAlike ml_X5_297 mn_X5_isAlike rfl mv_X5_isAlike (Nat.le_of_ble_eq_true rfl) (ck_oc (by assumption)) (Nat.le_of_ble_eq_true rfl) (by first | exact jl_d0 hd rfl | omega) (by first | exact Nat.le_of_ble_eq_true rfl | omega) (by first | exact Nat.le_of_ble_eq_true rfl | omega) ?_
        refine s_X5_isAlike_N g (by first | exact jl_d1 hd rfl | omega) (by assumption) (by omega) (fun v52 b52 => sg_K1 ?_)
        refine sg_if_eq (pc := 55) (tgt := 62) (dc_X5_digest_50.1.1.2.2) (by decide) (fun c55 => ?_) (fun c55 => ?_)
        · refine sg_lconst (pc := 62) (z := 0) (dc_X5_digest_50.1.2.2.1) (by decide) ?_
          refine sg_cS2 (pc := 63) (d' := d - 1) (mc' := 0) (ms' := 0) g (dc_X5_digest_50.1.2.2.2) cb_X5_with ml_X5_293 ms_X5_with (Nat.le_of_ble_eq_true rfl) (by first | exact jl_d0 hd rfl | omega) (by first | exact Nat.le_of_ble_eq_true rfl | omega) (by first | exact Nat.le_of_ble_eq_true rfl | omega) ?_
          refine s_X5_with g (by first | exact jl_d1 hd rfl | omega) (fun z63 h63 => sg_K1 ?_)
          refine sg_lstore_n (pc := 66) (j := 1) (dc_X5_digest_50.2.1.1.1) rfl (by decide) ?_
          refine sg_iconst (pc := 67) (z := 0) (dc_X5_digest_50.2.1.1.2) (by decide) ?_
          refine sg_istore_n (pc := 68) (j := 3) (dc_X5_digest_50.2.1.2.1) rfl (by decide) ?_
          have loop69 : ∀ (N : Nat) (p s : Int), (0 ≤ p) → (2 - p).toNat < N → sg_R w mi_X5_digest d 0 0 Q 69 [(3, sg_i p), (1, sg_l s), (0, sg_r B)] [] h 0 0 := by
            intro N
            induction N with
            | zero => intro p s p0 hm; exact absurd hm (Nat.not_lt_zero _)
            | succ N ih =>
              intro p s p0 hm
              refine sg_iload_n (pc := 69) (j := 3) (dc_X5_digest_50.2.1.2.2) rfl rfl ?_
              refine sg_iconst (pc := 70) (z := 2) (dc_X5_digest_50.2.2.1.1) (by decide) ?_
              refine sg_icmp_ge (pc := 71) (tgt := 87) (dc_X5_digest_50.2.2.1.2) (by decide) (fun c71 => ?_) (fun c71 => ?_)
              · refine sg_iconst (pc := 87) (z := 0) (dc_X5_digest_76.1.2.1.2) (by decide) ?_
                refine sg_istore_n (pc := 88) (j := 3) (dc_X5_digest_76.1.2.2.1) rfl (by decide) ?_
                have loop89 : ∀ (N : Nat) (p s : Int), (0 ≤ p) → (4 - p).toNat < N → sg_R w mi_X5_digest d 0 0 Q 89 [(3, sg_i p), (1, sg_l s), (0, sg_r B)] [] h 0 0 := by
                  intro N
                  induction N with
                  | zero => intro p s p0 hm; exact absurd hm (Nat.not_lt_zero _)
                  | succ N ih =>
                    intro p s p0 hm
                    refine sg_iload_n (pc := 89) (j := 3) (dc_X5_digest_76.1.2.2.2) rfl rfl ?_
                    refine sg_iconst (pc := 90) (z := 3) (dc_X5_digest_76.2.1.1.1) (by decide) ?_
                    refine sg_icmp_gt (pc := 91) (tgt := 111) (dc_X5_digest_76.2.1.1.2) (by decide) (fun c91 => ?_) (fun c91 => ?_)
                    · refine sg_lload_n (pc := 111) (j := 1) (dc_X5_digest_104.1.1.2.2) rfl rfl ?_
                      refine sg_aload_n (pc := 112) (j := 0) (dc_X5_digest_104.1.2.1.1) rfl rfl ?_
                      refine sg_cE0 (pc := 113) (d' := d - 1) (mc' := 0) (ms' := 0) 6 g (dc_X5_digest_104.1.2.1.2) cb_X5_isSound ml_X5_306 mn_X5_isSound rfl mv_X5_isSound (Nat.le_of_ble_eq_true rfl) (ck_oc (by assumption)) (Nat.le_of_ble_eq_true rfl) (by first | exact jl_d0 hd rfl | omega) (by first | exact Nat.le_of_ble_eq_true rfl | omega) (by first | exact Nat.le_of_ble_eq_true rfl | omega) ?_
                      refine s_X5_isSound g (by first | exact jl_d1 hd rfl | omega) (by assumption) (fun v113 b113 => sg_K1 ?_)
                      refine sg_if_eq (pc := 116) (tgt := 123) (dc_X5_digest_104.1.2.2.1) (by decide) (fun c116 => ?_) (fun c116 => ?_)
                      · refine sg_lconst (pc := 123) (z := 0) (dc_X5_digest_104.2.1.1.2) (by decide) ?_
                        refine sg_cS2 (pc := 124) (d' := d - 1) (mc' := 0) (ms' := 0) g (dc_X5_digest_104.2.1.2.1) cb_X5_with ml_X5_293 ms_X5_with (Nat.le_of_ble_eq_true rfl) (by first | exact jl_d0 hd rfl | omega) (by first | exact Nat.le_of_ble_eq_true rfl | omega) (by first | exact Nat.le_of_ble_eq_true rfl | omega) ?_
                        refine s_X5_with g (by first | exact jl_d1 hd rfl | omega) (fun z124 h124 => sg_K1 ?_)
                        refine sg_lret (pc := 127) (dc_X5_digest_104.2.1.2.2) rfl (by first | exact Nat.le_of_ble_eq_true rfl | omega) (by first | exact Nat.le_of_ble_eq_true rfl | omega) ?_
                        exact hQ _
                      · refine sg_lconst (pc := 119) (z := 1) (dc_X5_digest_104.1.2.2.2) (by decide) ?_
                        refine sg_goto (pc := 120) (tgt := 124) (dc_X5_digest_104.2.1.1.1) (by decide) ?_
                        refine sg_cS2 (pc := 124) (d' := d - 1) (mc' := 0) (ms' := 0) g (dc_X5_digest_104.2.1.2.1) cb_X5_with ml_X5_293 ms_X5_with (Nat.le_of_ble_eq_true rfl) (by first | exact jl_d0 hd rfl | omega) (by first | exact Nat.le_of_ble_eq_true rfl | omega) (by first | exact Nat.le_of_ble_eq_true rfl | omega) ?_
                        refine s_X5_with g (by first | exact jl_d1 hd rfl | omega) (fun z124 h124 => sg_K1 ?_)
                        refine sg_lret (pc := 127) (dc_X5_digest_104.2.1.2.2) rfl (by first | exact Nat.le_of_ble_eq_true rfl | omega) (by first | exact Nat.le_of_ble_eq_true rfl | omega) ?_
                        exact hQ _
                    · refine sg_lload_n (pc := 94) (j := 1) (dc_X5_digest_76.2.1.2.1) rfl rfl ?_
                      refine sg_aload_n (pc := 95) (j := 0) (dc_X5_digest_76.2.1.2.2) rfl rfl ?_
                      refine sg_iload_n (pc := 96) (j := 3) (dc_X5_digest_76.2.2.1.1) rfl rfl ?_
                      refine sg_cE1 (pc := 97) (d' := d - 1) (mc' := 0) (ms' := 0) 6 g (dc_X5_digest_76.2.2.1.2) cb_X5_house ml_X5_303 mn_X5_house rfl mv_X5_house (Nat.le_of_ble_eq_true rfl) (ck_oc (by assumption)) (Nat.le_of_ble_eq_true rfl) (by first | exact jl_d0 hd rfl | omega) (by first | exact Nat.le_of_ble_eq_true rfl | omega) (by first | exact Nat.le_of_ble_eq_true rfl | omega) ?_
                      refine s_X5_house_N g (by first | exact jl_d1 hd rfl | omega) (by assumption) (by omega) (fun v97 => sg_K1 ?_)
                      refine sg_i2l (pc := 100) (dc_X5_digest_76.2.2.2.1) ?_
                      refine sg_cS2 (pc := 101) (d' := d - 1) (mc' := 0) (ms' := 0) g (dc_X5_digest_76.2.2.2.2) cb_X5_with ml_X5_293 ms_X5_with (Nat.le_of_ble_eq_true rfl) (by first | exact jl_d0 hd rfl | omega) (by first | exact Nat.le_of_ble_eq_true rfl | omega) (by first | exact Nat.le_of_ble_eq_true rfl | omega) ?_
                      refine s_X5_with g (by first | exact jl_d1 hd rfl | omega) (fun z101 h101 => sg_K1 ?_)
                      refine sg_lstore_n (pc := 104) (j := 1) (dc_X5_digest_104.1.1.1.1) rfl (by decide) ?_
                      first | refine sg_iincB (pc := 105) (dc_X5_digest_104.1.1.1.2) rfl (by decide) (by decide) (by omega) (by omega) ?_ | refine sg_iinc (pc := 105) (dc_X5_digest_104.1.1.1.2) rfl (by decide) (by decide) ?_
                      refine sg_goto (pc := 108) (tgt := 89) (dc_X5_digest_104.1.1.2.1) (by decide) ?_
                      refine sg_lsub (lv' := [(3, _), (1, _), (0, _)]) ⟨rfl, rfl, rfl, trivial⟩ ?_
                      exact ih _ _ (by omega) (by first | exact jl_m1 hm (by omega) | exact jl_m2 hm (by omega) | omega)
                refine sg_lsub (lv' := [(3, _), (1, _), (0, _)]) ⟨rfl, rfl, rfl, trivial⟩ ?_
                exact loop89 _ _ _ (by omega) (Nat.lt_succ_self _)
              · refine sg_aload_n (pc := 74) (j := 0) (dc_X5_digest_50.2.2.2.1) rfl rfl ?_
                refine sg_lload_n (pc := 75) (j := 1) (dc_X5_digest_50.2.2.2.2) rfl rfl ?_
                refine sg_iload_n (pc := 76) (j := 3) (dc_X5_digest_76.1.1.1.1) rfl rfl ?_
                refine sg_cE2 (pc := 77) (d' := d - 1) (mc' := 0) (ms' := 0) 6 g (dc_X5_digest_76.1.1.1.2) cb_X5_withTrack ml_X5_300 mn_X5_withTrack rfl mv_X5_withTrack (Nat.le_of_ble_eq_true rfl) (ck_oc (by assumption)) (Nat.le_of_ble_eq_true rfl) (by first | exact jl_d0 hd rfl | omega) (by first | exact Nat.le_of_ble_eq_true rfl | omega) (by first | exact Nat.le_of_ble_eq_true rfl | omega) ?_
                refine s_X5_withTrack g (by first | exact jl_d1 hd rfl | omega) (by assumption) (by omega) (fun v77 => sg_K1 ?_)
                refine sg_lstore_n (pc := 80) (j := 1) (dc_X5_digest_76.1.1.2.1) rfl (by decide) ?_
                first | refine sg_iincB (pc := 81) (dc_X5_digest_76.1.1.2.2) rfl (by decide) (by decide) (by omega) (by omega) ?_ | refine sg_iinc (pc := 81) (dc_X5_digest_76.1.1.2.2) rfl (by decide) (by decide) ?_
                refine sg_goto (pc := 84) (tgt := 69) (dc_X5_digest_76.1.2.1.1) (by decide) ?_
                refine sg_lsub (lv' := [(3, _), (1, _), (0, _)]) ⟨rfl, rfl, rfl, trivial⟩ ?_
                exact ih _ _ (by omega) (by first | exact jl_m1 hm (by omega) | exact jl_m2 hm (by omega) | omega)
          refine sg_lsub (lv' := [(3, _), (1, _), (0, _)]) ⟨rfl, rfl, rfl, trivial⟩ ?_
          exact loop69 _ _ _ (by omega) (Nat.lt_succ_self _)
        · refine sg_lconst (pc := 58) (z := 1) (dc_X5_digest_50.1.2.1.1) (by decide) ?_
          refine sg_goto (pc := 59) (tgt := 63) (dc_X5_digest_50.1.2.1.2) (by decide) ?_
          refine sg_cS2 (pc := 63) (d' := d - 1) (mc' := 0) (ms' := 0) g (dc_X5_digest_50.1.2.2.2) cb_X5_with ml_X5_293 ms_X5_with (Nat.le_of_ble_eq_true rfl) (by first | exact jl_d0 hd rfl | omega) (by first | exact Nat.le_of_ble_eq_true rfl | omega) (by first | exact Nat.le_of_ble_eq_true rfl | omega) ?_
          refine s_X5_with g (by first | exact jl_d1 hd rfl | omega) (fun z63 h63 => sg_K1 ?_)
          refine sg_lstore_n (pc := 66) (j := 1) (dc_X5_digest_50.2.1.1.1) rfl (by decide) ?_
          refine sg_iconst (pc := 67) (z := 0) (dc_X5_digest_50.2.1.1.2) (by decide) ?_
          refine sg_istore_n (pc := 68) (j := 3) (dc_X5_digest_50.2.1.2.1) rfl (by decide) ?_
          have loop69 : ∀ (N : Nat) (p s : Int), (0 ≤ p) → (2 - p).toNat < N → sg_R w mi_X5_digest d 0 0 Q 69 [(3, sg_i p), (1, sg_l s), (0, sg_r B)] [] h 0 0 := by
            intro N
            induction N with
            | zero => intro p s p0 hm; exact absurd hm (Nat.not_lt_zero _)
            | succ N ih =>
              intro p s p0 hm
              refine sg_iload_n (pc := 69) (j := 3) (dc_X5_digest_50.2.1.2.2) rfl rfl ?_
              refine sg_iconst (pc := 70) (z := 2) (dc_X5_digest_50.2.2.1.1) (by decide) ?_
              refine sg_icmp_ge (pc := 71) (tgt := 87) (dc_X5_digest_50.2.2.1.2) (by decide) (fun c71 => ?_) (fun c71 => ?_)
              · refine sg_iconst (pc := 87) (z := 0) (dc_X5_digest_76.1.2.1.2) (by decide) ?_
                refine sg_istore_n (pc := 88) (j := 3) (dc_X5_digest_76.1.2.2.1) rfl (by decide) ?_
                have loop89 : ∀ (N : Nat) (p s : Int), (0 ≤ p) → (4 - p).toNat < N → sg_R w mi_X5_digest d 0 0 Q 89 [(3, sg_i p), (1, sg_l s), (0, sg_r B)] [] h 0 0 := by
                  intro N
                  induction N with
                  | zero => intro p s p0 hm; exact absurd hm (Nat.not_lt_zero _)
                  | succ N ih =>
                    intro p s p0 hm
                    refine sg_iload_n (pc := 89) (j := 3) (dc_X5_digest_76.1.2.2.2) rfl rfl ?_
                    refine sg_iconst (pc := 90) (z := 3) (dc_X5_digest_76.2.1.1.1) (by decide) ?_
                    refine sg_icmp_gt (pc := 91) (tgt := 111) (dc_X5_digest_76.2.1.1.2) (by decide) (fun c91 => ?_) (fun c91 => ?_)
                    · refine sg_lload_n (pc := 111) (j := 1) (dc_X5_digest_104.1.1.2.2) rfl rfl ?_
                      refine sg_aload_n (pc := 112) (j := 0) (dc_X5_digest_104.1.2.1.1) rfl rfl ?_
                      refine sg_cE0 (pc := 113) (d' := d - 1) (mc' := 0) (ms' := 0) 6 g (dc_X5_digest_104.1.2.1.2) cb_X5_isSound ml_X5_306 mn_X5_isSound rfl mv_X5_isSound (Nat.le_of_ble_eq_true rfl) (ck_oc (by assumption)) (Nat.le_of_ble_eq_true rfl) (by first | exact jl_d0 hd rfl | omega) (by first | exact Nat.le_of_ble_eq_true rfl | omega) (by first | exact Nat.le_of_ble_eq_true rfl | omega) ?_
                      refine s_X5_isSound g (by first | exact jl_d1 hd rfl | omega) (by assumption) (fun v113 b113 => sg_K1 ?_)
                      refine sg_if_eq (pc := 116) (tgt := 123) (dc_X5_digest_104.1.2.2.1) (by decide) (fun c116 => ?_) (fun c116 => ?_)
                      · refine sg_lconst (pc := 123) (z := 0) (dc_X5_digest_104.2.1.1.2) (by decide) ?_
                        refine sg_cS2 (pc := 124) (d' := d - 1) (mc' := 0) (ms' := 0) g (dc_X5_digest_104.2.1.2.1) cb_X5_with ml_X5_293 ms_X5_with (Nat.le_of_ble_eq_true rfl) (by first | exact jl_d0 hd rfl | omega) (by first | exact Nat.le_of_ble_eq_true rfl | omega) (by first | exact Nat.le_of_ble_eq_true rfl | omega) ?_
                        refine s_X5_with g (by first | exact jl_d1 hd rfl | omega) (fun z124 h124 => sg_K1 ?_)
                        refine sg_lret (pc := 127) (dc_X5_digest_104.2.1.2.2) rfl (by first | exact Nat.le_of_ble_eq_true rfl | omega) (by first | exact Nat.le_of_ble_eq_true rfl | omega) ?_
                        exact hQ _
                      · refine sg_lconst (pc := 119) (z := 1) (dc_X5_digest_104.1.2.2.2) (by decide) ?_
                        refine sg_goto (pc := 120) (tgt := 124) (dc_X5_digest_104.2.1.1.1) (by decide) ?_
                        refine sg_cS2 (pc := 124) (d' := d - 1) (mc' := 0) (ms' := 0) g (dc_X5_digest_104.2.1.2.1) cb_X5_with ml_X5_293 ms_X5_with (Nat.le_of_ble_eq_true rfl) (by first | exact jl_d0 hd rfl | omega) (by first | exact Nat.le_of_ble_eq_true rfl | omega) (by first | exact Nat.le_of_ble_eq_true rfl | omega) ?_
                        refine s_X5_with g (by first | exact jl_d1 hd rfl | omega) (fun z124 h124 => sg_K1 ?_)
                        refine sg_lret (pc := 127) (dc_X5_digest_104.2.1.2.2) rfl (by first | exact Nat.le_of_ble_eq_true rfl | omega) (by first | exact Nat.le_of_ble_eq_true rfl | omega) ?_
                        exact hQ _
                    · refine sg_lload_n (pc := 94) (j := 1) (dc_X5_digest_76.2.1.2.1) rfl rfl ?_
                      refine sg_aload_n (pc := 95) (j := 0) (dc_X5_digest_76.2.1.2.2) rfl rfl ?_
                      refine sg_iload_n (pc := 96) (j := 3) (dc_X5_digest_76.2.2.1.1) rfl rfl ?_
                      refine sg_cE1 (pc := 97) (d' := d - 1) (mc' := 0) (ms' := 0) 6 g (dc_X5_digest_76.2.2.1.2) cb_X5_house ml_X5_303 mn_X5_house rfl mv_X5_house (Nat.le_of_ble_eq_true rfl) (ck_oc (by assumption)) (Nat.le_of_ble_eq_true rfl) (by first | exact jl_d0 hd rfl | omega) (by first | exact Nat.le_of_ble_eq_true rfl | omega) (by first | exact Nat.le_of_ble_eq_true rfl | omega) ?_
                      refine s_X5_house_N g (by first | exact jl_d1 hd rfl | omega) (by assumption) (by omega) (fun v97 => sg_K1 ?_)
                      refine sg_i2l (pc := 100) (dc_X5_digest_76.2.2.2.1) ?_
                      refine sg_cS2 (pc := 101) (d' := d - 1) (mc' := 0) (ms' := 0) g (dc_X5_digest_76.2.2.2.2) cb_X5_with ml_X5_293 ms_X5_with (Nat.le_of_ble_eq_true rfl) (by first | exact jl_d0 hd rfl | omega) (by first | exact Nat.le_of_ble_eq_true rfl | omega) (by first | exact Nat.le_of_ble_eq_true rfl | omega) ?_
                      refine s_X5_with g (by first | exact jl_d1 hd rfl | omega) (fun z101 h101 => sg_K1 ?_)
                      refine sg_lstore_n (pc := 104) (j := 1) (dc_X5_digest_104.1.1.1.1) rfl (by decide) ?_
                      first | refine sg_iincB (pc := 105) (dc_X5_digest_104.1.1.1.2) rfl (by decide) (by decide) (by omega) (by omega) ?_ | refine sg_iinc (pc := 105) (dc_X5_digest_104.1.1.1.2) rfl (by decide) (by decide) ?_
                      refine sg_goto (pc := 108) (tgt := 89) (dc_X5_digest_104.1.1.2.1) (by decide) ?_
                      refine sg_lsub (lv' := [(3, _), (1, _), (0, _)]) ⟨rfl, rfl, rfl, trivial⟩ ?_
                      exact ih _ _ (by omega) (by first | exact jl_m1 hm (by omega) | exact jl_m2 hm (by omega) | omega)
                refine sg_lsub (lv' := [(3, _), (1, _), (0, _)]) ⟨rfl, rfl, rfl, trivial⟩ ?_
                exact loop89 _ _ _ (by omega) (Nat.lt_succ_self _)
              · refine sg_aload_n (pc := 74) (j := 0) (dc_X5_digest_50.2.2.2.1) rfl rfl ?_
                refine sg_lload_n (pc := 75) (j := 1) (dc_X5_digest_50.2.2.2.2) rfl rfl ?_
                refine sg_iload_n (pc := 76) (j := 3) (dc_X5_digest_76.1.1.1.1) rfl rfl ?_
                refine sg_cE2 (pc := 77) (d' := d - 1) (mc' := 0) (ms' := 0) 6 g (dc_X5_digest_76.1.1.1.2) cb_X5_withTrack ml_X5_300 mn_X5_withTrack rfl mv_X5_withTrack (Nat.le_of_ble_eq_true rfl) (ck_oc (by assumption)) (Nat.le_of_ble_eq_true rfl) (by first | exact jl_d0 hd rfl | omega) (by first | exact Nat.le_of_ble_eq_true rfl | omega) (by first | exact Nat.le_of_ble_eq_true rfl | omega) ?_
                refine s_X5_withTrack g (by first | exact jl_d1 hd rfl | omega) (by assumption) (by omega) (fun v77 => sg_K1 ?_)
                refine sg_lstore_n (pc := 80) (j := 1) (dc_X5_digest_76.1.1.2.1) rfl (by decide) ?_
                first | refine sg_iincB (pc := 81) (dc_X5_digest_76.1.1.2.2) rfl (by decide) (by decide) (by omega) (by omega) ?_ | refine sg_iinc (pc := 81) (dc_X5_digest_76.1.1.2.2) rfl (by decide) (by decide) ?_
                refine sg_goto (pc := 84) (tgt := 69) (dc_X5_digest_76.1.2.1.1) (by decide) ?_
                refine sg_lsub (lv' := [(3, _), (1, _), (0, _)]) ⟨rfl, rfl, rfl, trivial⟩ ?_
                exact ih _ _ (by omega) (by first | exact jl_m1 hm (by omega) | exact jl_m2 hm (by omega) | omega)
          refine sg_lsub (lv' := [(3, _), (1, _), (0, _)]) ⟨rfl, rfl, rfl, trivial⟩ ?_
          exact loop69 _ _ _ (by omega) (Nat.lt_succ_self _)
      · refine sg_aload_n (pc := 11) (j := 0) (dc_X5_digest_0.1.2.2.2) rfl rfl ?_
        refine sg_lload_n (pc := 12) (j := 1) (dc_X5_digest_0.2.1.1.1) rfl rfl ?_
        refine sg_iload_n (pc := 13) (j := 3) (dc_X5_digest_0.2.1.1.2) rfl rfl ?_
        refine sg_cE2 (pc := 14) (d' := d - 1) (mc' := 0) (ms' := 0) 6 g (dc_X5_digest_0.2.1.2.1) cb_X5_withRow ml_X5_286 mn_X5_withRow rfl mv_X5_withRow (Nat.le_of_ble_eq_true rfl) (ck_oc (by assumption)) (Nat.le_of_ble_eq_true rfl) (by first | exact jl_d0 hd rfl | omega) (by first | exact Nat.le_of_ble_eq_true rfl | omega) (by first | exact Nat.le_of_ble_eq_true rfl | omega) ?_
        refine s_X5_withRow g (by first | exact jl_d1 hd rfl | omega) (by assumption) (by omega) (fun v14 => sg_K1 ?_)
        refine sg_lstore_n (pc := 17) (j := 1) (dc_X5_digest_0.2.1.2.2) rfl (by decide) ?_
        first | refine sg_iincB (pc := 18) (dc_X5_digest_0.2.2.1.1) rfl (by decide) (by decide) (by omega) (by omega) ?_ | refine sg_iinc (pc := 18) (dc_X5_digest_0.2.2.1.1) rfl (by decide) (by decide) ?_
        refine sg_goto (pc := 21) (tgt := 6) (dc_X5_digest_0.2.2.1.2) (by decide) ?_
        refine sg_lsub (lv' := [(3, _), (1, _), (0, _)]) ⟨rfl, rfl, rfl, trivial⟩ ?_
        exact ih _ _ (by omega) (by first | exact jl_m1 hm (by omega) | exact jl_m2 hm (by omega) | omega)
  refine sg_lsub (lv' := [(3, _), (1, _), (0, _)]) ⟨rfl, rfl, rfl, trivial⟩ ?_
  exact loop6 _ _ _ (by omega) (Nat.lt_succ_self _)


