set_option maxRecDepth 100000 in
set_option maxHeartbeats 2000000 in
theorem s_X7_digest {w : sg_W} {Q : sg_O → sg_H → Prop} {h : sg_H} (g : sg_G w) {d : Nat} (hd : 12 ≤ d) {M : Nat} (hx : md_M w h M) (hQ : ∀ (v : Int) (h' : sg_H), md_Y w h h' M → Q (.inl (some (sg_l v))) h') : sg_C w mi_X7_digest d 1016 8070 [sg_r M] h Q := by
  refine sg_of pn_X7 (Nat.le_of_ble_eq_true rfl) ?_
  have y0 := md_Y0 hx
  have hk := hx.2.1
  refine sg_ldc2 (pc := 0) (z := 7707) g (dc_X7_digest_0.1.1.1.1) cn_X7_238 (by decide) ?_
  refine sg_lstore_n (pc := 3) (j := 1) (dc_X7_digest_0.1.1.1.2) rfl (by decide) ?_
  refine sg_iconst (pc := 4) (z := 0) (dc_X7_digest_0.1.1.2.1) (by decide) ?_
  refine sg_istore_n (pc := 5) (j := 3) (dc_X7_digest_0.1.1.2.2) rfl (by decide) ?_
  have loop6 : ∀ (N : Nat) (h1 : sg_H) (i l : Int) (k1 n1 : Nat), (md_E h h1) → ((0 ≤ i ∧ i ≤ 4)) → ((k1 : Int) ≤ 64 * i) → ((n1 : Int) ≤ 330 * i) → (4 - i).toNat < N → sg_R w mi_X7_digest d 1016 8070 Q 6 [(0, sg_r M), (3, sg_i i), (1, sg_l l)] [] h1 k1 n1 := by
    intro N
    induction N with
    | zero => intro h1 i l k1 n1 E1 i0 kb nb hm; exact absurd hm (Nat.not_lt_zero _)
    | succ N ih =>
      intro h1 i l k1 n1 E1 i0 kb nb hm
      have x1 : md_M w h1 M := md_ME hx E1
      have hk1 := x1.2.1
      have y1 : md_Y w h h1 M := md_YE y0 E1
      refine sg_iload_n (pc := 6) (j := 3) (dc_X7_digest_0.1.2.1.1) rfl rfl ?_
      refine sg_iconst (pc := 7) (z := 4) (dc_X7_digest_0.1.2.1.2) (by decide) ?_
      refine sg_icmp_ge (pc := 8) (tgt := 263) (dc_X7_digest_0.1.2.2.1) (by decide) (fun c8 => ?_) (fun c8 => ?_)
      · refine sg_lload_n (pc := 263) (j := 1) (dc_X7_digest_240.2.2.2.2) rfl rfl ?_
        refine sg_ldc2 (pc := 264) (z := 31) g (dc_X7_digest_264.1.1.1.1) cn_X7_240 (by decide) ?_
        refine sg_lmul (pc := 267) (dc_X7_digest_264.1.1.1.2) ?_
        refine sg_aload_n (pc := 268) (j := 0) (dc_X7_digest_264.1.1.2.1) rfl rfl ?_
        refine sg_aload_n (pc := 269) (j := 0) (dc_X7_digest_264.1.1.2.2) rfl rfl ?_
        refine md_grw (pc := 270) g (dc_X7_digest_264.1.2.1.1) fk_X7_9 (by assumption) (fun r270 => ?_)
        refine sg_iconst (pc := 273) (z := 0) (dc_X7_digest_264.1.2.1.2) (by decide) ?_
        first | refine md_alr (pc := 274) (dc_X7_digest_264.1.2.2.1) (by assumption) (by omega) (by omega) (fun A274 l274 => ?_) | refine md_alt (pc := 274) (dc_X7_digest_264.1.2.2.1) (by assumption) (by omega) (by omega) (fun A274 l274 => ?_)
        refine sg_aload_n (pc := 275) (j := 0) (dc_X7_digest_264.1.2.2.2) rfl rfl ?_
        refine md_grw (pc := 276) g (dc_X7_digest_264.2.1.1.1) fk_X7_9 (by assumption) (fun r276 => ?_)
        refine sg_iconst (pc := 279) (z := 1) (dc_X7_digest_264.2.1.1.2) (by decide) ?_
        first | refine md_alr (pc := 280) (dc_X7_digest_264.2.1.2.1) (by assumption) (by omega) (by omega) (fun A280 l280 => ?_) | refine md_alt (pc := 280) (dc_X7_digest_264.2.1.2.1) (by assumption) (by omega) (by omega) (fun A280 l280 => ?_)
        refine sg_cE2 (pc := 281) (d' := d - 1) (mc' := 0) (ms' := 0) 8 g (dc_X7_digest_264.2.1.2.2) cb_X7_orderOf ml_X7_222 mn_X7_orderOf rfl mv_X7_orderOf (Nat.le_of_ble_eq_true rfl) (md_oc (by assumption)) (Nat.le_of_ble_eq_true rfl) (by first | exact jl_d0 hd rfl | omega) (by first | exact Nat.le_of_ble_eq_true rfl | omega) (by first | exact Nat.le_of_ble_eq_true rfl | omega) ?_
        refine s_X7_orderOf (c := 0) g (by first | exact jl_d1 hd rfl | omega) (by assumption) (by assumption) (by omega) (by omega) (fun v281 => sg_K1 ?_)
        refine sg_i2l (pc := 284) (dc_X7_digest_264.2.2.1.1) ?_
        refine sg_ladd (pc := 285) (dc_X7_digest_264.2.2.1.2) ?_
        refine sg_ldc2 (pc := 286) (z := 31) g (dc_X7_digest_264.2.2.2.1) cn_X7_240 (by decide) ?_
        refine sg_lmul (pc := 289) (dc_X7_digest_264.2.2.2.2) ?_
        refine sg_aload_n (pc := 290) (j := 0) (dc_X7_digest_290.1.1.1.1) rfl rfl ?_
        refine sg_aload_n (pc := 291) (j := 0) (dc_X7_digest_290.1.1.1.2) rfl rfl ?_
        refine md_grw (pc := 292) g (dc_X7_digest_290.1.1.2.1) fk_X7_9 (by assumption) (fun r292 => ?_)
        refine sg_iconst (pc := 295) (z := 2) (dc_X7_digest_290.1.1.2.2) (by decide) ?_
        first | refine md_alr (pc := 296) (dc_X7_digest_290.1.2.1.1) (by assumption) (by omega) (by omega) (fun A296 l296 => ?_) | refine md_alt (pc := 296) (dc_X7_digest_290.1.2.1.1) (by assumption) (by omega) (by omega) (fun A296 l296 => ?_)
        refine sg_aload_n (pc := 297) (j := 0) (dc_X7_digest_290.1.2.1.2) rfl rfl ?_
        refine md_grw (pc := 298) g (dc_X7_digest_290.1.2.2.1) fk_X7_9 (by assumption) (fun r298 => ?_)
        refine sg_iconst (pc := 301) (z := 3) (dc_X7_digest_290.1.2.2.2) (by decide) ?_
        first | refine md_alr (pc := 302) (dc_X7_digest_290.2.1.1.1) (by assumption) (by omega) (by omega) (fun A302 l302 => ?_) | refine md_alt (pc := 302) (dc_X7_digest_290.2.1.1.1) (by assumption) (by omega) (by omega) (fun A302 l302 => ?_)
        refine sg_cE2 (pc := 303) (d' := d - 1) (mc' := 0) (ms' := 0) 8 g (dc_X7_digest_290.2.1.1.2) cb_X7_orderOf ml_X7_222 mn_X7_orderOf rfl mv_X7_orderOf (Nat.le_of_ble_eq_true rfl) (md_oc (by assumption)) (Nat.le_of_ble_eq_true rfl) (by first | exact jl_d0 hd rfl | omega) (by first | exact Nat.le_of_ble_eq_true rfl | omega) (by first | exact Nat.le_of_ble_eq_true rfl | omega) ?_
        refine s_X7_orderOf (c := 0) g (by first | exact jl_d1 hd rfl | omega) (by assumption) (by assumption) (by omega) (by omega) (fun v303 => sg_K1 ?_)
        refine sg_i2l (pc := 306) (dc_X7_digest_290.2.1.2.1) ?_
        refine sg_ladd (pc := 307) (dc_X7_digest_290.2.1.2.2) ?_
        refine sg_lstore_n (pc := 308) (j := 1) (dc_X7_digest_290.2.2.1.1) rfl (by decide) ?_
        refine sg_lload_n (pc := 309) (j := 1) (dc_X7_digest_290.2.2.1.2) rfl rfl ?_
        refine sg_ldc2 (pc := 310) (z := 31) g (dc_X7_digest_290.2.2.2.1) cn_X7_240 (by decide) ?_
        refine sg_lmul (pc := 313) (dc_X7_digest_290.2.2.2.2) ?_
        refine sg_aload_n (pc := 314) (j := 0) (dc_X7_digest_314.1.1.1.1) rfl rfl ?_
        refine sg_iconst (pc := 315) (z := 0) (dc_X7_digest_314.1.1.1.2) (by decide) ?_
        refine sg_iconst (pc := 316) (z := 1) (dc_X7_digest_314.1.1.2.1) (by decide) ?_
        refine sg_cE2 (pc := 317) (d' := d - 1) (mc' := 0) (ms' := 0) 8 g (dc_X7_digest_314.1.1.2.2) cb_X7_areAlike ml_X7_219 mn_X7_areAlike rfl mv_X7_areAlike (Nat.le_of_ble_eq_true rfl) (md_oc (by assumption)) (Nat.le_of_ble_eq_true rfl) (by first | exact jl_d0 hd rfl | omega) (by first | exact Nat.le_of_ble_eq_true rfl | omega) (by first | exact Nat.le_of_ble_eq_true rfl | omega) ?_
        refine s_X7_areAlike g (by first | exact jl_d1 hd rfl | omega) (by omega) (by assumption) (fun v317 b317 => sg_K1 ?_)
        refine sg_cS1 (pc := 320) (d' := d - 1) (mc' := 0) (ms' := 0) g (dc_X7_digest_314.1.2.1.1) cb_X7_one ml_X7_92 ms_X7_one (Nat.le_of_ble_eq_true rfl) (by first | exact jl_d0 hd rfl | omega) (by first | exact Nat.le_of_ble_eq_true rfl | omega) (by first | exact Nat.le_of_ble_eq_true rfl | omega) ?_
        refine s_X7_one g (by first | exact jl_d1 hd rfl | omega) (fun z320 h320 b320 => sg_K1 ?_)
        (try simp only [fm_no, fm_one, fn_betw, fn_sign, fn_radix, fn_high, fn_low] at h320)
        refine sg_i2l (pc := 323) (dc_X7_digest_314.1.2.1.2) ?_
        refine sg_ladd (pc := 324) (dc_X7_digest_314.1.2.2.1) ?_
        refine sg_lstore_n (pc := 325) (j := 1) (dc_X7_digest_314.1.2.2.2) rfl (by decide) ?_
        refine sg_iconst (pc := 326) (z := 0) (dc_X7_digest_314.2.1.1.1) (by decide) ?_
        refine sg_istore_n (pc := 327) (j := 3) (dc_X7_digest_314.2.1.1.2) rfl (by decide) ?_
        have loop328 : ∀ (N : Nat) (h3 : sg_H) (i3 l3 : Int) (k3 n3 : Nat), (md_E h1 h3) → ((0 ≤ i3 ∧ i3 ≤ 2)) → ((k3 : Int) ≤ k1 + 380 * i3) → ((n3 : Int) ≤ n1 + 3375 * i3) → (2 - i3).toNat < N → sg_R w mi_X7_digest d 1016 8070 Q 328 [(0, sg_r M), (3, sg_i i3), (1, sg_l l3)] [] h3 k3 n3 := by
          intro N
          induction N with
          | zero => intro h3 i3 l3 k3 n3 E3 i30 kb3 nb3 hm; exact absurd hm (Nat.not_lt_zero _)
          | succ N ihb =>
            intro h3 i3 l3 k3 n3 E3 i30 kb3 nb3 hm
            have x3 : md_M w h3 M := md_ME x1 E3
            have hk3 := x3.2.1
            have y3 : md_Y w h h3 M := md_YE y1 E3
            refine sg_iload_n (pc := 328) (j := 3) (dc_X7_digest_314.2.1.2.1) rfl rfl ?_
            refine sg_iconst (pc := 329) (z := 2) (dc_X7_digest_314.2.1.2.2) (by decide) ?_
            refine sg_icmp_ge (pc := 330) (tgt := 465) (dc_X7_digest_314.2.2.1.1) (by decide) (fun c330 => ?_) (fun c330 => ?_)
            · refine sg_iconst (pc := 465) (z := 0) (dc_X7_digest_442.2.2.1.1) (by decide) ?_
              refine sg_istore_n (pc := 466) (j := 3) (dc_X7_digest_442.2.2.1.2) rfl (by decide) ?_
              have loop467 : ∀ (N : Nat) (q l5 : Int), ((0 ≤ q ∧ q ≤ 4)) → (4 - q).toNat < N → sg_R w mi_X7_digest d 1016 8070 Q 467 [(0, sg_r M), (3, sg_i q), (1, sg_l l5)] [] h3 k3 n3 := by
                intro N
                induction N with
                | zero => intro q l5 q0 hm; exact absurd hm (Nat.not_lt_zero _)
                | succ N ihd =>
                  intro q l5 q0 hm
                  refine sg_iload_n (pc := 467) (j := 3) (dc_X7_digest_442.2.2.2.1) rfl rfl ?_
                  refine sg_iconst (pc := 468) (z := 4) (dc_X7_digest_442.2.2.2.2) (by decide) ?_
                  refine sg_icmp_ge (pc := 469) (tgt := 491) (dc_X7_digest_469.1.1.1.1) (by decide) (fun c469 => ?_) (fun c469 => ?_)
                  · refine sg_lload_n (pc := 491) (j := 1) (dc_X7_digest_469.2.2.1.1) rfl rfl ?_
                    refine sg_ldc2 (pc := 492) (z := 31) g (dc_X7_digest_469.2.2.1.2) cn_X7_240 (by decide) ?_
                    refine sg_lmul (pc := 495) (dc_X7_digest_469.2.2.2.1) ?_
                    refine sg_aload_n (pc := 496) (j := 0) (dc_X7_digest_469.2.2.2.2) rfl rfl ?_
                    refine sg_cE0 (pc := 497) (d' := d - 1) (mc' := 0) (ms' := 0) 8 g (dc_X7_digest_497.1.1.1) cb_X7_isSound ml_X7_242 mn_X7_isSound rfl mv_X7_isSound (Nat.le_of_ble_eq_true rfl) (md_oc (by assumption)) (Nat.le_of_ble_eq_true rfl) (by first | exact jl_d0 hd rfl | omega) (by first | exact Nat.le_of_ble_eq_true rfl | omega) (by first | exact Nat.le_of_ble_eq_true rfl | omega) ?_
                    refine s_X7_isSound g (by first | exact jl_d1 hd rfl | omega) (by assumption) (fun v497 h497 b497 y497 => sg_K1 ?_)
                    have x497 := y497.1
                    have hk497 := x497.2.1
                    have y497 := md_Yt (h0 := h) (by assumption) y497
                    refine sg_cS1 (pc := 500) (d' := d - 1) (mc' := 0) (ms' := 0) g (dc_X7_digest_497.1.1.2) cb_X7_one ml_X7_92 ms_X7_one (Nat.le_of_ble_eq_true rfl) (by first | exact jl_d0 hd rfl | omega) (by first | exact Nat.le_of_ble_eq_true rfl | omega) (by first | exact Nat.le_of_ble_eq_true rfl | omega) ?_
                    refine s_X7_one g (by first | exact jl_d1 hd rfl | omega) (fun z500 h500 b500 => sg_K1 ?_)
                    (try simp only [fm_no, fm_one, fn_betw, fn_sign, fn_radix, fn_high, fn_low] at h500)
                    refine sg_i2l (pc := 503) (dc_X7_digest_497.1.2.1) ?_
                    refine sg_ladd (pc := 504) (dc_X7_digest_497.1.2.2) ?_
                    refine sg_lret (pc := 505) (dc_X7_digest_497.2.1.1) rfl (by first | exact Nat.le_of_ble_eq_true rfl | omega) (by first | exact Nat.le_of_ble_eq_true rfl | omega) ?_
                    exact hQ _ _ (by assumption)
                  · refine sg_lload_n (pc := 472) (j := 1) (dc_X7_digest_469.1.1.1.2) rfl rfl ?_
                    refine sg_ldc2 (pc := 473) (z := 31) g (dc_X7_digest_469.1.1.2.1) cn_X7_240 (by decide) ?_
                    refine sg_lmul (pc := 476) (dc_X7_digest_469.1.1.2.2) ?_
                    refine sg_aload_n (pc := 477) (j := 0) (dc_X7_digest_469.1.2.1.1) rfl rfl ?_
                    refine sg_iload_n (pc := 478) (j := 3) (dc_X7_digest_469.1.2.1.2) rfl rfl ?_
                    refine sg_cE1 (pc := 479) (d' := d - 1) (mc' := 0) (ms' := 0) 8 g (dc_X7_digest_469.1.2.2.1) cb_X7_houseOf ml_X7_235 mn_X7_houseOf rfl mv_X7_houseOf (Nat.le_of_ble_eq_true rfl) (md_oc (by assumption)) (Nat.le_of_ble_eq_true rfl) (by first | exact jl_d0 hd rfl | omega) (by first | exact Nat.le_of_ble_eq_true rfl | omega) (by first | exact Nat.le_of_ble_eq_true rfl | omega) ?_
                    refine s_X7_houseOf g (by first | exact jl_d1 hd rfl | omega) (by assumption) (fun v479 => sg_K1 ?_)
                    refine sg_i2l (pc := 482) (dc_X7_digest_469.1.2.2.2) ?_
                    refine sg_ladd (pc := 483) (dc_X7_digest_469.2.1.1.1) ?_
                    refine sg_lstore_n (pc := 484) (j := 1) (dc_X7_digest_469.2.1.1.2) rfl (by decide) ?_
                    first | refine sg_iincB (pc := 485) (dc_X7_digest_469.2.1.2.1) rfl (by decide) (by decide) (by omega) (by omega) ?_ | refine sg_iinc (pc := 485) (dc_X7_digest_469.2.1.2.1) rfl (by decide) (by decide) ?_
                    refine sg_goto (pc := 488) (tgt := 467) (dc_X7_digest_469.2.1.2.2) (by decide) ?_
                    refine sg_lsub (lv' := [(0, _), (3, _), (1, _)]) ⟨rfl, rfl, rfl, trivial⟩ ?_
                    exact ihd _ _ (by omega) (by first | exact jl_m1 hm (by omega) | exact jl_m2 hm (by omega) | omega)
              refine sg_lsub (lv' := [(0, _), (3, _), (1, _)]) ⟨rfl, rfl, rfl, trivial⟩ ?_
              exact loop467 _ 0 _ (by omega) (Nat.lt_succ_self _)
            · refine sg_iconst (pc := 333) (z := 0) (dc_X7_digest_314.2.2.1.2) (by decide) ?_
              refine sg_istore (pc := 334) (dc_X7_digest_314.2.2.2.1) (by decide) ?_
              refine sg_iload (pc := 336) (dc_X7_digest_314.2.2.2.2) rfl ?_
              refine sg_iconst (pc := 338) (z := 4) (dc_X7_digest_338.1.1.1.1) (by decide) ?_
              refine sg_icmp_ge (pc := 339) (tgt := 363) (dc_X7_digest_338.1.1.1.2) (by decide) (fun cu => absurd cu (by omega)) (fun cu => ?_)
              refine sg_lload_n (pc := 342) (j := 1) (dc_X7_digest_338.1.1.2.1) rfl rfl ?_
              refine sg_ldc2 (pc := 343) (z := 31) g (dc_X7_digest_338.1.1.2.2) cn_X7_240 (by decide) ?_
              refine sg_lmul (pc := 346) (dc_X7_digest_338.1.2.1.1) ?_
              refine sg_aload_n (pc := 347) (j := 0) (dc_X7_digest_338.1.2.1.2) rfl rfl ?_
              refine sg_iload_n (pc := 348) (j := 3) (dc_X7_digest_338.1.2.2.1) rfl rfl ?_
              refine sg_iload (pc := 349) (dc_X7_digest_338.1.2.2.2) rfl ?_
              refine sg_cE2 (pc := 351) (d' := d - 1) (mc' := 76 + 0) (ms' := 675 + 0) 8 g (dc_X7_digest_338.2.1.1.1) cb_X7_trackTold ml_X7_229 mn_X7_trackTold rfl mv_X7_trackTold (Nat.le_of_ble_eq_true rfl) (md_oc (by assumption)) (Nat.le_of_ble_eq_true rfl) (by first | exact jl_d0 hd rfl | omega) (by first | exact Nat.le_of_ble_eq_true rfl | omega) (by first | exact Nat.le_of_ble_eq_true rfl | omega) ?_
              refine s_X7_trackTold (e := 0) (f := 0) g (by first | exact jl_d1 hd rfl | omega) (by omega) (by omega) (by assumption) (fun u0 g0 D0 => sg_K1 ?_)
              have EE0 := md_Et E3 D0
              have xx0 : md_M w g0 M := md_ME x1 EE0
              refine sg_i2l (pc := 354) (dc_X7_digest_338.2.1.1.2) ?_
              refine sg_ladd (pc := 355) (dc_X7_digest_338.2.1.2.1) ?_
              refine sg_lstore_n (pc := 356) (j := 1) (dc_X7_digest_338.2.1.2.2) rfl (by decide) ?_
              first | refine sg_iincB (pc := 357) (dc_X7_digest_338.2.2.1.1) rfl (by decide) (by decide) (by omega) (by omega) ?_ | refine sg_iinc (pc := 357) (dc_X7_digest_338.2.2.1.1) rfl (by decide) (by decide) ?_
              refine sg_goto (pc := 360) (tgt := 336) (dc_X7_digest_338.2.2.1.2) (by decide) ?_
              refine sg_iload (pc := 336) (dc_X7_digest_314.2.2.2.2) rfl ?_
              refine sg_iconst (pc := 338) (z := 4) (dc_X7_digest_338.1.1.1.1) (by decide) ?_
              refine sg_icmp_ge (pc := 339) (tgt := 363) (dc_X7_digest_338.1.1.1.2) (by decide) (fun cu => absurd cu (by omega)) (fun cu => ?_)
              refine sg_lload_n (pc := 342) (j := 1) (dc_X7_digest_338.1.1.2.1) rfl rfl ?_
              refine sg_ldc2 (pc := 343) (z := 31) g (dc_X7_digest_338.1.1.2.2) cn_X7_240 (by decide) ?_
              refine sg_lmul (pc := 346) (dc_X7_digest_338.1.2.1.1) ?_
              refine sg_aload_n (pc := 347) (j := 0) (dc_X7_digest_338.1.2.1.2) rfl rfl ?_
              refine sg_iload_n (pc := 348) (j := 3) (dc_X7_digest_338.1.2.2.1) rfl rfl ?_
              refine sg_iload (pc := 349) (dc_X7_digest_338.1.2.2.2) rfl ?_
              refine sg_cE2 (pc := 351) (d' := d - 1) (mc' := 76 + 76) (ms' := 675 + 675) 8 g (dc_X7_digest_338.2.1.1.1) cb_X7_trackTold ml_X7_229 mn_X7_trackTold rfl mv_X7_trackTold (Nat.le_of_ble_eq_true rfl) (md_oc (by assumption)) (Nat.le_of_ble_eq_true rfl) (by first | exact jl_d0 hd rfl | omega) (by first | exact Nat.le_of_ble_eq_true rfl | omega) (by first | exact Nat.le_of_ble_eq_true rfl | omega) ?_
              refine s_X7_trackTold (e := 76) (f := 675) g (by first | exact jl_d1 hd rfl | omega) (by omega) (by omega) (by assumption) (fun u1 g1 D1 => sg_K1 ?_)
              have EE1 := md_Et EE0 D1
              have xx1 : md_M w g1 M := md_ME x1 EE1
              refine sg_i2l (pc := 354) (dc_X7_digest_338.2.1.1.2) ?_
              refine sg_ladd (pc := 355) (dc_X7_digest_338.2.1.2.1) ?_
              refine sg_lstore_n (pc := 356) (j := 1) (dc_X7_digest_338.2.1.2.2) rfl (by decide) ?_
              first | refine sg_iincB (pc := 357) (dc_X7_digest_338.2.2.1.1) rfl (by decide) (by decide) (by omega) (by omega) ?_ | refine sg_iinc (pc := 357) (dc_X7_digest_338.2.2.1.1) rfl (by decide) (by decide) ?_
              refine sg_goto (pc := 360) (tgt := 336) (dc_X7_digest_338.2.2.1.2) (by decide) ?_
              refine sg_iload (pc := 336) (dc_X7_digest_314.2.2.2.2) rfl ?_
              refine sg_iconst (pc := 338) (z := 4) (dc_X7_digest_338.1.1.1.1) (by decide) ?_
              refine sg_icmp_ge (pc := 339) (tgt := 363) (dc_X7_digest_338.1.1.1.2) (by decide) (fun cu => absurd cu (by omega)) (fun cu => ?_)
              refine sg_lload_n (pc := 342) (j := 1) (dc_X7_digest_338.1.1.2.1) rfl rfl ?_
              refine sg_ldc2 (pc := 343) (z := 31) g (dc_X7_digest_338.1.1.2.2) cn_X7_240 (by decide) ?_
              refine sg_lmul (pc := 346) (dc_X7_digest_338.1.2.1.1) ?_
              refine sg_aload_n (pc := 347) (j := 0) (dc_X7_digest_338.1.2.1.2) rfl rfl ?_
              refine sg_iload_n (pc := 348) (j := 3) (dc_X7_digest_338.1.2.2.1) rfl rfl ?_
              refine sg_iload (pc := 349) (dc_X7_digest_338.1.2.2.2) rfl ?_
              refine sg_cE2 (pc := 351) (d' := d - 1) (mc' := 76 + 0) (ms' := 675 + 0) 8 g (dc_X7_digest_338.2.1.1.1) cb_X7_trackTold ml_X7_229 mn_X7_trackTold rfl mv_X7_trackTold (Nat.le_of_ble_eq_true rfl) (md_oc (by assumption)) (Nat.le_of_ble_eq_true rfl) (by first | exact jl_d0 hd rfl | omega) (by first | exact Nat.le_of_ble_eq_true rfl | omega) (by first | exact Nat.le_of_ble_eq_true rfl | omega) ?_
              refine s_X7_trackTold (e := 0) (f := 0) g (by first | exact jl_d1 hd rfl | omega) (by omega) (by omega) (by assumption) (fun u2 g2 D2 => sg_K1 ?_)
              have EE2 := md_Et EE1 D2
              have xx2 : md_M w g2 M := md_ME x1 EE2
              refine sg_i2l (pc := 354) (dc_X7_digest_338.2.1.1.2) ?_
              refine sg_ladd (pc := 355) (dc_X7_digest_338.2.1.2.1) ?_
              refine sg_lstore_n (pc := 356) (j := 1) (dc_X7_digest_338.2.1.2.2) rfl (by decide) ?_
              first | refine sg_iincB (pc := 357) (dc_X7_digest_338.2.2.1.1) rfl (by decide) (by decide) (by omega) (by omega) ?_ | refine sg_iinc (pc := 357) (dc_X7_digest_338.2.2.1.1) rfl (by decide) (by decide) ?_
              refine sg_goto (pc := 360) (tgt := 336) (dc_X7_digest_338.2.2.1.2) (by decide) ?_
              refine sg_iload (pc := 336) (dc_X7_digest_314.2.2.2.2) rfl ?_
              refine sg_iconst (pc := 338) (z := 4) (dc_X7_digest_338.1.1.1.1) (by decide) ?_
              refine sg_icmp_ge (pc := 339) (tgt := 363) (dc_X7_digest_338.1.1.1.2) (by decide) (fun cu => absurd cu (by omega)) (fun cu => ?_)
              refine sg_lload_n (pc := 342) (j := 1) (dc_X7_digest_338.1.1.2.1) rfl rfl ?_
              refine sg_ldc2 (pc := 343) (z := 31) g (dc_X7_digest_338.1.1.2.2) cn_X7_240 (by decide) ?_
              refine sg_lmul (pc := 346) (dc_X7_digest_338.1.2.1.1) ?_
              refine sg_aload_n (pc := 347) (j := 0) (dc_X7_digest_338.1.2.1.2) rfl rfl ?_
              refine sg_iload_n (pc := 348) (j := 3) (dc_X7_digest_338.1.2.2.1) rfl rfl ?_
              refine sg_iload (pc := 349) (dc_X7_digest_338.1.2.2.2) rfl ?_
              refine sg_cE2 (pc := 351) (d' := d - 1) (mc' := 76 + 0) (ms' := 675 + 0) 8 g (dc_X7_digest_338.2.1.1.1) cb_X7_trackTold ml_X7_229 mn_X7_trackTold rfl mv_X7_trackTold (Nat.le_of_ble_eq_true rfl) (md_oc (by assumption)) (Nat.le_of_ble_eq_true rfl) (by first | exact jl_d0 hd rfl | omega) (by first | exact Nat.le_of_ble_eq_true rfl | omega) (by first | exact Nat.le_of_ble_eq_true rfl | omega) ?_
              refine s_X7_trackTold (e := 0) (f := 0) g (by first | exact jl_d1 hd rfl | omega) (by omega) (by omega) (by assumption) (fun u3 g3 D3 => sg_K1 ?_)
              have EE3 := md_Et EE2 D3
              have xx3 : md_M w g3 M := md_ME x1 EE3
              refine sg_i2l (pc := 354) (dc_X7_digest_338.2.1.1.2) ?_
              refine sg_ladd (pc := 355) (dc_X7_digest_338.2.1.2.1) ?_
              refine sg_lstore_n (pc := 356) (j := 1) (dc_X7_digest_338.2.1.2.2) rfl (by decide) ?_
              first | refine sg_iincB (pc := 357) (dc_X7_digest_338.2.2.1.1) rfl (by decide) (by decide) (by omega) (by omega) ?_ | refine sg_iinc (pc := 357) (dc_X7_digest_338.2.2.1.1) rfl (by decide) (by decide) ?_
              refine sg_goto (pc := 360) (tgt := 336) (dc_X7_digest_338.2.2.1.2) (by decide) ?_
              refine sg_iload (pc := 336) (dc_X7_digest_314.2.2.2.2) rfl ?_
              refine sg_iconst (pc := 338) (z := 4) (dc_X7_digest_338.1.1.1.1) (by decide) ?_
              refine sg_icmp_ge (pc := 339) (tgt := 363) (dc_X7_digest_338.1.1.1.2) (by decide) (fun cu => ?_) (fun cu => absurd cu (by omega))
              refine sg_iconst (pc := 363) (z := 0) (dc_X7_digest_338.2.2.2.1) (by decide) ?_
              refine sg_istore (pc := 364) (dc_X7_digest_338.2.2.2.2) (by decide) ?_
              have loop366 : ∀ (N : Nat) (p l4 : Int), (0 ≤ p) → (((md_n g3 (md_a g3 (md_r g3 M) (4 + i3)) : Nat) : Int) - p).toNat < N → sg_R w mi_X7_digest d 1016 8070 Q 366 [(0, sg_r M), (4, sg_i p), (1, sg_l l4), (3, sg_i i3)] [] g3 ((((k3 + (76 + 0)) + (76 + 76)) + (76 + 0)) + (76 + 0)) ((((n3 + (675 + 0)) + (675 + 675)) + (675 + 0)) + (675 + 0)) := by
                intro N
                induction N with
                | zero => intro p l4 p0 hm; exact absurd hm (Nat.not_lt_zero _)
                | succ N ihc =>
                  intro p l4 p0 hm
                  refine sg_iload (pc := 366) (dc_X7_digest_366.1.1.1.1) rfl ?_
                  refine sg_aload_n (pc := 368) (j := 0) (dc_X7_digest_366.1.1.1.2) rfl rfl ?_
                  refine md_grw (pc := 369) g (dc_X7_digest_366.1.1.2.1) fk_X7_9 (by assumption) (fun r369 => ?_)
                  refine sg_iconst (pc := 372) (z := 4) (dc_X7_digest_366.1.1.2.2) (by decide) ?_
                  refine sg_iload_n (pc := 373) (j := 3) (dc_X7_digest_366.1.2.1.1) rfl rfl ?_
                  first | refine sg_iaddB (pc := 374) (dc_X7_digest_366.1.2.1.2) (by omega) (by omega) ?_ | refine sg_iadd (pc := 374) (dc_X7_digest_366.1.2.1.2) ?_
                  first | refine md_alr (pc := 375) (dc_X7_digest_366.1.2.2.1) (by assumption) (by omega) (by omega) (fun A375 l375 => ?_) | refine md_alt (pc := 375) (dc_X7_digest_366.1.2.2.1) (by assumption) (by omega) (by omega) (fun A375 l375 => ?_)
                  refine md_len (pc := 376) (dc_X7_digest_366.1.2.2.2) (by assumption) (by omega) ?_
                  refine sg_icmp_ge (pc := 377) (tgt := 459) (dc_X7_digest_366.2.1.1.1) (by decide) (fun c377 => ?_) (fun c377 => ?_)
                  · first | refine sg_iincB (pc := 459) (dc_X7_digest_442.2.1.2.1) rfl (by decide) (by decide) (by omega) (by omega) ?_ | refine sg_iinc (pc := 459) (dc_X7_digest_442.2.1.2.1) rfl (by decide) (by decide) ?_
                    refine sg_goto (pc := 462) (tgt := 328) (dc_X7_digest_442.2.1.2.2) (by decide) ?_
                    refine sg_lsub (lv' := [(0, _), (3, _), (1, _)]) ⟨rfl, rfl, rfl, trivial⟩ ?_
                    exact ihb _ _ _ _ _ EE3 (by omega) (by omega) (by omega) (by first | exact jl_m1 hm (by omega) | exact jl_m2 hm (by omega) | omega)
                  · refine sg_lload_n (pc := 380) (j := 1) (dc_X7_digest_366.2.1.1.2) rfl rfl ?_
                    refine sg_ldc2 (pc := 381) (z := 31) g (dc_X7_digest_366.2.1.2.1) cn_X7_240 (by decide) ?_
                    refine sg_lmul (pc := 384) (dc_X7_digest_366.2.1.2.2) ?_
                    refine sg_aload_n (pc := 385) (j := 0) (dc_X7_digest_366.2.2.1.1) rfl rfl ?_
                    refine md_grw (pc := 386) g (dc_X7_digest_366.2.2.1.2) fk_X7_9 (by assumption) (fun r386 => ?_)
                    refine sg_iconst (pc := 389) (z := 4) (dc_X7_digest_366.2.2.2.1) (by decide) ?_
                    refine sg_iload_n (pc := 390) (j := 3) (dc_X7_digest_366.2.2.2.2) rfl rfl ?_
                    first | refine sg_iaddB (pc := 391) (dc_X7_digest_391.1.1.1.1) (by omega) (by omega) ?_ | refine sg_iadd (pc := 391) (dc_X7_digest_391.1.1.1.1) ?_
                    first | refine md_alr (pc := 392) (dc_X7_digest_391.1.1.1.2) (by assumption) (by omega) (by omega) (fun A392 l392 => ?_) | refine md_alt (pc := 392) (dc_X7_digest_391.1.1.1.2) (by assumption) (by omega) (by omega) (fun A392 l392 => ?_)
                    refine sg_iload (pc := 393) (dc_X7_digest_391.1.1.2.1) rfl ?_
                    refine md_ald (pc := 395) (dc_X7_digest_391.1.1.2.2) (by assumption) (by omega) (by omega) (fun x395 g395 => ?_)
                    try have q395 := ck_v1.mp g395
                    refine sg_i2l (pc := 396) (dc_X7_digest_391.1.2.1.1) ?_
                    refine sg_ladd (pc := 397) (dc_X7_digest_391.1.2.1.2) ?_
                    refine sg_lstore_n (pc := 398) (j := 1) (dc_X7_digest_391.1.2.2.1) rfl (by decide) ?_
                    refine sg_iconst (pc := 399) (z := 0) (dc_X7_digest_391.1.2.2.2) (by decide) ?_
                    refine sg_istore (pc := 400) (dc_X7_digest_391.2.1.1.1) (by decide) ?_
                    have loop402 : ∀ (N : Nat) (q l5 : Int), ((0 ≤ q ∧ q ≤ 4)) → (4 - q).toNat < N → sg_R w mi_X7_digest d 1016 8070 Q 402 [(0, sg_r M), (5, sg_i q), (1, sg_l l5), (4, sg_i p), (3, sg_i i3)] [] g3 ((((k3 + (76 + 0)) + (76 + 76)) + (76 + 0)) + (76 + 0)) ((((n3 + (675 + 0)) + (675 + 675)) + (675 + 0)) + (675 + 0)) := by
                      intro N
                      induction N with
                      | zero => intro q l5 q0 hm; exact absurd hm (Nat.not_lt_zero _)
                      | succ N ihd =>
                        intro q l5 q0 hm
                        refine sg_iload (pc := 402) (dc_X7_digest_391.2.1.1.2) rfl ?_
                        refine sg_iconst (pc := 404) (z := 4) (dc_X7_digest_391.2.1.2.1) (by decide) ?_
                        refine sg_icmp_ge (pc := 405) (tgt := 438) (dc_X7_digest_391.2.1.2.2) (by decide) (fun c405 => ?_) (fun c405 => ?_)
                        · refine sg_lload_n (pc := 438) (j := 1) (dc_X7_digest_414.2.2.2.1) rfl rfl ?_
                          refine sg_ldc2 (pc := 439) (z := 31) g (dc_X7_digest_414.2.2.2.2) cn_X7_240 (by decide) ?_
                          refine sg_lmul (pc := 442) (dc_X7_digest_442.1.1.1.1) ?_
                          refine sg_aload_n (pc := 443) (j := 0) (dc_X7_digest_442.1.1.1.2) rfl rfl ?_
                          refine sg_iload_n (pc := 444) (j := 3) (dc_X7_digest_442.1.1.2.1) rfl rfl ?_
                          refine sg_iload (pc := 445) (dc_X7_digest_442.1.1.2.2) rfl ?_
                          refine sg_cE2 (pc := 447) (d' := d - 1) (mc' := 0) (ms' := 0) 8 g (dc_X7_digest_442.1.2.1.1) cb_X7_codeOf ml_X7_150 mn_X7_codeOf rfl mv_X7_codeOf (Nat.le_of_ble_eq_true rfl) (md_oc (by assumption)) (Nat.le_of_ble_eq_true rfl) (by first | exact jl_d0 hd rfl | omega) (by first | exact Nat.le_of_ble_eq_true rfl | omega) (by first | exact Nat.le_of_ble_eq_true rfl | omega) ?_
                          refine s_X7_codeOfR g (by first | exact jl_d1 hd rfl | omega) (by omega) (by assumption) (fun v447 e447 l447 u447 => sg_K1 ?_)
                          refine sg_i2l (pc := 450) (dc_X7_digest_442.1.2.1.2) ?_
                          refine sg_ladd (pc := 451) (dc_X7_digest_442.1.2.2.1) ?_
                          refine sg_lstore_n (pc := 452) (j := 1) (dc_X7_digest_442.1.2.2.2) rfl (by decide) ?_
                          first | refine sg_iincB (pc := 453) (dc_X7_digest_442.2.1.1.1) rfl (by decide) (by decide) (by omega) (by omega) ?_ | refine sg_iinc (pc := 453) (dc_X7_digest_442.2.1.1.1) rfl (by decide) (by decide) ?_
                          refine sg_goto (pc := 456) (tgt := 366) (dc_X7_digest_442.2.1.1.2) (by decide) ?_
                          refine sg_lsub (lv' := [(0, _), (4, _), (1, _), (3, _)]) ⟨rfl, rfl, rfl, rfl, trivial⟩ ?_
                          exact ihc _ _ (by omega) (by first | exact jl_m1 hm (by omega) | exact jl_m2 hm (by omega) | omega)
                        · refine sg_lload_n (pc := 408) (j := 1) (dc_X7_digest_391.2.2.1.1) rfl rfl ?_
                          refine sg_ldc2 (pc := 409) (z := 31) g (dc_X7_digest_391.2.2.1.2) cn_X7_240 (by decide) ?_
                          refine sg_lmul (pc := 412) (dc_X7_digest_391.2.2.2.1) ?_
                          refine sg_aload_n (pc := 413) (j := 0) (dc_X7_digest_391.2.2.2.2) rfl rfl ?_
                          refine md_grw (pc := 414) g (dc_X7_digest_414.1.1.1.1) fk_X7_9 (by assumption) (fun r414 => ?_)
                          refine sg_iconst (pc := 417) (z := 4) (dc_X7_digest_414.1.1.1.2) (by decide) ?_
                          refine sg_iload_n (pc := 418) (j := 3) (dc_X7_digest_414.1.1.2.1) rfl rfl ?_
                          first | refine sg_iaddB (pc := 419) (dc_X7_digest_414.1.1.2.2) (by omega) (by omega) ?_ | refine sg_iadd (pc := 419) (dc_X7_digest_414.1.1.2.2) ?_
                          first | refine md_alr (pc := 420) (dc_X7_digest_414.1.2.1.1) (by assumption) (by omega) (by omega) (fun A420 l420 => ?_) | refine md_alt (pc := 420) (dc_X7_digest_414.1.2.1.1) (by assumption) (by omega) (by omega) (fun A420 l420 => ?_)
                          refine sg_iload (pc := 421) (dc_X7_digest_414.1.2.1.2) rfl ?_
                          refine md_ald (pc := 423) (dc_X7_digest_414.1.2.2.1) (by assumption) (by omega) (by omega) (fun x423 g423 => ?_)
                          try have q423 := ck_v1.mp g423
                          refine sg_iload (pc := 424) (dc_X7_digest_414.1.2.2.2) rfl ?_
                          refine sg_cS2 (pc := 426) (d' := d - 1) (mc' := 0) (ms' := 0) g (dc_X7_digest_414.2.1.1.1) cb_X7_ofUnitTold ml_X7_226 ms_X7_ofUnitTold (Nat.le_of_ble_eq_true rfl) (by first | exact jl_d0 hd rfl | omega) (by first | exact Nat.le_of_ble_eq_true rfl | omega) (by first | exact Nat.le_of_ble_eq_true rfl | omega) ?_
                          refine s_X7_ofUnitTold g (by first | exact jl_d1 hd rfl | omega) (by omega) (fun v426 e426 => sg_K1 ?_)
                          refine sg_i2l (pc := 429) (dc_X7_digest_414.2.1.1.2) ?_
                          refine sg_ladd (pc := 430) (dc_X7_digest_414.2.1.2.1) ?_
                          refine sg_lstore_n (pc := 431) (j := 1) (dc_X7_digest_414.2.1.2.2) rfl (by decide) ?_
                          first | refine sg_iincB (pc := 432) (dc_X7_digest_414.2.2.1.1) rfl (by decide) (by decide) (by omega) (by omega) ?_ | refine sg_iinc (pc := 432) (dc_X7_digest_414.2.2.1.1) rfl (by decide) (by decide) ?_
                          refine sg_goto (pc := 435) (tgt := 402) (dc_X7_digest_414.2.2.1.2) (by decide) ?_
                          refine sg_lsub (lv' := [(0, _), (5, _), (1, _), (4, _), (3, _)]) ⟨rfl, rfl, rfl, rfl, rfl, trivial⟩ ?_
                          exact ihd _ _ (by omega) (by first | exact jl_m1 hm (by omega) | exact jl_m2 hm (by omega) | omega)
                    refine sg_lsub (lv' := [(0, _), (5, _), (1, _), (4, _), (3, _)]) ⟨rfl, rfl, rfl, rfl, rfl, trivial⟩ ?_
                    exact loop402 _ 0 _ (by omega) (Nat.lt_succ_self _)
              refine sg_lsub (lv' := [(0, _), (4, _), (1, _), (3, _)]) ⟨rfl, rfl, rfl, rfl, trivial⟩ ?_
              exact loop366 _ 0 _ (by omega) (Nat.lt_succ_self _)
        refine sg_lsub (lv' := [(0, _), (3, _), (1, _)]) ⟨rfl, rfl, rfl, trivial⟩ ?_
        exact loop328 _ _ 0 _ _ _ md_E0 (by omega) (by omega) (by omega) (Nat.lt_succ_self _)
      · refine sg_lload_n (pc := 11) (j := 1) (dc_X7_digest_0.1.2.2.2) rfl rfl ?_
        refine sg_ldc2 (pc := 12) (z := 31) g (dc_X7_digest_0.2.1.1.1) cn_X7_240 (by decide) ?_
        refine sg_lmul (pc := 15) (dc_X7_digest_0.2.1.1.2) ?_
        refine sg_aload_n (pc := 16) (j := 0) (dc_X7_digest_0.2.1.2.1) rfl rfl ?_
        refine md_grw (pc := 17) g (dc_X7_digest_0.2.1.2.2) fk_X7_9 (by assumption) (fun r17 => ?_)
        refine sg_iload_n (pc := 20) (j := 3) (dc_X7_digest_0.2.2.1.1) rfl rfl ?_
        first | refine md_alr (pc := 21) (dc_X7_digest_0.2.2.1.2) (by assumption) (by omega) (by omega) (fun A21 l21 => ?_) | refine md_alt (pc := 21) (dc_X7_digest_0.2.2.1.2) (by assumption) (by omega) (by omega) (fun A21 l21 => ?_)
        refine md_len (pc := 22) (dc_X7_digest_0.2.2.2.1) (by assumption) (by omega) ?_
        refine sg_i2l (pc := 23) (dc_X7_digest_0.2.2.2.2) ?_
        refine sg_ladd (pc := 24) (dc_X7_digest_24.1.1.1.1) ?_
        refine sg_lstore_n (pc := 25) (j := 1) (dc_X7_digest_24.1.1.1.2) rfl (by decide) ?_
        refine sg_aload_n (pc := 26) (j := 0) (dc_X7_digest_24.1.1.2.1) rfl rfl ?_
        refine md_grw (pc := 27) g (dc_X7_digest_24.1.1.2.2) fk_X7_9 (by assumption) (fun r27 => ?_)
        refine sg_iload_n (pc := 30) (j := 3) (dc_X7_digest_24.1.2.1.1) rfl rfl ?_
        first | refine md_alr (pc := 31) (dc_X7_digest_24.1.2.1.2) (by assumption) (by omega) (by omega) (fun A31 l31 => ?_) | refine md_alt (pc := 31) (dc_X7_digest_24.1.2.1.2) (by assumption) (by omega) (by omega) (fun A31 l31 => ?_)
        refine sg_astore (pc := 32) (dc_X7_digest_24.1.2.2.1) (by decide) ?_
        refine sg_aload (pc := 34) (dc_X7_digest_24.1.2.2.2) rfl ?_
        refine md_len (pc := 36) (dc_X7_digest_24.2.1.1.1) A31 (by omega) ?_
        refine sg_istore (pc := 37) (dc_X7_digest_24.2.1.1.2) (by decide) ?_
        refine sg_iconst (pc := 39) (z := 0) (dc_X7_digest_24.2.1.2.1) (by decide) ?_
        refine sg_istore (pc := 40) (dc_X7_digest_24.2.1.2.2) (by decide) ?_
        have loop42 : ∀ (N : Nat) (h2 : sg_H) (p l2 : Int) (k2 n2 : Nat), (md_E h1 h2) → ((0 ≤ p ∧ p ≤ ((md_n h1 (md_a h1 (md_r h1 M) i) : Nat) : Int))) → ((k2 : Int) ≤ k1 + p) → ((n2 : Int) ≤ n1 + 6 * p) → (((md_n h1 (md_a h1 (md_r h1 M) i) : Nat) : Int) - p).toNat < N → sg_R w mi_X7_digest d 1016 8070 Q 42 [(0, sg_r M), (6, sg_i p), (1, sg_l l2), (3, sg_i i), (4, sg_r (md_a h1 (md_r h1 M) i)), (5, sg_i ((md_n h1 (md_a h1 (md_r h1 M) i) : Nat) : Int))] [] h2 k2 n2 := by
          intro N
          induction N with
          | zero => intro h2 p l2 k2 n2 E2 p0 kb2 nb2 hm; exact absurd hm (Nat.not_lt_zero _)
          | succ N ihb =>
            intro h2 p l2 k2 n2 E2 p0 kb2 nb2 hm
            have x2 : md_M w h2 M := md_ME x1 E2
            have hk2 := x2.2.1
            have y2 : md_Y w h h2 M := md_YE y1 E2
            refine sg_iload (pc := 42) (dc_X7_digest_24.2.2.1.1) rfl ?_
            refine sg_iload (pc := 44) (dc_X7_digest_24.2.2.1.2) rfl ?_
            refine sg_icmp_ge (pc := 46) (tgt := 157) (dc_X7_digest_24.2.2.2.1) (by decide) (fun c46 => ?_) (fun c46 => ?_)
            · refine sg_iconst (pc := 157) (z := 0) (dc_X7_digest_132.2.2.1.2) (by decide) ?_
              refine sg_istore (pc := 158) (dc_X7_digest_132.2.2.2.1) (by decide) ?_
              have loop160 : ∀ (N : Nat) (q l3 : Int), ((0 ≤ q ∧ q ≤ 5)) → (5 - q).toNat < N → sg_R w mi_X7_digest d 1016 8070 Q 160 [(0, sg_r M), (4, sg_i q), (1, sg_l l3), (3, sg_i i)] [] h2 k2 n2 := by
                intro N
                induction N with
                | zero => intro q l3 q0 hm; exact absurd hm (Nat.not_lt_zero _)
                | succ N ihc =>
                  intro q l3 q0 hm
                  refine sg_iload (pc := 160) (dc_X7_digest_132.2.2.2.2) rfl ?_
                  refine sg_iconst (pc := 162) (z := 5) (dc_X7_digest_162.1.1.1.1) (by decide) ?_
                  refine sg_icmp_ge (pc := 163) (tgt := 187) (dc_X7_digest_162.1.1.1.2) (by decide) (fun c163 => ?_) (fun c163 => ?_)
                  · refine sg_lload_n (pc := 187) (j := 1) (dc_X7_digest_162.2.2.2.1) rfl rfl ?_
                    refine sg_ldc2 (pc := 188) (z := 31) g (dc_X7_digest_162.2.2.2.2) cn_X7_240 (by decide) ?_
                    refine sg_lmul (pc := 191) (dc_X7_digest_191.1.1.1.1) ?_
                    refine sg_aload_n (pc := 192) (j := 0) (dc_X7_digest_191.1.1.1.2) rfl rfl ?_
                    refine sg_iload_n (pc := 193) (j := 3) (dc_X7_digest_191.1.1.2.1) rfl rfl ?_
                    refine sg_bipush (pc := 194) (z := 36) (dc_X7_digest_191.1.1.2.2) (by decide) ?_
                    refine sg_cE2 (pc := 196) (d' := d - 1) (mc' := 0) (ms' := 0) 8 g (dc_X7_digest_191.1.2.1.1) cb_X7_toldOf ml_X7_201 mn_X7_toldOf rfl mv_X7_toldOf (Nat.le_of_ble_eq_true rfl) (md_oc (by assumption)) (Nat.le_of_ble_eq_true rfl) (by first | exact jl_d0 hd rfl | omega) (by first | exact Nat.le_of_ble_eq_true rfl | omega) (by first | exact Nat.le_of_ble_eq_true rfl | omega) ?_
                    refine s_X7_toldOf g (by first | exact jl_d1 hd rfl | omega) (by omega) (by assumption) (fun v196 => sg_K1 ?_)
                    refine sg_i2l (pc := 199) (dc_X7_digest_191.1.2.1.2) ?_
                    refine sg_ladd (pc := 200) (dc_X7_digest_191.1.2.2.1) ?_
                    refine sg_ldc2 (pc := 201) (z := 31) g (dc_X7_digest_191.1.2.2.2) cn_X7_240 (by decide) ?_
                    refine sg_lmul (pc := 204) (dc_X7_digest_191.2.1.1.1) ?_
                    refine sg_aload_n (pc := 205) (j := 0) (dc_X7_digest_191.2.1.1.2) rfl rfl ?_
                    refine sg_iload_n (pc := 206) (j := 3) (dc_X7_digest_191.2.1.2.1) rfl rfl ?_
                    refine sg_cE1 (pc := 207) (d' := d - 1) (mc' := 0) (ms' := 0) 8 g (dc_X7_digest_191.2.1.2.2) cb_X7_valuesOf ml_X7_209 mn_X7_valuesOf rfl mv_X7_valuesOf (Nat.le_of_ble_eq_true rfl) (md_oc (by assumption)) (Nat.le_of_ble_eq_true rfl) (by first | exact jl_d0 hd rfl | omega) (by first | exact Nat.le_of_ble_eq_true rfl | omega) (by first | exact Nat.le_of_ble_eq_true rfl | omega) ?_
                    refine s_X7_valuesOf g (by first | exact jl_d1 hd rfl | omega) (by omega) (by assumption) (fun v207 => sg_K1 ?_)
                    refine sg_i2l (pc := 210) (dc_X7_digest_191.2.2.1.1) ?_
                    refine sg_ladd (pc := 211) (dc_X7_digest_191.2.2.1.2) ?_
                    refine sg_lstore_n (pc := 212) (j := 1) (dc_X7_digest_191.2.2.2.1) rfl (by decide) ?_
                    refine sg_lload_n (pc := 213) (j := 1) (dc_X7_digest_191.2.2.2.2) rfl rfl ?_
                    refine sg_ldc2 (pc := 214) (z := 31) g (dc_X7_digest_214.1.1.1.1) cn_X7_240 (by decide) ?_
                    refine sg_lmul (pc := 217) (dc_X7_digest_214.1.1.1.2) ?_
                    refine sg_aload_n (pc := 218) (j := 0) (dc_X7_digest_214.1.1.2.1) rfl rfl ?_
                    refine sg_iload_n (pc := 219) (j := 3) (dc_X7_digest_214.1.1.2.2) rfl rfl ?_
                    refine sg_cE1 (pc := 220) (d' := d - 1) (mc' := 24) (ms' := 90) 8 g (dc_X7_digest_214.1.2.1.1) cb_X7_wordsOf ml_X7_215 mn_X7_wordsOf rfl mv_X7_wordsOf (Nat.le_of_ble_eq_true rfl) (md_oc (by assumption)) (Nat.le_of_ble_eq_true rfl) (by first | exact jl_d0 hd rfl | omega) (by first | exact Nat.le_of_ble_eq_true rfl | omega) (by first | exact Nat.le_of_ble_eq_true rfl | omega) ?_
                    refine s_X7_wordsOf g (by first | exact jl_d1 hd rfl | omega) (by omega) (by assumption) (fun h220 b220 cap220 sz220 P220 w220 l220 => sg_K1 ?_)
                    have X220 : md_M w h220 M := md_ME (by assumption) P220.2.1
                    have k220 := X220.2.1
                    try have Y220 : md_Y w h h220 M := md_YE (by assumption) P220.2.1
                    obtain ⟨-, -, -, m220, E220, xs220, hb220, hE220, s220, sc220, hj220⟩ := id P220
                    refine sg_cV0 (pc := 223) (d' := d - 1) (mc' := 0) (ms' := 0) g (dc_X7_digest_214.1.2.1.2) cb_Jx4a65c_size_8abf5 ml_X7_53 mn_Jx4a65c_size_8abf5 mv_Jx4a65c_size_8abf5 hb220 (Nat.le_of_ble_eq_true rfl) rfl (Nat.le_of_ble_eq_true rfl) (by first | exact jl_d0 hd rfl | omega) (by first | exact Nat.le_of_ble_eq_true rfl | omega) (by first | exact Nat.le_of_ble_eq_true rfl | omega) ?_
                    refine s_al_size g (by first | exact jl_d1 hd rfl | omega) hb220 ?_
                    refine sg_K1 ?_
                    refine sg_i2l (pc := 226) (dc_X7_digest_214.1.2.2.1) ?_
                    refine sg_ladd (pc := 227) (dc_X7_digest_214.1.2.2.2) ?_
                    refine sg_ldc2 (pc := 228) (z := 31) g (dc_X7_digest_214.2.1.1.1) cn_X7_240 (by decide) ?_
                    refine sg_lmul (pc := 231) (dc_X7_digest_214.2.1.1.2) ?_
                    refine sg_aload_n (pc := 232) (j := 0) (dc_X7_digest_214.2.1.2.1) rfl rfl ?_
                    refine md_grw (pc := 233) g (dc_X7_digest_214.2.1.2.2) fk_X7_9 (by assumption) (fun r233 => ?_)
                    refine sg_iload_n (pc := 236) (j := 3) (dc_X7_digest_214.2.2.1.1) rfl rfl ?_
                    first | refine md_alr (pc := 237) (dc_X7_digest_214.2.2.1.2) (by assumption) (by omega) (by omega) (fun A237 l237 => ?_) | refine md_alt (pc := 237) (dc_X7_digest_214.2.2.1.2) (by assumption) (by omega) (by omega) (fun A237 l237 => ?_)
                    refine md_len (pc := 238) (dc_X7_digest_214.2.2.2.1) (by assumption) (by omega) ?_
                    refine sg_i2l (pc := 239) (dc_X7_digest_214.2.2.2.2) ?_
                    refine sg_ladd (pc := 240) (dc_X7_digest_240.1.1.1.1) ?_
                    refine sg_ldc2 (pc := 241) (z := 31) g (dc_X7_digest_240.1.1.1.2) cn_X7_240 (by decide) ?_
                    refine sg_lmul (pc := 244) (dc_X7_digest_240.1.1.2.1) ?_
                    refine sg_iconst (pc := 245) (z := 2) (dc_X7_digest_240.1.1.2.2) (by decide) ?_
                    refine sg_aload_n (pc := 246) (j := 0) (dc_X7_digest_240.1.2.1.1) rfl rfl ?_
                    refine md_grw (pc := 247) g (dc_X7_digest_240.1.2.1.2) fk_X7_9 (by assumption) (fun r247 => ?_)
                    refine sg_iload_n (pc := 250) (j := 3) (dc_X7_digest_240.1.2.2.1) rfl rfl ?_
                    first | refine md_alr (pc := 251) (dc_X7_digest_240.1.2.2.2) (by assumption) (by omega) (by omega) (fun A251 l251 => ?_) | refine md_alt (pc := 251) (dc_X7_digest_240.1.2.2.2) (by assumption) (by omega) (by omega) (fun A251 l251 => ?_)
                    refine md_len (pc := 252) (dc_X7_digest_240.2.1.1.1) (by assumption) (by omega) ?_
                    first | refine sg_imulB (pc := 253) (dc_X7_digest_240.2.1.1.2) (by omega) (by omega) ?_ | refine sg_imul (pc := 253) (dc_X7_digest_240.2.1.1.2) ?_
                    refine sg_i2l (pc := 254) (dc_X7_digest_240.2.1.2.1) ?_
                    refine sg_ladd (pc := 255) (dc_X7_digest_240.2.1.2.2) ?_
                    refine sg_lstore_n (pc := 256) (j := 1) (dc_X7_digest_240.2.2.1.1) rfl (by decide) ?_
                    first | refine sg_iincB (pc := 257) (dc_X7_digest_240.2.2.1.2) rfl (by decide) (by decide) (by omega) (by omega) ?_ | refine sg_iinc (pc := 257) (dc_X7_digest_240.2.2.1.2) rfl (by decide) (by decide) ?_
                    refine sg_goto (pc := 260) (tgt := 6) (dc_X7_digest_240.2.2.2.1) (by decide) ?_
                    refine sg_lsub (lv' := [(0, _), (3, _), (1, _)]) ⟨rfl, rfl, rfl, trivial⟩ ?_
                    exact ih _ _ _ _ _ (md_Et E1 (md_Et E2 P220.2.1)) (by omega) (by omega) (by omega) (by first | exact jl_m1 hm (by omega) | exact jl_m2 hm (by omega) | omega)
                  · refine sg_lload_n (pc := 166) (j := 1) (dc_X7_digest_162.1.1.2.1) rfl rfl ?_
                    refine sg_ldc2 (pc := 167) (z := 31) g (dc_X7_digest_162.1.1.2.2) cn_X7_240 (by decide) ?_
                    refine sg_lmul (pc := 170) (dc_X7_digest_162.1.2.1.1) ?_
                    refine sg_aload_n (pc := 171) (j := 0) (dc_X7_digest_162.1.2.1.2) rfl rfl ?_
                    refine sg_iload_n (pc := 172) (j := 3) (dc_X7_digest_162.1.2.2.1) rfl rfl ?_
                    refine sg_iload (pc := 173) (dc_X7_digest_162.1.2.2.2) rfl ?_
                    refine sg_cE2 (pc := 175) (d' := d - 1) (mc' := 0) (ms' := 0) 8 g (dc_X7_digest_162.2.1.1.1) cb_X7_countOf ml_X7_170 mn_X7_countOf rfl mv_X7_countOf (Nat.le_of_ble_eq_true rfl) (md_oc (by assumption)) (Nat.le_of_ble_eq_true rfl) (by first | exact jl_d0 hd rfl | omega) (by first | exact Nat.le_of_ble_eq_true rfl | omega) (by first | exact Nat.le_of_ble_eq_true rfl | omega) ?_
                    refine s_X7_countOf g (by first | exact jl_d1 hd rfl | omega) (by omega) (by assumption) (fun v175 => sg_K1 ?_)
                    refine sg_i2l (pc := 178) (dc_X7_digest_162.2.1.1.2) ?_
                    refine sg_ladd (pc := 179) (dc_X7_digest_162.2.1.2.1) ?_
                    refine sg_lstore_n (pc := 180) (j := 1) (dc_X7_digest_162.2.1.2.2) rfl (by decide) ?_
                    first | refine sg_iincB (pc := 181) (dc_X7_digest_162.2.2.1.1) rfl (by decide) (by decide) (by omega) (by omega) ?_ | refine sg_iinc (pc := 181) (dc_X7_digest_162.2.2.1.1) rfl (by decide) (by decide) ?_
                    refine sg_goto (pc := 184) (tgt := 160) (dc_X7_digest_162.2.2.1.2) (by decide) ?_
                    refine sg_lsub (lv' := [(0, _), (4, _), (1, _), (3, _)]) ⟨rfl, rfl, rfl, rfl, trivial⟩ ?_
                    exact ihc _ _ (by omega) (by first | exact jl_m1 hm (by omega) | exact jl_m2 hm (by omega) | omega)
              refine sg_lsub (lv' := [(0, _), (4, _), (1, _), (3, _)]) ⟨rfl, rfl, rfl, rfl, trivial⟩ ?_
              exact loop160 _ 0 _ (by omega) (Nat.lt_succ_self _)
            · refine sg_aload (pc := 49) (dc_X7_digest_24.2.2.2.2) rfl ?_
              refine sg_iload (pc := 51) (dc_X7_digest_51.1.1.1.1) rfl ?_
              refine md_ald (pc := 53) (dc_X7_digest_51.1.1.1.2) (md_AE A31 E2) (by omega) (by omega) (fun x53 g53 => ?_)
              refine sg_istore (pc := 54) (dc_X7_digest_51.1.1.2.1) (by decide) ?_
              refine sg_bipush (pc := 56) (z := 6) (dc_X7_digest_51.1.1.2.2) (by decide) ?_
              refine sg_newa (t := 100) (N := 6) (pc := 58) g (dc_X7_digest_51.1.2.1.1) ac_int rfl (by decide) (by decide) rfl rfl (by decide) (by omega) (by omega) (by omega) (by omega) ?_
              refine sg_dup (pc := 60) (dc_X7_digest_51.1.2.1.2) rfl ?_
              refine sg_iconst (pc := 61) (z := 0) (dc_X7_digest_51.1.2.2.1) (by decide) ?_
              refine sg_iload (pc := 62) (dc_X7_digest_51.1.2.2.2) rfl ?_
              refine md_ast (pc := 64) (dc_X7_digest_51.2.1.1.1) (md_new (c := 0)) ck_v0 (by omega) (by omega) (fun h64 t64 => ?_)
              have K64 : md_K w h64 := md_KE hk2 (md_TE t64)
              refine sg_dup (pc := 65) (dc_X7_digest_51.2.1.1.2) rfl ?_
              refine sg_iconst (pc := 66) (z := 1) (dc_X7_digest_51.2.1.2.1) (by decide) ?_
              refine sg_iload (pc := 67) (dc_X7_digest_51.2.1.2.2) rfl ?_
              refine sg_cS1 (pc := 69) (d' := d - 1) (mc' := 0) (ms' := 0) g (dc_X7_digest_51.2.2.1.1) cb_X7_kindsOf ml_X7_167 ms_X7_kindsOf (Nat.le_of_ble_eq_true rfl) (by first | exact jl_d0 hd rfl | omega) (by first | exact Nat.le_of_ble_eq_true rfl | omega) (by first | exact Nat.le_of_ble_eq_true rfl | omega) ?_
              refine s_X7_kindsOf g (by first | exact jl_d1 hd rfl | omega) (by assumption) (fun z69 h69 => sg_K1 ?_)
              refine md_ast (pc := 72) (dc_X7_digest_51.2.2.1.2) t64 ck_v0 (by omega) (by omega) (fun h72 t72 => ?_)
              have K72 : md_K w h72 := md_KE hk2 (md_TE t72)
              refine sg_dup (pc := 73) (dc_X7_digest_51.2.2.2.1) rfl ?_
              refine sg_iconst (pc := 74) (z := 2) (dc_X7_digest_51.2.2.2.2) (by decide) ?_
              refine sg_iload (pc := 75) (dc_X7_digest_75.1.1.1.1) rfl ?_
              refine sg_cS1 (pc := 77) (d' := d - 1) (mc' := 0) (ms' := 0) g (dc_X7_digest_75.1.1.1.2) cb_X7_upperOf ml_X7_86 ms_X7_upperOf (Nat.le_of_ble_eq_true rfl) (by first | exact jl_d0 hd rfl | omega) (by first | exact Nat.le_of_ble_eq_true rfl | omega) (by first | exact Nat.le_of_ble_eq_true rfl | omega) ?_
              refine s_X7_upperOf g (by first | exact jl_d1 hd rfl | omega) (fun z77 h77 => sg_K1 ?_)
              (try simp only [fm_no, fm_one, fn_betw, fn_sign, fn_radix, fn_high, fn_low] at h77)
              refine md_ast (pc := 80) (dc_X7_digest_75.1.1.2.1) t72 ck_v0 (by omega) (by omega) (fun h80 t80 => ?_)
              have K80 : md_K w h80 := md_KE hk2 (md_TE t80)
              refine sg_dup (pc := 81) (dc_X7_digest_75.1.1.2.2) rfl ?_
              refine sg_iconst (pc := 82) (z := 3) (dc_X7_digest_75.1.2.1.1) (by decide) ?_
              refine sg_iload (pc := 83) (dc_X7_digest_75.1.2.1.2) rfl ?_
              refine sg_cS1 (pc := 85) (d' := d - 1) (mc' := 0) (ms' := 0) g (dc_X7_digest_75.1.2.2.1) cb_X7_lowerOf ml_X7_89 ms_X7_lowerOf (Nat.le_of_ble_eq_true rfl) (by first | exact jl_d0 hd rfl | omega) (by first | exact Nat.le_of_ble_eq_true rfl | omega) (by first | exact Nat.le_of_ble_eq_true rfl | omega) ?_
              refine s_X7_lowerOf g (by first | exact jl_d1 hd rfl | omega) (by assumption) (fun z85 e85 => sg_K1 ?_)
              refine md_ast (pc := 88) (dc_X7_digest_75.1.2.2.2) t80 ck_v0 (by omega) (by omega) (fun h88 t88 => ?_)
              have K88 : md_K w h88 := md_KE hk2 (md_TE t88)
              refine sg_dup (pc := 89) (dc_X7_digest_75.2.1.1.1) rfl ?_
              refine sg_iconst (pc := 90) (z := 4) (dc_X7_digest_75.2.1.1.2) (by decide) ?_
              refine sg_iload (pc := 91) (dc_X7_digest_75.2.1.2.1) rfl ?_
              refine sg_cS1 (pc := 93) (d' := d - 1) (mc' := 0) (ms' := 0) g (dc_X7_digest_75.2.1.2.2) cb_X7_valueOf ml_X7_33 ms_X7_valueOf (Nat.le_of_ble_eq_true rfl) (by first | exact jl_d0 hd rfl | omega) (by first | exact Nat.le_of_ble_eq_true rfl | omega) (by first | exact Nat.le_of_ble_eq_true rfl | omega) ?_
              refine s_X7_valueOf g (by first | exact jl_d1 hd rfl | omega) (fun z93 h93 => sg_K1 ?_)
              (try simp only [fm_no, fm_one, fn_betw, fn_sign, fn_radix, fn_high, fn_low] at h93)
              refine md_ast (pc := 96) (dc_X7_digest_75.2.2.1.1) t88 ck_v0 (by omega) (by omega) (fun h96 t96 => ?_)
              have K96 : md_K w h96 := md_KE hk2 (md_TE t96)
              refine sg_dup (pc := 97) (dc_X7_digest_75.2.2.1.2) rfl ?_
              refine sg_iconst (pc := 98) (z := 5) (dc_X7_digest_75.2.2.2.1) (by decide) ?_
              refine sg_iload (pc := 99) (dc_X7_digest_75.2.2.2.2) rfl ?_
              refine sg_bipush (pc := 101) (z := 16) (dc_X7_digest_101.1.1.1.1) (by decide) ?_
              refine sg_cS2 (pc := 103) (d' := d - 1) (mc' := 0) (ms' := 0) g (dc_X7_digest_101.1.1.1.2) cb_X7_numberOf ml_X7_115 ms_X7_numberOf (Nat.le_of_ble_eq_true rfl) (by first | exact jl_d0 hd rfl | omega) (by first | exact Nat.le_of_ble_eq_true rfl | omega) (by first | exact Nat.le_of_ble_eq_true rfl | omega) ?_
              refine s_X7_numberOf g (by first | exact jl_d1 hd rfl | omega) (fun z103 h103 => sg_K1 ?_)
              (try simp only [fm_no, fm_one, fn_betw, fn_sign, fn_radix, fn_high, fn_low] at h103)
              refine md_ast (pc := 106) (dc_X7_digest_101.1.1.2.1) t96 ck_v0 (by omega) (by omega) (fun h106 t106 => ?_)
              have K106 : md_K w h106 := md_KE hk2 (md_TE t106)
              refine sg_astore (pc := 107) (dc_X7_digest_101.1.1.2.2) (by decide) ?_
              refine sg_aload (pc := 109) (dc_X7_digest_101.1.2.1.1) rfl ?_
              refine sg_astore (pc := 111) (dc_X7_digest_101.1.2.1.2) (by decide) ?_
              refine sg_aload (pc := 113) (dc_X7_digest_101.1.2.2.1) rfl ?_
              refine md_len (pc := 115) (dc_X7_digest_101.1.2.2.2) t106.2.2 (by omega) ?_
              refine sg_istore (pc := 116) (dc_X7_digest_101.2.1.1.1) (by decide) ?_
              refine sg_iconst (pc := 118) (z := 0) (dc_X7_digest_101.2.1.1.2) (by decide) ?_
              refine sg_istore (pc := 119) (dc_X7_digest_101.2.1.2.1) (by decide) ?_
              have loop121 : ∀ (N : Nat) (q l3 : Int), ((0 ≤ q ∧ q ≤ 6)) → (6 - q).toNat < N → sg_R w mi_X7_digest d 1016 8070 Q 121 [(0, sg_r M), (11, sg_i q), (1, sg_l l3), (3, sg_i i), (4, sg_r (md_a h1 (md_r h1 M) i)), (5, sg_i ((md_n h1 (md_a h1 (md_r h1 M) i) : Nat) : Int)), (6, sg_i p), (9, sg_r h2.1), (10, sg_i 6)] [] h106 (k2 + 1) (n2 + 6) := by
                intro N
                induction N with
                | zero => intro q l3 q0 hm; exact absurd hm (Nat.not_lt_zero _)
                | succ N ihc =>
                  intro q l3 q0 hm
                  refine sg_iload (pc := 121) (dc_X7_digest_101.2.1.2.2) rfl ?_
                  refine sg_iload (pc := 123) (dc_X7_digest_101.2.2.1.1) rfl ?_
                  refine sg_icmp_ge (pc := 125) (tgt := 151) (dc_X7_digest_101.2.2.1.2) (by decide) (fun c125 => ?_) (fun c125 => ?_)
                  · first | refine sg_iincB (pc := 151) (dc_X7_digest_132.2.1.2.2) rfl (by decide) (by decide) (by omega) (by omega) ?_ | refine sg_iinc (pc := 151) (dc_X7_digest_132.2.1.2.2) rfl (by decide) (by decide) ?_
                    refine sg_goto (pc := 154) (tgt := 42) (dc_X7_digest_132.2.2.1.1) (by decide) ?_
                    refine sg_lsub (lv' := [(0, _), (6, _), (1, _), (3, _), (4, _), (5, _)]) ⟨rfl, rfl, rfl, rfl, rfl, rfl, trivial⟩ ?_
                    exact ihb _ _ _ _ _ (md_Et E2 (md_TE t106)) (by omega) (by omega) (by omega) (by first | exact jl_m1 hm (by omega) | exact jl_m2 hm (by omega) | omega)
                  · refine sg_aload (pc := 128) (dc_X7_digest_101.2.2.2.1) rfl ?_
                    refine sg_iload (pc := 130) (dc_X7_digest_101.2.2.2.2) rfl ?_
                    refine md_ald (pc := 132) (dc_X7_digest_132.1.1.1.1) t106.2.2 (by omega) (by omega) (fun x132 g132 => ?_)
                    refine sg_istore (pc := 133) (dc_X7_digest_132.1.1.1.2) (by decide) ?_
                    refine sg_lload_n (pc := 135) (j := 1) (dc_X7_digest_132.1.1.2.1) rfl rfl ?_
                    refine sg_ldc2 (pc := 136) (z := 31) g (dc_X7_digest_132.1.1.2.2) cn_X7_240 (by decide) ?_
                    refine sg_lmul (pc := 139) (dc_X7_digest_132.1.2.1.1) ?_
                    refine sg_iload (pc := 140) (dc_X7_digest_132.1.2.1.2) rfl ?_
                    refine sg_i2l (pc := 142) (dc_X7_digest_132.1.2.2.1) ?_
                    refine sg_ladd (pc := 143) (dc_X7_digest_132.1.2.2.2) ?_
                    refine sg_lstore_n (pc := 144) (j := 1) (dc_X7_digest_132.2.1.1.1) rfl (by decide) ?_
                    first | refine sg_iincB (pc := 145) (dc_X7_digest_132.2.1.1.2) rfl (by decide) (by decide) (by omega) (by omega) ?_ | refine sg_iinc (pc := 145) (dc_X7_digest_132.2.1.1.2) rfl (by decide) (by decide) ?_
                    refine sg_goto (pc := 148) (tgt := 121) (dc_X7_digest_132.2.1.2.1) (by decide) ?_
                    refine sg_lsub (lv' := [(0, _), (11, _), (1, _), (3, _), (4, _), (5, _), (6, _), (9, _), (10, _)]) ⟨rfl, rfl, rfl, rfl, rfl, rfl, rfl, rfl, rfl, trivial⟩ ?_
                    exact ihc _ _ (by omega) (by first | exact jl_m1 hm (by omega) | exact jl_m2 hm (by omega) | omega)
              refine sg_lsub (lv' := [(0, _), (11, _), (1, _), (3, _), (4, _), (5, _), (6, _), (9, _), (10, _)]) ⟨rfl, rfl, rfl, rfl, rfl, rfl, rfl, rfl, rfl, trivial⟩ ?_
              exact loop121 _ 0 _ (by omega) (Nat.lt_succ_self _)
        refine sg_lsub (lv' := [(0, _), (6, _), (1, _), (3, _), (4, _), (5, _)]) ⟨rfl, rfl, rfl, rfl, rfl, rfl, trivial⟩ ?_
        exact loop42 _ _ 0 _ _ _ md_E0 (by omega) (by omega) (by omega) (Nat.lt_succ_self _)
  refine sg_lsub (lv' := [(0, _), (3, _), (1, _)]) ⟨rfl, rfl, rfl, trivial⟩ ?_
  exact loop6 _ _ 0 _ _ _ md_E0 (by omega) (by omega) (by omega) (Nat.lt_succ_self _)

