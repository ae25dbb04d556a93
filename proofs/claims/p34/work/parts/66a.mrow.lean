set_option maxRecDepth 100000 in
theorem f_X7_first {w : sg_W} {Q : sg_O → sg_H → Prop} {h : sg_H} (g : sg_G w) {d : Nat} (hd : 9 ≤ d) {M : Nat} {row kind fr : Int} {A : fa_A} {L : List Int} (hA : md_ab h M = A) (hL : fa_L A row.toNat = L) (hx : md_M w h M) (hQ : ∀ (v : Int) (h' : sg_H), ((row < 0 ∨ 4 ≤ row) → md_t h' M = 1) → (¬ (row < 0 ∨ 4 ≤ row) → (kind < 0 ∨ 4 < kind ∨ fr < 0) → md_t h' M = 2) → (¬ (row < 0 ∨ 4 ≤ row) → ¬ (kind < 0 ∨ 4 < kind ∨ fr < 0) → md_t h' M = 0) → (md_t h' M = 0 → v = fs_first L kind fr) → md_Y w h h' M → Q (.inl (some (sg_i v))) h') : sg_C w mi_X7_first d 0 0 [sg_r M, sg_i row, sg_i kind, sg_i fr] h Q := by
  refine sg_of pn_X7 (Nat.le_of_ble_eq_true rfl) ?_
  have y0 := md_Y0 hx
  have hk := hx.2.1
  refine sg_aload_n (pc := 0) (j := 0) (dc_X7_first_0.1.1.1.1) rfl rfl ?_
  refine sg_iload_n (pc := 1) (j := 1) (dc_X7_first_0.1.1.1.2) rfl rfl ?_
  refine sg_cS1 (pc := 2) (d' := d - 1) (mc' := 0) (ms' := 0) g (dc_X7_first_0.1.1.2.1) cb_X7_isNoRow ml_X7_68 ms_X7_isNoRow (Nat.le_of_ble_eq_true rfl) (by first | exact jl_d0 hd rfl | omega) (by first | exact Nat.le_of_ble_eq_true rfl | omega) (by first | exact Nat.le_of_ble_eq_true rfl | omega) ?_
  refine s_X7_isNoRow g (by first | exact jl_d1 hd rfl | omega) (fun z2 h2 b2 => sg_K1 ?_)
  (try simp only [fm_no, fm_one, fn_betw, fn_sign, fn_radix, fn_high, fn_low] at h2)
  refine sg_iconst (pc := 5) (z := 1) (dc_X7_first_0.1.1.2.2) (by decide) ?_
  refine sg_cE2 (pc := 6) (d' := d - 1) (mc' := 0) (ms' := 0) 8 g (dc_X7_first_0.1.2.1.1) cb_X7_start ml_X7_71 mn_X7_start rfl mv_X7_start (Nat.le_of_ble_eq_true rfl) (md_oc (by assumption)) (Nat.le_of_ble_eq_true rfl) (by first | exact jl_d0 hd rfl | omega) (by first | exact Nat.le_of_ble_eq_true rfl | omega) (by first | exact Nat.le_of_ble_eq_true rfl | omega) ?_
  refine s_X7_start g (by first | exact jl_d1 hd rfl | omega) (by omega) (by assumption) (fun v6 h6 b6 i6 t6 s6 u6 y6 => sg_K1 ?_)
  have x6 := y6.1
  have hk6 := x6.2.1
  have y6 := md_Yt (h0 := h) (by assumption) y6
  refine sg_if_ne (pc := 9) (tgt := 36) (dc_X7_first_0.1.2.1.2) (by decide) (fun c9 => ?_) (fun c9 => ?_)
  · refine sg_iconst (pc := 36) (z := 0) (dc_X7_first_30.1.1.2.1) (by decide) ?_
    refine sg_iret (pc := 37) (dc_X7_first_30.1.1.2.2) rfl (by first | exact Nat.le_of_ble_eq_true rfl | omega) (by first | exact Nat.le_of_ble_eq_true rfl | omega) ?_
    first
      | exact hQ _ _ (by omega) (by omega) (by omega) (fun q => absurd q (by omega)) (by assumption)
      | exact hQ _ _ (by omega) (by omega) (by omega) (fun _ => rfl) (by assumption)
  · refine sg_aload_n (pc := 12) (j := 0) (dc_X7_first_0.1.2.2.1) rfl rfl ?_
    refine sg_iload_n (pc := 13) (j := 2) (dc_X7_first_0.1.2.2.2) rfl rfl ?_
    refine sg_cS1 (pc := 14) (d' := d - 1) (mc' := 0) (ms' := 0) g (dc_X7_first_0.2.1.1.1) cb_X7_isNoKind ml_X7_100 ms_X7_isNoKind (Nat.le_of_ble_eq_true rfl) (by first | exact jl_d0 hd rfl | omega) (by first | exact Nat.le_of_ble_eq_true rfl | omega) (by first | exact Nat.le_of_ble_eq_true rfl | omega) ?_
    refine s_X7_isNoKind g (by first | exact jl_d1 hd rfl | omega) (fun z14 h14 b14 => sg_K1 ?_)
    (try simp only [fm_no, fm_one, fn_betw, fn_sign, fn_radix, fn_high, fn_low] at h14)
    refine sg_if_ne (pc := 17) (tgt := 24) (dc_X7_first_0.2.1.1.2) (by decide) (fun c17 => ?_) (fun c17 => ?_)
    · refine sg_iconst (pc := 24) (z := 1) (dc_X7_first_0.2.2.1.1) (by decide) ?_
      refine sg_goto (pc := 25) (tgt := 29) (dc_X7_first_0.2.2.1.2) (by decide) ?_
      refine sg_iconst (pc := 29) (z := 2) (dc_X7_first_0.2.2.2.2) (by decide) ?_
      refine sg_cE2 (pc := 30) (d' := d - 1) (mc' := 0) (ms' := 0) 8 g (dc_X7_first_30.1.1.1.1) cb_X7_refuse ml_X7_45 mn_X7_refuse rfl mv_X7_refuse (Nat.le_of_ble_eq_true rfl) (md_oc (by assumption)) (Nat.le_of_ble_eq_true rfl) (by first | exact jl_d0 hd rfl | omega) (by first | exact Nat.le_of_ble_eq_true rfl | omega) (by first | exact Nat.le_of_ble_eq_true rfl | omega) ?_
      refine s_X7_refuse g (by first | exact jl_d1 hd rfl | omega) (by omega) (by assumption) (fun v30 h30 b30 i30 t30 s30 u30 y30 => sg_K1 ?_)
      have x30 := y30.1
      have hk30 := x30.2.1
      have y30 := md_Yt (h0 := h) (by assumption) y30
      refine sg_if_eq (pc := 33) (tgt := 38) (dc_X7_first_30.1.1.1.2) (by decide) (fun c33 => absurd c33 (by omega)) (fun c33 => ?_)
      refine sg_iconst (pc := 36) (z := 0) (dc_X7_first_30.1.1.2.1) (by decide) ?_
      refine sg_iret (pc := 37) (dc_X7_first_30.1.1.2.2) rfl (by first | exact Nat.le_of_ble_eq_true rfl | omega) (by first | exact Nat.le_of_ble_eq_true rfl | omega) ?_
      first
        | exact hQ _ _ (by omega) (by omega) (by omega) (fun q => absurd q (by omega)) (by assumption)
        | exact hQ _ _ (by omega) (by omega) (by omega) (fun _ => rfl) (by assumption)
    · refine sg_iload_n (pc := 20) (j := 3) (dc_X7_first_0.2.1.2.1) rfl rfl ?_
      refine sg_if_ge (pc := 21) (tgt := 28) (dc_X7_first_0.2.1.2.2) (by decide) (fun c21 => ?_) (fun c21 => ?_)
      · refine sg_iconst (pc := 28) (z := 0) (dc_X7_first_0.2.2.2.1) (by decide) ?_
        refine sg_iconst (pc := 29) (z := 2) (dc_X7_first_0.2.2.2.2) (by decide) ?_
        refine sg_cE2 (pc := 30) (d' := d - 1) (mc' := 0) (ms' := 0) 8 g (dc_X7_first_30.1.1.1.1) cb_X7_refuse ml_X7_45 mn_X7_refuse rfl mv_X7_refuse (Nat.le_of_ble_eq_true rfl) (md_oc (by assumption)) (Nat.le_of_ble_eq_true rfl) (by first | exact jl_d0 hd rfl | omega) (by first | exact Nat.le_of_ble_eq_true rfl | omega) (by first | exact Nat.le_of_ble_eq_true rfl | omega) ?_
        refine s_X7_refuse g (by first | exact jl_d1 hd rfl | omega) (by omega) (by assumption) (fun v30 h30 b30 i30 t30 s30 u30 y30 => sg_K1 ?_)
        have x30 := y30.1
        have hk30 := x30.2.1
        have y30 := md_Yt (h0 := h) (by assumption) y30
        refine sg_if_eq (pc := 33) (tgt := 38) (dc_X7_first_30.1.1.1.2) (by decide) (fun c33 => ?_) (fun c33 => absurd c33 (by omega))
        refine sg_iload_n (pc := 38) (j := 3) (dc_X7_first_30.1.2.1.1) rfl rfl ?_
        refine sg_istore (pc := 39) (dc_X7_first_30.1.2.1.2) (by decide) ?_
        have loop41 : ∀ (N : Nat) (p : Int), (fr ≤ p) → (∀ j : Nat, fr ≤ (j : Int) → (j : Int) < p → fn_isOf (L.getD j 0) kind = 0) → (40 - p).toNat < N → sg_R w mi_X7_first d 0 0 Q 41 [(4, sg_i p), (0, sg_r M), (1, sg_i row), (2, sg_i kind)] [] h30 0 0 := by
          intro N
          induction N with
          | zero => intro p p0 p1 hm; exact absurd hm (Nat.not_lt_zero _)
          | succ N ih =>
            intro p p0 p1 hm
            refine sg_iload (pc := 41) (dc_X7_first_30.1.2.2.1) rfl ?_
            refine sg_aload_n (pc := 43) (j := 0) (dc_X7_first_30.1.2.2.2) rfl rfl ?_
            refine md_grw (pc := 44) g (dc_X7_first_30.2.1.1.1) fk_X7_9 (by assumption) (fun r44 => ?_)
            refine sg_iload_n (pc := 47) (j := 1) (dc_X7_first_30.2.1.1.2) rfl rfl ?_
            first | refine md_alX (pc := 48) (dc_X7_first_30.2.1.2.1) hA (by assumption) (by assumption) (by omega) (by omega) (fun X48 l48 => ?_) | refine md_alXt (pc := 48) (dc_X7_first_30.2.1.2.1) hA (by assumption) (by assumption) (by omega) (by omega) (fun X48 l48 => ?_)
            refine md_xlen (pc := 49) (dc_X7_first_30.2.1.2.2) (by assumption) (by omega) ?_
            refine sg_icmp_ge (pc := 50) (tgt := 78) (dc_X7_first_30.2.2.1.1) (by decide) (fun c50 => ?_) (fun c50 => ?_)
            · refine sg_iconst (pc := 78) (z := -1) (dc_X7_first_58.2.1.2.1) (by decide) ?_
              refine sg_iret (pc := 79) (dc_X7_first_58.2.1.2.2) rfl (by first | exact Nat.le_of_ble_eq_true rfl | omega) (by first | exact Nat.le_of_ble_eq_true rfl | omega) ?_
              first
                | exact hQ _ _ (by omega) (by omega) (by omega) (fun q => absurd q (by omega)) (by assumption)
                | exact hQ _ _ (by omega) (by omega) (by omega) (fun _ => fs_theE fs_fU (Or.inl ⟨rfl, fun j j0 j1 => p1 j j0 (by omega)⟩)) (by assumption)
            · refine sg_aload_n (pc := 53) (j := 0) (dc_X7_first_30.2.2.1.2) rfl rfl ?_
              refine md_grw (pc := 54) g (dc_X7_first_30.2.2.2.1) fk_X7_9 (by assumption) (fun r54 => ?_)
              refine sg_iload_n (pc := 57) (j := 1) (dc_X7_first_30.2.2.2.2) rfl rfl ?_
              first | refine md_alX (pc := 58) (dc_X7_first_58.1.1.1.1) hA (by assumption) (by assumption) (by omega) (by omega) (fun X58 l58 => ?_) | refine md_alXt (pc := 58) (dc_X7_first_58.1.1.1.1) hA (by assumption) (by assumption) (by omega) (by omega) (fun X58 l58 => ?_)
              refine sg_iload (pc := 59) (dc_X7_first_58.1.1.1.2) rfl ?_
              refine md_xld (pc := 61) (dc_X7_first_58.1.1.2.1) (by assumption) (by omega) (by omega) (fun g61 => ?_)
              refine sg_iload_n (pc := 62) (j := 2) (dc_X7_first_58.1.1.2.2) rfl rfl ?_
              refine sg_cS2 (pc := 63) (d' := d - 1) (mc' := 0) (ms' := 0) g (dc_X7_first_58.1.2.1.1) cb_X7_isKind ml_X7_26 ms_X7_isKind (Nat.le_of_ble_eq_true rfl) (by first | exact jl_d0 hd rfl | omega) (by first | exact Nat.le_of_ble_eq_true rfl | omega) (by first | exact Nat.le_of_ble_eq_true rfl | omega) ?_
              refine s_X7_isKind g (by first | exact jl_d1 hd rfl | omega) (by assumption) (by omega) (by omega) (fun z63 e63 b63 => sg_K1 ?_)
              refine sg_if_eq (pc := 66) (tgt := 72) (dc_X7_first_58.1.2.1.2) (by decide) (fun c66 => ?_) (fun c66 => ?_)
              · first | refine sg_iincB (pc := 72) (dc_X7_first_58.2.1.1.1) rfl (by decide) (by decide) (by omega) (by omega) ?_ | refine sg_iinc (pc := 72) (dc_X7_first_58.2.1.1.1) rfl (by decide) (by decide) ?_
                refine sg_goto (pc := 75) (tgt := 41) (dc_X7_first_58.2.1.1.2) (by decide) ?_
                refine sg_lsub (lv' := [(4, _), (0, _), (1, _), (2, _)]) ⟨rfl, rfl, rfl, rfl, trivial⟩ ?_
                exact ih _ (by omega) (fun j j0 j1 => by
                  by_cases q : j = p.toNat
                  · subst q; omega
                  · exact p1 j j0 (by omega)) (by first | exact jl_m1 hm (by omega) | exact jl_m2 hm (by omega) | omega)
              · refine sg_iload (pc := 69) (dc_X7_first_58.1.2.2.1) rfl ?_
                refine sg_iret (pc := 71) (dc_X7_first_58.1.2.2.2) rfl (by first | exact Nat.le_of_ble_eq_true rfl | omega) (by first | exact Nat.le_of_ble_eq_true rfl | omega) ?_
                first
                  | exact hQ _ _ (by omega) (by omega) (by omega) (fun q => absurd q (by omega)) (by assumption)
                  | exact hQ _ _ (by omega) (by omega) (by omega) (fun _ => fs_theE fs_fU (Or.inr ⟨by omega, by omega, by omega, by omega, p1⟩)) (by assumption)
        refine sg_lsub (lv' := [(4, _), (0, _), (1, _), (2, _)]) ⟨rfl, rfl, rfl, rfl, trivial⟩ ?_
        exact loop41 _ _ (by omega) (fun j j0 j1 => absurd j1 (by omega)) (Nat.lt_succ_self _)
      · refine sg_iconst (pc := 24) (z := 1) (dc_X7_first_0.2.2.1.1) (by decide) ?_
        refine sg_goto (pc := 25) (tgt := 29) (dc_X7_first_0.2.2.1.2) (by decide) ?_
        refine sg_iconst (pc := 29) (z := 2) (dc_X7_first_0.2.2.2.2) (by decide) ?_
        refine sg_cE2 (pc := 30) (d' := d - 1) (mc' := 0) (ms' := 0) 8 g (dc_X7_first_30.1.1.1.1) cb_X7_refuse ml_X7_45 mn_X7_refuse rfl mv_X7_refuse (Nat.le_of_ble_eq_true rfl) (md_oc (by assumption)) (Nat.le_of_ble_eq_true rfl) (by first | exact jl_d0 hd rfl | omega) (by first | exact Nat.le_of_ble_eq_true rfl | omega) (by first | exact Nat.le_of_ble_eq_true rfl | omega) ?_
        refine s_X7_refuse g (by first | exact jl_d1 hd rfl | omega) (by omega) (by assumption) (fun v30 h30 b30 i30 t30 s30 u30 y30 => sg_K1 ?_)
        have x30 := y30.1
        have hk30 := x30.2.1
        have y30 := md_Yt (h0 := h) (by assumption) y30
        refine sg_if_eq (pc := 33) (tgt := 38) (dc_X7_first_30.1.1.1.2) (by decide) (fun c33 => absurd c33 (by omega)) (fun c33 => ?_)
        refine sg_iconst (pc := 36) (z := 0) (dc_X7_first_30.1.1.2.1) (by decide) ?_
        refine sg_iret (pc := 37) (dc_X7_first_30.1.1.2.2) rfl (by first | exact Nat.le_of_ble_eq_true rfl | omega) (by first | exact Nat.le_of_ble_eq_true rfl | omega) ?_
        first
          | exact hQ _ _ (by omega) (by omega) (by omega) (fun q => absurd q (by omega)) (by assumption)
          | exact hQ _ _ (by omega) (by omega) (by omega) (fun _ => rfl) (by assumption)

