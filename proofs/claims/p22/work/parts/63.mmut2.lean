/-- 999999 halved again and again -/
def jt : Nat → Int
  | 0 => 999999
  | m + 1 => jt m / 2
theorem jt_nn : ∀ m, 0 ≤ jt m
  | 0 => by decide
  | m + 1 => Int.ediv_nonneg (jt_nn m) (by decide)
theorem jt_anti (m : Nat) : ∀ j, jt (m + j) ≤ jt m
  | 0 => Int.le_refl _
  | j + 1 => by
    have h1 := jt_anti m j
    have h2 := jt_nn (m + j)
    have e : jt (m + (j + 1)) = jt (m + j) / 2 := rfl
    omega
theorem jt_pos {m : Nat} {x : Int} (h : 0 < x) (h2 : x ≤ jt m) : m ≤ 19 := by
  rcases Nat.lt_or_ge m 20 with c | c
  · omega
  · have h3 := jt_anti 20 (m - 20)
    rw [show 20 + (m - 20) = m by omega] at h3
    have h4 : jt 20 = 0 := by decide
    omega
theorem jt_div {m : Nat} {x r : Int} (h0 : 0 ≤ x) (h1 : x ≤ jt m) (h2 : 2 ≤ r) : 0 ≤ x / r ∧ x / r ≤ jt (m + 1) := by
  have a := Int.ediv_nonneg h0 (show (0 : Int) ≤ r by omega)
  have b := Int.ediv_mul_le x (show r ≠ 0 by omega)
  have c := Int.mul_le_mul_of_nonneg_left h2 a
  have e : jt (m + 1) = jt m / 2 := rfl
  exact ⟨a, by omega⟩
set_option maxRecDepth 100000 in
theorem s_X7_lay {w : sg_W} {Q : sg_O → sg_H → Prop} {h : sg_H} (g : sg_G w) {d : Nat} (hd : 9 ≤ d) {M : Nat} {row p1 p2 p3 p4 : Int}  (hx : md_M w h M) (hQ : ∀ (v : Int) (h' : sg_H), md_Y w h h' M → Q (.inl (some (sg_i v))) h') : sg_C w mi_X7_lay d 86 1800 [sg_r M, sg_i row, sg_i p1, sg_i p2, sg_i p3, sg_i p4] h Q := by
  refine sg_of pn_X7 (Nat.le_of_ble_eq_true rfl) ?_
  have y0 := md_Y0 hx
  have hk := hx.2.1
  refine sg_iconst (pc := 0) (z := 4) (dc_X7_lay_0.1.1.1.1) (by decide) ?_
  refine sg_newa (t := 100) (N := 4) (pc := 1) g (dc_X7_lay_0.1.1.1.2) ac_int rfl (by decide) (by decide) rfl rfl (by decide) (by omega) (by omega) (by omega) (by omega) ?_
  refine sg_dup (pc := 3) (dc_X7_lay_0.1.1.2.1) rfl ?_
  refine sg_iconst (pc := 4) (z := 0) (dc_X7_lay_0.1.1.2.2) (by decide) ?_
  refine sg_iload_n (pc := 5) (j := 2) (dc_X7_lay_0.1.2.1.1) rfl rfl ?_
  refine md_ast (pc := 6) (dc_X7_lay_0.1.2.1.2) (md_new (c := 0)) ck_v0 (by omega) (by omega) (fun h6 t6 => ?_)
  refine sg_dup (pc := 7) (dc_X7_lay_0.1.2.2.1) rfl ?_
  refine sg_iconst (pc := 8) (z := 1) (dc_X7_lay_0.1.2.2.2) (by decide) ?_
  refine sg_iload_n (pc := 9) (j := 3) (dc_X7_lay_0.2.1.1.1) rfl rfl ?_
  refine md_ast (pc := 10) (dc_X7_lay_0.2.1.1.2) t6 ck_v0 (by omega) (by omega) (fun h10 t10 => ?_)
  refine sg_dup (pc := 11) (dc_X7_lay_0.2.1.2.1) rfl ?_
  refine sg_iconst (pc := 12) (z := 2) (dc_X7_lay_0.2.1.2.2) (by decide) ?_
  refine sg_iload (pc := 13) (dc_X7_lay_0.2.2.1.1) rfl ?_
  refine md_ast (pc := 15) (dc_X7_lay_0.2.2.1.2) t10 ck_v0 (by omega) (by omega) (fun h15 t15 => ?_)
  refine sg_dup (pc := 16) (dc_X7_lay_0.2.2.2.1) rfl ?_
  refine sg_iconst (pc := 17) (z := 3) (dc_X7_lay_0.2.2.2.2) (by decide) ?_
  refine sg_iload (pc := 18) (dc_X7_lay_18.1.1.1.1) rfl ?_
  refine md_ast (pc := 20) (dc_X7_lay_18.1.1.1.2) t15 ck_v0 (by omega) (by omega) (fun h20 t20 => ?_)
  refine sg_astore (pc := 21) (dc_X7_lay_18.1.1.2.1) (by decide) ?_
  refine sg_iconst (pc := 23) (z := 0) (dc_X7_lay_18.1.1.2.2) (by decide) ?_
  refine sg_istore (pc := 24) (dc_X7_lay_18.1.2.1.1) (by decide) ?_
  refine sg_aload (pc := 26) (dc_X7_lay_18.1.2.1.2) rfl ?_
  refine sg_astore (pc := 28) (dc_X7_lay_18.1.2.2.1) (by decide) ?_
  refine sg_aload (pc := 30) (dc_X7_lay_18.1.2.2.2) rfl ?_
  refine md_len (pc := 32) (dc_X7_lay_18.2.1.1.1) t20.2.2 (by omega) ?_
  refine sg_istore (pc := 33) (dc_X7_lay_18.2.1.1.2) (by decide) ?_
  refine sg_iconst (pc := 35) (z := 0) (dc_X7_lay_18.2.1.2.1) (by decide) ?_
  refine sg_istore (pc := 36) (dc_X7_lay_18.2.1.2.2) (by decide) ?_
  have loop38 : ∀ (N : Nat) (p s : Int), 0 ≤ p → (4 - p).toNat < N → sg_R w mi_X7_lay d 86 1800 Q 38 [(10, sg_i p), (7, sg_i s), (9, sg_i ((4 : Nat) : Int)), (8, sg_r h.1), (0, sg_r M), (1, sg_i row), (2, sg_i p1), (3, sg_i p2), (4, sg_i p3), (5, sg_i p4), (6, sg_r h.1)] [] h20 1 4 := by
    intro N
    induction N with
    | zero => intro p s p0 hm; exact absurd hm (Nat.not_lt_zero _)
    | succ N ih =>
      intro p s p0 hm
      have x20 : md_M w h20 M := md_ME hx (md_TE t20)
      have hk20 := x20.2.1
      have y20 : md_Y w h h20 M := md_YE y0 (md_TE t20)
      refine sg_iload (pc := 38) (dc_X7_lay_18.2.2.1.1) rfl ?_
      refine sg_iload (pc := 40) (dc_X7_lay_18.2.2.1.2) rfl ?_
      refine sg_icmp_ge (pc := 42) (tgt := 82) (dc_X7_lay_18.2.2.2.1) (by decide) (fun c42 => ?_) (fun c42 => ?_)
      · refine sg_aload_n (pc := 82) (j := 0) (dc_X7_lay_79.1.1.1.2) rfl rfl ?_
        refine sg_iload_n (pc := 83) (j := 1) (dc_X7_lay_79.1.1.2.1) rfl rfl ?_
        refine sg_cS1 (pc := 84) (d' := d - 1) (mc' := 0) (ms' := 0) g (dc_X7_lay_79.1.1.2.2) cb_X7_isNoRow ml_X7_68 ms_X7_isNoRow (Nat.le_of_ble_eq_true rfl) (by first | exact jl_d0 hd rfl | omega) (by first | exact Nat.le_of_ble_eq_true rfl | omega) (by first | exact Nat.le_of_ble_eq_true rfl | omega) ?_
        refine s_X7_isNoRow g (by first | exact jl_d1 hd rfl | omega) (fun z84 h84 b84 => sg_K1 ?_)
        (try simp only [fm_no, fm_one, fn_betw, fn_sign, fn_radix, fn_high, fn_low] at h84)
        refine sg_iconst (pc := 87) (z := 1) (dc_X7_lay_79.1.2.1.1) (by decide) ?_
        refine sg_cE2 (pc := 88) (d' := d - 1) (mc' := 0) (ms' := 0) 8 g (dc_X7_lay_79.1.2.1.2) cb_X7_start ml_X7_71 mn_X7_start rfl mv_X7_start (Nat.le_of_ble_eq_true rfl) (md_oc (by assumption)) (Nat.le_of_ble_eq_true rfl) (by first | exact jl_d0 hd rfl | omega) (by first | exact Nat.le_of_ble_eq_true rfl | omega) (by first | exact Nat.le_of_ble_eq_true rfl | omega) ?_
        refine s_X7_start g (by first | exact jl_d1 hd rfl | omega) (by omega) (by assumption) (fun v88 h88 b88 i88 t88 s88 u88 y88 => sg_K1 ?_)
        have x88 := y88.1
        have hk88 := x88.2.1
        have y88 := md_Yt (h0 := h) (by assumption) y88
        refine sg_if_ne (pc := 91) (tgt := 104) (dc_X7_lay_79.1.2.2.1) (by decide) (fun c91 => ?_) (fun c91 => ?_)
        · refine sg_iconst (pc := 104) (z := 0) (dc_X7_lay_79.2.2.1.1) (by decide) ?_
          refine sg_iret (pc := 105) (dc_X7_lay_79.2.2.1.2) rfl (by first | exact Nat.le_of_ble_eq_true rfl | omega) (by first | exact Nat.le_of_ble_eq_true rfl | omega) ?_
          exact hQ _ _ (by assumption)
        · refine sg_aload_n (pc := 94) (j := 0) (dc_X7_lay_79.1.2.2.2) rfl rfl ?_
          refine sg_iload (pc := 95) (dc_X7_lay_79.2.1.1.1) rfl ?_
          refine sg_iconst (pc := 97) (z := 2) (dc_X7_lay_79.2.1.1.2) (by decide) ?_
          refine sg_cE2 (pc := 98) (d' := d - 1) (mc' := 0) (ms' := 0) 8 g (dc_X7_lay_79.2.1.2.1) cb_X7_refuse ml_X7_45 mn_X7_refuse rfl mv_X7_refuse (Nat.le_of_ble_eq_true rfl) (md_oc (by assumption)) (Nat.le_of_ble_eq_true rfl) (by first | exact jl_d0 hd rfl | omega) (by first | exact Nat.le_of_ble_eq_true rfl | omega) (by first | exact Nat.le_of_ble_eq_true rfl | omega) ?_
          refine s_X7_refuse g (by first | exact jl_d1 hd rfl | omega) (by omega) (by assumption) (fun v98 h98 b98 i98 t98 s98 u98 y98 => sg_K1 ?_)
          have x98 := y98.1
          have hk98 := x98.2.1
          have y98 := md_Yt (h0 := h) (by assumption) y98
          refine sg_if_eq (pc := 101) (tgt := 106) (dc_X7_lay_79.2.1.2.2) (by decide) (fun c101 => ?_) (fun c101 => ?_)
          · refine sg_iconst (pc := 106) (z := 4) (dc_X7_lay_79.2.2.2.1) (by decide) ?_
            refine sg_newa (t := 101) (N := 4) (pc := 107) g (dc_X7_lay_79.2.2.2.2) ac_boolean rfl (by decide) (by decide) rfl rfl (by decide) (by omega) (by omega) (by omega) (by omega) ?_
            have A106 : md_A 0 h98 h.1 4 := md_AP (md_AP t20.2.2 (show md_Y w h20 h88 M by assumption).2) (show md_Y w h88 h98 M by assumption).2
            have r163 : ∀ hh : sg_H, md_B h98 hh 4 → sg_R w mi_X7_lay d 86 1800 Q 163 [(0, sg_r M), (1, sg_i row), (2, sg_i p1), (3, sg_i p2), (4, sg_i p3), (5, sg_i p4), (6, sg_r h.1)] [sg_r h98.1] hh 2 8 := by
              intro hh tb
              have xb : md_M w hh M := md_ME x98 (md_BE tb)
              have hkb := xb.2.1
              have yb : md_Y w h hh M := md_YE y98 (md_BE tb)
              have sb := md_SE x98 (md_BE tb) (i := row) (by omega) (by omega)
              refine sg_astore (pc := 163) (dc_X7_lay_157.1.2.1.1) (by decide) ?_
              refine sg_aload_n (pc := 165) (j := 0) (dc_X7_lay_157.1.2.1.2) rfl rfl ?_
              refine md_grw (pc := 166) g (dc_X7_lay_157.1.2.2.1) fk_X7_9 (by assumption) (fun r166 => ?_)
              refine sg_iload_n (pc := 169) (j := 1) (dc_X7_lay_157.1.2.2.2) rfl rfl ?_
              first | refine md_alr (pc := 170) (dc_X7_lay_157.2.1.1.1) (by assumption) (by omega) (by omega) (fun A170 l170 => ?_) | refine md_alt (pc := 170) (dc_X7_lay_157.2.1.1.1) (by assumption) (by omega) (by omega) (fun A170 l170 => ?_)
              refine sg_aload (pc := 171) (dc_X7_lay_157.2.1.1.2) rfl ?_
              refine sg_aload (pc := 173) (dc_X7_lay_157.2.1.2.1) rfl ?_
              refine sg_cS2 (pc := 175) (d' := d - 1) (mc' := 81) (ms' := 1680) g (dc_X7_lay_157.2.1.2.2) cb_X7_only ml_X7_74 ms_X7_only (Nat.le_of_ble_eq_true rfl) (by first | exact jl_d0 hd rfl | omega) (by first | exact Nat.le_of_ble_eq_true rfl | omega) (by first | exact Nat.le_of_ble_eq_true rfl | omega) ?_
              refine s_X7_only (c := 0) g (by first | exact jl_d1 hd rfl | omega) (md_AE A106 (md_BE tb)) tb.2.2 (by omega) (fun h175 b175 m175 E175 A175 l175 => sg_K1 ?_)
              have x175 : md_M w h175 M := md_ME (by assumption) E175
              have hk175 := x175.2.1
              have y175 : md_Y w h h175 M := md_YE (by assumption) E175
              refine sg_cS2 (pc := 178) (d' := d - 1) (mc' := 1) (ms' := ((md_n hh (md_a hh (md_r hh M) row)) + m175)) g (dc_X7_lay_157.2.2.1.1) cb_X7_joined ml_X7_61 ms_X7_joined (Nat.le_of_ble_eq_true rfl) (by first | exact jl_d0 hd rfl | omega) (by first | exact Nat.le_of_ble_eq_true rfl | omega) (by first | exact Nat.le_of_ble_eq_true rfl | omega) ?_
              refine s_X7_joined (c := 0) g (by first | exact jl_d1 hd rfl | omega) (md_AE A170 E175) A175 (by omega) (by omega) (fun h178 t178 => sg_K1 ?_)
              have x178 : md_M w h178 M := md_ME (by assumption) (md_TE t178)
              have hk178 := x178.2.1
              have y178 : md_Y w h h178 M := md_YE (by assumption) (md_TE t178)
              refine sg_astore (pc := 181) (dc_X7_lay_157.2.2.1.2) (by decide) ?_
              refine sg_aload_n (pc := 183) (j := 0) (dc_X7_lay_157.2.2.2.1) rfl rfl ?_
              refine sg_aload (pc := 184) (dc_X7_lay_157.2.2.2.2) rfl ?_
              refine md_len (pc := 186) (dc_X7_lay_186.1.1.1.1) t178.2.2 (by omega) ?_
              refine sg_bipush (pc := 187) (z := 40) (dc_X7_lay_186.1.1.1.2) (by decide) ?_
              refine sg_icmp_le (pc := 189) (tgt := 196) (dc_X7_lay_186.1.1.2.1) (by decide) (fun c189 => ?_) (fun c189 => ?_)
              · refine sg_iconst (pc := 196) (z := 0) (dc_X7_lay_186.1.2.1.2) (by decide) ?_
                refine sg_iconst (pc := 197) (z := 3) (dc_X7_lay_186.1.2.2.1) (by decide) ?_
                refine sg_cE2 (pc := 198) (d' := d - 1) (mc' := 0) (ms' := 0) 8 g (dc_X7_lay_186.1.2.2.2) cb_X7_refuse ml_X7_45 mn_X7_refuse rfl mv_X7_refuse (Nat.le_of_ble_eq_true rfl) (md_oc (by assumption)) (Nat.le_of_ble_eq_true rfl) (by first | exact jl_d0 hd rfl | omega) (by first | exact Nat.le_of_ble_eq_true rfl | omega) (by first | exact Nat.le_of_ble_eq_true rfl | omega) ?_
                refine s_X7_refuse g (by first | exact jl_d1 hd rfl | omega) (by omega) (by assumption) (fun v198 h198 b198 i198 t198 s198 u198 y198 => sg_K1 ?_)
                have x198 := y198.1
                have hk198 := x198.2.1
                have y198 := md_Yt (h0 := h) (by assumption) y198
                refine sg_if_eq (pc := 201) (tgt := 208) (dc_X7_lay_186.2.1.1.1) (by decide) (fun c201 => ?_) (fun c201 => ?_)
                · refine sg_aload_n (pc := 208) (j := 0) (dc_X7_lay_186.2.1.2.2) rfl rfl ?_
                  refine sg_iload_n (pc := 209) (j := 1) (dc_X7_lay_186.2.2.1.1) rfl rfl ?_
                  refine sg_aload (pc := 210) (dc_X7_lay_186.2.2.1.2) rfl ?_
                  refine sg_cE2 (pc := 212) (d' := d - 1) (mc' := 2) (ms' := 16) 8 g (dc_X7_lay_186.2.2.2.1) cb_X7_set ml_X7_78 mn_X7_set rfl mv_X7_set (Nat.le_of_ble_eq_true rfl) (md_oc (by assumption)) (Nat.le_of_ble_eq_true rfl) (by first | exact jl_d0 hd rfl | omega) (by first | exact Nat.le_of_ble_eq_true rfl | omega) (by first | exact Nat.le_of_ble_eq_true rfl | omega) ?_
                  refine s_X7_set g (by first | exact jl_d1 hd rfl | omega) (by omega) (by assumption) (fun q => ⟨md_AP t178.2.2 (show md_Y w h178 h198 M by assumption).2, by omega⟩) (fun q => absurd q (by omega)) (fun h212 y212 => sg_K1 ?_)
                  have x212 := y212.1
                  have hk212 := x212.2.1
                  have y212 := md_Yt (h0 := h) (by assumption) y212
                  refine sg_iret (pc := 215) (dc_X7_lay_186.2.2.2.2) rfl (by first | exact Nat.le_of_ble_eq_true rfl | omega) (by first | exact Nat.le_of_ble_eq_true rfl | omega) ?_
                  exact hQ _ _ (by assumption)
                · refine sg_iconst (pc := 204) (z := 0) (dc_X7_lay_186.2.1.1.2) (by decide) ?_
                  refine sg_goto (pc := 205) (tgt := 215) (dc_X7_lay_186.2.1.2.1) (by decide) ?_
                  refine sg_iret (pc := 215) (dc_X7_lay_186.2.2.2.2) rfl (by first | exact Nat.le_of_ble_eq_true rfl | omega) (by first | exact Nat.le_of_ble_eq_true rfl | omega) ?_
                  exact hQ _ _ (by assumption)
              · refine sg_iconst (pc := 192) (z := 1) (dc_X7_lay_186.1.1.2.2) (by decide) ?_
                refine sg_goto (pc := 193) (tgt := 197) (dc_X7_lay_186.1.2.1.1) (by decide) ?_
                refine sg_iconst (pc := 197) (z := 3) (dc_X7_lay_186.1.2.2.1) (by decide) ?_
                refine sg_cE2 (pc := 198) (d' := d - 1) (mc' := 0) (ms' := 0) 8 g (dc_X7_lay_186.1.2.2.2) cb_X7_refuse ml_X7_45 mn_X7_refuse rfl mv_X7_refuse (Nat.le_of_ble_eq_true rfl) (md_oc (by assumption)) (Nat.le_of_ble_eq_true rfl) (by first | exact jl_d0 hd rfl | omega) (by first | exact Nat.le_of_ble_eq_true rfl | omega) (by first | exact Nat.le_of_ble_eq_true rfl | omega) ?_
                refine s_X7_refuse g (by first | exact jl_d1 hd rfl | omega) (by omega) (by assumption) (fun v198 h198 b198 i198 t198 s198 u198 y198 => sg_K1 ?_)
                have x198 := y198.1
                have hk198 := x198.2.1
                have y198 := md_Yt (h0 := h) (by assumption) y198
                refine sg_if_eq (pc := 201) (tgt := 208) (dc_X7_lay_186.2.1.1.1) (by decide) (fun c201 => absurd c201 (by omega)) (fun c201 => ?_)
                refine sg_iconst (pc := 204) (z := 0) (dc_X7_lay_186.2.1.1.2) (by decide) ?_
                refine sg_goto (pc := 205) (tgt := 215) (dc_X7_lay_186.2.1.2.1) (by decide) ?_
                refine sg_iret (pc := 215) (dc_X7_lay_186.2.2.2.2) rfl (by first | exact Nat.le_of_ble_eq_true rfl | omega) (by first | exact Nat.le_of_ble_eq_true rfl | omega) ?_
                exact hQ _ _ (by assumption)
            have r149 : ∀ hh : sg_H, md_B h98 hh 4 → sg_R w mi_X7_lay d 86 1800 Q 149 [(0, sg_r M), (1, sg_i row), (2, sg_i p1), (3, sg_i p2), (4, sg_i p3), (5, sg_i p4), (6, sg_r h.1)] [sg_r h98.1] hh 2 8 := by
              intro hh tb
              refine sg_dup (pc := 149) (dc_X7_lay_133.2.1.2.2) rfl ?_
              refine sg_iconst (pc := 150) (z := 3) (dc_X7_lay_133.2.2.1.1) (by decide) ?_
              refine sg_iload (pc := 151) (dc_X7_lay_133.2.2.1.2) rfl ?_
              refine sg_iconst (pc := 153) (z := -1) (dc_X7_lay_133.2.2.2.1) (by decide) ?_
              refine sg_icmp_eq (pc := 154) (tgt := 161) (dc_X7_lay_133.2.2.2.2) (by decide) (fun c154 => ?_) (fun c154 => ?_)
              · refine sg_iconst (pc := 161) (z := 0) (dc_X7_lay_157.1.1.2.1) (by decide) ?_
                refine md_zst (pc := 162) (dc_X7_lay_157.1.1.2.2) tb (by decide) (by omega) (by omega) (fun h162 t162 => ?_)
                refine sg_lsub (lv' := [(0, _), (1, _), (2, _), (3, _), (4, _), (5, _), (6, _)]) ⟨rfl, rfl, rfl, rfl, rfl, rfl, rfl, trivial⟩ ?_
                exact r163 _ (by assumption)
              · refine sg_iconst (pc := 157) (z := 1) (dc_X7_lay_157.1.1.1.1) (by decide) ?_
                refine sg_goto (pc := 158) (tgt := 162) (dc_X7_lay_157.1.1.1.2) (by decide) ?_
                refine md_zst (pc := 162) (dc_X7_lay_157.1.1.2.2) tb (by decide) (by omega) (by omega) (fun h162 t162 => ?_)
                refine sg_lsub (lv' := [(0, _), (1, _), (2, _), (3, _), (4, _), (5, _), (6, _)]) ⟨rfl, rfl, rfl, rfl, rfl, rfl, rfl, trivial⟩ ?_
                exact r163 _ (by assumption)
            have r135 : ∀ hh : sg_H, md_B h98 hh 4 → sg_R w mi_X7_lay d 86 1800 Q 135 [(0, sg_r M), (1, sg_i row), (2, sg_i p1), (3, sg_i p2), (4, sg_i p3), (5, sg_i p4), (6, sg_r h.1)] [sg_r h98.1] hh 2 8 := by
              intro hh tb
              refine sg_dup (pc := 135) (dc_X7_lay_133.1.1.2.1) rfl ?_
              refine sg_iconst (pc := 136) (z := 2) (dc_X7_lay_133.1.1.2.2) (by decide) ?_
              refine sg_iload (pc := 137) (dc_X7_lay_133.1.2.1.1) rfl ?_
              refine sg_iconst (pc := 139) (z := -1) (dc_X7_lay_133.1.2.1.2) (by decide) ?_
              refine sg_icmp_eq (pc := 140) (tgt := 147) (dc_X7_lay_133.1.2.2.1) (by decide) (fun c140 => ?_) (fun c140 => ?_)
              · refine sg_iconst (pc := 147) (z := 0) (dc_X7_lay_133.2.1.1.2) (by decide) ?_
                refine md_zst (pc := 148) (dc_X7_lay_133.2.1.2.1) tb (by decide) (by omega) (by omega) (fun h148 t148 => ?_)
                refine sg_lsub (lv' := [(0, _), (1, _), (2, _), (3, _), (4, _), (5, _), (6, _)]) ⟨rfl, rfl, rfl, rfl, rfl, rfl, rfl, trivial⟩ ?_
                exact r149 _ (by assumption)
              · refine sg_iconst (pc := 143) (z := 1) (dc_X7_lay_133.1.2.2.2) (by decide) ?_
                refine sg_goto (pc := 144) (tgt := 148) (dc_X7_lay_133.2.1.1.1) (by decide) ?_
                refine md_zst (pc := 148) (dc_X7_lay_133.2.1.2.1) tb (by decide) (by omega) (by omega) (fun h148 t148 => ?_)
                refine sg_lsub (lv' := [(0, _), (1, _), (2, _), (3, _), (4, _), (5, _), (6, _)]) ⟨rfl, rfl, rfl, rfl, rfl, rfl, rfl, trivial⟩ ?_
                exact r149 _ (by assumption)
            have r122 : ∀ hh : sg_H, md_B h98 hh 4 → sg_R w mi_X7_lay d 86 1800 Q 122 [(0, sg_r M), (1, sg_i row), (2, sg_i p1), (3, sg_i p2), (4, sg_i p3), (5, sg_i p4), (6, sg_r h.1)] [sg_r h98.1] hh 2 8 := by
              intro hh tb
              refine sg_dup (pc := 122) (dc_X7_lay_109.2.1.1.2) rfl ?_
              refine sg_iconst (pc := 123) (z := 1) (dc_X7_lay_109.2.1.2.1) (by decide) ?_
              refine sg_iload_n (pc := 124) (j := 3) (dc_X7_lay_109.2.1.2.2) rfl rfl ?_
              refine sg_iconst (pc := 125) (z := -1) (dc_X7_lay_109.2.2.1.1) (by decide) ?_
              refine sg_icmp_eq (pc := 126) (tgt := 133) (dc_X7_lay_109.2.2.1.2) (by decide) (fun c126 => ?_) (fun c126 => ?_)
              · refine sg_iconst (pc := 133) (z := 0) (dc_X7_lay_133.1.1.1.1) (by decide) ?_
                refine md_zst (pc := 134) (dc_X7_lay_133.1.1.1.2) tb (by decide) (by omega) (by omega) (fun h134 t134 => ?_)
                refine sg_lsub (lv' := [(0, _), (1, _), (2, _), (3, _), (4, _), (5, _), (6, _)]) ⟨rfl, rfl, rfl, rfl, rfl, rfl, rfl, trivial⟩ ?_
                exact r135 _ (by assumption)
              · refine sg_iconst (pc := 129) (z := 1) (dc_X7_lay_109.2.2.2.1) (by decide) ?_
                refine sg_goto (pc := 130) (tgt := 134) (dc_X7_lay_109.2.2.2.2) (by decide) ?_
                refine md_zst (pc := 134) (dc_X7_lay_133.1.1.1.2) tb (by decide) (by omega) (by omega) (fun h134 t134 => ?_)
                refine sg_lsub (lv' := [(0, _), (1, _), (2, _), (3, _), (4, _), (5, _), (6, _)]) ⟨rfl, rfl, rfl, rfl, rfl, rfl, rfl, trivial⟩ ?_
                exact r135 _ (by assumption)
            refine sg_dup (pc := 109) (dc_X7_lay_109.1.1.1.1) rfl ?_
            refine sg_iconst (pc := 110) (z := 0) (dc_X7_lay_109.1.1.1.2) (by decide) ?_
            refine sg_iload_n (pc := 111) (j := 2) (dc_X7_lay_109.1.1.2.1) rfl rfl ?_
            refine sg_iconst (pc := 112) (z := -1) (dc_X7_lay_109.1.1.2.2) (by decide) ?_
            refine sg_icmp_eq (pc := 113) (tgt := 120) (dc_X7_lay_109.1.2.1.1) (by decide) (fun c113 => ?_) (fun c113 => ?_)
            · refine sg_iconst (pc := 120) (z := 0) (dc_X7_lay_109.1.2.2.2) (by decide) ?_
              refine md_zst (pc := 121) (dc_X7_lay_109.2.1.1.1) md_newB (by decide) (by omega) (by omega) (fun h121 t121 => ?_)
              refine sg_lsub (lv' := [(0, _), (1, _), (2, _), (3, _), (4, _), (5, _), (6, _)]) ⟨rfl, rfl, rfl, rfl, rfl, rfl, rfl, trivial⟩ ?_
              exact r122 _ (by assumption)
            · refine sg_iconst (pc := 116) (z := 1) (dc_X7_lay_109.1.2.1.2) (by decide) ?_
              refine sg_goto (pc := 117) (tgt := 121) (dc_X7_lay_109.1.2.2.1) (by decide) ?_
              refine md_zst (pc := 121) (dc_X7_lay_109.2.1.1.1) md_newB (by decide) (by omega) (by omega) (fun h121 t121 => ?_)
              refine sg_lsub (lv' := [(0, _), (1, _), (2, _), (3, _), (4, _), (5, _), (6, _)]) ⟨rfl, rfl, rfl, rfl, rfl, rfl, rfl, trivial⟩ ?_
              exact r122 _ (by assumption)
          · refine sg_iconst (pc := 104) (z := 0) (dc_X7_lay_79.2.2.1.1) (by decide) ?_
            refine sg_iret (pc := 105) (dc_X7_lay_79.2.2.1.2) rfl (by first | exact Nat.le_of_ble_eq_true rfl | omega) (by first | exact Nat.le_of_ble_eq_true rfl | omega) ?_
            exact hQ _ _ (by assumption)
      · refine sg_aload (pc := 45) (dc_X7_lay_18.2.2.2.2) rfl ?_
        refine sg_iload (pc := 47) (dc_X7_lay_47.1.1.1.1) rfl ?_
        refine md_ald (pc := 49) (dc_X7_lay_47.1.1.1.2) t20.2.2 (by omega) (by omega) (fun x49 g49 => ?_)
        refine sg_istore (pc := 50) (dc_X7_lay_47.1.1.2.1) (by decide) ?_
        refine sg_iload (pc := 52) (dc_X7_lay_47.1.1.2.2) rfl ?_
        refine sg_iload (pc := 54) (dc_X7_lay_47.1.2.1.1) rfl ?_
        refine sg_iconst (pc := 56) (z := -1) (dc_X7_lay_47.1.2.1.2) (by decide) ?_
        refine sg_icmp_eq (pc := 57) (tgt := 72) (dc_X7_lay_47.1.2.2.1) (by decide) (fun c57 => ?_) (fun c57 => ?_)
        · refine sg_iconst (pc := 72) (z := 0) (dc_X7_lay_47.2.2.1.1) (by decide) ?_
          refine sg_ior (pc := 73) (dc_X7_lay_47.2.2.1.2) ?_
          refine sg_istore (pc := 74) (dc_X7_lay_47.2.2.2.1) (by decide) ?_
          first | refine sg_iincB (pc := 76) (dc_X7_lay_47.2.2.2.2) rfl (by decide) (by decide) (by omega) (by omega) ?_ | refine sg_iinc (pc := 76) (dc_X7_lay_47.2.2.2.2) rfl (by decide) (by decide) ?_
          refine sg_goto (pc := 79) (tgt := 38) (dc_X7_lay_79.1.1.1.1) (by decide) ?_
          refine sg_lsub (lv' := [(10, _), (7, _), (9, _), (8, _), (0, _), (1, _), (2, _), (3, _), (4, _), (5, _), (6, _)]) ⟨rfl, rfl, rfl, rfl, rfl, rfl, rfl, rfl, rfl, rfl, rfl, trivial⟩ ?_
          exact ih _ _ (by omega) (by omega)
        · refine sg_iload (pc := 60) (dc_X7_lay_47.1.2.2.2) rfl ?_
          refine sg_cS1 (pc := 62) (d' := d - 1) (mc' := 0) (ms' := 0) g (dc_X7_lay_47.2.1.1.1) cb_X7_isSign ml_X7_65 ms_X7_isSign (Nat.le_of_ble_eq_true rfl) (by first | exact jl_d0 hd rfl | omega) (by first | exact Nat.le_of_ble_eq_true rfl | omega) (by first | exact Nat.le_of_ble_eq_true rfl | omega) ?_
          refine s_X7_isSign g (by first | exact jl_d1 hd rfl | omega) (fun z62 h62 b62 => sg_K1 ?_)
          (try simp only [fm_no, fm_one, fn_betw, fn_sign, fn_radix, fn_high, fn_low] at h62)
          refine sg_if_ne (pc := 65) (tgt := 72) (dc_X7_lay_47.2.1.1.2) (by decide) (fun c65 => ?_) (fun c65 => ?_)
          · refine sg_iconst (pc := 72) (z := 0) (dc_X7_lay_47.2.2.1.1) (by decide) ?_
            refine sg_ior (pc := 73) (dc_X7_lay_47.2.2.1.2) ?_
            refine sg_istore (pc := 74) (dc_X7_lay_47.2.2.2.1) (by decide) ?_
            first | refine sg_iincB (pc := 76) (dc_X7_lay_47.2.2.2.2) rfl (by decide) (by decide) (by omega) (by omega) ?_ | refine sg_iinc (pc := 76) (dc_X7_lay_47.2.2.2.2) rfl (by decide) (by decide) ?_
            refine sg_goto (pc := 79) (tgt := 38) (dc_X7_lay_79.1.1.1.1) (by decide) ?_
            refine sg_lsub (lv' := [(10, _), (7, _), (9, _), (8, _), (0, _), (1, _), (2, _), (3, _), (4, _), (5, _), (6, _)]) ⟨rfl, rfl, rfl, rfl, rfl, rfl, rfl, rfl, rfl, rfl, rfl, trivial⟩ ?_
            exact ih _ _ (by omega) (by omega)
          · refine sg_iconst (pc := 68) (z := 1) (dc_X7_lay_47.2.1.2.1) (by decide) ?_
            refine sg_goto (pc := 69) (tgt := 73) (dc_X7_lay_47.2.1.2.2) (by decide) ?_
            refine sg_ior (pc := 73) (dc_X7_lay_47.2.2.1.2) ?_
            refine sg_istore (pc := 74) (dc_X7_lay_47.2.2.2.1) (by decide) ?_
            first | refine sg_iincB (pc := 76) (dc_X7_lay_47.2.2.2.2) rfl (by decide) (by decide) (by omega) (by omega) ?_ | refine sg_iinc (pc := 76) (dc_X7_lay_47.2.2.2.2) rfl (by decide) (by decide) ?_
            refine sg_goto (pc := 79) (tgt := 38) (dc_X7_lay_79.1.1.1.1) (by decide) ?_
            refine sg_lsub (lv' := [(10, _), (7, _), (9, _), (8, _), (0, _), (1, _), (2, _), (3, _), (4, _), (5, _), (6, _)]) ⟨rfl, rfl, rfl, rfl, rfl, rfl, rfl, rfl, rfl, rfl, rfl, trivial⟩ ?_
            exact ih _ _ (by omega) (by omega)
  refine sg_lsub (lv' := [(10, _), (7, _), (9, _), (8, _), (0, _), (1, _), (2, _), (3, _), (4, _), (5, _), (6, _)]) ⟨rfl, rfl, rfl, rfl, rfl, rfl, rfl, rfl, rfl, rfl, rfl, trivial⟩ ?_
  exact loop38 _ _ _ (by omega) (Nat.lt_succ_self _)

set_option maxRecDepth 100000 in
theorem s_X7_write {w : sg_W} {Q : sg_O → sg_H → Prop} {h : sg_H} (g : sg_G w) {d : Nat} (hd : 9 ≤ d) {M : Nat} {row nr rx : Int}  (hx : md_M w h M) (hQ : ∀ (v : Int) (h' : sg_H), md_Y w h h' M → Q (.inl (some (sg_i v))) h') : sg_C w mi_X7_write d 44 560 [sg_r M, sg_i row, sg_i nr, sg_i rx] h Q := by
  refine sg_of pn_X7 (Nat.le_of_ble_eq_true rfl) ?_
  have y0 := md_Y0 hx
  have hk := hx.2.1
  refine sg_aload_n (pc := 0) (j := 0) (dc_X7_write_0.1.1.1.1) rfl rfl ?_
  refine sg_iload_n (pc := 1) (j := 1) (dc_X7_write_0.1.1.1.2) rfl rfl ?_
  refine sg_cS1 (pc := 2) (d' := d - 1) (mc' := 0) (ms' := 0) g (dc_X7_write_0.1.1.2.1) cb_X7_isNoRow ml_X7_68 ms_X7_isNoRow (Nat.le_of_ble_eq_true rfl) (by first | exact jl_d0 hd rfl | omega) (by first | exact Nat.le_of_ble_eq_true rfl | omega) (by first | exact Nat.le_of_ble_eq_true rfl | omega) ?_
  refine s_X7_isNoRow g (by first | exact jl_d1 hd rfl | omega) (fun z2 h2 b2 => sg_K1 ?_)
  (try simp only [fm_no, fm_one, fn_betw, fn_sign, fn_radix, fn_high, fn_low] at h2)
  refine sg_iconst (pc := 5) (z := 1) (dc_X7_write_0.1.1.2.2) (by decide) ?_
  refine sg_cE2 (pc := 6) (d' := d - 1) (mc' := 0) (ms' := 0) 8 g (dc_X7_write_0.1.2.1.1) cb_X7_start ml_X7_71 mn_X7_start rfl mv_X7_start (Nat.le_of_ble_eq_true rfl) (md_oc (by assumption)) (Nat.le_of_ble_eq_true rfl) (by first | exact jl_d0 hd rfl | omega) (by first | exact Nat.le_of_ble_eq_true rfl | omega) (by first | exact Nat.le_of_ble_eq_true rfl | omega) ?_
  refine s_X7_start g (by first | exact jl_d1 hd rfl | omega) (by omega) (by assumption) (fun v6 h6 b6 i6 t6 s6 u6 y6 => sg_K1 ?_)
  have x6 := y6.1
  have hk6 := x6.2.1
  have y6 := md_Yt (h0 := h) (by assumption) y6
  refine sg_if_ne (pc := 9) (tgt := 42) (dc_X7_write_0.1.2.1.2) (by decide) (fun c9 => ?_) (fun c9 => ?_)
  · refine sg_iconst (pc := 42) (z := 0) (dc_X7_write_31.1.2.1.2) (by decide) ?_
    refine sg_iret (pc := 43) (dc_X7_write_31.1.2.2.1) rfl (by first | exact Nat.le_of_ble_eq_true rfl | omega) (by first | exact Nat.le_of_ble_eq_true rfl | omega) ?_
    exact hQ _ _ (by assumption)
  · refine sg_aload_n (pc := 12) (j := 0) (dc_X7_write_0.1.2.2.1) rfl rfl ?_
    refine sg_iload_n (pc := 13) (j := 2) (dc_X7_write_0.1.2.2.2) rfl rfl ?_
    refine sg_iconst (pc := 14) (z := 0) (dc_X7_write_0.2.1.1.1) (by decide) ?_
    refine sg_ldc (pc := 15) (z := 999999) g (dc_X7_write_0.2.1.1.2) cn_X7_107 (by decide) ?_
    refine sg_cS3 (pc := 17) (d' := d - 1) (mc' := 0) (ms' := 0) g (dc_X7_write_0.2.1.2.1) cb_X7_isOf ml_X7_22 ms_X7_isOf (Nat.le_of_ble_eq_true rfl) (by first | exact jl_d0 hd rfl | omega) (by first | exact Nat.le_of_ble_eq_true rfl | omega) (by first | exact Nat.le_of_ble_eq_true rfl | omega) ?_
    refine s_X7_isOf g (by first | exact jl_d1 hd rfl | omega) (fun z17 h17 b17 => sg_K1 ?_)
    (try simp only [fm_no, fm_one, fn_betw, fn_sign, fn_radix, fn_high, fn_low] at h17)
    refine sg_if_eq (pc := 20) (tgt := 30) (dc_X7_write_0.2.1.2.2) (by decide) (fun c20 => ?_) (fun c20 => ?_)
    · refine sg_iconst (pc := 30) (z := 1) (dc_X7_write_0.2.2.2.2) (by decide) ?_
      refine sg_goto (pc := 31) (tgt := 35) (dc_X7_write_31.1.1.1.1) (by decide) ?_
      refine sg_iconst (pc := 35) (z := 2) (dc_X7_write_31.1.1.2.1) (by decide) ?_
      refine sg_cE2 (pc := 36) (d' := d - 1) (mc' := 0) (ms' := 0) 8 g (dc_X7_write_31.1.1.2.2) cb_X7_refuse ml_X7_45 mn_X7_refuse rfl mv_X7_refuse (Nat.le_of_ble_eq_true rfl) (md_oc (by assumption)) (Nat.le_of_ble_eq_true rfl) (by first | exact jl_d0 hd rfl | omega) (by first | exact Nat.le_of_ble_eq_true rfl | omega) (by first | exact Nat.le_of_ble_eq_true rfl | omega) ?_
      refine s_X7_refuse g (by first | exact jl_d1 hd rfl | omega) (by omega) (by assumption) (fun v36 h36 b36 i36 t36 s36 u36 y36 => sg_K1 ?_)
      have x36 := y36.1
      have hk36 := x36.2.1
      have y36 := md_Yt (h0 := h) (by assumption) y36
      refine sg_if_eq (pc := 39) (tgt := 44) (dc_X7_write_31.1.2.1.1) (by decide) (fun c39 => absurd c39 (by omega)) (fun c39 => ?_)
      refine sg_iconst (pc := 42) (z := 0) (dc_X7_write_31.1.2.1.2) (by decide) ?_
      refine sg_iret (pc := 43) (dc_X7_write_31.1.2.2.1) rfl (by first | exact Nat.le_of_ble_eq_true rfl | omega) (by first | exact Nat.le_of_ble_eq_true rfl | omega) ?_
      exact hQ _ _ (by assumption)
    · refine sg_iload_n (pc := 23) (j := 3) (dc_X7_write_0.2.2.1.1) rfl rfl ?_
      refine sg_cS1 (pc := 24) (d' := d - 1) (mc' := 0) (ms' := 0) g (dc_X7_write_0.2.2.1.2) cb_X7_isRadix ml_X7_37 ms_X7_isRadix (Nat.le_of_ble_eq_true rfl) (by first | exact jl_d0 hd rfl | omega) (by first | exact Nat.le_of_ble_eq_true rfl | omega) (by first | exact Nat.le_of_ble_eq_true rfl | omega) ?_
      refine s_X7_isRadix g (by first | exact jl_d1 hd rfl | omega) (fun z24 h24 b24 => sg_K1 ?_)
      (try simp only [fm_no, fm_one, fn_betw, fn_sign, fn_radix, fn_high, fn_low] at h24)
      refine sg_if_ne (pc := 27) (tgt := 34) (dc_X7_write_0.2.2.2.1) (by decide) (fun c27 => ?_) (fun c27 => ?_)
      · refine sg_iconst (pc := 34) (z := 0) (dc_X7_write_31.1.1.1.2) (by decide) ?_
        refine sg_iconst (pc := 35) (z := 2) (dc_X7_write_31.1.1.2.1) (by decide) ?_
        refine sg_cE2 (pc := 36) (d' := d - 1) (mc' := 0) (ms' := 0) 8 g (dc_X7_write_31.1.1.2.2) cb_X7_refuse ml_X7_45 mn_X7_refuse rfl mv_X7_refuse (Nat.le_of_ble_eq_true rfl) (md_oc (by assumption)) (Nat.le_of_ble_eq_true rfl) (by first | exact jl_d0 hd rfl | omega) (by first | exact Nat.le_of_ble_eq_true rfl | omega) (by first | exact Nat.le_of_ble_eq_true rfl | omega) ?_
        refine s_X7_refuse g (by first | exact jl_d1 hd rfl | omega) (by omega) (by assumption) (fun v36 h36 b36 i36 t36 s36 u36 y36 => sg_K1 ?_)
        have x36 := y36.1
        have hk36 := x36.2.1
        have y36 := md_Yt (h0 := h) (by assumption) y36
        refine sg_if_eq (pc := 39) (tgt := 44) (dc_X7_write_31.1.2.1.1) (by decide) (fun c39 => ?_) (fun c39 => ?_)
        · refine sg_iconst (pc := 44) (z := 1) (dc_X7_write_31.1.2.2.2) (by decide) ?_
          refine sg_newa (t := 100) (N := 1) (pc := 45) g (dc_X7_write_31.2.1.1.1) ac_int rfl (by decide) (by decide) rfl rfl (by decide) (by omega) (by omega) (by omega) (by omega) ?_
          refine sg_dup (pc := 47) (dc_X7_write_31.2.1.1.2) rfl ?_
          refine sg_iconst (pc := 48) (z := 0) (dc_X7_write_31.2.1.2.1) (by decide) ?_
          refine sg_iload_n (pc := 49) (j := 2) (dc_X7_write_31.2.1.2.2) rfl rfl ?_
          refine sg_iload_n (pc := 50) (j := 3) (dc_X7_write_31.2.2.1.1) rfl rfl ?_
          first | refine sg_iremP (pc := 51) (dc_X7_write_31.2.2.1.2) (by omega) (by omega) ?_ | refine sg_irem (pc := 51) (dc_X7_write_31.2.2.1.2) (by first | omega | assumption) ?_
          refine sg_iload_n (pc := 52) (j := 3) (dc_X7_write_31.2.2.2.1) rfl rfl ?_
          refine sg_cS2 (pc := 53) (d' := d - 1) (mc' := 0) (ms' := 0) g (dc_X7_write_31.2.2.2.2) cb_X7_digitOf ml_X7_108 ms_X7_digitOf (Nat.le_of_ble_eq_true rfl) (by first | exact jl_d0 hd rfl | omega) (by first | exact Nat.le_of_ble_eq_true rfl | omega) (by first | exact Nat.le_of_ble_eq_true rfl | omega) ?_
          refine s_X7_digitOf g (by first | exact jl_d1 hd rfl | omega) (fun z53 h53 => sg_K1 ?_)
          (try simp only [fm_no, fm_one, fn_betw, fn_sign, fn_radix, fn_high, fn_low] at h53)
          refine md_ast (pc := 56) (dc_X7_write_56.1.1.1.1) (md_new (c := 0)) ck_v0 (by omega) (by omega) (fun h56 t56 => ?_)
          refine sg_astore (pc := 57) (dc_X7_write_56.1.1.1.2) (by decide) ?_
          refine sg_iload_n (pc := 59) (j := 2) (dc_X7_write_56.1.1.2.1) rfl rfl ?_
          refine sg_iload_n (pc := 60) (j := 3) (dc_X7_write_56.1.1.2.2) rfl rfl ?_
          first | refine sg_idivP (pc := 61) (dc_X7_write_56.1.2.1.1) (by omega) (by omega) (by omega) ?_ | refine sg_idiv (pc := 61) (dc_X7_write_56.1.2.1.1) (by first | omega | assumption) ?_
          refine sg_istore (pc := 62) (dc_X7_write_56.1.2.1.2) (by decide) ?_
          have loop64 : ∀ (N : Nat) (h1 : sg_H) (l : Int) (a m k1 n1 : Nat), md_E h36 h1 → md_A 0 h1 a m → 1 ≤ m ∧ m ≤ 20 → 0 ≤ l ∧ l ≤ jt m → k1 + 1 ≤ 2 * m → n1 ≤ 22 * m → l.toNat < N → sg_R w mi_X7_write d 44 560 Q 64 [(5, sg_i l), (0, sg_r M), (1, sg_i row), (2, sg_i nr), (3, sg_i rx), (4, sg_r a)] [] h1 k1 n1 := by
            intro N
            induction N with
            | zero => intro h1 l a m k1 n1 E1 A1 m1 l0 kb nb hm; exact absurd hm (Nat.not_lt_zero _)
            | succ N ih =>
              intro h1 l a m k1 n1 E1 A1 m1 l0 kb nb hm
              have x1 : md_M w h1 M := md_ME x36 E1
              have hk1 := x1.2.1
              have y1 : md_Y w h h1 M := md_YE y36 E1
              refine sg_iload (pc := 64) (dc_X7_write_56.1.2.2.1) rfl ?_
              refine sg_if_le (pc := 66) (tgt := 99) (dc_X7_write_56.1.2.2.2) (by decide) (fun c66 => ?_) (fun c66 => ?_)
              · refine sg_aload_n (pc := 99) (j := 0) (dc_X7_write_79.2.1.2.1) rfl rfl ?_
                refine md_grw (pc := 100) g (dc_X7_write_79.2.1.2.2) fk_X7_9 (by assumption) (fun r100 => ?_)
                refine sg_iload_n (pc := 103) (j := 1) (dc_X7_write_79.2.2.1.1) rfl rfl ?_
                first | refine md_alr (pc := 104) (dc_X7_write_79.2.2.1.2) (by assumption) (by omega) (by omega) (fun A104 l104 => ?_) | refine md_alt (pc := 104) (dc_X7_write_79.2.2.1.2) (by assumption) (by omega) (by omega) (fun A104 l104 => ?_)
                refine md_len (pc := 105) (dc_X7_write_79.2.2.2.1) (by assumption) (by omega) ?_
                refine sg_aload (pc := 106) (dc_X7_write_79.2.2.2.2) rfl ?_
                refine md_len (pc := 108) (dc_X7_write_108.1.1.1.1) A1 (by omega) ?_
                first | refine sg_iaddB (pc := 109) (dc_X7_write_108.1.1.1.2) (by omega) (by omega) ?_ | refine sg_iadd (pc := 109) (dc_X7_write_108.1.1.1.2) ?_
                refine sg_bipush (pc := 110) (z := 40) (dc_X7_write_108.1.1.2.1) (by decide) ?_
                refine sg_icmp_le (pc := 112) (tgt := 118) (dc_X7_write_108.1.1.2.2) (by decide) (fun c112 => ?_) (fun c112 => ?_)
                · refine sg_aload_n (pc := 118) (j := 0) (dc_X7_write_108.1.2.2.1) rfl rfl ?_
                  refine sg_iload_n (pc := 119) (j := 1) (dc_X7_write_108.1.2.2.2) rfl rfl ?_
                  refine sg_aload_n (pc := 120) (j := 0) (dc_X7_write_108.2.1.1.1) rfl rfl ?_
                  refine md_grw (pc := 121) g (dc_X7_write_108.2.1.1.2) fk_X7_9 (by assumption) (fun r121 => ?_)
                  refine sg_iload_n (pc := 124) (j := 1) (dc_X7_write_108.2.1.2.1) rfl rfl ?_
                  first | refine md_alr (pc := 125) (dc_X7_write_108.2.1.2.2) (by assumption) (by omega) (by omega) (fun A125 l125 => ?_) | refine md_alt (pc := 125) (dc_X7_write_108.2.1.2.2) (by assumption) (by omega) (by omega) (fun A125 l125 => ?_)
                  refine sg_aload (pc := 126) (dc_X7_write_108.2.2.1.1) rfl ?_
                  refine sg_cS2 (pc := 128) (d' := d - 1) (mc' := 1) (ms' := ((md_n h1 (md_a h1 (md_r h1 M) row)) + m)) g (dc_X7_write_108.2.2.1.2) cb_X7_joined ml_X7_61 ms_X7_joined (Nat.le_of_ble_eq_true rfl) (by first | exact jl_d0 hd rfl | omega) (by first | exact Nat.le_of_ble_eq_true rfl | omega) (by first | exact Nat.le_of_ble_eq_true rfl | omega) ?_
                  refine s_X7_joined (c := 0) g (by first | exact jl_d1 hd rfl | omega) (by assumption) A1 (by omega) (by omega) (fun h128 t128 => sg_K1 ?_)
                  have x128 : md_M w h128 M := md_ME (by assumption) (md_TE t128)
                  have hk128 := x128.2.1
                  have y128 : md_Y w h h128 M := md_YE (by assumption) (md_TE t128)
                  refine sg_cE2 (pc := 131) (d' := d - 1) (mc' := 2) (ms' := 16) 8 g (dc_X7_write_108.2.2.2.1) cb_X7_set ml_X7_78 mn_X7_set rfl mv_X7_set (Nat.le_of_ble_eq_true rfl) (md_oc (by assumption)) (Nat.le_of_ble_eq_true rfl) (by first | exact jl_d0 hd rfl | omega) (by first | exact Nat.le_of_ble_eq_true rfl | omega) (by first | exact Nat.le_of_ble_eq_true rfl | omega) ?_
                  refine s_X7_set g (by first | exact jl_d1 hd rfl | omega) (by omega) (by assumption) (fun q => ⟨t128.2.2, (by omega)⟩) (fun q => absurd q (by omega)) (fun h131 y131 => sg_K1 ?_)
                  have x131 := y131.1
                  have hk131 := x131.2.1
                  have y131 := md_Yt (h0 := h) (by assumption) y131
                  refine sg_pop (pc := 134) (dc_X7_write_108.2.2.2.2) rfl ?_
                  refine sg_aload (pc := 135) (dc_X7_write_135.1.1) rfl ?_
                  refine md_len (pc := 137) (dc_X7_write_135.1.2) (md_AP (md_AT A1 t128) (show md_Y w h128 h131 M by assumption).2) (by omega) ?_
                  refine sg_iret (pc := 138) (dc_X7_write_135.2.1) rfl (by first | exact Nat.le_of_ble_eq_true rfl | omega) (by first | exact Nat.le_of_ble_eq_true rfl | omega) ?_
                  exact hQ _ _ (by assumption)
                · refine sg_bipush (pc := 115) (z := -9) (dc_X7_write_108.1.2.1.1) (by decide) ?_
                  refine sg_iret (pc := 117) (dc_X7_write_108.1.2.1.2) rfl (by first | exact Nat.le_of_ble_eq_true rfl | omega) (by first | exact Nat.le_of_ble_eq_true rfl | omega) ?_
                  exact hQ _ _ (by assumption)
              · have m19 := jt_pos (by omega) l0.2
                have jd := jt_div l0.1 l0.2 (show 2 ≤ rx by omega)
                have jl : l / rx < l := by have := Int.ediv_mul_le l (show rx ≠ 0 by omega); have := Int.mul_le_mul_of_nonneg_left (show 2 ≤ rx by omega) jd.1; omega
                have jb : l ≤ 999999 := Int.le_trans l0.2 (by have := jt_anti 0 m; rw [Nat.zero_add] at this; exact this)
                refine sg_iconst (pc := 69) (z := 1) (dc_X7_write_56.2.1.1.1) (by decide) ?_
                refine sg_newa (t := 100) (N := 1) (pc := 70) g (dc_X7_write_56.2.1.1.2) ac_int rfl (by decide) (by decide) rfl rfl (by decide) (by omega) (by omega) (by omega) (by omega) ?_
                refine sg_dup (pc := 72) (dc_X7_write_56.2.1.2.1) rfl ?_
                refine sg_iconst (pc := 73) (z := 0) (dc_X7_write_56.2.1.2.2) (by decide) ?_
                refine sg_iload (pc := 74) (dc_X7_write_56.2.2.1.1) rfl ?_
                refine sg_iload_n (pc := 76) (j := 3) (dc_X7_write_56.2.2.1.2) rfl rfl ?_
                first | refine sg_iremP (pc := 77) (dc_X7_write_56.2.2.2.1) (by omega) (by omega) ?_ | refine sg_irem (pc := 77) (dc_X7_write_56.2.2.2.1) (by first | omega | assumption) ?_
                refine sg_iload_n (pc := 78) (j := 3) (dc_X7_write_56.2.2.2.2) rfl rfl ?_
                refine sg_cS2 (pc := 79) (d' := d - 1) (mc' := 0) (ms' := 0) g (dc_X7_write_79.1.1.1.1) cb_X7_digitOf ml_X7_108 ms_X7_digitOf (Nat.le_of_ble_eq_true rfl) (by first | exact jl_d0 hd rfl | omega) (by first | exact Nat.le_of_ble_eq_true rfl | omega) (by first | exact Nat.le_of_ble_eq_true rfl | omega) ?_
                refine s_X7_digitOf g (by first | exact jl_d1 hd rfl | omega) (fun z79 h79 => sg_K1 ?_)
                (try simp only [fm_no, fm_one, fn_betw, fn_sign, fn_radix, fn_high, fn_low] at h79)
                refine md_ast (pc := 82) (dc_X7_write_79.1.1.1.2) (md_new (c := 0)) ck_v0 (by omega) (by omega) (fun h82 t82 => ?_)
                refine sg_aload (pc := 83) (dc_X7_write_79.1.1.2.1) rfl ?_
                refine sg_cS2 (pc := 85) (d' := d - 1) (mc' := 1) (ms' := 1 + m) g (dc_X7_write_79.1.1.2.2) cb_X7_joined ml_X7_61 ms_X7_joined (Nat.le_of_ble_eq_true rfl) (by first | exact jl_d0 hd rfl | omega) (by first | exact Nat.le_of_ble_eq_true rfl | omega) (by first | exact Nat.le_of_ble_eq_true rfl | omega) ?_
                refine s_X7_joined g (by first | exact jl_d1 hd rfl | omega) t82.2.2 (md_AT A1 t82) (by decide) (by omega) (fun h85 t85 => sg_K1 ?_)
                have E85 := md_Et E1 (md_Et (md_TE t82) (md_TE t85))
                refine sg_astore (pc := 88) (dc_X7_write_79.1.2.1.1) (by decide) ?_
                refine sg_iload (pc := 90) (dc_X7_write_79.1.2.1.2) rfl ?_
                refine sg_iload_n (pc := 92) (j := 3) (dc_X7_write_79.1.2.2.1) rfl rfl ?_
                first | refine sg_idivP (pc := 93) (dc_X7_write_79.1.2.2.2) (by omega) (by omega) (by omega) ?_ | refine sg_idiv (pc := 93) (dc_X7_write_79.1.2.2.2) (by first | omega | assumption) ?_
                refine sg_istore (pc := 94) (dc_X7_write_79.2.1.1.1) (by decide) ?_
                refine sg_goto (pc := 96) (tgt := 64) (dc_X7_write_79.2.1.1.2) (by decide) ?_
                refine sg_lsub (lv' := [(5, _), (0, _), (1, _), (2, _), (3, _), (4, _)]) ⟨rfl, rfl, rfl, rfl, rfl, rfl, trivial⟩ ?_
                exact ih _ _ _ _ _ _ E85 t85.2.2 (by omega) (by rw [Nat.add_comm]; exact jd) (by omega) (by omega) (by omega)
          refine sg_lsub (lv' := [(5, _), (0, _), (1, _), (2, _), (3, _), (4, _)]) ⟨rfl, rfl, rfl, rfl, rfl, rfl, trivial⟩ ?_
          exact loop64 _ _ _ _ _ _ _ (md_TE t56) t56.2.2 (by decide) (jt_div (by omega) (show nr ≤ jt 0 by show nr ≤ 999999; omega) (by omega)) (by decide) (by decide) (Nat.lt_succ_self _)
        · refine sg_iconst (pc := 42) (z := 0) (dc_X7_write_31.1.2.1.2) (by decide) ?_
          refine sg_iret (pc := 43) (dc_X7_write_31.1.2.2.1) rfl (by first | exact Nat.le_of_ble_eq_true rfl | omega) (by first | exact Nat.le_of_ble_eq_true rfl | omega) ?_
          exact hQ _ _ (by assumption)
      · refine sg_iconst (pc := 30) (z := 1) (dc_X7_write_0.2.2.2.2) (by decide) ?_
        refine sg_goto (pc := 31) (tgt := 35) (dc_X7_write_31.1.1.1.1) (by decide) ?_
        refine sg_iconst (pc := 35) (z := 2) (dc_X7_write_31.1.1.2.1) (by decide) ?_
        refine sg_cE2 (pc := 36) (d' := d - 1) (mc' := 0) (ms' := 0) 8 g (dc_X7_write_31.1.1.2.2) cb_X7_refuse ml_X7_45 mn_X7_refuse rfl mv_X7_refuse (Nat.le_of_ble_eq_true rfl) (md_oc (by assumption)) (Nat.le_of_ble_eq_true rfl) (by first | exact jl_d0 hd rfl | omega) (by first | exact Nat.le_of_ble_eq_true rfl | omega) (by first | exact Nat.le_of_ble_eq_true rfl | omega) ?_
        refine s_X7_refuse g (by first | exact jl_d1 hd rfl | omega) (by omega) (by assumption) (fun v36 h36 b36 i36 t36 s36 u36 y36 => sg_K1 ?_)
        have x36 := y36.1
        have hk36 := x36.2.1
        have y36 := md_Yt (h0 := h) (by assumption) y36
        refine sg_if_eq (pc := 39) (tgt := 44) (dc_X7_write_31.1.2.1.1) (by decide) (fun c39 => absurd c39 (by omega)) (fun c39 => ?_)
        refine sg_iconst (pc := 42) (z := 0) (dc_X7_write_31.1.2.1.2) (by decide) ?_
        refine sg_iret (pc := 43) (dc_X7_write_31.1.2.2.1) rfl (by first | exact Nat.le_of_ble_eq_true rfl | omega) (by first | exact Nat.le_of_ble_eq_true rfl | omega) ?_
        exact hQ _ _ (by assumption)

