/-- 999999 halved again and again -/
def jt : Nat → Int
  | 0 => 999999
  | m + 1 => jt m / 2
theorem jt_nn : ∀ m, 0 ≤ jt m
  | 0 => by decide
  | m + 1 => Int.ediv_nonneg (jt_nn m) (by decide)
theorem jt_anti (m : Nat) : ∀ j, jt (m + j) ≤ jt m
  | 0 => Int.le_refl _
  | j + 1 => by
    have h1 := jt_anti m j
    have h2 := jt_nn (m + j)
    have e : jt (m + (j + 1)) = jt (m + j) / 2 := rfl
    omega
theorem jt_pos {m : Nat} {x : Int} (h : 0 < x) (h2 : x ≤ jt m) : m ≤ 19 := by
  rcases Nat.lt_or_ge m 20 with c | c
  · omega
  · have h3 := jt_anti 20 (m - 20)
    rw [show 20 + (m - 20) = m by omega] at h3
    have h4 : jt 20 = 0 := by decide
    omega
theorem jt_div {m : Nat} {x r : Int} (h0 : 0 ≤ x) (h1 : x ≤ jt m) (h2 : 2 ≤ r) : 0 ≤ x / r ∧ x / r ≤ jt (m + 1) := by
  have a := Int.ediv_nonneg h0 (show (0 : Int) ≤ r by omega)
  have b := Int.ediv_mul_le x (show r ≠ 0 by omega)
  have c := Int.mul_le_mul_of_nonneg_left h2 a
  have e : jt (m + 1) = jt m / 2 := rfl
  exact ⟨a, by omega⟩
/-- the first n of these numbers have one that is no SIGN -/
def fs_bd (K : List Int) : Nat → Int
  | 0 => 0
  | n + 1 => if K.getD n 0 ≠ -1 ∧ (K.getD n 0 < 0 ∨ 255 < K.getD n 0) then 1 else fs_bd K n
theorem fs_bds {K : List Int} {n : Nat} : fs_bd K (n + 1) = if K.getD n 0 ≠ -1 ∧ (K.getD n 0 < 0 ∨ 255 < K.getD n 0) then 1 else fs_bd K n := rfl
theorem fs_bd01 {K : List Int} : ∀ n, fs_bd K n = 0 ∨ fs_bd K n = 1
  | 0 => Or.inl rfl
  | n + 1 => by
    rw [fs_bds]
    split
    · exact Or.inr rfl
    · exact fs_bd01 n
theorem fo_or {s : Int} (h : s = 0 ∨ s = 1) : sg_or s 0 = s ∧ sg_or s 1 = 1 := by
  rcases h with rfl | rfl <;> decide
theorem fo_bd4 {a b c e : Int} : (fs_bd [a, b, c, e] 4 ≠ 0) ↔ ((a ≠ -1 ∧ (a < 0 ∨ 255 < a)) ∨ (b ≠ -1 ∧ (b < 0 ∨ 255 < b)) ∨ (c ≠ -1 ∧ (c < 0 ∨ 255 < c)) ∨ (e ≠ -1 ∧ (e < 0 ∨ 255 < e))) := by
  rw [fs_bds, fs_bds, fs_bds, fs_bds]
  show ((if e ≠ -1 ∧ (e < 0 ∨ 255 < e) then (1 : Int) else if c ≠ -1 ∧ (c < 0 ∨ 255 < c) then 1 else if b ≠ -1 ∧ (b < 0 ∨ 255 < b) then 1 else if a ≠ -1 ∧ (a < 0 ∨ 255 < a) then 1 else 0) ≠ 0) ↔ _
  (repeat' split) <;> omega
theorem fo_lay {a b c e : Int} : [a, b, c, e].filter (fun u => decide (u ≠ -1)) = fs_lay a b c e := by
  unfold fs_lay
  by_cases h1 : a = -1 <;> by_cases h2 : b = -1 <;> by_cases h3 : c = -1 <;> by_cases h4 : e = -1 <;> simp [h1, h2, h3, h4]
/-- one digit ahead -/
theorem fo_dig {x r : Int} {m : Nat} : [fs_dg x r m] ++ tt_b m (fun j => fs_dg x r (m - 1 - j)) = tt_b (m + 1) (fun j => fs_dg x r (m + 1 - 1 - j)) := by
  refine tt_eq 0 (by rw [List.length_append, tt_len]; simp; omega) (fun j hj => ?_)
  rw [gd_app]
  by_cases c : j < [fs_dg x r m].length
  · rw [if_pos c]
    have : j = 0 := by simpa using c
    subst this
    rfl
  · rw [if_neg c]
    simp only [List.length_cons, List.length_nil] at c ⊢
    rw [tt_get (by omega)]
    congr 1
    omega
def bb (u : Int) : Int := if u = -1 then 0 else 1
theorem fo_bb {u : Int} : bb u ≠ 0 ↔ decide (u ≠ -1) = true := by
  unfold bb
  rw [decide_eq_true_iff]
  split
  · rename_i q
    exact ⟨fun r => absurd rfl r, fun r => absurd q r⟩
  · rename_i q
    exact ⟨fun _ => q, fun _ => by decide⟩

set_option maxRecDepth 100000 in
set_option maxHeartbeats 1000000 in
theorem f_X7_lay {w : sg_W} {Q : sg_O → sg_H → Prop} {h : sg_H} (g : sg_G w) {d : Nat} (hd : 9 ≤ d) {M : Nat} {row a b c e : Int} {A : fa_A} {L : List Int} (hA : md_ab h M = A) (hL : fa_L A row.toNat = L) (ok : fa_ok A) (hx : md_M w h M) (hQ : ∀ (v : Int) (h' : sg_H), ((row < 0 ∨ 4 ≤ row) → md_t h' M = 1) → (¬ (row < 0 ∨ 4 ≤ row) → ((a ≠ -1 ∧ (a < 0 ∨ 255 < a)) ∨ (b ≠ -1 ∧ (b < 0 ∨ 255 < b)) ∨ (c ≠ -1 ∧ (c < 0 ∨ 255 < c)) ∨ (e ≠ -1 ∧ (e < 0 ∨ 255 < e))) → md_t h' M = 2) → (¬ (row < 0 ∨ 4 ≤ row) → ¬ ((a ≠ -1 ∧ (a < 0 ∨ 255 < a)) ∨ (b ≠ -1 ∧ (b < 0 ∨ 255 < b)) ∨ (c ≠ -1 ∧ (c < 0 ∨ 255 < c)) ∨ (e ≠ -1 ∧ (e < 0 ∨ 255 < e))) → (40 < L.length + (fs_lay a b c e).length) → md_t h' M = 3) → (¬ (row < 0 ∨ 4 ≤ row) → ¬ ((a ≠ -1 ∧ (a < 0 ∨ 255 < a)) ∨ (b ≠ -1 ∧ (b < 0 ∨ 255 < b)) ∨ (c ≠ -1 ∧ (c < 0 ∨ 255 < c)) ∨ (e ≠ -1 ∧ (e < 0 ∨ 255 < e))) → ¬ (40 < L.length + (fs_lay a b c e).length) → md_t h' M = 0) → (md_t h' M = 0 → v = ((L ++ fs_lay a b c e).length : Int) ∧ md_ab h' M = fa_put A row.toNat (L ++ fs_lay a b c e)) → (md_t h' M ≠ 0 → md_ab h' M = A) → md_W w h h' M → Q (.inl (some (sg_i v))) h') : sg_C w mi_X7_lay d 86 1800 [sg_r M, sg_i row, sg_i a, sg_i b, sg_i c, sg_i e] h Q := by
  refine sg_of pn_X7 (Nat.le_of_ble_eq_true rfl) ?_
  have y0 := md_Y0 hx
  have hk := hx.2.1
  refine sg_iconst (pc := 0) (z := 4) (dc_X7_lay_0.1.1.1.1) (by decide) ?_
  refine sg_newa (t := 100) (N := 4) (pc := 1) g (dc_X7_lay_0.1.1.1.2) ac_int rfl (by decide) (by decide) rfl rfl (by decide) (by omega) (by omega) (by omega) (by omega) ?_
  refine sg_dup (pc := 3) (dc_X7_lay_0.1.1.2.1) rfl ?_
  refine sg_iconst (pc := 4) (z := 0) (dc_X7_lay_0.1.1.2.2) (by decide) ?_
  refine sg_iload_n (pc := 5) (j := 2) (dc_X7_lay_0.1.2.1.1) rfl rfl ?_
  refine md_astF (pc := 6) (dc_X7_lay_0.1.2.1.2) (md_newF (c := 0)) ck_v0 (by decide) (Nat.le_of_ble_eq_true rfl) (fun h6 t6 => ?_)
  have t6 : md_F 0 h h6 [a, 0, 0, 0] := t6
  refine sg_dup (pc := 7) (dc_X7_lay_0.1.2.2.1) rfl ?_
  refine sg_iconst (pc := 8) (z := 1) (dc_X7_lay_0.1.2.2.2) (by decide) ?_
  refine sg_iload_n (pc := 9) (j := 3) (dc_X7_lay_0.2.1.1.1) rfl rfl ?_
  refine md_astF (pc := 10) (dc_X7_lay_0.2.1.1.2) t6 ck_v0 (by decide) (Nat.le_of_ble_eq_true rfl) (fun h10 t10 => ?_)
  have t10 : md_F 0 h h10 [a, b, 0, 0] := t10
  refine sg_dup (pc := 11) (dc_X7_lay_0.2.1.2.1) rfl ?_
  refine sg_iconst (pc := 12) (z := 2) (dc_X7_lay_0.2.1.2.2) (by decide) ?_
  refine sg_iload (pc := 13) (dc_X7_lay_0.2.2.1.1) rfl ?_
  refine md_astF (pc := 15) (dc_X7_lay_0.2.2.1.2) t10 ck_v0 (by decide) (Nat.le_of_ble_eq_true rfl) (fun h15 t15 => ?_)
  have t15 : md_F 0 h h15 [a, b, c, 0] := t15
  refine sg_dup (pc := 16) (dc_X7_lay_0.2.2.2.1) rfl ?_
  refine sg_iconst (pc := 17) (z := 3) (dc_X7_lay_0.2.2.2.2) (by decide) ?_
  refine sg_iload (pc := 18) (dc_X7_lay_18.1.1.1.1) rfl ?_
  refine md_astF (pc := 20) (dc_X7_lay_18.1.1.1.2) t15 ck_v0 (by decide) (Nat.le_of_ble_eq_true rfl) (fun h20 t20 => ?_)
  have t20 : md_F 0 h h20 [a, b, c, e] := t20
  refine sg_astore (pc := 21) (dc_X7_lay_18.1.1.2.1) (by decide) ?_
  refine sg_iconst (pc := 23) (z := 0) (dc_X7_lay_18.1.1.2.2) (by decide) ?_
  refine sg_istore (pc := 24) (dc_X7_lay_18.1.2.1.1) (by decide) ?_
  refine sg_aload (pc := 26) (dc_X7_lay_18.1.2.1.2) rfl ?_
  refine sg_astore (pc := 28) (dc_X7_lay_18.1.2.2.1) (by decide) ?_
  refine sg_aload (pc := 30) (dc_X7_lay_18.1.2.2.2) rfl ?_
  refine md_xlen (pc := 32) (dc_X7_lay_18.2.1.1.1) (md_FX t20) (Nat.le_of_ble_eq_true rfl) ?_
  refine sg_istore (pc := 33) (dc_X7_lay_18.2.1.1.2) (by decide) ?_
  refine sg_iconst (pc := 35) (z := 0) (dc_X7_lay_18.2.1.2.1) (by decide) ?_
  refine sg_istore (pc := 36) (dc_X7_lay_18.2.1.2.2) (by decide) ?_
  have loop38 : ∀ (N : Nat) (p s : Int), (0 ≤ p ∧ p ≤ 4) → (s = fs_bd [a, b, c, e] p.toNat) → (4 - p).toNat < N → sg_R w mi_X7_lay d 86 1800 Q 38 [(10, sg_i p), (7, sg_i s), (9, sg_i (([a, b, c, e] : List Int).length : Int)), (8, sg_r h.1), (0, sg_r M), (1, sg_i row), (2, sg_i a), (3, sg_i b), (4, sg_i c), (5, sg_i e), (6, sg_r h.1)] [] h20 1 4 := by
    intro N
    induction N with
    | zero => intro p s p0 s0 hm; exact absurd hm (Nat.not_lt_zero _)
    | succ N ih =>
      intro p s p0 s0 hm
      have x20 : md_M w h20 M := md_ME hx (md_FE t20)
      have hk20 := x20.2.1
      have y20 : md_Y w h h20 M := md_YE y0 (md_FE t20)
      have sb := fs_bd01 (K := [a, b, c, e]) p.toNat
      rw [← s0] at sb
      have so := fo_or sb
      have hlen4 : (([a, b, c, e] : List Int).length : Int) = 4 := rfl
      refine sg_iload (pc := 38) (dc_X7_lay_18.2.2.1.1) rfl ?_
      refine sg_iload (pc := 40) (dc_X7_lay_18.2.2.1.2) rfl ?_
      refine sg_icmp_ge (pc := 42) (tgt := 82) (dc_X7_lay_18.2.2.2.1) (by decide) (fun c42 => ?_) (fun c42 => ?_)
      · have b4 := fo_bd4 (a := a) (b := b) (c := c) (e := e)
        have s4 : s = fs_bd [a, b, c, e] 4 := by rw [s0, show p.toNat = 4 by have : (([a, b, c, e] : List Int).length : Int) = 4 := rfl; omega]
        rw [← s4] at b4
        replace b4 : jk_P _ := b4
        refine sg_aload_n (pc := 82) (j := 0) (dc_X7_lay_79.1.1.1.2) rfl rfl ?_
        refine sg_iload_n (pc := 83) (j := 1) (dc_X7_lay_79.1.1.2.1) rfl rfl ?_
        refine sg_cS1 (pc := 84) (d' := d - 1) (mc' := 0) (ms' := 0) g (dc_X7_lay_79.1.1.2.2) cb_X7_isNoRow ml_X7_68 ms_X7_isNoRow (Nat.le_of_ble_eq_true rfl) (by first | exact jl_d0 hd rfl | omega) (by first | exact Nat.le_of_ble_eq_true rfl | omega) (by first | exact Nat.le_of_ble_eq_true rfl | omega) ?_
        refine s_X7_isNoRow g (by first | exact jl_d1 hd rfl | omega) (fun z84 h84 b84 => sg_K1 ?_)
        (try simp only [fm_no, fm_one, fn_betw, fn_sign, fn_radix, fn_high, fn_low, if_true, if_false] at h84)
        refine sg_iconst (pc := 87) (z := 1) (dc_X7_lay_79.1.2.1.1) (by decide) ?_
        refine sg_cE2 (pc := 88) (d' := d - 1) (mc' := 0) (ms' := 0) 8 g (dc_X7_lay_79.1.2.1.2) cb_X7_start ml_X7_71 mn_X7_start rfl mv_X7_start (Nat.le_of_ble_eq_true rfl) (md_oc (by assumption)) (Nat.le_of_ble_eq_true rfl) (by first | exact jl_d0 hd rfl | omega) (by first | exact Nat.le_of_ble_eq_true rfl | omega) (by first | exact Nat.le_of_ble_eq_true rfl | omega) ?_
        refine s_X7_start g (by first | exact jl_d1 hd rfl | omega) (by omega) (by assumption) (fun v88 h88 b88 i88 t88 s88 u88 y88 => sg_K1 ?_)
        have x88 := y88.1
        have hk88 := x88.2.1
        have y88 := md_Yt (h0 := h) (by assumption) y88
        refine sg_if_ne (pc := 91) (tgt := 104) (dc_X7_lay_79.1.2.2.1) (by decide) (fun c91 => ?_) (fun c91 => ?_)
        · refine sg_iconst (pc := 104) (z := 0) (dc_X7_lay_79.2.2.1.1) (by decide) ?_
          refine sg_iret (pc := 105) (dc_X7_lay_79.2.2.1.2) rfl (by first | exact Nat.le_of_ble_eq_true rfl | omega) (by first | exact Nat.le_of_ble_eq_true rfl | omega) ?_
          exact hQ _ _ (by omega) (fun _ q2 => by
            have q3 : s ≠ 0 := Iff.mpr b4 q2
            clear q2
            omega) (fun _ q2 => by
            have q3 : s = 0 := Classical.byContradiction (fun e => q2 (Iff.mp b4 e))
            clear q2
            omega) (fun _ q2 => by
            have q3 : s = 0 := Classical.byContradiction (fun e => q2 (Iff.mp b4 e))
            clear q2
            omega) (fun q => absurd q (by omega)) (fun _ => md_Ya (by assumption) hA) (md_YW (by assumption))
        · refine sg_aload_n (pc := 94) (j := 0) (dc_X7_lay_79.1.2.2.2) rfl rfl ?_
          refine sg_iload (pc := 95) (dc_X7_lay_79.2.1.1.1) rfl ?_
          refine sg_iconst (pc := 97) (z := 2) (dc_X7_lay_79.2.1.1.2) (by decide) ?_
          refine sg_cE2 (pc := 98) (d' := d - 1) (mc' := 0) (ms' := 0) 8 g (dc_X7_lay_79.2.1.2.1) cb_X7_refuse ml_X7_45 mn_X7_refuse rfl mv_X7_refuse (Nat.le_of_ble_eq_true rfl) (md_oc (by assumption)) (Nat.le_of_ble_eq_true rfl) (by first | exact jl_d0 hd rfl | omega) (by first | exact Nat.le_of_ble_eq_true rfl | omega) (by first | exact Nat.le_of_ble_eq_true rfl | omega) ?_
          refine s_X7_refuse g (by first | exact jl_d1 hd rfl | omega) (by omega) (by assumption) (fun v98 h98 b98 i98 t98 s98 u98 y98 => sg_K1 ?_)
          have x98 := y98.1
          have hk98 := x98.2.1
          have y98 := md_Yt (h0 := h) (by assumption) y98
          refine sg_if_eq (pc := 101) (tgt := 106) (dc_X7_lay_79.2.1.2.2) (by decide) (fun c101 => ?_) (fun c101 => ?_)
          · refine sg_iconst (pc := 106) (z := 4) (dc_X7_lay_79.2.2.2.1) (by decide) ?_
            refine sg_newa (t := 101) (N := 4) (pc := 107) g (dc_X7_lay_79.2.2.2.2) ac_boolean rfl (by decide) (by decide) rfl rfl (by decide) (by omega) (by omega) (by omega) (by omega) ?_
            have P88 : md_P h20 h88 := (show md_Y w h20 h88 M by assumption).2.1
            have P98 : md_P h88 h98 := (show md_Y w h88 h98 M by assumption).2.1
            have A106 : md_X 0 h98 h.1 [a, b, c, e] := md_XP (md_XP (md_FX t20) P88) P98
            have r163 : ∀ hh : sg_H, md_G h98 hh [bb a, bb b, bb c, bb e] → sg_R w mi_X7_lay d 86 1800 Q 163 [(0, sg_r M), (1, sg_i row), (2, sg_i a), (3, sg_i b), (4, sg_i c), (5, sg_i e), (6, sg_r h.1)] [sg_r h98.1] hh 2 8 := by
              intro hh tb
              have xb : md_M w hh M := md_ME x98 (md_GE tb)
              have hkb := xb.2.1
              have yb : md_Y w h hh M := md_YE y98 (md_GE tb)
              have thb := md_tE (w := w) (M := M) x98 (md_GE tb)
              have ZP : md_ZP hh h98.1 [a, b, c, e] (fun u => decide (u ≠ -1)) := md_GZ tb rfl (fun j hj => by
                have hj : j < 4 := hj
                rcases (show j = 0 ∨ j = 1 ∨ j = 2 ∨ j = 3 by omega) with rfl | rfl | rfl | rfl
                · exact fo_bb
                · exact fo_bb
                · exact fo_bb
                · exact fo_bb)
              refine sg_astore (pc := 163) (dc_X7_lay_157.1.2.1.1) (by decide) ?_
              refine sg_aload_n (pc := 165) (j := 0) (dc_X7_lay_157.1.2.1.2) rfl rfl ?_
              refine md_grw (pc := 166) g (dc_X7_lay_157.1.2.2.1) fk_X7_9 (by assumption) (fun r166 => ?_)
              refine sg_iload_n (pc := 169) (j := 1) (dc_X7_lay_157.1.2.2.2) rfl rfl ?_
              first | refine md_alX (pc := 170) (dc_X7_lay_157.2.1.1.1) hA (by assumption) (by assumption) (by omega) (by omega) (fun X170 l170 => ?_) | refine md_alXt (pc := 170) (dc_X7_lay_157.2.1.1.1) hA (by assumption) (by assumption) (by omega) (by omega) (fun X170 l170 => ?_)
              refine sg_aload (pc := 171) (dc_X7_lay_157.2.1.1.2) rfl ?_
              refine sg_aload (pc := 173) (dc_X7_lay_157.2.1.2.1) rfl ?_
              refine sg_cS2 (pc := 175) (d' := d - 1) (mc' := 81) (ms' := 1680) g (dc_X7_lay_157.2.1.2.2) cb_X7_only ml_X7_74 ms_X7_only (Nat.le_of_ble_eq_true rfl) (by first | exact jl_d0 hd rfl | omega) (by first | exact Nat.le_of_ble_eq_true rfl | omega) (by first | exact Nat.le_of_ble_eq_true rfl | omega) ?_
              refine f_X7_only (c := 0) g (by first | exact jl_d1 hd rfl | omega) (md_XE A106 (md_GE tb)) ZP (Nat.le_of_ble_eq_true rfl) (fun h175 b175 E175 X175 => sg_K1 ?_)
              have x175 : md_M w h175 M := md_ME (by assumption) E175
              have th175 := md_tE (w := w) (M := M) (by assumption) E175
              have hk175 := x175.2.1
              have y175 : md_Y w h h175 M := md_YE (by assumption) E175
              rw [fo_lay] at X175
              have l175 : (fs_lay a b c e).length ≤ 4 := by rw [← fo_lay]; exact List.length_filter_le _ _
              refine sg_cS2 (pc := 178) (d' := d - 1) (mc' := 1) (ms' := (L.length + (fs_lay a b c e).length)) g (dc_X7_lay_157.2.2.1.1) cb_X7_joined ml_X7_61 ms_X7_joined (Nat.le_of_ble_eq_true rfl) (by first | exact jl_d0 hd rfl | omega) (by first | exact Nat.le_of_ble_eq_true rfl | omega) (by first | exact Nat.le_of_ble_eq_true rfl | omega) ?_
              refine f_X7_joined (c := 0) g (by first | exact jl_d1 hd rfl | omega) (md_XE X170 E175) X175 (by omega) (by omega) (fun h178 t178 => sg_K1 ?_)
              have x178 : md_M w h178 M := md_ME (by assumption) (md_FE t178)
              have th178 := md_tE (w := w) (M := M) (by assumption) (md_FE t178)
              have hk178 := x178.2.1
              have y178 : md_Y w h h178 M := md_YE (by assumption) (md_FE t178)
              refine sg_astore (pc := 181) (dc_X7_lay_157.2.2.1.2) (by decide) ?_
              refine sg_aload_n (pc := 183) (j := 0) (dc_X7_lay_157.2.2.2.1) rfl rfl ?_
              refine sg_aload (pc := 184) (dc_X7_lay_157.2.2.2.2) rfl ?_
              refine md_xlen (pc := 186) (dc_X7_lay_186.1.1.1.1) (md_FX t178) (by rw [List.length_append]; omega) ?_
              have la9 := List.length_append (as := L) (bs := fs_lay a b c e)
              refine sg_bipush (pc := 187) (z := 40) (dc_X7_lay_186.1.1.1.2) (by decide) ?_
              refine sg_icmp_le (pc := 189) (tgt := 196) (dc_X7_lay_186.1.1.2.1) (by decide) (fun c189 => ?_) (fun c189 => ?_)
              · refine sg_iconst (pc := 196) (z := 0) (dc_X7_lay_186.1.2.1.2) (by decide) ?_
                refine sg_iconst (pc := 197) (z := 3) (dc_X7_lay_186.1.2.2.1) (by decide) ?_
                refine sg_cE2 (pc := 198) (d' := d - 1) (mc' := 0) (ms' := 0) 8 g (dc_X7_lay_186.1.2.2.2) cb_X7_refuse ml_X7_45 mn_X7_refuse rfl mv_X7_refuse (Nat.le_of_ble_eq_true rfl) (md_oc (by assumption)) (Nat.le_of_ble_eq_true rfl) (by first | exact jl_d0 hd rfl | omega) (by first | exact Nat.le_of_ble_eq_true rfl | omega) (by first | exact Nat.le_of_ble_eq_true rfl | omega) ?_
                refine s_X7_refuse g (by first | exact jl_d1 hd rfl | omega) (by omega) (by assumption) (fun v198 h198 b198 i198 t198 s198 u198 y198 => sg_K1 ?_)
                have x198 := y198.1
                have hk198 := x198.2.1
                have y198 := md_Yt (h0 := h) (by assumption) y198
                refine sg_if_eq (pc := 201) (tgt := 208) (dc_X7_lay_186.2.1.1.1) (by decide) (fun c201 => ?_) (fun c201 => absurd c201 (by omega))
                refine sg_aload_n (pc := 208) (j := 0) (dc_X7_lay_186.2.1.2.2) rfl rfl ?_
                refine sg_iload_n (pc := 209) (j := 1) (dc_X7_lay_186.2.2.1.1) rfl rfl ?_
                refine sg_aload (pc := 210) (dc_X7_lay_186.2.2.1.2) rfl ?_
                have P198 : md_P h178 h198 := (show md_Y w h178 h198 M by assumption).2.1
                refine sg_cE2 (pc := 212) (d' := d - 1) (mc' := 2) (ms' := 16) 8 g (dc_X7_lay_186.2.2.2.1) cb_X7_set ml_X7_78 mn_X7_set rfl mv_X7_set (Nat.le_of_ble_eq_true rfl) (md_oc (by assumption)) (Nat.le_of_ble_eq_true rfl) (by first | exact jl_d0 hd rfl | omega) (by first | exact Nat.le_of_ble_eq_true rfl | omega) (by first | exact Nat.le_of_ble_eq_true rfl | omega) ?_
                refine s_X7_set g (by first | exact jl_d1 hd rfl | omega) (by omega) (by assumption) (fun q => ⟨md_XA (md_XP (md_FX t178) P198), by first | omega | (simp only [List.length_take, List.length_reverse, List.length_map, List.length_append, tt_len]; omega)⟩) (fun q => absurd q (by omega)) (fun h212 y212 t212 ab212 => sg_K1 ?_)
                rw [md_Ya y198 hA, md_xl (md_XP (md_FX t178) P198)] at ab212
                have x212 := y212.1
                have hk212 := x212.2.1
                have z212 : md_W w h h212 M := md_Wt y198 y212
                refine sg_iret (pc := 215) (dc_X7_lay_186.2.2.2.2) rfl (by first | exact Nat.le_of_ble_eq_true rfl | omega) (by first | exact Nat.le_of_ble_eq_true rfl | omega) ?_
                exact hQ _ _ (by omega) (fun _ q2 => by
                  have q3 : s ≠ 0 := Iff.mpr b4 q2
                  clear q2
                  omega) (fun _ q2 => by
                  have q3 : s = 0 := Classical.byContradiction (fun e => q2 (Iff.mp b4 e))
                  clear q2
                  omega) (fun _ q2 => by
                  have q3 : s = 0 := Classical.byContradiction (fun e => q2 (Iff.mp b4 e))
                  clear q2
                  omega) (fun _ => ⟨rfl, ab212⟩) (fun q => absurd (by omega) q) z212
              · refine sg_iconst (pc := 192) (z := 1) (dc_X7_lay_186.1.1.2.2) (by decide) ?_
                refine sg_goto (pc := 193) (tgt := 197) (dc_X7_lay_186.1.2.1.1) (by decide) ?_
                refine sg_iconst (pc := 197) (z := 3) (dc_X7_lay_186.1.2.2.1) (by decide) ?_
                refine sg_cE2 (pc := 198) (d' := d - 1) (mc' := 0) (ms' := 0) 8 g (dc_X7_lay_186.1.2.2.2) cb_X7_refuse ml_X7_45 mn_X7_refuse rfl mv_X7_refuse (Nat.le_of_ble_eq_true rfl) (md_oc (by assumption)) (Nat.le_of_ble_eq_true rfl) (by first | exact jl_d0 hd rfl | omega) (by first | exact Nat.le_of_ble_eq_true rfl | omega) (by first | exact Nat.le_of_ble_eq_true rfl | omega) ?_
                refine s_X7_refuse g (by first | exact jl_d1 hd rfl | omega) (by omega) (by assumption) (fun v198 h198 b198 i198 t198 s198 u198 y198 => sg_K1 ?_)
                have x198 := y198.1
                have hk198 := x198.2.1
                have y198 := md_Yt (h0 := h) (by assumption) y198
                refine sg_if_eq (pc := 201) (tgt := 208) (dc_X7_lay_186.2.1.1.1) (by decide) (fun c201 => absurd c201 (by omega)) (fun c201 => ?_)
                refine sg_iconst (pc := 204) (z := 0) (dc_X7_lay_186.2.1.1.2) (by decide) ?_
                refine sg_goto (pc := 205) (tgt := 215) (dc_X7_lay_186.2.1.2.1) (by decide) ?_
                refine sg_iret (pc := 215) (dc_X7_lay_186.2.2.2.2) rfl (by first | exact Nat.le_of_ble_eq_true rfl | omega) (by first | exact Nat.le_of_ble_eq_true rfl | omega) ?_
                exact hQ _ _ (by omega) (fun _ q2 => by
                  have q3 : s ≠ 0 := Iff.mpr b4 q2
                  clear q2
                  omega) (fun _ q2 => by
                  have q3 : s = 0 := Classical.byContradiction (fun e => q2 (Iff.mp b4 e))
                  clear q2
                  omega) (fun _ q2 => by
                  have q3 : s = 0 := Classical.byContradiction (fun e => q2 (Iff.mp b4 e))
                  clear q2
                  omega) (fun q => absurd q (by omega)) (fun _ => md_Ya (by assumption) hA) (md_YW (by assumption))
            have r149 : ∀ hh : sg_H, md_G h98 hh [bb a, bb b, bb c, 0] → sg_R w mi_X7_lay d 86 1800 Q 149 [(0, sg_r M), (1, sg_i row), (2, sg_i a), (3, sg_i b), (4, sg_i c), (5, sg_i e), (6, sg_r h.1)] [sg_r h98.1] hh 2 8 := by
              intro hh tb
              refine sg_dup (pc := 149) (dc_X7_lay_133.2.1.2.2) rfl ?_
              refine sg_iconst (pc := 150) (z := 3) (dc_X7_lay_133.2.2.1.1) (by decide) ?_
              refine sg_iload (pc := 151) (dc_X7_lay_133.2.2.1.2) rfl ?_
              refine sg_iconst (pc := 153) (z := -1) (dc_X7_lay_133.2.2.2.1) (by decide) ?_
              refine sg_icmp_eq (pc := 154) (tgt := 161) (dc_X7_lay_133.2.2.2.2) (by decide) (fun c154 => ?_) (fun c154 => ?_)
              · refine sg_iconst (pc := 161) (z := 0) (dc_X7_lay_157.1.1.2.1) (by decide) ?_
                refine md_gst (pc := 162) (dc_X7_lay_157.1.1.2.2) tb (by decide) (by decide) (Nat.le_of_ble_eq_true rfl) (fun h162 t162 => ?_)
                have gb163 : md_G h98 h162 [bb a, bb b, bb c, bb e] := by rw [show bb e = 0 from if_pos (by omega)]; exact t162
                refine sg_lsub (lv' := [(0, _), (1, _), (2, _), (3, _), (4, _), (5, _), (6, _)]) ⟨rfl, rfl, rfl, rfl, rfl, rfl, rfl, trivial⟩ ?_
                exact r163 _ gb163
              · refine sg_iconst (pc := 157) (z := 1) (dc_X7_lay_157.1.1.1.1) (by decide) ?_
                refine sg_goto (pc := 158) (tgt := 162) (dc_X7_lay_157.1.1.1.2) (by decide) ?_
                refine md_gst (pc := 162) (dc_X7_lay_157.1.1.2.2) tb (by decide) (by decide) (Nat.le_of_ble_eq_true rfl) (fun h162 t162 => ?_)
                have gb163 : md_G h98 h162 [bb a, bb b, bb c, bb e] := by rw [show bb e = 1 from if_neg (by omega)]; exact t162
                refine sg_lsub (lv' := [(0, _), (1, _), (2, _), (3, _), (4, _), (5, _), (6, _)]) ⟨rfl, rfl, rfl, rfl, rfl, rfl, rfl, trivial⟩ ?_
                exact r163 _ gb163
            have r135 : ∀ hh : sg_H, md_G h98 hh [bb a, bb b, 0, 0] → sg_R w mi_X7_lay d 86 1800 Q 135 [(0, sg_r M), (1, sg_i row), (2, sg_i a), (3, sg_i b), (4, sg_i c), (5, sg_i e), (6, sg_r h.1)] [sg_r h98.1] hh 2 8 := by
              intro hh tb
              refine sg_dup (pc := 135) (dc_X7_lay_133.1.1.2.1) rfl ?_
              refine sg_iconst (pc := 136) (z := 2) (dc_X7_lay_133.1.1.2.2) (by decide) ?_
              refine sg_iload (pc := 137) (dc_X7_lay_133.1.2.1.1) rfl ?_
              refine sg_iconst (pc := 139) (z := -1) (dc_X7_lay_133.1.2.1.2) (by decide) ?_
              refine sg_icmp_eq (pc := 140) (tgt := 147) (dc_X7_lay_133.1.2.2.1) (by decide) (fun c140 => ?_) (fun c140 => ?_)
              · refine sg_iconst (pc := 147) (z := 0) (dc_X7_lay_133.2.1.1.2) (by decide) ?_
                refine md_gst (pc := 148) (dc_X7_lay_133.2.1.2.1) tb (by decide) (by decide) (Nat.le_of_ble_eq_true rfl) (fun h148 t148 => ?_)
                have gb149 : md_G h98 h148 [bb a, bb b, bb c, 0] := by rw [show bb c = 0 from if_pos (by omega)]; exact t148
                refine sg_lsub (lv' := [(0, _), (1, _), (2, _), (3, _), (4, _), (5, _), (6, _)]) ⟨rfl, rfl, rfl, rfl, rfl, rfl, rfl, trivial⟩ ?_
                exact r149 _ gb149
              · refine sg_iconst (pc := 143) (z := 1) (dc_X7_lay_133.1.2.2.2) (by decide) ?_
                refine sg_goto (pc := 144) (tgt := 148) (dc_X7_lay_133.2.1.1.1) (by decide) ?_
                refine md_gst (pc := 148) (dc_X7_lay_133.2.1.2.1) tb (by decide) (by decide) (Nat.le_of_ble_eq_true rfl) (fun h148 t148 => ?_)
                have gb149 : md_G h98 h148 [bb a, bb b, bb c, 0] := by rw [show bb c = 1 from if_neg (by omega)]; exact t148
                refine sg_lsub (lv' := [(0, _), (1, _), (2, _), (3, _), (4, _), (5, _), (6, _)]) ⟨rfl, rfl, rfl, rfl, rfl, rfl, rfl, trivial⟩ ?_
                exact r149 _ gb149
            have r122 : ∀ hh : sg_H, md_G h98 hh [bb a, 0, 0, 0] → sg_R w mi_X7_lay d 86 1800 Q 122 [(0, sg_r M), (1, sg_i row), (2, sg_i a), (3, sg_i b), (4, sg_i c), (5, sg_i e), (6, sg_r h.1)] [sg_r h98.1] hh 2 8 := by
              intro hh tb
              refine sg_dup (pc := 122) (dc_X7_lay_109.2.1.1.2) rfl ?_
              refine sg_iconst (pc := 123) (z := 1) (dc_X7_lay_109.2.1.2.1) (by decide) ?_
              refine sg_iload_n (pc := 124) (j := 3) (dc_X7_lay_109.2.1.2.2) rfl rfl ?_
              refine sg_iconst (pc := 125) (z := -1) (dc_X7_lay_109.2.2.1.1) (by decide) ?_
              refine sg_icmp_eq (pc := 126) (tgt := 133) (dc_X7_lay_109.2.2.1.2) (by decide) (fun c126 => ?_) (fun c126 => ?_)
              · refine sg_iconst (pc := 133) (z := 0) (dc_X7_lay_133.1.1.1.1) (by decide) ?_
                refine md_gst (pc := 134) (dc_X7_lay_133.1.1.1.2) tb (by decide) (by decide) (Nat.le_of_ble_eq_true rfl) (fun h134 t134 => ?_)
                have gb135 : md_G h98 h134 [bb a, bb b, 0, 0] := by rw [show bb b = 0 from if_pos (by omega)]; exact t134
                refine sg_lsub (lv' := [(0, _), (1, _), (2, _), (3, _), (4, _), (5, _), (6, _)]) ⟨rfl, rfl, rfl, rfl, rfl, rfl, rfl, trivial⟩ ?_
                exact r135 _ gb135
              · refine sg_iconst (pc := 129) (z := 1) (dc_X7_lay_109.2.2.2.1) (by decide) ?_
                refine sg_goto (pc := 130) (tgt := 134) (dc_X7_lay_109.2.2.2.2) (by decide) ?_
                refine md_gst (pc := 134) (dc_X7_lay_133.1.1.1.2) tb (by decide) (by decide) (Nat.le_of_ble_eq_true rfl) (fun h134 t134 => ?_)
                have gb135 : md_G h98 h134 [bb a, bb b, 0, 0] := by rw [show bb b = 1 from if_neg (by omega)]; exact t134
                refine sg_lsub (lv' := [(0, _), (1, _), (2, _), (3, _), (4, _), (5, _), (6, _)]) ⟨rfl, rfl, rfl, rfl, rfl, rfl, rfl, trivial⟩ ?_
                exact r135 _ gb135
            refine sg_dup (pc := 109) (dc_X7_lay_109.1.1.1.1) rfl ?_
            refine sg_iconst (pc := 110) (z := 0) (dc_X7_lay_109.1.1.1.2) (by decide) ?_
            refine sg_iload_n (pc := 111) (j := 2) (dc_X7_lay_109.1.1.2.1) rfl rfl ?_
            refine sg_iconst (pc := 112) (z := -1) (dc_X7_lay_109.1.1.2.2) (by decide) ?_
            refine sg_icmp_eq (pc := 113) (tgt := 120) (dc_X7_lay_109.1.2.1.1) (by decide) (fun c113 => ?_) (fun c113 => ?_)
            · refine sg_iconst (pc := 120) (z := 0) (dc_X7_lay_109.1.2.2.2) (by decide) ?_
              refine md_gst (pc := 121) (dc_X7_lay_109.2.1.1.1) md_newG (by decide) (by decide) (Nat.le_of_ble_eq_true rfl) (fun h121 t121 => ?_)
              have gb122 : md_G h98 h121 [bb a, 0, 0, 0] := by rw [show bb a = 0 from if_pos (by omega)]; exact t121
              refine sg_lsub (lv' := [(0, _), (1, _), (2, _), (3, _), (4, _), (5, _), (6, _)]) ⟨rfl, rfl, rfl, rfl, rfl, rfl, rfl, trivial⟩ ?_
              exact r122 _ gb122
            · refine sg_iconst (pc := 116) (z := 1) (dc_X7_lay_109.1.2.1.2) (by decide) ?_
              refine sg_goto (pc := 117) (tgt := 121) (dc_X7_lay_109.1.2.2.1) (by decide) ?_
              refine md_gst (pc := 121) (dc_X7_lay_109.2.1.1.1) md_newG (by decide) (by decide) (Nat.le_of_ble_eq_true rfl) (fun h121 t121 => ?_)
              have gb122 : md_G h98 h121 [bb a, 0, 0, 0] := by rw [show bb a = 1 from if_neg (by omega)]; exact t121
              refine sg_lsub (lv' := [(0, _), (1, _), (2, _), (3, _), (4, _), (5, _), (6, _)]) ⟨rfl, rfl, rfl, rfl, rfl, rfl, rfl, trivial⟩ ?_
              exact r122 _ gb122
          · refine sg_iconst (pc := 104) (z := 0) (dc_X7_lay_79.2.2.1.1) (by decide) ?_
            refine sg_iret (pc := 105) (dc_X7_lay_79.2.2.1.2) rfl (by first | exact Nat.le_of_ble_eq_true rfl | omega) (by first | exact Nat.le_of_ble_eq_true rfl | omega) ?_
            exact hQ _ _ (by omega) (fun _ q2 => by
              have q3 : s ≠ 0 := Iff.mpr b4 q2
              clear q2
              omega) (fun _ q2 => by
              have q3 : s = 0 := Classical.byContradiction (fun e => q2 (Iff.mp b4 e))
              clear q2
              omega) (fun _ q2 => by
              have q3 : s = 0 := Classical.byContradiction (fun e => q2 (Iff.mp b4 e))
              clear q2
              omega) (fun q => absurd q (by omega)) (fun _ => md_Ya (by assumption) hA) (md_YW (by assumption))
      · refine sg_aload (pc := 45) (dc_X7_lay_18.2.2.2.2) rfl ?_
        refine sg_iload (pc := 47) (dc_X7_lay_47.1.1.1.1) rfl ?_
        refine md_xld (pc := 49) (dc_X7_lay_47.1.1.1.2) (md_FX t20) (by omega) (by omega) (fun g49 => ?_)
        refine sg_istore (pc := 50) (dc_X7_lay_47.1.1.2.1) (by decide) ?_
        refine sg_iload (pc := 52) (dc_X7_lay_47.1.1.2.2) rfl ?_
        refine sg_iload (pc := 54) (dc_X7_lay_47.1.2.1.1) rfl ?_
        refine sg_iconst (pc := 56) (z := -1) (dc_X7_lay_47.1.2.1.2) (by decide) ?_
        refine sg_icmp_eq (pc := 57) (tgt := 72) (dc_X7_lay_47.1.2.2.1) (by decide) (fun c57 => ?_) (fun c57 => ?_)
        · refine sg_iconst (pc := 72) (z := 0) (dc_X7_lay_47.2.2.1.1) (by decide) ?_
          refine sg_ior (pc := 73) (dc_X7_lay_47.2.2.1.2) ?_
          refine sg_istore (pc := 74) (dc_X7_lay_47.2.2.2.1) (by decide) ?_
          first | refine sg_iincB (pc := 76) (dc_X7_lay_47.2.2.2.2) rfl (by decide) (by decide) (by omega) (by omega) ?_ | refine sg_iinc (pc := 76) (dc_X7_lay_47.2.2.2.2) rfl (by decide) (by decide) ?_
          refine sg_goto (pc := 79) (tgt := 38) (dc_X7_lay_79.1.1.1.1) (by decide) ?_
          refine sg_lsub (lv' := [(10, _), (7, _), (9, _), (8, _), (0, _), (1, _), (2, _), (3, _), (4, _), (5, _), (6, _)]) ⟨rfl, rfl, rfl, rfl, rfl, rfl, rfl, rfl, rfl, rfl, rfl, trivial⟩ ?_
          exact ih _ _ (by omega) (by rw [show (p + 1).toNat = p.toNat + 1 by omega, fs_bds]; rw [if_neg (by omega), so.1]; exact s0) (by first | exact jl_m1 hm (by omega) | exact jl_m2 hm (by omega) | omega)
        · refine sg_iload (pc := 60) (dc_X7_lay_47.1.2.2.2) rfl ?_
          refine sg_cS1 (pc := 62) (d' := d - 1) (mc' := 0) (ms' := 0) g (dc_X7_lay_47.2.1.1.1) cb_X7_isSign ml_X7_65 ms_X7_isSign (Nat.le_of_ble_eq_true rfl) (by first | exact jl_d0 hd rfl | omega) (by first | exact Nat.le_of_ble_eq_true rfl | omega) (by first | exact Nat.le_of_ble_eq_true rfl | omega) ?_
          refine s_X7_isSign g (by first | exact jl_d1 hd rfl | omega) (fun z62 h62 b62 => sg_K1 ?_)
          (try simp only [fm_no, fm_one, fn_betw, fn_sign, fn_radix, fn_high, fn_low, if_true, if_false] at h62)
          refine sg_if_ne (pc := 65) (tgt := 72) (dc_X7_lay_47.2.1.1.2) (by decide) (fun c65 => ?_) (fun c65 => ?_)
          · refine sg_iconst (pc := 72) (z := 0) (dc_X7_lay_47.2.2.1.1) (by decide) ?_
            refine sg_ior (pc := 73) (dc_X7_lay_47.2.2.1.2) ?_
            refine sg_istore (pc := 74) (dc_X7_lay_47.2.2.2.1) (by decide) ?_
            first | refine sg_iincB (pc := 76) (dc_X7_lay_47.2.2.2.2) rfl (by decide) (by decide) (by omega) (by omega) ?_ | refine sg_iinc (pc := 76) (dc_X7_lay_47.2.2.2.2) rfl (by decide) (by decide) ?_
            refine sg_goto (pc := 79) (tgt := 38) (dc_X7_lay_79.1.1.1.1) (by decide) ?_
            refine sg_lsub (lv' := [(10, _), (7, _), (9, _), (8, _), (0, _), (1, _), (2, _), (3, _), (4, _), (5, _), (6, _)]) ⟨rfl, rfl, rfl, rfl, rfl, rfl, rfl, rfl, rfl, rfl, rfl, trivial⟩ ?_
            exact ih _ _ (by omega) (by rw [show (p + 1).toNat = p.toNat + 1 by omega, fs_bds]; rw [if_neg (by omega), so.1]; exact s0) (by first | exact jl_m1 hm (by omega) | exact jl_m2 hm (by omega) | omega)
          · refine sg_iconst (pc := 68) (z := 1) (dc_X7_lay_47.2.1.2.1) (by decide) ?_
            refine sg_goto (pc := 69) (tgt := 73) (dc_X7_lay_47.2.1.2.2) (by decide) ?_
            refine sg_ior (pc := 73) (dc_X7_lay_47.2.2.1.2) ?_
            refine sg_istore (pc := 74) (dc_X7_lay_47.2.2.2.1) (by decide) ?_
            first | refine sg_iincB (pc := 76) (dc_X7_lay_47.2.2.2.2) rfl (by decide) (by decide) (by omega) (by omega) ?_ | refine sg_iinc (pc := 76) (dc_X7_lay_47.2.2.2.2) rfl (by decide) (by decide) ?_
            refine sg_goto (pc := 79) (tgt := 38) (dc_X7_lay_79.1.1.1.1) (by decide) ?_
            refine sg_lsub (lv' := [(10, _), (7, _), (9, _), (8, _), (0, _), (1, _), (2, _), (3, _), (4, _), (5, _), (6, _)]) ⟨rfl, rfl, rfl, rfl, rfl, rfl, rfl, rfl, rfl, rfl, rfl, trivial⟩ ?_
            exact ih _ _ (by omega) (by rw [show (p + 1).toNat = p.toNat + 1 by omega, fs_bds]; rw [if_pos (by omega), so.2]) (by first | exact jl_m1 hm (by omega) | exact jl_m2 hm (by omega) | omega)
  refine sg_lsub (lv' := [(10, _), (7, _), (9, _), (8, _), (0, _), (1, _), (2, _), (3, _), (4, _), (5, _), (6, _)]) ⟨rfl, rfl, rfl, rfl, rfl, rfl, rfl, rfl, rfl, rfl, rfl, trivial⟩ ?_
  exact loop38 _ _ _ (by omega) rfl (Nat.lt_succ_self _)

set_option maxRecDepth 100000 in
set_option maxHeartbeats 800000 in
theorem f_X7_write {w : sg_W} {Q : sg_O → sg_H → Prop} {h : sg_H} (g : sg_G w) {d : Nat} (hd : 9 ≤ d) {M : Nat} {row nr rx : Int} {A : fa_A} {L : List Int} (hA : md_ab h M = A) (hL : fa_L A row.toNat = L) (ok : fa_ok A) (hx : md_M w h M) (hQ : ∀ (v : Int) (h' : sg_H), ((row < 0 ∨ 4 ≤ row) → md_t h' M = 1) → (¬ (row < 0 ∨ 4 ≤ row) → (nr < 0 ∨ 999999 < nr ∨ rx < 2 ∨ 36 < rx) → md_t h' M = 2) → (¬ (row < 0 ∨ 4 ≤ row) → ¬ (nr < 0 ∨ 999999 < nr ∨ rx < 2 ∨ 36 < rx) → md_t h' M = 0) → (md_t h' M = 0 → v = (if 40 < L.length + (fs_digs nr rx).length then (-9 : Int) else ((fs_digs nr rx).length : Int)) ∧ md_ab h' M = (if 40 < L.length + (fs_digs nr rx).length then A else fa_put A row.toNat (L ++ (fs_digs nr rx)))) → (md_t h' M ≠ 0 → md_ab h' M = A) → md_W w h h' M → Q (.inl (some (sg_i v))) h') : sg_C w mi_X7_write d 44 560 [sg_r M, sg_i row, sg_i nr, sg_i rx] h Q := by
  refine sg_of pn_X7 (Nat.le_of_ble_eq_true rfl) ?_
  have y0 := md_Y0 hx
  have hk := hx.2.1
  refine sg_aload_n (pc := 0) (j := 0) (dc_X7_write_0.1.1.1.1) rfl rfl ?_
  refine sg_iload_n (pc := 1) (j := 1) (dc_X7_write_0.1.1.1.2) rfl rfl ?_
  refine sg_cS1 (pc := 2) (d' := d - 1) (mc' := 0) (ms' := 0) g (dc_X7_write_0.1.1.2.1) cb_X7_isNoRow ml_X7_68 ms_X7_isNoRow (Nat.le_of_ble_eq_true rfl) (by first | exact jl_d0 hd rfl | omega) (by first | exact Nat.le_of_ble_eq_true rfl | omega) (by first | exact Nat.le_of_ble_eq_true rfl | omega) ?_
  refine s_X7_isNoRow g (by first | exact jl_d1 hd rfl | omega) (fun z2 h2 b2 => sg_K1 ?_)
  (try simp only [fm_no, fm_one, fn_betw, fn_sign, fn_radix, fn_high, fn_low] at h2)
  refine sg_iconst (pc := 5) (z := 1) (dc_X7_write_0.1.1.2.2) (by decide) ?_
  refine sg_cE2 (pc := 6) (d' := d - 1) (mc' := 0) (ms' := 0) 8 g (dc_X7_write_0.1.2.1.1) cb_X7_start ml_X7_71 mn_X7_start rfl mv_X7_start (Nat.le_of_ble_eq_true rfl) (md_oc (by assumption)) (Nat.le_of_ble_eq_true rfl) (by first | exact jl_d0 hd rfl | omega) (by first | exact Nat.le_of_ble_eq_true rfl | omega) (by first | exact Nat.le_of_ble_eq_true rfl | omega) ?_
  refine s_X7_start g (by first | exact jl_d1 hd rfl | omega) (by omega) (by assumption) (fun v6 h6 b6 i6 t6 s6 u6 y6 => sg_K1 ?_)
  have x6 := y6.1
  have hk6 := x6.2.1
  have y6 := md_Yt (h0 := h) (by assumption) y6
  refine sg_if_ne (pc := 9) (tgt := 42) (dc_X7_write_0.1.2.1.2) (by decide) (fun c9 => ?_) (fun c9 => ?_)
  · refine sg_iconst (pc := 42) (z := 0) (dc_X7_write_31.1.2.1.2) (by decide) ?_
    refine sg_iret (pc := 43) (dc_X7_write_31.1.2.2.1) rfl (by first | exact Nat.le_of_ble_eq_true rfl | omega) (by first | exact Nat.le_of_ble_eq_true rfl | omega) ?_
    exact hQ _ _ (by omega) (by omega) (by omega) (fun q => absurd q (by omega)) (fun _ => md_Ya (by assumption) hA) (md_YW (by assumption))
  · refine sg_aload_n (pc := 12) (j := 0) (dc_X7_write_0.1.2.2.1) rfl rfl ?_
    refine sg_iload_n (pc := 13) (j := 2) (dc_X7_write_0.1.2.2.2) rfl rfl ?_
    refine sg_iconst (pc := 14) (z := 0) (dc_X7_write_0.2.1.1.1) (by decide) ?_
    refine sg_ldc (pc := 15) (z := 999999) g (dc_X7_write_0.2.1.1.2) cn_X7_107 (by decide) ?_
    refine sg_cS3 (pc := 17) (d' := d - 1) (mc' := 0) (ms' := 0) g (dc_X7_write_0.2.1.2.1) cb_X7_isOf ml_X7_22 ms_X7_isOf (Nat.le_of_ble_eq_true rfl) (by first | exact jl_d0 hd rfl | omega) (by first | exact Nat.le_of_ble_eq_true rfl | omega) (by first | exact Nat.le_of_ble_eq_true rfl | omega) ?_
    refine s_X7_isOf g (by first | exact jl_d1 hd rfl | omega) (fun z17 h17 b17 => sg_K1 ?_)
    (try simp only [fm_no, fm_one, fn_betw, fn_sign, fn_radix, fn_high, fn_low] at h17)
    refine sg_if_eq (pc := 20) (tgt := 30) (dc_X7_write_0.2.1.2.2) (by decide) (fun c20 => ?_) (fun c20 => ?_)
    · refine sg_iconst (pc := 30) (z := 1) (dc_X7_write_0.2.2.2.2) (by decide) ?_
      refine sg_goto (pc := 31) (tgt := 35) (dc_X7_write_31.1.1.1.1) (by decide) ?_
      refine sg_iconst (pc := 35) (z := 2) (dc_X7_write_31.1.1.2.1) (by decide) ?_
      refine sg_cE2 (pc := 36) (d' := d - 1) (mc' := 0) (ms' := 0) 8 g (dc_X7_write_31.1.1.2.2) cb_X7_refuse ml_X7_45 mn_X7_refuse rfl mv_X7_refuse (Nat.le_of_ble_eq_true rfl) (md_oc (by assumption)) (Nat.le_of_ble_eq_true rfl) (by first | exact jl_d0 hd rfl | omega) (by first | exact Nat.le_of_ble_eq_true rfl | omega) (by first | exact Nat.le_of_ble_eq_true rfl | omega) ?_
      refine s_X7_refuse g (by first | exact jl_d1 hd rfl | omega) (by omega) (by assumption) (fun v36 h36 b36 i36 t36 s36 u36 y36 => sg_K1 ?_)
      have x36 := y36.1
      have hk36 := x36.2.1
      have y36 := md_Yt (h0 := h) (by assumption) y36
      refine sg_if_eq (pc := 39) (tgt := 44) (dc_X7_write_31.1.2.1.1) (by decide) (fun c39 => absurd c39 (by omega)) (fun c39 => ?_)
      refine sg_iconst (pc := 42) (z := 0) (dc_X7_write_31.1.2.1.2) (by decide) ?_
      refine sg_iret (pc := 43) (dc_X7_write_31.1.2.2.1) rfl (by first | exact Nat.le_of_ble_eq_true rfl | omega) (by first | exact Nat.le_of_ble_eq_true rfl | omega) ?_
      exact hQ _ _ (by omega) (by omega) (by omega) (fun q => absurd q (by omega)) (fun _ => md_Ya (by assumption) hA) (md_YW (by assumption))
    · refine sg_iload_n (pc := 23) (j := 3) (dc_X7_write_0.2.2.1.1) rfl rfl ?_
      refine sg_cS1 (pc := 24) (d' := d - 1) (mc' := 0) (ms' := 0) g (dc_X7_write_0.2.2.1.2) cb_X7_isRadix ml_X7_37 ms_X7_isRadix (Nat.le_of_ble_eq_true rfl) (by first | exact jl_d0 hd rfl | omega) (by first | exact Nat.le_of_ble_eq_true rfl | omega) (by first | exact Nat.le_of_ble_eq_true rfl | omega) ?_
      refine s_X7_isRadix g (by first | exact jl_d1 hd rfl | omega) (fun z24 h24 b24 => sg_K1 ?_)
      (try simp only [fm_no, fm_one, fn_betw, fn_sign, fn_radix, fn_high, fn_low] at h24)
      refine sg_if_ne (pc := 27) (tgt := 34) (dc_X7_write_0.2.2.2.1) (by decide) (fun c27 => ?_) (fun c27 => ?_)
      · refine sg_iconst (pc := 34) (z := 0) (dc_X7_write_31.1.1.1.2) (by decide) ?_
        refine sg_iconst (pc := 35) (z := 2) (dc_X7_write_31.1.1.2.1) (by decide) ?_
        refine sg_cE2 (pc := 36) (d' := d - 1) (mc' := 0) (ms' := 0) 8 g (dc_X7_write_31.1.1.2.2) cb_X7_refuse ml_X7_45 mn_X7_refuse rfl mv_X7_refuse (Nat.le_of_ble_eq_true rfl) (md_oc (by assumption)) (Nat.le_of_ble_eq_true rfl) (by first | exact jl_d0 hd rfl | omega) (by first | exact Nat.le_of_ble_eq_true rfl | omega) (by first | exact Nat.le_of_ble_eq_true rfl | omega) ?_
        refine s_X7_refuse g (by first | exact jl_d1 hd rfl | omega) (by omega) (by assumption) (fun v36 h36 b36 i36 t36 s36 u36 y36 => sg_K1 ?_)
        have x36 := y36.1
        have hk36 := x36.2.1
        have y36 := md_Yt (h0 := h) (by assumption) y36
        refine sg_if_eq (pc := 39) (tgt := 44) (dc_X7_write_31.1.2.1.1) (by decide) (fun c39 => ?_) (fun c39 => absurd c39 (by omega))
        have row0 : 0 ≤ row ∧ row < 4 := by omega
        have nr0 : 0 ≤ nr ∧ nr ≤ 999999 := by omega
        have rx0 : 2 ≤ rx ∧ rx ≤ 36 := by omega
        have tz : md_t h36 M = 0 := by omega
        clear h2 b2 i6 t6 b6 h17 b17 h24 b24 i36 t36 b36 c9 c20 c27 c39
        refine sg_iconst (pc := 44) (z := 1) (dc_X7_write_31.1.2.2.2) (by decide) ?_
        refine sg_newa (t := 100) (N := 1) (pc := 45) g (dc_X7_write_31.2.1.1.1) ac_int rfl (by decide) (by decide) rfl rfl (by decide) (by omega) (by omega) (by omega) (by omega) ?_
        refine sg_dup (pc := 47) (dc_X7_write_31.2.1.1.2) rfl ?_
        refine sg_iconst (pc := 48) (z := 0) (dc_X7_write_31.2.1.2.1) (by decide) ?_
        refine sg_iload_n (pc := 49) (j := 2) (dc_X7_write_31.2.1.2.2) rfl rfl ?_
        refine sg_iload_n (pc := 50) (j := 3) (dc_X7_write_31.2.2.1.1) rfl rfl ?_
        first | refine sg_iremP (pc := 51) (dc_X7_write_31.2.2.1.2) (by omega) (by omega) ?_ | refine sg_irem (pc := 51) (dc_X7_write_31.2.2.1.2) (by first | omega | assumption) ?_
        refine sg_iload_n (pc := 52) (j := 3) (dc_X7_write_31.2.2.2.1) rfl rfl ?_
        refine sg_cS2 (pc := 53) (d' := d - 1) (mc' := 0) (ms' := 0) g (dc_X7_write_31.2.2.2.2) cb_X7_digitOf ml_X7_108 ms_X7_digitOf (Nat.le_of_ble_eq_true rfl) (by first | exact jl_d0 hd rfl | omega) (by first | exact Nat.le_of_ble_eq_true rfl | omega) (by first | exact Nat.le_of_ble_eq_true rfl | omega) ?_
        refine s_X7_digitOf g (by first | exact jl_d1 hd rfl | omega) (fun z53 h53 => sg_K1 ?_)
        (try simp only [fm_no, fm_one, fn_betw, fn_sign, fn_radix, fn_high, fn_low] at h53)
        refine md_astF (pc := 56) (dc_X7_write_56.1.1.1.1) (md_newF (c := 0)) ck_v0 (by decide) (by decide) (fun h56 t56 => ?_)
        have t56 : md_F 0 h36 h56 (tt_b 1 (fun j => fs_dg nr rx (1 - 1 - j))) := md_Fw t56 (by rw [show tt_b 1 (fun j => fs_dg nr rx (1 - 1 - j)) = [fs_dg nr rx 0] from rfl]; unfold fs_dg; rw [Int.pow_zero, Int.ediv_one, ← h53]; rfl)
        refine sg_astore (pc := 57) (dc_X7_write_56.1.1.1.2) (by decide) ?_
        refine sg_iload_n (pc := 59) (j := 2) (dc_X7_write_56.1.1.2.1) rfl rfl ?_
        refine sg_iload_n (pc := 60) (j := 3) (dc_X7_write_56.1.1.2.2) rfl rfl ?_
        first | refine sg_idivP (pc := 61) (dc_X7_write_56.1.2.1.1) (by omega) (by omega) (by omega) ?_ | refine sg_idiv (pc := 61) (dc_X7_write_56.1.2.1.1) (by first | omega | assumption) ?_
        refine sg_istore (pc := 62) (dc_X7_write_56.1.2.1.2) (by decide) ?_
        have loop64 : ∀ (N : Nat) (h1 : sg_H) (l : Int) (a m k1 n1 : Nat), (md_E h36 h1) → (md_X 0 h1 a (tt_b m (fun j => fs_dg nr rx (m - 1 - j)))) → (1 ≤ m ∧ m ≤ 20) → (0 ≤ l ∧ l ≤ jt m) → (k1 + 1 ≤ 2 * m) → (n1 ≤ 22 * m) → (l = nr / rx ^ m) → ((∀ k : Nat, 1 ≤ k → k < m → nr / rx ^ k ≠ 0)) → l.toNat < N → sg_R w mi_X7_write d 44 560 Q 64 [(5, sg_i l), (0, sg_r M), (1, sg_i row), (2, sg_i nr), (3, sg_i rx), (4, sg_r a)] [] h1 k1 n1 := by
          intro N
          induction N with
          | zero => intro h1 l a m k1 n1 E1 A1 m1 l0 kb nb le lk hm; exact absurd hm (Nat.not_lt_zero _)
          | succ N ih =>
            intro h1 l a m k1 n1 E1 A1 m1 l0 kb nb le lk hm
            have x1 : md_M w h1 M := md_ME x36 E1
            have hk1 := x1.2.1
            have y1 : md_Y w h h1 M := md_YE y36 E1
            have th1 := md_tE (w := w) (M := M) x36 E1
            have lT : (tt_b m (fun j => fs_dg nr rx (m - 1 - j))).length = m := tt_len
            refine sg_iload (pc := 64) (dc_X7_write_56.1.2.2.1) rfl ?_
            refine sg_if_le (pc := 66) (tgt := 99) (dc_X7_write_56.1.2.2.2) (by decide) (fun c66 => ?_) (fun c66 => ?_)
            · have dn : fs_dn nr rx m := ⟨m1.1, by rw [← le]; omega, lk⟩
              have dE := fs_digsE dn
              rw [← dE] at A1
              have dl : (fs_digs nr rx).length = m := by rw [dE]; exact tt_len
              refine sg_aload_n (pc := 99) (j := 0) (dc_X7_write_79.2.1.2.1) rfl rfl ?_
              refine md_grw (pc := 100) g (dc_X7_write_79.2.1.2.2) fk_X7_9 (by assumption) (fun r100 => ?_)
              refine sg_iload_n (pc := 103) (j := 1) (dc_X7_write_79.2.2.1.1) rfl rfl ?_
              first | refine md_alX (pc := 104) (dc_X7_write_79.2.2.1.2) hA (by assumption) (by assumption) (by omega) (by omega) (fun X104 l104 => ?_) | refine md_alXt (pc := 104) (dc_X7_write_79.2.2.1.2) hA (by assumption) (by assumption) (by omega) (by omega) (fun X104 l104 => ?_)
              refine md_xlen (pc := 105) (dc_X7_write_79.2.2.2.1) (by assumption) (by omega) ?_
              refine sg_aload (pc := 106) (dc_X7_write_79.2.2.2.2) rfl ?_
              refine md_xlen (pc := 108) (dc_X7_write_108.1.1.1.1) A1 (by omega) ?_
              first | refine sg_iaddB (pc := 109) (dc_X7_write_108.1.1.1.2) (by omega) (by omega) ?_ | refine sg_iadd (pc := 109) (dc_X7_write_108.1.1.1.2) ?_
              refine sg_bipush (pc := 110) (z := 40) (dc_X7_write_108.1.1.2.1) (by decide) ?_
              refine sg_icmp_le (pc := 112) (tgt := 118) (dc_X7_write_108.1.1.2.2) (by decide) (fun c112 => ?_) (fun c112 => ?_)
              · refine sg_aload_n (pc := 118) (j := 0) (dc_X7_write_108.1.2.2.1) rfl rfl ?_
                refine sg_iload_n (pc := 119) (j := 1) (dc_X7_write_108.1.2.2.2) rfl rfl ?_
                refine sg_aload_n (pc := 120) (j := 0) (dc_X7_write_108.2.1.1.1) rfl rfl ?_
                refine md_grw (pc := 121) g (dc_X7_write_108.2.1.1.2) fk_X7_9 (by assumption) (fun r121 => ?_)
                refine sg_iload_n (pc := 124) (j := 1) (dc_X7_write_108.2.1.2.1) rfl rfl ?_
                first | refine md_alX (pc := 125) (dc_X7_write_108.2.1.2.2) hA (by assumption) (by assumption) (by omega) (by omega) (fun X125 l125 => ?_) | refine md_alXt (pc := 125) (dc_X7_write_108.2.1.2.2) hA (by assumption) (by assumption) (by omega) (by omega) (fun X125 l125 => ?_)
                refine sg_aload (pc := 126) (dc_X7_write_108.2.2.1.1) rfl ?_
                refine sg_cS2 (pc := 128) (d' := d - 1) (mc' := 1) (ms' := (L.length + (fs_digs nr rx).length)) g (dc_X7_write_108.2.2.1.2) cb_X7_joined ml_X7_61 ms_X7_joined (Nat.le_of_ble_eq_true rfl) (by first | exact jl_d0 hd rfl | omega) (by first | exact Nat.le_of_ble_eq_true rfl | omega) (by first | exact Nat.le_of_ble_eq_true rfl | omega) ?_
                refine f_X7_joined (c := 0) g (by first | exact jl_d1 hd rfl | omega) (by assumption) A1 (by omega) (by omega) (fun h128 t128 => sg_K1 ?_)
                have x128 : md_M w h128 M := md_ME (by assumption) (md_FE t128)
                have th128 := md_tE (w := w) (M := M) (by assumption) (md_FE t128)
                have hk128 := x128.2.1
                have y128 : md_Y w h h128 M := md_YE (by assumption) (md_FE t128)
                refine sg_cE2 (pc := 131) (d' := d - 1) (mc' := 2) (ms' := 16) 8 g (dc_X7_write_108.2.2.2.1) cb_X7_set ml_X7_78 mn_X7_set rfl mv_X7_set (Nat.le_of_ble_eq_true rfl) (md_oc (by assumption)) (Nat.le_of_ble_eq_true rfl) (by first | exact jl_d0 hd rfl | omega) (by first | exact Nat.le_of_ble_eq_true rfl | omega) (by first | exact Nat.le_of_ble_eq_true rfl | omega) ?_
                refine s_X7_set g (by first | exact jl_d1 hd rfl | omega) (by omega) (by assumption) (fun q => ⟨md_XA (md_FX t128), by first | omega | (simp only [List.length_take, List.length_reverse, List.length_map, List.length_append, tt_len]; omega)⟩) (fun q => absurd q (by omega)) (fun h131 y131 t131 ab131 => sg_K1 ?_)
                rw [md_Ya y128 hA, md_xl (md_FX t128)] at ab131
                have x131 := y131.1
                have hk131 := x131.2.1
                have z131 : md_W w h h131 M := md_Wt y128 y131
                refine sg_pop (pc := 134) (dc_X7_write_108.2.2.2.2) rfl ?_
                refine sg_aload (pc := 135) (dc_X7_write_135.1.1) rfl ?_
                refine md_xlen (pc := 137) (dc_X7_write_135.1.2) (md_XP (md_XE A1 (md_FE t128)) (show md_W w h128 h131 M by assumption).2) (by omega) ?_
                refine sg_iret (pc := 138) (dc_X7_write_135.2.1) rfl (by first | exact Nat.le_of_ble_eq_true rfl | omega) (by first | exact Nat.le_of_ble_eq_true rfl | omega) ?_
                exact hQ _ _ (by omega) (by omega) (by omega) (fun _ => ⟨by rw [if_neg (by omega)], by rw [if_neg (by omega)]; exact ab131⟩) (fun q => absurd (by omega) q) z131
              · refine sg_bipush (pc := 115) (z := -9) (dc_X7_write_108.1.2.1.1) (by decide) ?_
                refine sg_iret (pc := 117) (dc_X7_write_108.1.2.1.2) rfl (by first | exact Nat.le_of_ble_eq_true rfl | omega) (by first | exact Nat.le_of_ble_eq_true rfl | omega) ?_
                exact hQ _ _ (by omega) (by omega) (by omega) (fun _ => ⟨by rw [if_pos (by omega)], by rw [if_pos (by omega)]; exact md_Ya (by assumption) hA⟩) (fun q => absurd (by omega) q) (md_YW (by assumption))
            · have m19 := jt_pos (by omega) l0.2
              have jd := jt_div l0.1 l0.2 (show 2 ≤ rx by omega)
              have jl : l / rx < l := by have := Int.ediv_mul_le l (show rx ≠ 0 by omega); have := Int.mul_le_mul_of_nonneg_left (show 2 ≤ rx by omega) jd.1; omega
              have jb : l ≤ 999999 := Int.le_trans l0.2 (by have := jt_anti 0 m; rw [Nat.zero_add] at this; exact this)
              refine sg_iconst (pc := 69) (z := 1) (dc_X7_write_56.2.1.1.1) (by decide) ?_
              refine sg_newa (t := 100) (N := 1) (pc := 70) g (dc_X7_write_56.2.1.1.2) ac_int rfl (by decide) (by decide) rfl rfl (by decide) (by omega) (by omega) (by omega) (by omega) ?_
              refine sg_dup (pc := 72) (dc_X7_write_56.2.1.2.1) rfl ?_
              refine sg_iconst (pc := 73) (z := 0) (dc_X7_write_56.2.1.2.2) (by decide) ?_
              refine sg_iload (pc := 74) (dc_X7_write_56.2.2.1.1) rfl ?_
              refine sg_iload_n (pc := 76) (j := 3) (dc_X7_write_56.2.2.1.2) rfl rfl ?_
              first | refine sg_iremP (pc := 77) (dc_X7_write_56.2.2.2.1) (by omega) (by omega) ?_ | refine sg_irem (pc := 77) (dc_X7_write_56.2.2.2.1) (by first | omega | assumption) ?_
              refine sg_iload_n (pc := 78) (j := 3) (dc_X7_write_56.2.2.2.2) rfl rfl ?_
              refine sg_cS2 (pc := 79) (d' := d - 1) (mc' := 0) (ms' := 0) g (dc_X7_write_79.1.1.1.1) cb_X7_digitOf ml_X7_108 ms_X7_digitOf (Nat.le_of_ble_eq_true rfl) (by first | exact jl_d0 hd rfl | omega) (by first | exact Nat.le_of_ble_eq_true rfl | omega) (by first | exact Nat.le_of_ble_eq_true rfl | omega) ?_
              refine s_X7_digitOf g (by first | exact jl_d1 hd rfl | omega) (fun z79 h79 => sg_K1 ?_)
              (try simp only [fm_no, fm_one, fn_betw, fn_sign, fn_radix, fn_high, fn_low] at h79)
              refine md_astF (pc := 82) (dc_X7_write_79.1.1.1.2) (md_newF (c := 0)) ck_v0 (by decide) (by decide) (fun h82 t82 => ?_)
              have l82 : [fs_dg nr rx m].length = 1 := rfl
              have t82 : md_F 0 h1 h82 [fs_dg nr rx m] := md_Fw t82 (by unfold fs_dg; rw [← le, ← h79]; rfl)
              refine sg_aload (pc := 83) (dc_X7_write_79.1.1.2.1) rfl ?_
              refine sg_cS2 (pc := 85) (d' := d - 1) (mc' := 1) (ms' := ([fs_dg nr rx m].length + (tt_b m (fun j => fs_dg nr rx (m - 1 - j))).length)) g (dc_X7_write_79.1.1.2.2) cb_X7_joined ml_X7_61 ms_X7_joined (Nat.le_of_ble_eq_true rfl) (by omega) (by omega) (by rw [lT]; omega) ?_
              refine f_X7_joined (L := [fs_dg nr rx m]) (M := (tt_b m (fun j => fs_dg nr rx (m - 1 - j)))) g (by first | exact jl_d1 hd rfl | omega) (md_FX t82) (md_XE A1 (md_FE t82)) (by omega) (by rw [lT]; omega) (fun h85 t85 => sg_K1 ?_)
              have E85 := md_Et E1 (md_Et (md_FE t82) (md_FE t85))
              rw [fo_dig] at t85
              have X86 := md_FX t85
              refine sg_astore (pc := 88) (dc_X7_write_79.1.2.1.1) (by decide) ?_
              refine sg_iload (pc := 90) (dc_X7_write_79.1.2.1.2) rfl ?_
              refine sg_iload_n (pc := 92) (j := 3) (dc_X7_write_79.1.2.2.1) rfl rfl ?_
              first | refine sg_idivP (pc := 93) (dc_X7_write_79.1.2.2.2) (by omega) (by omega) (by omega) ?_ | refine sg_idiv (pc := 93) (dc_X7_write_79.1.2.2.2) (by first | omega | assumption) ?_
              refine sg_istore (pc := 94) (dc_X7_write_79.2.1.1.1) (by decide) ?_
              refine sg_goto (pc := 96) (tgt := 64) (dc_X7_write_79.2.1.1.2) (by decide) ?_
              refine sg_lsub (lv' := [(5, _), (0, _), (1, _), (2, _), (3, _), (4, _)]) ⟨rfl, rfl, rfl, rfl, rfl, rfl, trivial⟩ ?_
              exact ih _ _ _ (m + 1) _ _ E85 X86 (by omega) jd (by omega) (by omega) (by rw [le, fs_dv (by omega) (by omega)]) (fun k k0 k1 => by
                by_cases q : k = m
                · subst q; rw [← le]; omega
                · exact lk k k0 (by omega)) (by first | exact jl_m1 hm (by omega) | exact jl_m2 hm (by omega) | omega)
        refine sg_lsub (lv' := [(5, _), (0, _), (1, _), (2, _), (3, _), (4, _)]) ⟨rfl, rfl, rfl, rfl, rfl, rfl, trivial⟩ ?_
        exact loop64 _ _ _ _ 1 _ _ (md_FE t56) (md_FX t56) (by decide) (jt_div (by omega) (show nr ≤ jt 0 by show nr ≤ 999999; omega) (by omega)) (by decide) (by decide) (by rw [show nr / rx ^ 1 = nr / rx ^ (0 + 1) from rfl, Int.pow_succ, Int.pow_zero, Int.one_mul]) (fun k k0 k1 => absurd k1 (by omega)) (Nat.lt_succ_self _)
      · refine sg_iconst (pc := 30) (z := 1) (dc_X7_write_0.2.2.2.2) (by decide) ?_
        refine sg_goto (pc := 31) (tgt := 35) (dc_X7_write_31.1.1.1.1) (by decide) ?_
        refine sg_iconst (pc := 35) (z := 2) (dc_X7_write_31.1.1.2.1) (by decide) ?_
        refine sg_cE2 (pc := 36) (d' := d - 1) (mc' := 0) (ms' := 0) 8 g (dc_X7_write_31.1.1.2.2) cb_X7_refuse ml_X7_45 mn_X7_refuse rfl mv_X7_refuse (Nat.le_of_ble_eq_true rfl) (md_oc (by assumption)) (Nat.le_of_ble_eq_true rfl) (by first | exact jl_d0 hd rfl | omega) (by first | exact Nat.le_of_ble_eq_true rfl | omega) (by first | exact Nat.le_of_ble_eq_true rfl | omega) ?_
        refine s_X7_refuse g (by first | exact jl_d1 hd rfl | omega) (by omega) (by assumption) (fun v36 h36 b36 i36 t36 s36 u36 y36 => sg_K1 ?_)
        have x36 := y36.1
        have hk36 := x36.2.1
        have y36 := md_Yt (h0 := h) (by assumption) y36
        refine sg_if_eq (pc := 39) (tgt := 44) (dc_X7_write_31.1.2.1.1) (by decide) (fun c39 => absurd c39 (by omega)) (fun c39 => ?_)
        refine sg_iconst (pc := 42) (z := 0) (dc_X7_write_31.1.2.1.2) (by decide) ?_
        refine sg_iret (pc := 43) (dc_X7_write_31.1.2.2.1) rfl (by first | exact Nat.le_of_ble_eq_true rfl | omega) (by first | exact Nat.le_of_ble_eq_true rfl | omega) ?_
        exact hQ _ _ (by omega) (by omega) (by omega) (fun q => absurd q (by omega)) (fun _ => md_Ya (by assumption) hA) (md_YW (by assumption))

