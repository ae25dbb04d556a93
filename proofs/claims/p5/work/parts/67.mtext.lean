/-! texts joined letter by letter: what it costs -/
def jf : Nat → Nat
  | 0 => 0
  | p + 1 => jf p + (25 + p + (if p < 16 then 0 else if p < 34 then 34 else if p = 34 then 104 else 3 * p + 2))
theorem jf_step {p c1 m1 s1 c2 m2 s2 : Nat} (h1 : jb_c p 16 c1 m1 s1) (h2 : jb_c (p + 1) c1 c2 m2 s2) : jf p + 25 + p + s1 + s2 ≤ jf (p + 1) ∧ m1 + m2 ≤ 2 ∧ c2 ≤ 2 * p + 34 := by
  unfold jb_c at h1 h2
  rw [jf]
  refine ⟨?_, by omega, by omega⟩
  split
  · omega
  · split
    · omega
    · split <;> omega
theorem jf_mono (p : Nat) : ∀ j, jf p ≤ jf (p + j)
  | 0 => Nat.le_refl _
  | j + 1 => by
    have := jf_mono p j
    rw [show p + (j + 1) = (p + j) + 1 by omega, jf]
    omega
theorem jf_le {p q : Nat} (h : p ≤ q) : jf p ≤ jf q := by
  have := jf_mono p (q - p)
  rw [show p + (q - p) = q by omega] at this
  exact this
theorem sg_chrB {x : Int} (h0 : 0 ≤ x) (h1 : x ≤ 255) : sg_chr x = x := by
  have e : Int32.ofInt x = nI x.toNat := Int32.toInt_inj.mp (by rw [nI_toInt (by omega), Int32.toInt_ofInt]; exact (sg_w_id (by omega) (by omega)).trans (by omega))
  unfold sg_chr
  rw [e, pk_char, pk_tn (by omega), Nat.mod_eq_of_lt (by omega), nI_toInt (by omega)]
  omega
set_option maxRecDepth 100000 in
set_option maxHeartbeats 1000000 in
theorem s_X7_forms {w : sg_W} {Q : sg_O → sg_H → Prop} {h : sg_H} (g : sg_G w) {d : Nat} (hd : 12 ≤ d) {M : Nat} {row : Int} (hx : md_M w h M) (hQ : ∀ (a : Nat) (h' : sg_H), md_Y w h h' M → Q (.inl (some (sg_r a))) h') : sg_C w mi_X7_forms d 240 (jf 40) [sg_r M, sg_i row] h Q := by
  refine sg_of pn_X7 (Nat.le_of_ble_eq_true rfl) ?_
  have y0 := md_Y0 hx
  have hk := hx.2.1
  refine sg_aload_n (pc := 0) (j := 0) (dc_X7_forms_0.1.1.1.1) rfl rfl ?_
  refine sg_iload_n (pc := 1) (j := 1) (dc_X7_forms_0.1.1.1.2) rfl rfl ?_
  refine sg_cS1 (pc := 2) (d' := d - 1) (mc' := 0) (ms' := 0) g (dc_X7_forms_0.1.1.2.1) cb_X7_isNoRow ml_X7_68 ms_X7_isNoRow (Nat.le_of_ble_eq_true rfl) (by first | exact jl_d0 hd rfl | omega) (by first | exact Nat.le_of_ble_eq_true rfl | omega) (by first | exact Nat.le_of_ble_eq_true rfl | omega) ?_
  refine s_X7_isNoRow g (by first | exact jl_d1 hd rfl | omega) (fun z2 h2 b2 => sg_K1 ?_)
  (try simp only [fm_no, fm_one, fn_betw, fn_sign, fn_radix, fn_high, fn_low] at h2)
  refine sg_iconst (pc := 5) (z := 1) (dc_X7_forms_0.1.1.2.2) (by decide) ?_
  refine sg_cE2 (pc := 6) (d' := d - 1) (mc' := 0) (ms' := 0) 8 g (dc_X7_forms_0.1.2.1.1) cb_X7_start ml_X7_71 mn_X7_start rfl mv_X7_start (Nat.le_of_ble_eq_true rfl) (md_oc (by assumption)) (Nat.le_of_ble_eq_true rfl) (by first | exact jl_d0 hd rfl | omega) (by first | exact Nat.le_of_ble_eq_true rfl | omega) (by first | exact Nat.le_of_ble_eq_true rfl | omega) ?_
  refine s_X7_start g (by first | exact jl_d1 hd rfl | omega) (by omega) (by assumption) (fun v6 h6 b6 i6 t6 s6 u6 y6 => sg_K1 ?_)
  have x6 := y6.1
  have hk6 := x6.2.1
  have y6 := md_Yt (h0 := h) (by assumption) y6
  refine sg_if_eq (pc := 9) (tgt := 15) (dc_X7_forms_0.1.2.1.2) (by decide) (fun c9 => ?_) (fun c9 => ?_)
  · obtain ⟨a15, v15, S15⟩ := hk6.2.2.2.2 (173, "", 0) (by simp [jd_txt])
    refine sg_ldcS (pc := 15) (dc_X7_forms_0.2.1.1.1) v15 ?_
    refine sg_astore_n (pc := 17) (j := 2) (dc_X7_forms_0.2.1.1.2) rfl (by decide) ?_
    refine sg_aload_n (pc := 18) (j := 0) (dc_X7_forms_0.2.1.2.1) rfl rfl ?_
    refine md_grw (pc := 19) g (dc_X7_forms_0.2.1.2.2) fk_X7_9 (by assumption) (fun r19 => ?_)
    refine sg_iload_n (pc := 22) (j := 1) (dc_X7_forms_0.2.2.1.1) rfl rfl ?_
    first | refine md_alr (pc := 23) (dc_X7_forms_0.2.2.1.2) (by assumption) (by omega) (by omega) (fun A23 l23 => ?_) | refine md_alt (pc := 23) (dc_X7_forms_0.2.2.1.2) (by assumption) (by omega) (by omega) (fun A23 l23 => ?_)
    refine sg_astore_n (pc := 24) (j := 3) (dc_X7_forms_0.2.2.2.1) rfl (by decide) ?_
    refine sg_aload_n (pc := 25) (j := 3) (dc_X7_forms_0.2.2.2.2) rfl rfl ?_
    refine md_len (pc := 26) (dc_X7_forms_26.1.1.1.1) A23 (by omega) ?_
    refine sg_istore (pc := 27) (dc_X7_forms_26.1.1.1.2) (by decide) ?_
    refine sg_iconst (pc := 29) (z := 0) (dc_X7_forms_26.1.1.2.1) (by decide) ?_
    refine sg_istore (pc := 30) (dc_X7_forms_26.1.1.2.2) (by decide) ?_
    have loop32 : ∀ (N : Nat) (h1 : sg_H) (p a k1 n1 : Nat), (md_E h6 h1) → (js_S h1 a p) → (p ≤ (md_n h6 (md_a h6 (md_r h6 M) row))) → (k1 ≤ 0 + 6 * p) → (n1 ≤ 0 + jf p) → ((md_n h6 (md_a h6 (md_r h6 M) row)) - p) < N → sg_R w mi_X7_forms d 240 (jf 40) Q 32 [(5, sg_i (p : Int)), (2, sg_r a), (0, sg_r M), (1, sg_i row), (3, sg_r (md_a h6 (md_r h6 M) row)), (4, sg_i (((md_n h6 (md_a h6 (md_r h6 M) row)) : Nat) : Int))] [] h1 k1 n1 := by
      intro N
      induction N with
      | zero => intro h1 p a k1 n1 E1 S1 p1 kb nb hm; exact absurd hm (Nat.not_lt_zero _)
      | succ N ih =>
        intro h1 p a k1 n1 E1 S1 p1 kb nb hm
        have x1 : md_M w h1 M := md_ME x6 E1
        have hk1 := x1.2.1
        have y1 : md_Y w h h1 M := md_YE y6 E1
        have jl0 := jf_le (p := p) (q := 40) (by omega)
        refine sg_iload (pc := 32) (dc_X7_forms_26.1.2.1.1) rfl ?_
        refine sg_iload (pc := 34) (dc_X7_forms_26.1.2.1.2) rfl ?_
        refine sg_icmp_ge (pc := 36) (tgt := 127) (dc_X7_forms_26.1.2.2.1) (by decide) (fun c36 => ?_) (fun c36 => ?_)
        · refine sg_aload_n (pc := 127) (j := 2) (dc_X7_forms_93.2.2.2.1) rfl rfl ?_
          refine sg_aret (pc := 128) (dc_X7_forms_93.2.2.2.2) rfl (by first | exact Or.inl ⟨_, rfl⟩ | exact Or.inr ⟨_, rfl⟩) (by first | exact Nat.le_of_ble_eq_true rfl | omega) (by first | exact Nat.le_of_ble_eq_true rfl | omega) ?_
          exact hQ _ _ y1
        · refine sg_aload_n (pc := 39) (j := 3) (dc_X7_forms_26.1.2.2.2) rfl rfl ?_
          refine sg_iload (pc := 40) (dc_X7_forms_26.2.1.1.1) rfl ?_
          refine md_ald (pc := 42) (dc_X7_forms_26.2.1.1.2) (md_AE A23 E1) (by omega) (by omega) (fun x42 g42 => ?_)
          obtain ⟨c1, m1, s1, hc1⟩ := jb_cx p 16
          obtain ⟨c2, m2, s2, hc2⟩ := jb_cx (p + 1) c1
          obtain ⟨js, jm, jc⟩ := jf_step hc1 hc2
          have jl := jf_le (p := p + 1) (q := 40) (by omega)
          have cb1 : c1 ≤ 1000 := by unfold jb_c at hc1; omega
          have hJ := hk1.2.1
          refine sg_istore (pc := 43) (dc_X7_forms_26.2.1.2.1) (by decide) ?_
          refine sg_new (pc := 45) g (dc_X7_forms_26.2.1.2.2) nk_X7_175 (by first | exact Nat.le_of_ble_eq_true rfl | omega) (by first | exact Nat.le_of_ble_eq_true rfl | omega) ?_
          refine sg_dup (pc := 48) (dc_X7_forms_26.2.2.1.1) rfl ?_
          refine sg_cI0 (pc := 49) (d' := d - 1) (mc' := 1) (ms' := 16) g (dc_X7_forms_26.2.2.1.2) cb_J4_init_da8c8 rfl rfl ml_X7_177 mn_J4_init_da8c8 (Nat.le_of_ble_eq_true rfl) (by first | exact jl_d0 hd rfl | omega) (by first | exact Nat.le_of_ble_eq_true rfl | omega) (by first | exact Nat.le_of_ble_eq_true rfl | omega) ?_
          refine s_J4i (h0 := h1) g (by first | exact jl_d1 hd rfl | omega) hJ (Nat.le_refl _) ⟨Nat.le_succ _, fun q hq => sg_up_n (Nat.ne_of_lt hq)⟩ sg_up_s (fun h3 B3 => ?_)
          refine sg_K0 ?_
          refine sg_aload_n (pc := 52) (j := 2) (dc_X7_forms_26.2.2.2.1) rfl rfl ?_
          obtain ⟨v3, x3, hb3⟩ : ∃ (v : Nat) (x : Int), h3.2 h1.1 = some (1, [sg_r v, sg_i 0, sg_i x, sg_i 0]) := by obtain ⟨-, -, -, -, -, v, xs, x, -, hb, -⟩ := B3; exact ⟨v, x, hb⟩
          refine sg_cV1 (pc := 53) (d' := d - 1) (mc' := m1) (ms' := s1) g (dc_X7_forms_26.2.2.2.2) cb_J4_append_15ec4 ml_X7_178 mn_J4_append_15ec4 mv_J4_append_15ec4 hb3 (Nat.le_of_ble_eq_true rfl) rfl (Nat.le_of_ble_eq_true rfl) (by first | exact jl_d0 hd rfl | omega) (by first | exact Nat.le_of_ble_eq_true rfl | omega) (by first | exact Nat.le_of_ble_eq_true rfl | omega) ?_
          refine s_apS4 g (by first | exact jl_d1 hd rfl | omega) hJ B3 S1 (by rw [Int.zero_add]; exact hc1) cb1 (fun h4 B4 => ?_)
          refine sg_K1 ?_
          rw [Int.zero_add] at B4
          have E4 := jb_E (h' := h4) B4
          have hk4 := md_KE hk1 E4
          obtain ⟨v4, x4, hb4⟩ : ∃ (v : Nat) (x : Int), h4.2 h1.1 = some (1, [sg_r v, sg_i 0, sg_i x, sg_i (p : Int)]) := by obtain ⟨-, -, -, -, -, v, xs, x, -, hb, -⟩ := B4; exact ⟨v, x, hb⟩
          have rest114 : ∀ (q : Nat), js_S h1 q 1 → sg_R w mi_X7_forms d 240 (jf 40) Q 114 [(0, sg_r M), (1, sg_i row), (2, sg_r a), (3, sg_r (md_a h6 (md_r h6 M) row)), (4, sg_i (((md_n h6 (md_a h6 (md_r h6 M) row)) : Nat) : Int)), (5, sg_i (p : Int))] [sg_r q, sg_r h1.1] h4 (k1 + 1 + 1 + m1) (n1 + 4 + 16 + s1) := by
            intro q Sq
            refine sg_cV1 (pc := 114) (d' := d - 1) (mc' := m2) (ms' := s2) g (dc_X7_forms_93.2.1.1.2) cb_J4_append_15ec4 ml_X7_178 mn_J4_append_15ec4 mv_J4_append_15ec4 hb4 (Nat.le_of_ble_eq_true rfl) rfl (Nat.le_of_ble_eq_true rfl) (by first | exact jl_d0 hd rfl | omega) (by first | exact Nat.le_of_ble_eq_true rfl | omega) (by first | exact Nat.le_of_ble_eq_true rfl | omega) ?_
            refine s_apS4 g (by first | exact jl_d1 hd rfl | omega) hJ B4 Sq hc2 (by omega) (fun h5 B5 => ?_)
            refine sg_K1 ?_
            obtain ⟨v5, x5, hb5⟩ : ∃ (v : Nat) (x : Int), h5.2 h1.1 = some (1, [sg_r v, sg_i 0, sg_i x, sg_i ((p + 1 : Nat) : Int)]) := by obtain ⟨-, -, -, -, -, v, xs, x, -, hb, -⟩ := B5; exact ⟨v, x, hb⟩
            refine sg_cV0 (pc := 117) (d' := d - 1) (mc' := 2) (ms' := (p + 1 + 4)) g (dc_X7_forms_93.2.1.2.1) cb_J4_toString_0e30d ml_X7_192 mn_J4_toString_0e30d mv_J4_toString_0e30d hb5 (Nat.le_of_ble_eq_true rfl) rfl (Nat.le_of_ble_eq_true rfl) (by first | exact jl_d0 hd rfl | omega) (by first | exact Nat.le_of_ble_eq_true rfl | omega) (by first | exact Nat.le_of_ble_eq_true rfl | omega) ?_
            refine s_toS (n := p + 1) g (by first | exact jl_d1 hd rfl | omega) hJ B5 (fun h7 a7 Et St => ?_)
            refine sg_K1 ?_
            refine sg_astore_n (pc := 120) (j := 2) (dc_X7_forms_93.2.1.2.2) rfl (by decide) ?_
            first | refine sg_iincB (pc := 121) (dc_X7_forms_93.2.2.1.1) rfl (by decide) (by decide) (by omega) (by omega) ?_ | refine sg_iinc (pc := 121) (dc_X7_forms_93.2.2.1.1) rfl (by decide) (by decide) ?_
            refine sg_goto (pc := 124) (tgt := 32) (dc_X7_forms_93.2.2.1.2) (by decide) ?_
            refine sg_lsub (lv' := [(5, _), (2, _), (0, _), (1, _), (3, _), (4, _)]) ⟨rfl, rfl, rfl, rfl, rfl, rfl, trivial⟩ ?_
            exact ih _ (p + 1) _ _ _ (md_Et E1 Et) St (by omega) (by omega) (by omega) (by first | exact jl_m1 hm (by omega) | exact jl_m2 hm (by omega) | omega)
          refine sg_iload (pc := 56) (dc_X7_forms_56.1.1.1.1) rfl ?_
          refine sg_iconst (pc := 58) (z := 0) (dc_X7_forms_56.1.1.1.2) (by decide) ?_
          refine sg_cS2 (pc := 59) (d' := d - 1) (mc' := 0) (ms' := 0) g (dc_X7_forms_56.1.1.2.1) cb_X7_isKind ml_X7_26 ms_X7_isKind (Nat.le_of_ble_eq_true rfl) (by first | exact jl_d0 hd rfl | omega) (by first | exact Nat.le_of_ble_eq_true rfl | omega) (by first | exact Nat.le_of_ble_eq_true rfl | omega) ?_
          refine s_X7_isKind g (by first | exact jl_d1 hd rfl | omega) (by assumption) (by omega) (by omega) (fun z59 e59 b59 => sg_K1 ?_)
          refine sg_if_eq (pc := 62) (tgt := 70) (dc_X7_forms_56.1.1.2.2) (by decide) (fun c62 => ?_) (fun c62 => ?_)
          · refine sg_iload (pc := 70) (dc_X7_forms_56.1.2.2.1) rfl ?_
            refine sg_iconst (pc := 72) (z := 4) (dc_X7_forms_56.1.2.2.2) (by decide) ?_
            refine sg_cS2 (pc := 73) (d' := d - 1) (mc' := 0) (ms' := 0) g (dc_X7_forms_56.2.1.1.1) cb_X7_isKind ml_X7_26 ms_X7_isKind (Nat.le_of_ble_eq_true rfl) (by first | exact jl_d0 hd rfl | omega) (by first | exact Nat.le_of_ble_eq_true rfl | omega) (by first | exact Nat.le_of_ble_eq_true rfl | omega) ?_
            refine s_X7_isKind g (by first | exact jl_d1 hd rfl | omega) (by assumption) (by omega) (by omega) (fun z73 e73 b73 => sg_K1 ?_)
            refine sg_if_eq (pc := 76) (tgt := 84) (dc_X7_forms_56.2.1.1.2) (by decide) (fun c76 => ?_) (fun c76 => ?_)
            · refine sg_iload (pc := 84) (dc_X7_forms_56.2.2.1.1) rfl ?_
              refine sg_iconst (pc := 86) (z := 1) (dc_X7_forms_56.2.2.1.2) (by decide) ?_
              refine sg_cS2 (pc := 87) (d' := d - 1) (mc' := 0) (ms' := 0) g (dc_X7_forms_56.2.2.2.1) cb_X7_isKind ml_X7_26 ms_X7_isKind (Nat.le_of_ble_eq_true rfl) (by first | exact jl_d0 hd rfl | omega) (by first | exact Nat.le_of_ble_eq_true rfl | omega) (by first | exact Nat.le_of_ble_eq_true rfl | omega) ?_
              refine s_X7_isKind g (by first | exact jl_d1 hd rfl | omega) (by assumption) (by omega) (by omega) (fun z87 e87 b87 => sg_K1 ?_)
              refine sg_if_eq (pc := 90) (tgt := 98) (dc_X7_forms_56.2.2.2.2) (by decide) (fun c90 => ?_) (fun c90 => ?_)
              · refine sg_iload (pc := 98) (dc_X7_forms_93.1.1.2.1) rfl ?_
                refine sg_iconst (pc := 100) (z := 3) (dc_X7_forms_93.1.1.2.2) (by decide) ?_
                refine sg_cS2 (pc := 101) (d' := d - 1) (mc' := 0) (ms' := 0) g (dc_X7_forms_93.1.2.1.1) cb_X7_isKind ml_X7_26 ms_X7_isKind (Nat.le_of_ble_eq_true rfl) (by first | exact jl_d0 hd rfl | omega) (by first | exact Nat.le_of_ble_eq_true rfl | omega) (by first | exact Nat.le_of_ble_eq_true rfl | omega) ?_
                refine s_X7_isKind g (by first | exact jl_d1 hd rfl | omega) (by assumption) (by omega) (by omega) (fun z101 e101 b101 => sg_K1 ?_)
                refine sg_if_eq (pc := 104) (tgt := 112) (dc_X7_forms_93.1.2.1.2) (by decide) (fun c104 => ?_) (fun c104 => ?_)
                · obtain ⟨a112, v112, S112⟩ := hk1.2.2.2.2 (190, "-", 1) (by simp [jd_txt])
                  refine sg_ldcS (pc := 112) (dc_X7_forms_93.2.1.1.1) v112 ?_
                  refine sg_lsub (lv' := [(0, _), (1, _), (2, _), (3, _), (4, _), (5, _)]) ⟨rfl, rfl, rfl, rfl, rfl, rfl, trivial⟩ ?_
                  exact rest114 _ (by assumption)
                · obtain ⟨a107, v107, S107⟩ := hk1.2.2.2.2 (188, "w", 1) (by simp [jd_txt])
                  refine sg_ldcS (pc := 107) (dc_X7_forms_93.1.2.2.1) v107 ?_
                  refine sg_goto (pc := 109) (tgt := 114) (dc_X7_forms_93.1.2.2.2) (by decide) ?_
                  refine sg_lsub (lv' := [(0, _), (1, _), (2, _), (3, _), (4, _), (5, _)]) ⟨rfl, rfl, rfl, rfl, rfl, rfl, trivial⟩ ?_
                  exact rest114 _ (by assumption)
              · obtain ⟨a93, v93, S93⟩ := hk1.2.2.2.2 (186, "l", 1) (by simp [jd_txt])
                refine sg_ldcS (pc := 93) (dc_X7_forms_93.1.1.1.1) v93 ?_
                refine sg_goto (pc := 95) (tgt := 114) (dc_X7_forms_93.1.1.1.2) (by decide) ?_
                refine sg_lsub (lv' := [(0, _), (1, _), (2, _), (3, _), (4, _), (5, _)]) ⟨rfl, rfl, rfl, rfl, rfl, rfl, trivial⟩ ?_
                exact rest114 _ (by assumption)
            · obtain ⟨a79, v79, S79⟩ := hk1.2.2.2.2 (184, "u", 1) (by simp [jd_txt])
              refine sg_ldcS (pc := 79) (dc_X7_forms_56.2.1.2.1) v79 ?_
              refine sg_goto (pc := 81) (tgt := 114) (dc_X7_forms_56.2.1.2.2) (by decide) ?_
              refine sg_lsub (lv' := [(0, _), (1, _), (2, _), (3, _), (4, _), (5, _)]) ⟨rfl, rfl, rfl, rfl, rfl, rfl, trivial⟩ ?_
              exact rest114 _ (by assumption)
          · obtain ⟨a65, v65, S65⟩ := hk1.2.2.2.2 (182, "d", 1) (by simp [jd_txt])
            refine sg_ldcS (pc := 65) (dc_X7_forms_56.1.2.1.1) v65 ?_
            refine sg_goto (pc := 67) (tgt := 114) (dc_X7_forms_56.1.2.1.2) (by decide) ?_
            refine sg_lsub (lv' := [(0, _), (1, _), (2, _), (3, _), (4, _), (5, _)]) ⟨rfl, rfl, rfl, rfl, rfl, rfl, trivial⟩ ?_
            exact rest114 _ (by assumption)
    refine sg_lsub (lv' := [(5, _), (2, _), (0, _), (1, _), (3, _), (4, _)]) ⟨rfl, rfl, rfl, rfl, rfl, rfl, trivial⟩ ?_
    exact loop32 _ _ 0 _ _ _ md_E0 S15 (by omega) (by omega) (by omega) (Nat.lt_succ_self _)
  · obtain ⟨a12, v12, S12⟩ := hk6.2.2.2.2 (173, "", 0) (by simp [jd_txt])
    refine sg_ldcS (pc := 12) (dc_X7_forms_0.1.2.2.1) v12 ?_
    refine sg_aret (pc := 14) (dc_X7_forms_0.1.2.2.2) rfl (by first | exact Or.inl ⟨_, rfl⟩ | exact Or.inr ⟨_, rfl⟩) (by first | exact Nat.le_of_ble_eq_true rfl | omega) (by first | exact Nat.le_of_ble_eq_true rfl | omega) ?_
    exact hQ _ _ (by assumption)

set_option maxRecDepth 100000 in
set_option maxHeartbeats 1000000 in
theorem s_X7_spelled {w : sg_W} {Q : sg_O → sg_H → Prop} {h : sg_H} (g : sg_G w) {d : Nat} (hd : 12 ≤ d) {M : Nat} {row : Int} {K0 : Nat} (hK : (0 ≤ row ∧ row < 4) → (md_n h (md_a h (md_r h M) row)) ≤ K0) (hK2 : K0 ≤ 40) (hx : md_M w h M) (hQ : ∀ (a : Nat) (h' : sg_H), md_Y w h h' M → Q (.inl (some (sg_r a))) h') : sg_C w mi_X7_spelled d (1 + 12 * K0) (2 * K0 + jf (2 * K0)) [sg_r M, sg_i row] h Q := by
  refine sg_of pn_X7 (Nat.le_of_ble_eq_true rfl) ?_
  have y0 := md_Y0 hx
  have hk := hx.2.1
  refine sg_aload_n (pc := 0) (j := 0) (dc_X7_spelled_0.1.1.1.1) rfl rfl ?_
  refine sg_iload_n (pc := 1) (j := 1) (dc_X7_spelled_0.1.1.1.2) rfl rfl ?_
  refine sg_cS1 (pc := 2) (d' := d - 1) (mc' := 0) (ms' := 0) g (dc_X7_spelled_0.1.1.2.1) cb_X7_isNoRow ml_X7_68 ms_X7_isNoRow (Nat.le_of_ble_eq_true rfl) (by first | exact jl_d0 hd rfl | omega) (by first | exact Nat.le_of_ble_eq_true rfl | omega) (by first | exact Nat.le_of_ble_eq_true rfl | omega) ?_
  refine s_X7_isNoRow g (by first | exact jl_d1 hd rfl | omega) (fun z2 h2 b2 => sg_K1 ?_)
  (try simp only [fm_no, fm_one, fn_betw, fn_sign, fn_radix, fn_high, fn_low] at h2)
  refine sg_iconst (pc := 5) (z := 1) (dc_X7_spelled_0.1.1.2.2) (by decide) ?_
  refine sg_cE2 (pc := 6) (d' := d - 1) (mc' := 0) (ms' := 0) 8 g (dc_X7_spelled_0.1.2.1.1) cb_X7_start ml_X7_71 mn_X7_start rfl mv_X7_start (Nat.le_of_ble_eq_true rfl) (md_oc (by assumption)) (Nat.le_of_ble_eq_true rfl) (by first | exact jl_d0 hd rfl | omega) (by first | exact Nat.le_of_ble_eq_true rfl | omega) (by first | exact Nat.le_of_ble_eq_true rfl | omega) ?_
  refine s_X7_start g (by first | exact jl_d1 hd rfl | omega) (by omega) (by assumption) (fun v6 h6 b6 i6 t6 s6 u6 y6 => sg_K1 ?_)
  have x6 := y6.1
  have hk6 := x6.2.1
  have y6 := md_Yt (h0 := h) (by assumption) y6
  refine sg_if_eq (pc := 9) (tgt := 15) (dc_X7_spelled_0.1.2.1.2) (by decide) (fun c9 => ?_) (fun c9 => ?_)
  · obtain ⟨a15, v15, S15⟩ := hk6.2.2.2.2 (173, "", 0) (by simp [jd_txt])
    refine sg_ldcS (pc := 15) (dc_X7_spelled_0.2.1.1.1) v15 ?_
    refine sg_astore_n (pc := 17) (j := 2) (dc_X7_spelled_0.2.1.1.2) rfl (by decide) ?_
    refine sg_aload_n (pc := 18) (j := 0) (dc_X7_spelled_0.2.1.2.1) rfl rfl ?_
    refine md_grw (pc := 19) g (dc_X7_spelled_0.2.1.2.2) fk_X7_9 (by assumption) (fun r19 => ?_)
    refine sg_iload_n (pc := 22) (j := 1) (dc_X7_spelled_0.2.2.1.1) rfl rfl ?_
    first | refine md_alr (pc := 23) (dc_X7_spelled_0.2.2.1.2) (by assumption) (by omega) (by omega) (fun A23 l23 => ?_) | refine md_alt (pc := 23) (dc_X7_spelled_0.2.2.1.2) (by assumption) (by omega) (by omega) (fun A23 l23 => ?_)
    have s22 := s6 row
    have n0 : (md_n h6 (md_a h6 (md_r h6 M) row)) ≤ K0 := by have := hK (by omega); omega
    refine sg_cS1 (pc := 24) (d' := d - 1) (mc' := 1) (ms' := (2 * (md_n h6 (md_a h6 (md_r h6 M) row)))) g (dc_X7_spelled_0.2.2.2.1) cb_X7_spelledOf ml_X7_112 ms_X7_spelledOf (Nat.le_of_ble_eq_true rfl) (by first | exact jl_d0 hd rfl | omega) (by first | exact Nat.le_of_ble_eq_true rfl | omega) (by first | exact Nat.le_of_ble_eq_true rfl | omega) ?_
    refine s_X7_spelledOf g (by first | exact jl_d1 hd rfl | omega) (by assumption) (by omega) (fun h24 t24 => sg_K1 ?_)
    have x24 : md_M w h24 M := md_ME (by assumption) (md_TE t24)
    have hk24 := x24.2.1
    have y24 : md_Y w h h24 M := md_YE (by assumption) (md_TE t24)
    refine sg_astore_n (pc := 27) (j := 3) (dc_X7_spelled_0.2.2.2.2) rfl (by decide) ?_
    refine sg_aload_n (pc := 28) (j := 3) (dc_X7_spelled_28.1.1.1.1) rfl rfl ?_
    refine md_len (pc := 29) (dc_X7_spelled_28.1.1.1.2) t24.2.2 (by omega) ?_
    refine sg_istore (pc := 30) (dc_X7_spelled_28.1.1.2.1) (by decide) ?_
    refine sg_iconst (pc := 32) (z := 0) (dc_X7_spelled_28.1.1.2.2) (by decide) ?_
    refine sg_istore (pc := 33) (dc_X7_spelled_28.1.2.1.1) (by decide) ?_
    have loop35 : ∀ (N : Nat) (h1 : sg_H) (p a k1 n1 : Nat), (md_E h24 h1) → (js_S h1 a p) → (p ≤ (2 * (md_n h6 (md_a h6 (md_r h6 M) row)))) → (k1 ≤ 1 + 6 * p) → (n1 ≤ (2 * (md_n h6 (md_a h6 (md_r h6 M) row))) + jf p) → ((2 * (md_n h6 (md_a h6 (md_r h6 M) row))) - p) < N → sg_R w mi_X7_spelled d (1 + 12 * K0) (2 * K0 + jf (2 * K0)) Q 35 [(5, sg_i (p : Int)), (2, sg_r a), (0, sg_r M), (1, sg_i row), (3, sg_r h6.1), (4, sg_i (((2 * (md_n h6 (md_a h6 (md_r h6 M) row))) : Nat) : Int))] [] h1 k1 n1 := by
      intro N
      induction N with
      | zero => intro h1 p a k1 n1 E1 S1 p1 kb nb hm; exact absurd hm (Nat.not_lt_zero _)
      | succ N ih =>
        intro h1 p a k1 n1 E1 S1 p1 kb nb hm
        have x1 : md_M w h1 M := md_ME x24 E1
        have hk1 := x1.2.1
        have y1 : md_Y w h h1 M := md_YE y24 E1
        have jl0 := jf_le (p := p) (q := (2 * K0)) (by omega)
        refine sg_iload (pc := 35) (dc_X7_spelled_28.1.2.1.2) rfl ?_
        refine sg_iload (pc := 37) (dc_X7_spelled_28.1.2.2.1) rfl ?_
        refine sg_icmp_ge (pc := 39) (tgt := 75) (dc_X7_spelled_28.1.2.2.2) (by decide) (fun c39 => ?_) (fun c39 => ?_)
        · refine sg_aload_n (pc := 75) (j := 2) (dc_X7_spelled_56.2.1.1.1) rfl rfl ?_
          refine sg_aret (pc := 76) (dc_X7_spelled_56.2.1.1.2) rfl (by first | exact Or.inl ⟨_, rfl⟩ | exact Or.inr ⟨_, rfl⟩) (by first | exact Nat.le_of_ble_eq_true rfl | omega) (by first | exact Nat.le_of_ble_eq_true rfl | omega) ?_
          exact hQ _ _ y1
        · refine sg_aload_n (pc := 42) (j := 3) (dc_X7_spelled_28.2.1.1.1) rfl rfl ?_
          refine sg_iload (pc := 43) (dc_X7_spelled_28.2.1.1.2) rfl ?_
          refine md_ald (pc := 45) (dc_X7_spelled_28.2.1.2.1) (md_AE t24.2.2 E1) (by omega) (by omega) (fun x45 g45 => ?_)
          have q45 := ck_v3.mp g45
          obtain ⟨c1, m1, s1, hc1⟩ := jb_cx p 16
          obtain ⟨c2, m2, s2, hc2⟩ := jb_cx (p + 1) c1
          obtain ⟨js, jm, jc⟩ := jf_step hc1 hc2
          have jl := jf_le (p := p + 1) (q := (2 * K0)) (by omega)
          have cb1 : c1 ≤ 1000 := by unfold jb_c at hc1; omega
          have hJ := hk1.2.1
          refine sg_istore (pc := 46) (dc_X7_spelled_28.2.1.2.2) (by decide) ?_
          refine sg_new (pc := 48) g (dc_X7_spelled_28.2.2.1.1) nk_X7_175 (by first | exact Nat.le_of_ble_eq_true rfl | omega) (by first | exact Nat.le_of_ble_eq_true rfl | omega) ?_
          refine sg_dup (pc := 51) (dc_X7_spelled_28.2.2.1.2) rfl ?_
          refine sg_cI0 (pc := 52) (d' := d - 1) (mc' := 1) (ms' := 16) g (dc_X7_spelled_28.2.2.2.1) cb_J4_init_da8c8 rfl rfl ml_X7_177 mn_J4_init_da8c8 (Nat.le_of_ble_eq_true rfl) (by first | exact jl_d0 hd rfl | omega) (by first | exact Nat.le_of_ble_eq_true rfl | omega) (by first | exact Nat.le_of_ble_eq_true rfl | omega) ?_
          refine s_J4i (h0 := h1) g (by first | exact jl_d1 hd rfl | omega) hJ (Nat.le_refl _) ⟨Nat.le_succ _, fun q hq => sg_up_n (Nat.ne_of_lt hq)⟩ sg_up_s (fun h3 B3 => ?_)
          refine sg_K0 ?_
          refine sg_aload_n (pc := 55) (j := 2) (dc_X7_spelled_28.2.2.2.2) rfl rfl ?_
          obtain ⟨v3, x3, hb3⟩ : ∃ (v : Nat) (x : Int), h3.2 h1.1 = some (1, [sg_r v, sg_i 0, sg_i x, sg_i 0]) := by obtain ⟨-, -, -, -, -, v, xs, x, -, hb, -⟩ := B3; exact ⟨v, x, hb⟩
          refine sg_cV1 (pc := 56) (d' := d - 1) (mc' := m1) (ms' := s1) g (dc_X7_spelled_56.1.1.1.1) cb_J4_append_15ec4 ml_X7_178 mn_J4_append_15ec4 mv_J4_append_15ec4 hb3 (Nat.le_of_ble_eq_true rfl) rfl (Nat.le_of_ble_eq_true rfl) (by first | exact jl_d0 hd rfl | omega) (by first | exact Nat.le_of_ble_eq_true rfl | omega) (by first | exact Nat.le_of_ble_eq_true rfl | omega) ?_
          refine s_apS4 g (by first | exact jl_d1 hd rfl | omega) hJ B3 S1 (by rw [Int.zero_add]; exact hc1) cb1 (fun h4 B4 => ?_)
          refine sg_K1 ?_
          rw [Int.zero_add] at B4
          have E4 := jb_E (h' := h4) B4
          have hk4 := md_KE hk1 E4
          obtain ⟨v4, x4, hb4⟩ : ∃ (v : Nat) (x : Int), h4.2 h1.1 = some (1, [sg_r v, sg_i 0, sg_i x, sg_i (p : Int)]) := by obtain ⟨-, -, -, -, -, v, xs, x, -, hb, -⟩ := B4; exact ⟨v, x, hb⟩
          refine sg_iload (pc := 59) (dc_X7_spelled_56.1.1.1.2) rfl ?_
          refine sg_i2c (pc := 61) (dc_X7_spelled_56.1.1.2.1) ?_
          rw [sg_chrB (by omega) (by omega)]
          refine sg_cV1 (pc := 62) (d' := d - 1) (mc' := m2) (ms' := s2) g (dc_X7_spelled_56.1.1.2.2) cb_J4_append_cf468 ml_X7_196 mn_J4_append_cf468 mv_J4_append_cf468 hb4 (Nat.le_of_ble_eq_true rfl) rfl (Nat.le_of_ble_eq_true rfl) (by first | exact jl_d0 hd rfl | omega) (by first | exact Nat.le_of_ble_eq_true rfl | omega) (by first | exact Nat.le_of_ble_eq_true rfl | omega) ?_
          refine s_apC4 g (by first | exact jl_d1 hd rfl | omega) hJ B4 (by omega) (by omega) hc2 (by omega) (fun h5 B5 => ?_)
          refine sg_K1 ?_
          obtain ⟨v5, x5, hb5⟩ : ∃ (v : Nat) (x : Int), h5.2 h1.1 = some (1, [sg_r v, sg_i 0, sg_i x, sg_i ((p + 1 : Nat) : Int)]) := by obtain ⟨-, -, -, -, -, v, xs, x, -, hb, -⟩ := B5; exact ⟨v, x, hb⟩
          refine sg_cV0 (pc := 65) (d' := d - 1) (mc' := 2) (ms' := (p + 1 + 4)) g (dc_X7_spelled_56.1.2.1.1) cb_J4_toString_0e30d ml_X7_192 mn_J4_toString_0e30d mv_J4_toString_0e30d hb5 (Nat.le_of_ble_eq_true rfl) rfl (Nat.le_of_ble_eq_true rfl) (by first | exact jl_d0 hd rfl | omega) (by first | exact Nat.le_of_ble_eq_true rfl | omega) (by first | exact Nat.le_of_ble_eq_true rfl | omega) ?_
          refine s_toS (n := p + 1) g (by first | exact jl_d1 hd rfl | omega) hJ B5 (fun h7 a7 Et St => ?_)
          refine sg_K1 ?_
          refine sg_astore_n (pc := 68) (j := 2) (dc_X7_spelled_56.1.2.1.2) rfl (by decide) ?_
          first | refine sg_iincB (pc := 69) (dc_X7_spelled_56.1.2.2.1) rfl (by decide) (by decide) (by omega) (by omega) ?_ | refine sg_iinc (pc := 69) (dc_X7_spelled_56.1.2.2.1) rfl (by decide) (by decide) ?_
          refine sg_goto (pc := 72) (tgt := 35) (dc_X7_spelled_56.1.2.2.2) (by decide) ?_
          refine sg_lsub (lv' := [(5, _), (2, _), (0, _), (1, _), (3, _), (4, _)]) ⟨rfl, rfl, rfl, rfl, rfl, rfl, trivial⟩ ?_
          exact ih _ (p + 1) _ _ _ (md_Et E1 Et) St (by omega) (by omega) (by omega) (by first | exact jl_m1 hm (by omega) | exact jl_m2 hm (by omega) | omega)
    refine sg_lsub (lv' := [(5, _), (2, _), (0, _), (1, _), (3, _), (4, _)]) ⟨rfl, rfl, rfl, rfl, rfl, rfl, trivial⟩ ?_
    exact loop35 _ _ 0 _ _ _ md_E0 (js_SE S15 (md_TE t24)) (by omega) (by omega) (by omega) (Nat.lt_succ_self _)
  · obtain ⟨a12, v12, S12⟩ := hk6.2.2.2.2 (173, "", 0) (by simp [jd_txt])
    refine sg_ldcS (pc := 12) (dc_X7_spelled_0.1.2.2.1) v12 ?_
    refine sg_aret (pc := 14) (dc_X7_spelled_0.1.2.2.2) rfl (by first | exact Or.inl ⟨_, rfl⟩ | exact Or.inr ⟨_, rfl⟩) (by first | exact Nat.le_of_ble_eq_true rfl | omega) (by first | exact Nat.le_of_ble_eq_true rfl | omega) ?_
    exact hQ _ _ (by assumption)

