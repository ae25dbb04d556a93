theorem md_SE {w : sg_W} {h0 h : sg_H} {M : Nat} (x : md_M w h0 M) (e : md_E h0 h) {i : Int} (i0 : 0 ≤ i) (i1 : i < 6) : md_n h (md_a h (md_r h M) i) = md_n h0 (md_a h0 (md_r h0 M) i) := by
  obtain ⟨l, q, th, kn, R, b, h2, h0', h3, h4⟩ := x
  have hR : ∃ (c : Nat) (L : List sg_V) (a n : Nat), h0.2 R = some (110, L) ∧ L[i.toNat]? = some (sg_r a) ∧ md_A c h0 a n := by
    by_cases p : i < 4
    · obtain ⟨L, a, n, p1, p2, p3, p4, p5⟩ := md_row h3 i0 p
      exact ⟨0, L, a, n, p1, p3, p4⟩
    · obtain ⟨L, a, n, p1, p2, p3, p4, p5⟩ := md_trk h3 (by omega) i1
      exact ⟨1, L, a, n, p1, p3, p4⟩
  obtain ⟨c, L, a, n, p1, p3, p4⟩ := hR
  rw [md_re h2, md_re ((e.2 M l).trans h2), md_ae p1 p3, md_ae ((e.2 R h3.1).trans p1) p3, md_ne p4, md_ne (md_AE p4 e)]

theorem md_vE {w : sg_W} {h0 h : sg_H} {M : Nat} (x : md_M w h0 M) (e : md_E h0 h) {i : Int} (i0 : 0 ≤ i) (i1 : i < 6) : md_v h (md_a h (md_r h M) i) = md_v h0 (md_a h0 (md_r h0 M) i) := by
  obtain ⟨l, q, th, kn, R, b, h2, h0', h3, h4⟩ := x
  obtain ⟨c, L, a, n, p1, p2, p3, p4⟩ := md_any h3 i0 i1
  rw [md_re h2, md_re ((e.2 M l).trans h2), md_ae p1 p3, md_ae ((e.2 R h3.1).trans p1) p3]
  funext i
  unfold md_v
  rw [e.2 a p4.1]
theorem md_n24 {w : sg_W} {h : sg_H} {M : Nat} (x : md_M w h M) {i : Int} (i0 : 4 ≤ i) (i1 : i < 6) : md_n h (md_a h (md_r h M) i) ≤ 24 := by
  obtain ⟨l, q, th, kn, R, b, h2, h0', h3, h4⟩ := x
  obtain ⟨L, a, n, p1, p2, p3, p4, p5⟩ := md_trk h3 i0 i1
  rw [md_re h2, md_ae p1 p3, md_ne p4]
  exact p5
theorem md_n40 {w : sg_W} {h : sg_H} {M : Nat} (x : md_M w h M) {i : Int} (i0 : 0 ≤ i) (i1 : i < 4) : md_n h (md_a h (md_r h M) i) ≤ 40 := by
  obtain ⟨l, q, th, kn, R, b, h2, h0', h3, h4⟩ := x
  obtain ⟨L, a, n, p1, p2, p3, p4, p5⟩ := md_row h3 i0 i1
  rw [md_re h2, md_ae p1 p3, md_ne p4]
  exact p5
theorem md_Uv {h h' : sg_H} {M : Nat} (u : md_U h h' M) {i : Int} (i0 : 0 ≤ i) (i1 : i < 6) : md_v h' (md_a h' (md_r h' M) i) = md_v h (md_a h (md_r h M) i) ∧ md_n h' (md_a h' (md_r h' M) i) = md_n h (md_a h (md_r h M) i) := by
  obtain ⟨u1, u2⟩ := u i i0 i1
  rw [u1]
  refine ⟨?_, ?_⟩
  · funext j
    unfold md_v
    rw [u2]
  · unfold md_n
    rw [u2]

set_option maxRecDepth 100000 in
theorem s_X7_codes {w : sg_W} {Q : sg_O → sg_H → Prop} {h : sg_H} (g : sg_G w) {d : Nat} (hd : 7 ≤ d) {M : Nat} {trk : Int} (hv : 0 ≤ trk ∧ trk < 2) (hx : md_M w h M) (hQ : ∀ (h' : sg_H) (a m : Nat), md_E h h' → md_A 2 h' a m → m ≤ 24 → (m : Int) = jk (md_v h (md_a h (md_r h M) (4 + trk))) ((md_n h (md_a h (md_r h M) (4 + trk)) : Nat) : Int) 25 0 → Q (.inl (some (sg_r a))) h') : sg_C w mi_X7_codes d 76 675 [sg_r M, sg_i trk] h Q := by
  refine sg_of pn_X7 (Nat.le_of_ble_eq_true rfl) ?_
  have n24 := md_n24 hx (i := 4 + trk) (by omega) (by omega)
  refine sg_iconst (pc := 0) (z := 0) (dc_X7_codes_0.1.1.1.1) (by decide) ?_
  refine sg_newa (t := 100) (N := 0) (pc := 1) g (dc_X7_codes_0.1.1.1.2) ac_int rfl (by decide) (by decide) rfl rfl (by decide) (by omega) (by omega) (by omega) (by omega) ?_
  refine sg_astore_n (pc := 3) (j := 2) (dc_X7_codes_0.1.1.2.1) rfl (by decide) ?_
  refine sg_iconst (pc := 4) (z := 0) (dc_X7_codes_0.1.1.2.2) (by decide) ?_
  refine sg_istore_n (pc := 5) (j := 3) (dc_X7_codes_0.1.2.1.1) rfl (by decide) ?_
  have loop6 : ∀ (N : Nat) (h1 : sg_H) (p : Int) (a m k1 n1 f : Nat), (((md_n h (md_a h (md_r h M) (4 + trk)) : Nat) : Int) - p ≤ (f : Int)) → ((m : Int) + jk (md_v h (md_a h (md_r h M) (4 + trk))) ((md_n h (md_a h (md_r h M) (4 + trk)) : Nat) : Int) f p = jk (md_v h (md_a h (md_r h M) (4 + trk))) ((md_n h (md_a h (md_r h M) (4 + trk)) : Nat) : Int) 25 0) → (md_E h h1) → (md_A 2 h1 a m) → (0 ≤ p ∧ p ≤ 25) → ((m : Int) ≤ p ∧ m ≤ 24) → ((k1 : Int) ≤ 1 + 3 * p) → ((n1 : Int) ≤ 27 * p) → (25 - p).toNat < N → sg_R w mi_X7_codes d 76 675 Q 6 [(3, sg_i p), (0, sg_r M), (1, sg_i trk), (2, sg_r a)] [] h1 k1 n1 := by
    intro N
    induction N with
    | zero => intro h1 p a m k1 n1 f kf ke E1 A1 p0 m1 kb nb hm; exact absurd hm (Nat.not_lt_zero _)
    | succ N ih =>
      intro h1 p a m k1 n1 f kf ke E1 A1 p0 m1 kb nb hm
      have x1 := md_ME hx E1
      refine sg_iload_n (pc := 6) (j := 3) (dc_X7_codes_0.1.2.1.2) rfl rfl ?_
      refine sg_aload_n (pc := 7) (j := 0) (dc_X7_codes_0.1.2.2.1) rfl rfl ?_
      refine md_grw (pc := 8) g (dc_X7_codes_0.1.2.2.2) fk_X7_9 (by assumption) (fun r8 => ?_)
      refine sg_iconst (pc := 11) (z := 4) (dc_X7_codes_0.2.1.1.1) (by decide) ?_
      refine sg_iload_n (pc := 12) (j := 1) (dc_X7_codes_0.2.1.1.2) rfl rfl ?_
      first | refine sg_iaddB (pc := 13) (dc_X7_codes_0.2.1.2.1) (by omega) (by omega) ?_ | refine sg_iadd (pc := 13) (dc_X7_codes_0.2.1.2.1) ?_
      first | refine md_alr (pc := 14) (dc_X7_codes_0.2.1.2.2) (by assumption) (by omega) (by omega) (fun A14 l14 => ?_) | refine md_alt (pc := 14) (dc_X7_codes_0.2.1.2.2) (by assumption) (by omega) (by omega) (fun A14 l14 => ?_)
      refine md_len (pc := 15) (dc_X7_codes_0.2.2.1.1) (by assumption) (by omega) ?_
      refine sg_icmp_ge (pc := 16) (tgt := 52) (dc_X7_codes_0.2.2.1.2) (by decide) (fun c16 => ?_) (fun c16 => ?_)
      · refine sg_aload_n (pc := 52) (j := 2) (dc_X7_codes_46.2.1.1) rfl rfl ?_
        refine sg_aret (pc := 53) (dc_X7_codes_46.2.1.2) rfl (by first | exact Or.inl ⟨_, rfl⟩ | exact Or.inr ⟨_, rfl⟩) (by first | exact Nat.le_of_ble_eq_true rfl | omega) (by first | exact Nat.le_of_ble_eq_true rfl | omega) ?_
        have kz := jk_end (v := (md_v h (md_a h (md_r h M) (4 + trk)))) (N := ((md_n h (md_a h (md_r h M) (4 + trk)) : Nat) : Int)) (p := p) (by have := md_SE hx E1 (i := 4 + trk) (by omega) (by omega); omega) f
        exact hQ _ _ _ E1 A1 (by omega) (by omega)
      · refine sg_aload_n (pc := 19) (j := 2) (dc_X7_codes_0.2.2.2.1) rfl rfl ?_
        refine sg_iconst (pc := 20) (z := 1) (dc_X7_codes_0.2.2.2.2) (by decide) ?_
        refine sg_newa (t := 100) (N := 1) (pc := 21) g (dc_X7_codes_21.1.1.1.1) ac_int rfl (by decide) (by decide) rfl rfl (by decide) (by omega) (by omega) (by omega) (by omega) ?_
        have ve := md_vE hx E1 (i := 4 + trk) (by omega) (by omega)
        have ne := md_SE hx E1 (i := 4 + trk) (by omega) (by omega)
        obtain ⟨f9, rfl⟩ : ∃ f9, f = f9 + 1 := ⟨f - 1, by omega⟩
        rw [jk_go (by omega)] at ke
        have T21 := md_new (c := 2) (N := 1) (h := h1)
        have X21 := md_ME x1 (md_TE T21)
        have s21 := md_SE x1 (md_TE T21) (i := 4 + trk) (by omega) (by omega)
        refine sg_dup (pc := 23) (dc_X7_codes_21.1.1.1.2) rfl ?_
        refine sg_iconst (pc := 24) (z := 0) (dc_X7_codes_21.1.1.2.1) (by decide) ?_
        refine sg_aload_n (pc := 25) (j := 0) (dc_X7_codes_21.1.1.2.2) rfl rfl ?_
        refine sg_iload_n (pc := 26) (j := 1) (dc_X7_codes_21.1.2.1.1) rfl rfl ?_
        refine sg_iload_n (pc := 27) (j := 3) (dc_X7_codes_21.1.2.1.2) rfl rfl ?_
        refine sg_cE2 (pc := 28) (d' := d - 1) (mc' := 0) (ms' := 0) 8 g (dc_X7_codes_21.1.2.2.1) cb_X7_codeOf ml_X7_150 mn_X7_codeOf rfl mv_X7_codeOf (Nat.le_of_ble_eq_true rfl) (md_oc (by assumption)) (Nat.le_of_ble_eq_true rfl) (by first | exact jl_d0 hd rfl | omega) (by first | exact Nat.le_of_ble_eq_true rfl | omega) (by first | exact Nat.le_of_ble_eq_true rfl | omega) ?_
        refine s_X7_codeOfR g (by first | exact jl_d1 hd rfl | omega) (by omega) (by assumption) (fun v28 e28 l28 u28 => sg_K1 ?_)
        refine md_ast (pc := 31) (dc_X7_codes_21.1.2.2.2) T21 (by rw [ck_v2]; omega) (by omega) (by omega) (fun h31 t31 => ?_)
        refine sg_cS2 (pc := 32) (d' := d - 1) (mc' := 1) (ms' := m + 1) g (dc_X7_codes_21.2.1.1.1) cb_X7_joined ml_X7_61 ms_X7_joined (Nat.le_of_ble_eq_true rfl) (by first | exact jl_d0 hd rfl | omega) (by first | exact Nat.le_of_ble_eq_true rfl | omega) (by first | exact Nat.le_of_ble_eq_true rfl | omega) ?_
        refine s_X7_joined g (by first | exact jl_d1 hd rfl | omega) (md_AT A1 t31) t31.2.2 (by omega) (by decide) (fun h32 t32 => sg_K1 ?_)
        have E32 := md_Et (md_TE t31) (md_TE t32)
        have E32a := md_Et E1 E32
        have X32 := md_ME x1 E32
        have s32 := md_SE x1 E32 (i := 4 + trk) (by omega) (by omega)
        refine sg_astore_n (pc := 35) (j := 2) (dc_X7_codes_21.2.1.1.2) rfl (by decide) ?_
        refine sg_iload_n (pc := 36) (j := 3) (dc_X7_codes_21.2.1.2.1) rfl rfl ?_
        refine sg_aload_n (pc := 37) (j := 0) (dc_X7_codes_21.2.1.2.2) rfl rfl ?_
        refine sg_iload_n (pc := 38) (j := 1) (dc_X7_codes_21.2.2.1.1) rfl rfl ?_
        refine sg_iload_n (pc := 39) (j := 3) (dc_X7_codes_21.2.2.1.2) rfl rfl ?_
        refine sg_cE2 (pc := 40) (d' := d - 1) (mc' := 0) (ms' := 0) 8 g (dc_X7_codes_21.2.2.2.1) cb_X7_codeOf ml_X7_150 mn_X7_codeOf rfl mv_X7_codeOf (Nat.le_of_ble_eq_true rfl) (md_oc (by assumption)) (Nat.le_of_ble_eq_true rfl) (by first | exact jl_d0 hd rfl | omega) (by first | exact Nat.le_of_ble_eq_true rfl | omega) (by first | exact Nat.le_of_ble_eq_true rfl | omega) ?_
        refine s_X7_codeOfR g (by first | exact jl_d1 hd rfl | omega) (by omega) (by assumption) (fun v40 e40 l40 u40 => sg_K1 ?_)
        refine sg_cS1 (pc := 43) (d' := d - 1) (mc' := 1) (ms' := 2) g (dc_X7_codes_21.2.2.2.2) cb_X7_sent ml_X7_133 ms_X7_sent (Nat.le_of_ble_eq_true rfl) (by first | exact jl_d0 hd rfl | omega) (by first | exact Nat.le_of_ble_eq_true rfl | omega) (by first | exact Nat.le_of_ble_eq_true rfl | omega) ?_
        refine s_X7_sent g (by first | exact jl_d1 hd rfl | omega) (by omega) (fun h43 m43 l43 u43 o43 w43 t43 fa43 fb43 => sg_K1 ?_)
        have ve2 := md_vE hx E32a (i := 4 + trk) (by omega) (by omega)
        have ne2 := md_SE hx E32a (i := 4 + trk) (by omega) (by omega)
        rw [ve2, ne2] at e40
        have em : (m43 : Int) = (if jcd (md_v h (md_a h (md_r h M) (4 + trk))) ((md_n h (md_a h (md_r h M) (4 + trk)) : Nat) : Int) p < 65536 then 1 else 2) := by rw [← e40]; split <;> omega
        rw [← em] at ke
        refine md_len (pc := 46) (dc_X7_codes_46.1.1.1) t43.2.2 (by omega) ?_
        first | refine sg_iaddB (pc := 47) (dc_X7_codes_46.1.1.2) (by omega) (by omega) ?_ | refine sg_iadd (pc := 47) (dc_X7_codes_46.1.1.2) ?_
        refine sg_istore_n (pc := 48) (j := 3) (dc_X7_codes_46.1.2.1) rfl (by decide) ?_
        refine sg_goto (pc := 49) (tgt := 6) (dc_X7_codes_46.1.2.2) (by decide) ?_
        refine sg_lsub (lv' := [(3, _), (0, _), (1, _), (2, _)]) ⟨rfl, rfl, rfl, rfl, trivial⟩ ?_
        exact ih _ _ _ _ _ _ f9 (by omega) (by omega) (md_Et (md_Et E1 E32) (md_TE t43)) (md_AT t32.2.2 t43) (by omega) (by omega) (by omega) (by omega) (by first | exact jl_m1 hm (by omega) | exact jl_m2 hm (by omega) | omega)
  refine sg_lsub (lv' := [(3, _), (0, _), (1, _), (2, _)]) ⟨rfl, rfl, rfl, rfl, trivial⟩ ?_
  exact loop6 _ _ _ _ _ _ _ 25 (by show _ ≤ ((25 : Nat) : Int); omega) (by omega) (md_TE (md_new (c := 2))) md_new.2.2 (by omega) (by omega) (by omega) (by omega) (Nat.lt_succ_self _)

