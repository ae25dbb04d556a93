/-! words: a fresh list of arrays of two numbers -/
def jw_P (w : sg_W) (h0 h : sg_H) (b cap : Nat) (sz : Int) : Prop := h0.1 ≤ b ∧ md_E h0 h ∧ b < h.1 ∧ ∃ (m : Int) (E : Nat) (xs : List sg_V), h.2 b = some (2, [sg_i m, sg_r E, sg_i sz]) ∧ ((cap = 0 ∧ xs = [] ∧ h.2 E = some (313, []) ∧ va_Z "java/util/ArrayList" "DEFAULTCAPACITY_EMPTY_ELEMENTDATA" "[Ljava/lang/Object;" (.ref E) (fun q => sg_b w ≤ q) w.2.1 w.2.1.heap) ∨ (0 < cap ∧ h0.1 ≤ E ∧ h.2 E = some (113, xs) ∧ xs.length = cap)) ∧ 0 ≤ sz ∧ sz ≤ (cap : Int) ∧ ∀ j : Nat, (j : Int) < sz → ∃ a, xs[j]? = some (sg_r a) ∧ h0.1 ≤ a ∧ md_A 0 h a 2
def jwc (v : Int → Int) : Nat → Int
  | 0 => 0
  | k + 1 => jwc v k + (if fn_isOf (v k) 2 = 1 ∧ (k = 0 ∨ fn_isOf (v ((k : Int) - 1)) 2 ≠ 1) then 1 else 0)
/-- what the list's arrays have cost -/
def jwg (cap : Nat) (c s : Nat) : Prop := (cap = 0 ∧ c = 0 ∧ s = 0) ∨ (cap = 10 ∧ c = 1 ∧ s = 10) ∨ (cap = 15 ∧ c = 2 ∧ s = 25) ∨ (cap = 22 ∧ c = 3 ∧ s = 47)
theorem md_Akeep {h h' : sg_H} {a n c : Nat} (x : md_A c h a n) (hl : h.1 ≤ h'.1) (e : h'.2 a = h.2 a) : md_A c h' a n := by
  obtain ⟨h1, zs, h2, h3, h4⟩ := x
  exact ⟨Nat.lt_of_lt_of_le h1 hl, zs, h2, h3, e.trans h4⟩
theorem md_Ane {h : sg_H} {a n c q t : Nat} {vs : List sg_V} (x : md_A c h a n) (hq : h.2 q = some (t, vs)) (ht : t ≠ 100) : a ≠ q := fun e => by
  obtain ⟨h1, zs, h2, h3, h4⟩ := x
  rw [e, hq] at h4
  cases h4
  exact ht rfl
theorem jw_add {w : sg_W} {h0 h : sg_H} {h1 b E E' cap' x : Nat} {m m1 sz : Int} {ys zs : List sg_V} {f : Nat → Option sg_E} (b0 : h0.1 ≤ b) (E0 : md_E h0 h) (hl : h.1 ≤ h1) (hb1 : b < h.1) (hb : h.2 b = some (2, [sg_i m, sg_r E, sg_i sz])) (fb : f b = some (2, [sg_i m1, sg_r E', sg_i (sz + 1)])) (fE : f E' = some (113, zs.set sz.toNat (sg_r x))) (hE0 : h0.1 ≤ E') (hzl : zs.length = cap') (s0 : 0 ≤ sz) (sc : sz + 1 ≤ (cap' : Int))
    (hz : ∀ j : Nat, (j : Int) < sz → zs[j]? = ys[j]?) (hy : ∀ j : Nat, (j : Int) < sz → ∃ a, ys[j]? = some (sg_r a) ∧ h0.1 ≤ a ∧ md_A 0 h a 2) (x0 : h0.1 ≤ x) (hx : md_A 0 h x 2) (hE' : ∀ a, md_A 0 h a 2 → a ≠ E') (fr : ∀ q, q ≠ b → q ≠ E' → f q = h.2 q) : jw_P w h0 (h1, f) b cap' (sz + 1) := by
  have kp : ∀ a, md_A 0 h a 2 → md_A 0 (h1, f) a 2 := fun a z => md_Akeep z hl (fr a (md_Ane z hb (by decide)) (hE' a z))
  refine ⟨b0, ⟨Nat.le_trans E0.1 hl, fun q hq => (fr q (by omega) (by omega)).trans (E0.2 q hq)⟩, Nat.lt_of_lt_of_le hb1 hl, m1, E', _, fb, Or.inr ⟨by omega, hE0, fE, by rw [List.length_set]; exact hzl⟩, by omega, sc, fun j hj => ?_⟩
  by_cases c : (j : Int) < sz
  · obtain ⟨a, e1, e2, e3⟩ := hy j c
    exact ⟨a, by rw [List.getElem?_set_ne (by omega), hz j c]; exact e1, e2, kp a e3⟩
  · have e : j = sz.toNat := by omega
    subst e
    exact ⟨x, by rw [List.getElem?_set_self (by omega)], x0, kp x hx⟩
theorem jw_inc {w : sg_W} {h0 h : sg_H} {b cap a : Nat} {sz : Int} {zs : List Int} (P : jw_P w h0 h b cap sz) (a0 : h0.1 ≤ a) (ha : h.2 a = some (100, zs.map sg_i)) (hz : zs.length = 2) {i : Nat} {x : Int} : jw_P w h0 (h.1, sg_up h.2 a (100, (zs.map sg_i).set i (sg_i x))) b cap sz := by
  obtain ⟨b0, E0, b1, m, E, xs, hb, hE, s0, sc, hj⟩ := P
  have nb : b ≠ a := fun q => by rw [q, ha] at hb; cases hb
  have kp : ∀ q, md_A 0 h q 2 → md_A 0 (h.1, sg_up h.2 a (100, (zs.map sg_i).set i (sg_i x))) q 2 := fun q z => by
    by_cases c : q = a
    · subst c
      exact ⟨z.1, zs.set i x, by rw [List.length_set]; exact hz, fun _ _ => ck_v0, by rw [List.map_set]; exact sg_up_s⟩
    · exact md_Akeep z (Nat.le_refl _) (sg_up_n c)
  refine ⟨b0, ⟨E0.1, fun q hq => (sg_up_n (by omega)).trans (E0.2 q hq)⟩, b1, m, E, xs, (sg_up_n nb).trans hb, ?_, s0, sc, fun j h9 => ?_⟩
  · rcases hE with ⟨e1, e2, e3, e4⟩ | ⟨e1, e2, e3, e4⟩
    · exact Or.inl ⟨e1, e2, (sg_up_n (fun q => by rw [q, ha] at e3; cases e3)).trans e3, e4⟩
    · exact Or.inr ⟨e1, e2, (sg_up_n (fun q => by rw [q, ha] at e3; cases e3)).trans e3, e4⟩
  · obtain ⟨q, e1, e2, e3⟩ := hj j h9
    exact ⟨q, e1, e2, kp q e3⟩
theorem jw_E {w : sg_W} {h0 h h' : sg_H} {b cap : Nat} {sz : Int} (P : jw_P w h0 h b cap sz) (e : md_E h h') (hf : ∀ y x, h.2 y = some x → y < h.1) : jw_P w h0 h' b cap sz := by
  obtain ⟨b0, E0, b1, m, E, xs, hb, hE, s0, sc, hj⟩ := P
  refine ⟨b0, md_Et E0 e, Nat.lt_of_lt_of_le b1 e.1, m, E, xs, (e.2 b b1).trans hb, ?_, s0, sc, fun j h9 => ?_⟩
  · rcases hE with ⟨e1, e2, e3, e4⟩ | ⟨e1, e2, e3, e4⟩
    · exact Or.inl ⟨e1, e2, (e.2 E (hf _ _ e3)).trans e3, e4⟩
    · exact Or.inr ⟨e1, e2, (e.2 E (hf _ _ e3)).trans e3, e4⟩
  · obtain ⟨q, e1, e2, e3⟩ := hj j h9
    exact ⟨q, e1, e2, md_AE e3 e⟩
theorem md_asI : sg_as 113 (100 % 200) := Or.inr ⟨by decide, Or.inr ⟨rfl, ci_ob⟩⟩
set_option maxRecDepth 100000 in
set_option maxHeartbeats 800000 in
theorem s_X7_wordsOf {w : sg_W} {Q : sg_O → sg_H → Prop} {h : sg_H} (g : sg_G w) {d : Nat} (hd : 10 ≤ d) {M : Nat} {row : Int} (hv : 0 ≤ row ∧ row < 4) (hx : md_M w h M) (hQ : ∀ (h' : sg_H) (b cap : Nat) (sz : Int), jw_P w h h' b cap sz → sz = jwc (md_v h (md_a h (md_r h M) row)) (md_n h (md_a h (md_r h M) row)) → sz ≤ 20 → Q (.inl (some (sg_r b))) h') : sg_C w mi_X7_wordsOf d 24 90 [sg_r M, sg_i row] h Q := by
  refine sg_of pn_X7 (Nat.le_of_ble_eq_true rfl) ?_
  have y0 := md_Y0 hx
  have hk := hx.2.1
  have loop10 : ∀ (N : Nat) (h1 : sg_H) (p cap k1 n1 cc ss : Nat) (sz : Int), jw_P w h h1 h.1 cap sz → jwg cap cc ss → ((k1 : Int) ≤ 1 + cc + sz) → ((n1 : Int) ≤ 3 + ss + 2 * sz) → sz = jwc (md_v h (md_a h (md_r h M) row)) p → p ≤ (md_n h (md_a h (md_r h M) row)) → (2 * sz ≤ (p : Int) + 1) → ((p = 0 ∨ fn_isOf ((md_v h (md_a h (md_r h M) row)) ((p : Int) - 1)) 2 ≠ 1) → 2 * sz ≤ (p : Int)) → (0 < p → fn_isOf ((md_v h (md_a h (md_r h M) row)) ((p : Int) - 1)) 2 = 1 → 1 ≤ sz) → 40 - p < N → sg_R w mi_X7_wordsOf d 24 90 Q 10 [(3, sg_i (p : Int)), (0, sg_r M), (1, sg_i row), (2, sg_r h.1)] [] h1 k1 n1 := by
    intro N
    induction N with
    | zero => intro h1 p cap k1 n1 cc ss sz P1 g1 kb nb cn pN b1 b2 b3 hm; exact absurd hm (Nat.not_lt_zero _)
    | succ N ih =>
      intro h1 p cap k1 n1 cc ss sz P1 g1 kb nb cn pN b1 b2 b3 hm
      have x1 : md_M w h1 M := md_ME hx P1.2.1
      have hk1 := x1.2.1
      have ve := md_vE hx P1.2.1 (i := row) (by omega) (by omega)
      have se := md_SE hx P1.2.1 (i := row) (by omega) (by omega)
      have n40 := md_n40 hx (i := row) (by omega) (by omega)
      have s0 : 0 ≤ sz := by obtain ⟨-, -, -, m, E, xs, -, -, s0, -⟩ := P1; exact s0
      refine sg_frs (fun hf => ?_)
      have rk : k1 + 2 ≤ 24 + 2 ∧ n1 ≤ 90 := by unfold jwg at g1; omega
      refine sg_iload_n (pc := 10) (j := 3) (dc_X7_wordsOf_0.1.2.2.1) rfl rfl ?_
      refine sg_aload_n (pc := 11) (j := 0) (dc_X7_wordsOf_0.1.2.2.2) rfl rfl ?_
      refine md_grw (pc := 12) g (dc_X7_wordsOf_0.2.1.1.1) fk_X7_9 (by assumption) (fun r12 => ?_)
      refine sg_iload_n (pc := 15) (j := 1) (dc_X7_wordsOf_0.2.1.1.2) rfl rfl ?_
      first | refine md_alr (pc := 16) (dc_X7_wordsOf_0.2.1.2.1) (by assumption) (by omega) (by omega) (fun A16 l16 => ?_) | refine md_alt (pc := 16) (dc_X7_wordsOf_0.2.1.2.1) (by assumption) (by omega) (by omega) (fun A16 l16 => ?_)
      refine md_len (pc := 17) (dc_X7_wordsOf_0.2.1.2.2) (by assumption) (by omega) ?_
      refine sg_icmp_ge (pc := 18) (tgt := 101) (dc_X7_wordsOf_0.2.2.1.1) (by decide) (fun c18 => ?_) (fun c18 => ?_)
      · refine sg_aload_n (pc := 101) (j := 2) (dc_X7_wordsOf_101.1) rfl rfl ?_
        refine sg_aret (pc := 102) (dc_X7_wordsOf_101.2) rfl (by first | exact Or.inl ⟨_, rfl⟩ | exact Or.inr ⟨_, rfl⟩) (by first | exact Nat.le_of_ble_eq_true rfl | omega) (by first | exact Nat.le_of_ble_eq_true rfl | omega) ?_
        have ep : p = (md_n h (md_a h (md_r h M) row)) := by omega
        subst ep
        exact hQ _ _ _ _ P1 cn (by omega)
      · refine sg_aload_n (pc := 21) (j := 0) (dc_X7_wordsOf_0.2.2.1.2) rfl rfl ?_
        refine md_grw (pc := 22) g (dc_X7_wordsOf_0.2.2.2.1) fk_X7_9 (by assumption) (fun r22 => ?_)
        refine sg_iload_n (pc := 25) (j := 1) (dc_X7_wordsOf_0.2.2.2.2) rfl rfl ?_
        first | refine md_alr (pc := 26) (dc_X7_wordsOf_26.1.1.1.1) (by assumption) (by omega) (by omega) (fun A26 l26 => ?_) | refine md_alt (pc := 26) (dc_X7_wordsOf_26.1.1.1.1) (by assumption) (by omega) (by omega) (fun A26 l26 => ?_)
        refine sg_iload_n (pc := 27) (j := 3) (dc_X7_wordsOf_26.1.1.1.2) rfl rfl ?_
        refine md_alv (pc := 28) (dc_X7_wordsOf_26.1.1.2.1) (by assumption) (by omega) (by omega) (fun g28 => ?_)
        rw [ve]
        refine sg_iconst (pc := 29) (z := 2) (dc_X7_wordsOf_26.1.1.2.2) (by decide) ?_
        refine sg_cS2 (pc := 30) (d' := d - 1) (mc' := 0) (ms' := 0) g (dc_X7_wordsOf_26.1.2.1.1) cb_X7_isKind ml_X7_26 ms_X7_isKind (Nat.le_of_ble_eq_true rfl) (by first | exact jl_d0 hd rfl | omega) (by first | exact Nat.le_of_ble_eq_true rfl | omega) (by first | exact Nat.le_of_ble_eq_true rfl | omega) ?_
        refine s_X7_isKind g (by first | exact jl_d1 hd rfl | omega) (by assumption) (by omega) (by omega) (fun z30 e30 b30 => sg_K1 ?_)
        refine sg_if_ne (pc := 33) (tgt := 39) (dc_X7_wordsOf_26.1.2.1.2) (by decide) (fun c33 => ?_) (fun c33 => ?_)
        · have wp : fn_isOf ((md_v h (md_a h (md_r h M) row)) (p : Int)) 2 = 1 := by omega
          have rest76 : ∀ (h2 : sg_H) (cap2 k2 n2 c2 s2 : Nat) (sz2 : Int), jw_P w h h2 h.1 cap2 sz2 → 1 ≤ sz2 → jwg cap2 c2 s2 → ((k2 : Int) ≤ 1 + c2 + sz2) → ((n2 : Int) ≤ 3 + s2 + 2 * sz2) → sz2 = jwc (md_v h (md_a h (md_r h M) row)) (p + 1) → (2 * sz2 ≤ (p : Int) + 2) → sg_R w mi_X7_wordsOf d 24 90 Q 76 [(3, sg_i (p : Int)), (0, sg_r M), (1, sg_i row), (2, sg_r h.1)] [] h2 k2 n2 := by
            intro h2 cap2 k2 n2 c2 s2 sz2 P2 z1 g2 kb2 nb2 cn2 bb
            obtain ⟨-, E02, b12, m2, E2, xs2, hb2, hE2, s02, sc2, hj2⟩ := id P2
            obtain ⟨a2, ea, a0, ⟨al, zs2, zl2, -, za2⟩⟩ := hj2 (sz2 - 1).toNat (by omega)
            have hE3 : h2.2 E2 = some (113, xs2) := by
              rcases hE2 with ⟨q1, q2, -⟩ | ⟨-, -, q3, -⟩
              · rw [q2] at ea; cases ea
              · exact q3
            refine sg_aload_n (pc := 76) (j := 2) (dc_X7_wordsOf_75.1.1.1.2) rfl rfl ?_
            refine sg_aload_n (pc := 77) (j := 2) (dc_X7_wordsOf_75.1.1.2.1) rfl rfl ?_
            refine sg_cV0 (pc := 78) (d' := d - 1) (mc' := 0) (ms' := 0) g (dc_X7_wordsOf_75.1.1.2.2) cb_Jx4a65c_size_8abf5 ml_X7_53 mn_Jx4a65c_size_8abf5 mv_Jx4a65c_size_8abf5 hb2 (Nat.le_of_ble_eq_true rfl) rfl (Nat.le_of_ble_eq_true rfl) (by omega) (by unfold jwg at g2; omega) (by unfold jwg at g2; omega) ?_
            refine s_al_size g (by first | exact jl_d1 hd rfl | omega) hb2 ?_
            refine sg_K1 ?_
            refine sg_iconst (pc := 81) (z := 1) (dc_X7_wordsOf_75.1.2.1.1) (by decide) ?_
            first | refine sg_isubB (pc := 82) (dc_X7_wordsOf_75.1.2.1.2) (by omega) (by omega) ?_ | refine sg_isub (pc := 82) (dc_X7_wordsOf_75.1.2.1.2) ?_
            refine sg_cV1 (pc := 83) (d' := d - 1) (mc' := 0) (ms' := 0) g (dc_X7_wordsOf_75.1.2.2.1) cb_Jx4a65c_get_915e3 ml_X7_212 mn_Jx4a65c_get_915e3 mv_Jx4a65c_get_915e3 hb2 (Nat.le_of_ble_eq_true rfl) rfl (Nat.le_of_ble_eq_true rfl) (by omega) (by unfold jwg at g2; omega) (by unfold jwg at g2; omega) ?_
            refine s_al_get g (by first | exact jl_d1 hd rfl | omega) hb2 hE3 (i := sz2 - 1) (by omega) (by omega) ea ?_
            refine sg_K1 ?_
            refine sg_castA (pc := 86) g (dc_X7_wordsOf_75.1.2.2.2) cl_X7_7 za2 (by decide) (by decide +kernel) ?_
            refine sg_iconst (pc := 89) (z := 1) (dc_X7_wordsOf_75.2.1.1.1) (by decide) ?_
            refine sg_dup2 (pc := 90) (dc_X7_wordsOf_75.2.1.1.2) rfl rfl ?_
            refine sg_iald (pc := 91) (dc_X7_wordsOf_75.2.1.2.1) za2 (by decide) (by decide) (ck_at (by rw [zl2]; decide)) ?_
            refine sg_iconst (pc := 92) (z := 1) (dc_X7_wordsOf_75.2.1.2.2) (by decide) ?_
            first | refine sg_iaddB (pc := 93) (dc_X7_wordsOf_75.2.2.1.1) (by omega) (by omega) ?_ | refine sg_iadd (pc := 93) (dc_X7_wordsOf_75.2.2.1.1) ?_
            refine sg_iast (pc := 94) (dc_X7_wordsOf_75.2.2.1.2) za2 (by decide) (by rw [List.length_map, zl2]; decide) ?_
            first | refine sg_iincB (pc := 95) (dc_X7_wordsOf_75.2.2.2.1) rfl (by decide) (by decide) (by omega) (by omega) ?_ | refine sg_iinc (pc := 95) (dc_X7_wordsOf_75.2.2.2.1) rfl (by decide) (by decide) ?_
            refine sg_goto (pc := 98) (tgt := 10) (dc_X7_wordsOf_75.2.2.2.2) (by decide) ?_
            refine sg_lsub (lv' := [(3, _), (0, _), (1, _), (2, _)]) ⟨rfl, rfl, rfl, rfl, trivial⟩ ?_
            exact ih _ (p + 1) cap2 k2 n2 c2 s2 sz2 (jw_inc P2 a0 za2 zl2) g2 kb2 nb2 cn2 (by omega) (by omega) (fun q => q.elim (fun e => absurd e (by omega)) (fun e => absurd (by rw [show ((p + 1 : Nat) : Int) - 1 = (p : Int) by omega]; exact wp) e)) (fun _ _ => z1) (by omega)
          have rest60 : (p = 0 ∨ fn_isOf ((md_v h (md_a h (md_r h M) row)) ((p : Int) - 1)) 2 ≠ 1) → sg_R w mi_X7_wordsOf d 24 90 Q 60 [(3, sg_i (p : Int)), (0, sg_r M), (1, sg_i row), (2, sg_r h.1)] [] h1 k1 n1 := by
            intro first
            have b29 := b2 first
            have rk1 : k1 + 1 ≤ 24 ∧ n1 + 2 ≤ 90 := by unfold jwg at g1; omega
            have cn3 : sz + 1 = jwc (md_v h (md_a h (md_r h M) row)) (p + 1) := by rw [jwc, if_pos ⟨wp, first⟩, cn]
            refine sg_aload_n (pc := 60) (j := 2) (dc_X7_wordsOf_52.1.2.1.1) rfl rfl ?_
            refine sg_iconst (pc := 61) (z := 2) (dc_X7_wordsOf_52.1.2.1.2) (by decide) ?_
            refine sg_newa (t := 100) (N := 2) (pc := 62) g (dc_X7_wordsOf_52.1.2.2.1) ac_int rfl (by decide) (by decide) rfl rfl (by decide) (by omega) (by omega) (by omega) (by omega) ?_
            try dsimp only
            refine sg_dup (pc := 64) (dc_X7_wordsOf_52.1.2.2.2) rfl ?_
            refine sg_iconst (pc := 65) (z := 0) (dc_X7_wordsOf_52.2.1.1.1) (by decide) ?_
            refine sg_iload_n (pc := 66) (j := 3) (dc_X7_wordsOf_52.2.1.1.2) rfl rfl ?_
            refine md_ast (pc := 67) (dc_X7_wordsOf_52.2.1.2.1) (md_new (c := 0)) ck_v0 (by omega) (by omega) (fun h67 t67 => ?_)
            refine sg_dup (pc := 68) (dc_X7_wordsOf_52.2.1.2.2) rfl ?_
            refine sg_iconst (pc := 69) (z := 1) (dc_X7_wordsOf_52.2.2.1.1) (by decide) ?_
            refine sg_iconst (pc := 70) (z := 0) (dc_X7_wordsOf_52.2.2.1.2) (by decide) ?_
            refine md_ast (pc := 71) (dc_X7_wordsOf_52.2.2.2.1) t67 ck_v0 (by omega) (by omega) (fun h71 t71 => ?_)
            have P7 := jw_E P1 (md_TE t71) hf
            obtain ⟨b07, E07, b17, m7, E7, xs7, hb7, hE7, s07, sc7, hj7⟩ := P7
            obtain ⟨xl, zx, zxl, -, hx7⟩ := id t71.2.2
            have nxb : h1.1 ≠ h.1 := by have := P1.2.2.1; omega
            have x0 : h.1 ≤ h1.1 := P1.2.1.1
            refine sg_frs (fun hf7 => ?_)
            rcases hE7 with ⟨rfl, rfl, hE8, hZ⟩ | ⟨cp0, hE0, hE8, hcl⟩
            · have sz9 : sz = 0 := by omega
              have gg : cc = 0 ∧ ss = 0 := by unfold jwg at g1; omega
              refine sg_cV1 (pc := 72) (d' := d - 1) (mc' := 1) (ms' := 10) g (dc_X7_wordsOf_52.2.2.2.2) cb_Jx4a65c_add_9ea2d ml_X7_49 mn_Jx4a65c_add_9ea2d mv_Jx4a65c_add_9ea2d hb7 (Nat.le_of_ble_eq_true rfl) rfl (Nat.le_of_ble_eq_true rfl) (by omega) (by unfold jwg at g1; omega) (by unfold jwg at g1; omega) ?_
              refine s_al_addD g (by first | exact jl_d1 hd rfl | omega) hb7 hE8 hZ sz9 hx7 nxb md_asI rfl (fun m1 f f1 f2 f3 => ?_)
              refine sg_K1 ?_
              refine sg_pop (pc := 75) (dc_X7_wordsOf_75.1.1.1.1) rfl ?_
              exact rest76 _ 10 _ _ 1 10 (sz + 1) (jw_add b07 E07 (Nat.le_succ _) b17 hb7 f1 f2 (by have := E07.1; omega) (by decide) s07 (by omega) (fun j hj => absurd hj (by omega)) hj7 x0 t71.2.2 (fun a z => Nat.ne_of_lt z.1) f3) (by omega) (by unfold jwg at *; omega) (by omega) (by omega) cn3 (by have := b2 first; omega)
            · by_cases full : sz < (xs7.length : Int)
              · refine sg_cV1 (pc := 72) (d' := d - 1) (mc' := 0) (ms' := 0) g (dc_X7_wordsOf_52.2.2.2.2) cb_Jx4a65c_add_9ea2d ml_X7_49 mn_Jx4a65c_add_9ea2d mv_Jx4a65c_add_9ea2d hb7 (Nat.le_of_ble_eq_true rfl) rfl (Nat.le_of_ble_eq_true rfl) (by omega) (by unfold jwg at g1; omega) (by unfold jwg at g1; omega) ?_
                refine s_al_addR g (by first | exact jl_d1 hd rfl | omega) hb7 hE8 s07 full (by unfold jwg at g1; omega) hx7 nxb md_asI rfl (fun m1 f f1 f2 f3 => ?_)
                refine sg_K1 ?_
                refine sg_pop (pc := 75) (dc_X7_wordsOf_75.1.1.1.1) rfl ?_
                exact rest76 _ cap _ _ cc ss (sz + 1) (jw_add b07 E07 (Nat.le_refl _) b17 hb7 f1 f2 hE0 hcl s07 (by omega) (fun j hj => rfl) hj7 x0 t71.2.2 (fun a z => md_Ane z hE8 (by decide)) f3) (by omega) (by unfold jwg at *; omega) (by omega) (by omega) cn3 (by have := b2 first; omega)
              · have hel : ∀ i : Nat, i < xs7.length → sg_el h71 113 (xs7.getD i sg_n) := fun i hi => by
                  obtain ⟨a9, e9, -, ⟨-, zs9, -, -, e8⟩⟩ := hj7 i (by omega)
                  exact Or.inr ⟨rfl, Or.inr ⟨a9, 100, _, by rw [List.getD_eq_getElem?_getD, e9]; rfl, e8, md_asI, rfl⟩⟩
                have gg : (cap = 10 ∧ cc = 1 ∧ ss = 10) ∨ (cap = 15 ∧ cc = 2 ∧ ss = 25) := by unfold jwg at g1; omega
                obtain ⟨qm, hM⟩ := hk1.2.2.1
                refine sg_cV1 (pc := 72) (d' := d - 1) (mc' := 1) (ms' := (xs7.length + xs7.length / 2)) g (dc_X7_wordsOf_52.2.2.2.2) cb_Jx4a65c_add_9ea2d ml_X7_49 mn_Jx4a65c_add_9ea2d mv_Jx4a65c_add_9ea2d hb7 (Nat.le_of_ble_eq_true rfl) rfl (Nat.le_of_ble_eq_true rfl) (by omega) (by unfold jwg at g1; omega) (by unfold jwg at g1; omega) ?_
                refine s_al_addN g (by first | exact jl_d1 hd rfl | omega) hM hb7 hE8 (by omega) (by omega) hel (by omega) hx7 nxb md_asI rfl (fun m1 f f1 f2 f3 => ?_)
                refine sg_K1 ?_
                have zl9 : (sg_cp xs7 (List.replicate (xs7.length + xs7.length / 2) sg_n) 0 0 (min xs7.length (xs7.length + xs7.length / 2))).length = cap + cap / 2 := by rw [sg_cp_len, List.length_replicate, hcl]
                refine sg_pop (pc := 75) (dc_X7_wordsOf_75.1.1.1.1) rfl ?_
                exact rest76 _ (cap + cap / 2) _ _ (cc + 1) (ss + (cap + cap / 2)) (sz + 1) (jw_add b07 E07 (Nat.le_succ _) b17 hb7 f1 f2 (by have := E07.1; omega) zl9 s07 (by omega) (fun j hj => by rw [sg_cp_at (by rw [List.length_replicate]; omega), if_pos (by omega), List.getD_eq_getElem?_getD, Nat.sub_zero, Nat.zero_add, List.getElem?_eq_getElem (by omega)]; rfl) hj7 x0 t71.2.2 (fun a z => Nat.ne_of_lt z.1) f3) (by omega) (by unfold jwg at *; omega) (by omega) (by omega) cn3 (by have := b2 first; omega)
          refine sg_iload_n (pc := 39) (j := 3) (dc_X7_wordsOf_26.1.2.2.2) rfl rfl ?_
          refine sg_if_eq (pc := 40) (tgt := 60) (dc_X7_wordsOf_26.2.1.1.1) (by decide) (fun c40 => ?_) (fun c40 => ?_)
          · refine sg_lsub (lv' := [(3, _), (0, _), (1, _), (2, _)]) ⟨rfl, rfl, rfl, rfl, trivial⟩ ?_
            exact rest60 (by omega)
          · refine sg_aload_n (pc := 43) (j := 0) (dc_X7_wordsOf_26.2.1.1.2) rfl rfl ?_
            refine md_grw (pc := 44) g (dc_X7_wordsOf_26.2.1.2.1) fk_X7_9 (by assumption) (fun r44 => ?_)
            refine sg_iload_n (pc := 47) (j := 1) (dc_X7_wordsOf_26.2.1.2.2) rfl rfl ?_
            first | refine md_alr (pc := 48) (dc_X7_wordsOf_26.2.2.1.1) (by assumption) (by omega) (by omega) (fun A48 l48 => ?_) | refine md_alt (pc := 48) (dc_X7_wordsOf_26.2.2.1.1) (by assumption) (by omega) (by omega) (fun A48 l48 => ?_)
            refine sg_iload_n (pc := 49) (j := 3) (dc_X7_wordsOf_26.2.2.1.2) rfl rfl ?_
            refine sg_iconst (pc := 50) (z := 1) (dc_X7_wordsOf_26.2.2.2.1) (by decide) ?_
            first | refine sg_isubB (pc := 51) (dc_X7_wordsOf_26.2.2.2.2) (by omega) (by omega) ?_ | refine sg_isub (pc := 51) (dc_X7_wordsOf_26.2.2.2.2) ?_
            refine md_alv (pc := 52) (dc_X7_wordsOf_52.1.1.1.1) (by assumption) (by omega) (by omega) (fun g52 => ?_)
            rw [ve]
            refine sg_iconst (pc := 53) (z := 2) (dc_X7_wordsOf_52.1.1.1.2) (by decide) ?_
            refine sg_cS2 (pc := 54) (d' := d - 1) (mc' := 0) (ms' := 0) g (dc_X7_wordsOf_52.1.1.2.1) cb_X7_isKind ml_X7_26 ms_X7_isKind (Nat.le_of_ble_eq_true rfl) (by first | exact jl_d0 hd rfl | omega) (by first | exact Nat.le_of_ble_eq_true rfl | omega) (by first | exact Nat.le_of_ble_eq_true rfl | omega) ?_
            refine s_X7_isKind g (by first | exact jl_d1 hd rfl | omega) (by assumption) (by omega) (by omega) (fun z54 e54 b54 => sg_K1 ?_)
            refine sg_if_ne (pc := 57) (tgt := 76) (dc_X7_wordsOf_52.1.1.2.2) (by decide) (fun c57 => ?_) (fun c57 => ?_)
            · refine sg_lsub (lv' := [(3, _), (0, _), (1, _), (2, _)]) ⟨rfl, rfl, rfl, rfl, trivial⟩ ?_
              exact rest76 h1 cap k1 n1 cc ss sz P1 (b3 (by omega) (by omega)) g1 kb nb (by rw [jwc, if_neg (by rintro ⟨q1, q2 | q2⟩ <;> omega)]; omega) (by omega)
            · refine sg_lsub (lv' := [(3, _), (0, _), (1, _), (2, _)]) ⟨rfl, rfl, rfl, rfl, trivial⟩ ?_
              exact rest60 (by omega)
        · refine sg_goto (pc := 36) (tgt := 95) (dc_X7_wordsOf_26.1.2.2.1) (by decide) ?_
          first | refine sg_iincB (pc := 95) (dc_X7_wordsOf_75.2.2.2.1) rfl (by decide) (by decide) (by omega) (by omega) ?_ | refine sg_iinc (pc := 95) (dc_X7_wordsOf_75.2.2.2.1) rfl (by decide) (by decide) ?_
          refine sg_goto (pc := 98) (tgt := 10) (dc_X7_wordsOf_75.2.2.2.2) (by decide) ?_
          have wp : fn_isOf ((md_v h (md_a h (md_r h M) row)) (p : Int)) 2 ≠ 1 := by omega
          refine sg_lsub (lv' := [(3, _), (0, _), (1, _), (2, _)]) ⟨rfl, rfl, rfl, rfl, trivial⟩ ?_
          exact ih _ (p + 1) cap k1 n1 cc ss sz P1 g1 kb nb (by rw [jwc, if_neg (fun q => wp q.1)]; omega) (by omega) (by omega) (fun _ => by omega) (fun _ q => absurd (by rw [show ((p + 1 : Nat) : Int) - 1 = (p : Int) by omega] at q; exact q) wp) (by omega)
  obtain ⟨D, hZ, hD1, hD⟩ := hx.2.1.2.2.2.1
  refine sg_new (pc := 0) g (dc_X7_wordsOf_0.1.1.1.1) nk_X7_15 (by first | exact Nat.le_of_ble_eq_true rfl | omega) (by first | exact Nat.le_of_ble_eq_true rfl | omega) ?_
  try dsimp only
  refine sg_dup (pc := 3) (dc_X7_wordsOf_0.1.1.1.2) rfl ?_
  refine sg_cI0 (pc := 4) (d' := d - 1) (mc' := 0) (ms' := 0) g (dc_X7_wordsOf_0.1.1.2.1) cb_Jx4a65c_init_da8c8 rfl rfl ml_X7_17 mn_Jx4a65c_init_da8c8 (Nat.le_of_ble_eq_true rfl) (by first | exact jl_d0 hd rfl | omega) (by first | exact Nat.le_of_ble_eq_true rfl | omega) (by first | exact Nat.le_of_ble_eq_true rfl | omega) ?_
  refine s_al_init g (by first | exact jl_d1 hd rfl | omega) hZ (by with_reducible exact sg_up_s) (fun f f1 f2 => ?_)
  refine sg_K0 ?_
  refine sg_astore_n (pc := 7) (j := 2) (dc_X7_wordsOf_0.1.1.2.2) rfl (by decide) ?_
  refine sg_iconst (pc := 8) (z := 0) (dc_X7_wordsOf_0.1.2.1.1) (by decide) ?_
  refine sg_istore_n (pc := 9) (j := 3) (dc_X7_wordsOf_0.1.2.1.2) rfl (by decide) ?_
  have P0 : jw_P w h (h.1 + 1, f) h.1 0 0 := ⟨Nat.le_refl _, ⟨Nat.le_succ _, fun q hq => (f2 q (Nat.ne_of_lt hq)).trans (sg_up_n (Nat.ne_of_lt hq))⟩, Nat.lt_succ_self _, 0, D, [], f1, Or.inl ⟨rfl, rfl, (f2 D (Nat.ne_of_lt hD1)).trans ((sg_up_n (Nat.ne_of_lt hD1)).trans hD), hZ⟩, by decide, by decide, fun j hj => absurd hj (by omega)⟩
  refine sg_lsub (lv' := [(3, sg_i ((0 : Nat) : Int)), (0, sg_r M), (1, sg_i row), (2, sg_r h.1)]) ⟨rfl, rfl, rfl, rfl, trivial⟩ ?_
  exact loop10 _ _ 0 0 _ _ 0 0 0 P0 (Or.inl ⟨rfl, rfl, rfl⟩) (by decide) (by decide) rfl (Nat.zero_le _) (by decide) (fun _ => by decide) (fun q => absurd q (by decide)) (Nat.lt_succ_self _)

