/-- nothing changes but lists and their arrays -/
def md_Q (h h' : sg_H) : Prop := h.1 ≤ h'.1 ∧ ∀ q, q < h.1 → ∀ e, h.2 q = some e → (e.1 != 2 && e.1 != 113) = true → h'.2 q = some e
theorem md_QP {h h' : sg_H} (x : md_Q h h') : md_P h h' := ⟨x.1, fun q hq e he n1 => x.2 q hq e he (by simp only [Bool.and_eq_true] at n1 ⊢; exact n1.2)⟩
theorem md_Qt {h0 h1 h2 : sg_H} (a : md_Q h0 h1) (b : md_Q h1 h2) : md_Q h0 h2 := ⟨Nat.le_trans a.1 b.1, fun q hq e he n1 => b.2 q (Nat.lt_of_lt_of_le hq a.1) e (a.2 q hq e he n1) n1⟩
/-- the list with its own array, of sz rows -/
def md_L7 (h : sg_H) (b : Nat) (sz : Int) : Prop := b < h.1 ∧ ∃ (m : Int) (E : Nat) (xs : List sg_V), h.2 b = some (2, [sg_i m, sg_r E, sg_i sz]) ∧ E < h.1 ∧ h.2 E = some (113, xs) ∧ xs.length = 10 ∧ 0 ≤ sz ∧ sz ≤ 7 ∧ ∀ j : Nat, (j : Int) < sz → ∃ R, xs[j]? = some (sg_r R) ∧ md_R h R
theorem md_L7L {w : sg_W} {h : sg_H} {b : Nat} {sz : Int} (x : md_L7 h b sz) (h6 : sz ≤ 6) : md_L w h b := by
  obtain ⟨h1, m, E, xs, h2, h3, h4, h5, h7, h8, h9⟩ := x
  exact ⟨h1, m, sz, E, 113, xs, h2, h3, h4, Or.inl ⟨rfl, h5⟩, h7, h6, by omega, h9⟩
theorem md_add7 {h : sg_H} {h1 b E R : Nat} {m1 sz : Int} {xs : List sg_V} {f : Nat → Option sg_E} (hq : md_Q h (h1, f)) (hb : b < h1) (fb : f b = some (2, [sg_i m1, sg_r E, sg_i (sz + 1)])) (hE : E < h1) (fE : f E = some (113, xs.set sz.toNat (sg_r R))) (hl : xs.length = 10) (s0 : 0 ≤ sz) (s6 : sz ≤ 6) (hR : md_R h R) (hel : ∀ j : Nat, (j : Int) < sz → ∃ R, xs[j]? = some (sg_r R) ∧ md_R h R) : md_L7 (h1, f) b (sz + 1) := by
  refine ⟨hb, m1, E, _, fb, hE, fE, by rw [List.length_set]; exact hl, by omega, by omega, fun j hj => ?_⟩
  by_cases c : (j : Int) < sz
  · obtain ⟨R', q, r⟩ := hel j c
    exact ⟨R', by rw [List.getElem?_set_ne (by omega)]; exact q, md_RP r (md_QP hq)⟩
  · have e : j = sz.toNat := by omega
    subst e
    exact ⟨R, by rw [List.getElem?_set_self (by omega)], md_RP hR (md_QP hq)⟩
theorem md_rem7 {w : sg_W} {h : sg_H} {b E : Nat} {m1 sz : Int} {xs ys : List sg_V} {f : Nat → Option sg_E} (hq : md_Q h (h.1, f)) (hb : b < h.1) (hE : E < h.1) (fb : f b = some (2, [sg_i m1, sg_r E, sg_i (sz - 1)])) (fE : f E = some (113, ys)) (hl : xs.length = 10) (yl : ys.length = xs.length) (s0 : 1 ≤ sz) (s6 : sz ≤ 7) {i : Int} (hy : ∀ j : Nat, (j : Int) < sz - 1 → ys[j]? = xs[if (j : Int) < i then j else j + 1]?) (hel : ∀ j : Nat, (j : Int) < sz → ∃ R, xs[j]? = some (sg_r R) ∧ md_R h R) : md_L w (h.1, f) b := by
  refine ⟨hb, m1, sz - 1, E, 113, ys, fb, hE, fE, Or.inl ⟨rfl, by omega⟩, by omega, by omega, by omega, fun j hj => ?_⟩
  rw [hy j hj]
  by_cases c : (j : Int) < i
  · rw [if_pos c]
    obtain ⟨R', q, r⟩ := hel j (by omega)
    exact ⟨R', q, md_RP r (md_QP hq)⟩
  · rw [if_neg c]
    obtain ⟨R', q, r⟩ := hel (j + 1) (by omega)
    exact ⟨R', q, md_RP r (md_QP hq)⟩
/-- the rows as far as they are laid -/
def md_p (h : sg_H) (xs : List sg_V) (k : Int) : Prop := ∀ j : Nat, (j : Int) < k → ∃ a n : Nat, xs[j]? = some (sg_r a) ∧ (j < 4 → md_A 0 h a n ∧ n ≤ 40) ∧ (4 ≤ j → md_A 1 h a n ∧ n ≤ 24)
theorem md_pR {h : sg_H} {T : Nat} {xs : List sg_V} (hT : T < h.1) (hx : h.2 T = some (110, xs)) (hl : xs.length = 6) (hp : md_p h xs 6) : md_R h T := by
  obtain ⟨a0, n0, e0, p0, -⟩ := hp 0 (by decide)
  obtain ⟨a1, n1, e1, p1, -⟩ := hp 1 (by decide)
  obtain ⟨a2, n2, e2, p2, -⟩ := hp 2 (by decide)
  obtain ⟨a3, n3, e3, p3, -⟩ := hp 3 (by decide)
  obtain ⟨a4, n4, e4, -, p4⟩ := hp 4 (by decide)
  obtain ⟨a5, n5, e5, -, p5⟩ := hp 5 (by decide)
  match xs, hl with
  | [x0, x1, x2, x3, x4, x5], _ =>
    cases Option.some.inj e0
    cases Option.some.inj e1
    cases Option.some.inj e2
    cases Option.some.inj e3
    cases Option.some.inj e4
    cases Option.some.inj e5
    refine ⟨hT, fun i => [a0, a1, a2, a3, a4, a5].getD i 0, fun i => [n0, n1, n2, n3, n4, n5].getD i 0, hx, fun i hi => ?_, fun i hi hj => ?_⟩
    · rcases (show i = 0 ∨ i = 1 ∨ i = 2 ∨ i = 3 by omega) with rfl | rfl | rfl | rfl
      · exact p0 (by decide)
      · exact p1 (by decide)
      · exact p2 (by decide)
      · exact p3 (by decide)
    · rcases (show i = 4 ∨ i = 5 by omega) with rfl | rfl
      · exact p4 (by decide)
      · exact p5 (by decide)
theorem md_Aup {c : Nat} {h : sg_H} {a n T : Nat} {xs ys : List sg_V} (x : md_A c h a n) (hT : h.2 T = some (110, xs)) : md_A c (h.1, sg_up h.2 T (110, ys)) a n := by
  obtain ⟨h1, zs, h2, h3, h4⟩ := x
  exact ⟨h1, zs, h2, h3, (sg_up_n (fun q => by rw [q, hT] at h4; cases h4)).trans h4⟩
theorem md_pst {h : sg_H} {T a n : Nat} {xs : List sg_V} {k : Int} (hT : h.2 T = some (110, xs)) (hl : xs.length = 6) (hp : md_p h xs k) (k0 : 0 ≤ k) (k6 : k < 6) (hA : k < 4 → md_A 0 h a n ∧ n ≤ 40) (hB : 4 ≤ k → md_A 1 h a n ∧ n ≤ 24) : md_p (h.1, sg_up h.2 T (110, xs.set k.toNat (sg_r a))) (xs.set k.toNat (sg_r a)) (k + 1) := by
  intro j hj
  by_cases c : (j : Int) < k
  · obtain ⟨b, m, e, p, q⟩ := hp j c
    exact ⟨b, m, by rw [List.getElem?_set_ne (by omega)]; exact e, fun z => ⟨md_Aup (p z).1 hT, (p z).2⟩, fun z => ⟨md_Aup (q z).1 hT, (q z).2⟩⟩
  · have e : j = k.toNat := by omega
    subst e
    exact ⟨a, n, by rw [List.getElem?_set_self (by omega)], fun z => ⟨md_Aup (hA (by omega)).1 hT, (hA (by omega)).2⟩, fun z => ⟨md_Aup (hB (by omega)).1 hT, (hB (by omega)).2⟩⟩
theorem md_as : sg_as 110 100 := Or.inr ⟨by decide, Or.inl (by decide +kernel)⟩
theorem md_asO : sg_as 113 (110 % 200) := Or.inr ⟨by decide, Or.inr ⟨rfl, cii_ob⟩⟩
/-- the object with its list changed -/
theorem md_ML {w : sg_W} {h h' : sg_H} {M R b : Nat} {th kn : Int} (hM1 : M < h.1) (hM : h.2 M = some (8, [sg_i th, sg_r R, sg_r b, sg_i kn])) (th0 : 0 ≤ th) (hk : md_K w h) (hR : md_R h R) (hq : md_Q h h') (hL : md_L w h' b) : md_M w h' M :=
  ⟨Nat.lt_of_lt_of_le hM1 hq.1, md_KP hk (md_QP hq), th, kn, R, b, hq.2 M hM1 _ hM rfl, th0, md_RP hR (md_QP hq), hL⟩
theorem md_Qka {h h' : sg_H} (x : md_Q h h') : md_ka h h' := fun q e hq he hk => x.2 q hq e he (by rcases hk with z | z <;> rw [z] <;> rfl)
theorem md_kat {h0 h1 h2 : sg_H} (l : h0.1 ≤ h1.1) (a : md_ka h0 h1) (b : md_ka h1 h2) : md_ka h0 h2 := fun q e hq he hk => b q e (Nat.lt_of_lt_of_le hq l) (a q e hq he hk) hk
/-- what the list holds behind an add, behind a remove -/
theorem md_blA {h h1 : sg_H} {b E E1 R t : Nat} {m m1 sz : Int} {xs : List sg_V} (hb : h.2 b = some (2, [sg_i m, sg_r E, sg_i sz])) (hE : h.2 E = some (t, xs)) (s0 : 0 ≤ sz) (s1 : sz < (xs.length : Int)) (fb : h1.2 b = some (2, [sg_i m1, sg_r E1, sg_i (sz + 1)])) (fE : h1.2 E1 = some (113, xs.set sz.toNat (sg_r R))) : md_bl h1 b = md_bl h b ++ [R] := by
  rw [md_ble fb fE, md_ble hb hE, show (sz + 1).toNat = sz.toNat + 1 by omega, List.take_add_one, List.getElem?_set_self (by omega), List.take_set_of_le (Nat.le_refl _), List.map_append]
  rfl
theorem md_blD {h h1 : sg_H} {b E E1 R t : Nat} {m m1 sz : Int} (hb : h.2 b = some (2, [sg_i m, sg_r E, sg_i sz])) (hE : h.2 E = some (t, [])) (s0 : sz = 0) (fb : h1.2 b = some (2, [sg_i m1, sg_r E1, sg_i (sz + 1)])) (fE : h1.2 E1 = some (113, (List.replicate 10 sg_n).set sz.toNat (sg_r R))) : md_bl h1 b = md_bl h b ++ [R] := by
  rw [md_ble fb fE, md_ble hb hE, s0]
  rfl
theorem md_blF {h h1 : sg_H} {b E : Nat} {m m1 sz : Int} {ys zs : List sg_V} (hb : h.2 b = some (2, [sg_i m, sg_r E, sg_i sz])) (hE : h.2 E = some (113, ys)) (fb : h1.2 b = some (2, [sg_i m1, sg_r E, sg_i (sz - 1)])) (fE : h1.2 E = some (113, zs)) (s1 : 1 ≤ sz) (hy : ∀ j : Nat, (j : Int) < sz - 1 → zs[j]? = ys[if (j : Int) < 0 then j else j + 1]?) : md_bl h1 b = (md_bl h b).drop 1 := by
  have key : zs.take (sz - 1).toNat = (ys.take sz.toNat).drop 1 := by
    refine List.ext_getElem? (fun j => ?_)
    rw [List.getElem?_take, List.getElem?_drop, List.getElem?_take]
    by_cases c : j < (sz - 1).toNat
    · rw [if_pos c, if_pos (by omega), hy j (by omega), if_neg (by omega), Nat.add_comm]
    · rw [if_neg c, if_neg (by omega)]
  rw [md_ble fb fE, md_ble hb hE, key, List.map_drop]
theorem md_blB {h h1 : sg_H} {b E : Nat} {m m1 sz : Int} {ys zs : List sg_V} (hb : h.2 b = some (2, [sg_i m, sg_r E, sg_i sz])) (hE : h.2 E = some (113, ys)) (fb : h1.2 b = some (2, [sg_i m1, sg_r E, sg_i (sz - 1)])) (fE : h1.2 E = some (113, zs)) (s1 : 1 ≤ sz) (hy : ∀ j : Nat, (j : Int) < sz - 1 → zs[j]? = ys[if (j : Int) < sz - 1 then j else j + 1]?) : md_bl h1 b = (md_bl h b).take (sz - 1).toNat := by
  have key : zs.take (sz - 1).toNat = (ys.take sz.toNat).take (sz - 1).toNat := by
    refine List.ext_getElem? (fun j => ?_)
    rw [List.getElem?_take, List.getElem?_take, List.getElem?_take]
    by_cases c : j < (sz - 1).toNat
    · rw [if_pos c, if_pos c, if_pos (by omega), hy j (by omega), if_pos (by omega)]
    · rw [if_neg c, if_neg c]
  rw [md_ble fb fE, md_ble hb hE, key, List.map_take]
theorem md_bll {h : sg_H} {b E t : Nat} {m sz : Int} {xs : List sg_V} (hb : h.2 b = some (2, [sg_i m, sg_r E, sg_i sz])) (hE : h.2 E = some (t, xs)) (s0 : 0 ≤ sz) (s1 : sz ≤ (xs.length : Int)) : ((md_bl h b).length : Int) = sz := by
  rw [md_ble hb hE, List.length_map, List.length_take]
  omega
theorem fa_q6 {α : Type} (X : List α) (r : α) (h : X.length ≤ 6) : ((X ++ [r]).drop (if 6 < X.length + 1 then 1 else 0)).reverse = (r :: X.reverse).take 6 := by
  match X, h with
  | [], _ => rfl
  | [a], _ => rfl
  | [a, b], _ => rfl
  | [a, b, c], _ => rfl
  | [a, b, c, d], _ => rfl
  | [a, b, c, d, e], _ => rfl
  | [a, b, c, d, e, f], _ => rfl
  | a :: b :: c :: d :: e :: f :: g :: X, h => simp at h
/-- rows with one of them another -/
theorem md_sset {h h' : sg_H} {R T a : Nat} {row : Int} {xs : List sg_V} (r0 : 0 ≤ row) (r6 : row < 6) (hT : h'.2 T = some (110, xs)) (hx : ∀ j : Nat, (j : Int) < 6 → xs[j]? = some (sg_r (if (j : Int) = row then a else md_a h R (j : Int)))) (hl : ∀ j : Nat, j < 6 → md_l h' (md_a h R (j : Int)) = md_l h (md_a h R (j : Int))) (ha : md_l h' a = md_l h a) : md_s h' T = (md_s h R).set row.toNat (md_l h a) := by
  have g : ∀ j : Nat, j < 6 → md_l h' (md_a h' T (j : Int)) = if (j : Int) = row then md_l h a else md_l h (md_a h R (j : Int)) := fun j hj => by
    have e9 : md_a h' T (j : Int) = (if (j : Int) = row then a else md_a h R (j : Int)) := md_ae hT (by rw [Int.toNat_natCast]; exact hx j (by omega))
    rw [e9]
    split
    · exact ha
    · exact hl j hj
  have g0 := g 0 (by decide)
  have g1 := g 1 (by decide)
  have g2 := g 2 (by decide)
  have g3 := g 3 (by decide)
  have g4 := g 4 (by decide)
  have g5 := g 5 (by decide)
  unfold md_s
  rcases (show row = 0 ∨ row = 1 ∨ row = 2 ∨ row = 3 ∨ row = 4 ∨ row = 5 by omega) with rfl | rfl | rfl | rfl | rfl | rfl
  all_goals
    have e0 : md_l h' (md_a h' T 0) = _ := g0
    have e1 : md_l h' (md_a h' T 1) = _ := g1
    have e2 : md_l h' (md_a h' T 2) = _ := g2
    have e3 : md_l h' (md_a h' T 3) = _ := g3
    have e4 : md_l h' (md_a h' T 4) = _ := g4
    have e5 : md_l h' (md_a h' T 5) = _ := g5
    rw [e0, e1, e2, e3, e4, e5]
    rfl
set_option maxRecDepth 100000 in
set_option maxHeartbeats 400000 in
theorem s_X7_set {w : sg_W} {Q : sg_O → sg_H → Prop} {h : sg_H} (g : sg_G w) {d : Nat} (hd : 6 ≤ d) {M a n : Nat} {row : Int} (hr : 0 ≤ row ∧ row < 6) (hx : md_M w h M) (h4 : row < 4 → md_A 0 h a n ∧ n ≤ 40) (h5 : 4 ≤ row → md_A 1 h a n ∧ n ≤ 24) (hQ : ∀ h' : sg_H, md_W w h h' M → md_t h' M = md_t h M → md_ab h' M = fa_put (md_ab h M) row.toNat (md_l h a) → Q (.inl (some (sg_i (n : Int)))) h') : sg_C w mi_X7_set d 2 16 [sg_r M, sg_i row, sg_r a] h Q := by
  refine sg_of pn_X7 (Nat.le_of_ble_eq_true rfl) ?_
  obtain ⟨hM1, hk0, th, kn, R, b, hM, th0, hR, hL0⟩ := id hx
  obtain ⟨hb1, m, sz, E, t, xs, hb, hE1, hE, hEt, sz0, sz6, szx, hel⟩ := id hL0
  have hM9 := hM
  obtain ⟨hR1, RA, RN, hRe, hR4, hR5⟩ := id hR
  have hRA : ∀ j : Nat, j < 6 → ∃ c n, md_A c h (md_a h R (j : Int)) n := fun j hj => by
    obtain ⟨c, L9, a9, n9, p1, p2, p3, p4⟩ := md_any hR (i := (j : Int)) (by omega) (by omega)
    exact ⟨c, n9, by rw [md_ae p1 p3]; exact p4⟩
  have bl6 : (md_bl h b).length ≤ 6 := by have := md_bll hb hE sz0 szx; omega
  have hA0 : md_A 0 h a n ∧ n ≤ 40 := by
    by_cases c : row < 4
    · exact h4 c
    · have c5 := h5 (by omega)
      exact ⟨md_A0 c5.1, by omega⟩
  have rest33 : ∀ h2 : sg_H, md_Q h h2 → md_M w h2 M → h2.2 M = some (8, [sg_i th, sg_r R, sg_r b, sg_i kn]) → md_L w h2 b → (∀ r ∈ md_bl h2 b, md_R h r) → ((md_bl h2 b).map (md_s h)).reverse = (md_s h R :: ((md_bl h b).map (md_s h)).reverse).take 6 → sg_R w mi_X7_set d 2 16 Q 33 [(0, sg_r M), (1, sg_i row), (2, sg_r a)] [] h2 1 10 := by
    intro h2 hq2 x2 hM2 L2 b2 e2
    have hRe2 := md_Qka hq2 R _ hR1 hRe (Or.inr rfl)
    refine sg_bipush (pc := 33) (z := 6) (dc_X7_set_33.1.1.1.1) (by decide) ?_
    refine sg_anewA (t := 110) (N := 6) (T := .int) (pc := 35) g (dc_X7_set_33.1.1.1.2) cl_X7_7 av_110 rfl (by decide) (by decide) (by omega) (by omega) (by omega) (by omega) ?_
    try dsimp only
    have E3 : md_E h2 (h2.1 + 1, sg_up h2.2 h2.1 (110, List.replicate 6 sg_n)) := ⟨Nat.le_succ _, fun q hq => sg_up_n (Nat.ne_of_lt hq)⟩
    refine sg_astore_n (pc := 38) (j := 3) (dc_X7_set_33.1.1.2.1) rfl (by decide) ?_
    refine sg_iconst (pc := 39) (z := 0) (dc_X7_set_33.1.1.2.2) (by decide) ?_
    refine sg_istore (pc := 40) (dc_X7_set_33.1.2.1.1) (by decide) ?_
    have loop42 : ∀ (N : Nat) (h3 : sg_H) (p : Int) (xs : List sg_V), (h3.1 = h2.1 + 1) → (md_E h2 h3) → (h3.2 h2.1 = some (110, xs)) → (xs.length = 6) → (md_p h3 xs p) → (0 ≤ p ∧ p ≤ 6) → (∀ j : Nat, (j : Int) < p → xs[j]? = some (sg_r (if (j : Int) = row then a else md_a h R (j : Int)))) → (6 - p).toNat < N → sg_R w mi_X7_set d 2 16 Q 42 [(4, sg_i p), (0, sg_r M), (1, sg_i row), (2, sg_r a), (3, sg_r h2.1)] [] h3 2 16 := by
      intro N
      induction N with
      | zero => intro h3 p xs s3 E3 T3 l3 p3 q3 c3 hm; exact absurd hm (Nat.not_lt_zero _)
      | succ N ih =>
        intro h3 p xs s3 E3 T3 l3 p3 q3 c3 hm
        refine sg_iload (pc := 42) (dc_X7_set_33.1.2.1.2) rfl ?_
        refine sg_bipush (pc := 44) (z := 6) (dc_X7_set_33.1.2.2.1) (by decide) ?_
        refine sg_icmp_ge (pc := 46) (tgt := 76) (dc_X7_set_33.1.2.2.2) (by decide) (fun c46 => ?_) (fun c46 => ?_)
        · refine sg_aload_n (pc := 76) (j := 0) (dc_X7_set_63.1.2.2.1) rfl rfl ?_
          refine sg_aload_n (pc := 77) (j := 3) (dc_X7_set_63.1.2.2.2) rfl rfl ?_
          have hM : h3.2 M = some (8, [sg_i th, sg_r R, sg_r b, sg_i kn]) := (E3.2 M (by have := x2.1; omega)).trans hM2
          have hM1 : M < h3.1 := Nat.lt_of_lt_of_le x2.1 E3.1
          have hk2 := md_KE x2.2.1 E3
          have hL := md_LE L2 E3
          refine sg_putf (pc := 78) g (dc_X7_set_63.2.1.1.1) fk_X7_9 hM sg_ft_a ?_
          try dsimp only
          have e6 : p = 6 := by omega
          rw [e6] at p3
          have hT := md_pR (T := h2.1) (by omega) T3 l3 p3
          have hup : md_P h3 (h3.1, sg_up h3.2 M (8, [sg_i th, sg_r h2.1, sg_r b, sg_i kn])) := md_up hM
          have hW : md_W w h (h3.1, sg_up h3.2 M (8, [sg_i th, sg_r h2.1, sg_r b, sg_i kn])) M := ⟨⟨hM1, md_KP hk2 hup, th, kn, h2.1, b, sg_up_s, th0, md_RP hT hup, md_Lup hM hL⟩, md_Pt (md_QP hq2) (md_Pt (md_EP E3) hup)⟩
          have hA9 := md_AP hA0.1 hW.2
          have k23 : md_ka h2 (h3.1, sg_up h3.2 M (8, [sg_i th, sg_r h2.1, sg_r b, sg_i kn])) := md_kat E3.1 (md_kk (md_kpE E3)) (md_kk (md_kpM hM))
          have kh := md_kat hq2.1 (md_Qka hq2) k23
          have hTT : ((h3.1, sg_up h3.2 M (8, [sg_i th, sg_r h2.1, sg_r b, sg_i kn])) : sg_H).2 h2.1 = some (110, xs) := (sg_up_n (fun q => by rw [q, hM] at T3; cases T3)).trans T3
          have hs := md_sset (h := h) (R := R) hr.1 hr.2 hTT (fun j hj => c3 j (by omega)) (fun j hj => by obtain ⟨c9, n9, p9⟩ := hRA j hj; exact md_lG p9 kh) (md_lG hA0.1 kh)
          have hbl2 : md_bl (h3.1, sg_up h3.2 M (8, [sg_i th, sg_r h2.1, sg_r b, sg_i kn])) b = md_bl h2 b := (md_blG (md_LE L2 E3) (md_kpM hM)).1.trans (md_blG L2 (md_kpE E3)).1
          have hab : md_ab (h3.1, sg_up h3.2 M (8, [sg_i th, sg_r h2.1, sg_r b, sg_i kn])) M = fa_put (md_ab h M) row.toNat (md_l h a) := by
            rw [md_abe (h := (h3.1, sg_up h3.2 M (8, [sg_i th, sg_r h2.1, sg_r b, sg_i kn]))) sg_up_s, md_abe hM9, hs, hbl2]
            unfold fa_put
            rw [← e2]
            rw [List.map_congr_left (fun r hr => md_sG (b2 r hr) kh)]
          refine sg_aload_n (pc := 81) (j := 2) (dc_X7_set_63.2.1.1.2) rfl rfl ?_
          refine md_len (pc := 82) (dc_X7_set_63.2.1.2.1) hA9 (by omega) ?_
          refine sg_iret (pc := 83) (dc_X7_set_63.2.1.2.2) rfl (by first | exact Nat.le_of_ble_eq_true rfl | omega) (by first | exact Nat.le_of_ble_eq_true rfl | omega) ?_
          exact hQ _ hW ((md_te sg_up_s).trans (md_te hM9).symm) hab
        · refine sg_aload_n (pc := 49) (j := 3) (dc_X7_set_33.2.1.1.1) rfl rfl ?_
          refine sg_iload (pc := 50) (dc_X7_set_33.2.1.1.2) rfl ?_
          refine sg_iload (pc := 52) (dc_X7_set_33.2.1.2.1) rfl ?_
          refine sg_iload_n (pc := 54) (j := 1) (dc_X7_set_33.2.1.2.2) rfl rfl ?_
          refine sg_icmp_ne (pc := 55) (tgt := 62) (dc_X7_set_33.2.2.1.1) (by decide) (fun c55 => ?_) (fun c55 => ?_)
          · by_cases k4 : p < 4
            · refine sg_aload_n (pc := 62) (j := 0) (dc_X7_set_33.2.2.2.2) rfl rfl ?_
              have x3 := md_ME x2 E3
              refine md_grw (pc := 63) g (dc_X7_set_63.1.1.1.1) fk_X7_9 x3 (fun r63 => ?_)
              have hM3 : h3.2 M = some (8, [sg_i th, sg_r R, sg_r b, sg_i kn]) := (E3.2 M (by have := x2.1; omega)).trans hM2
              have hrr : md_r h3 M = R := md_re hM3
              have hRa : ∀ i : Int, md_a h3 R i = md_a h R i := fun i => by unfold md_a; rw [(E3.2 R (Nat.lt_of_lt_of_le hR1 hq2.1)).trans hRe2, hRe]
              refine sg_iload (pc := 66) (dc_X7_set_63.1.1.1.2) rfl ?_
              refine md_alr (pc := 68) (dc_X7_set_63.1.1.2.1) r63 (by omega) (by omega) (fun A68 l68 => ?_)
              obtain ⟨q1, zs, q2, q4, q5⟩ := id A68
              have C70 : ∀ j : Nat, (j : Int) < p + 1 → (xs.set p.toNat (sg_r (md_a h3 (md_r h3 M) p)))[j]? = some (sg_r (if (j : Int) = row then a else md_a h R (j : Int))) := fun j hj => by
                by_cases q : j = p.toNat
                · subst q
                  rw [List.getElem?_set_self (by omega), if_neg (by omega), hrr, hRa p, show ((p.toNat : Nat) : Int) = p by omega]
                · rw [List.getElem?_set_ne (by omega)]
                  exact c3 j (by omega)
              have P70 := md_pst T3 l3 p3 q3.1 (by omega) (fun z => ⟨A68, l68⟩) (fun z => absurd z (by omega))
              refine sg_aast (pc := 69) g (dc_X7_set_63.1.1.2.2) T3 q5 (by decide) (by decide) md_as (by omega) (by omega) ?_
              try dsimp only
              first | refine sg_iincB (pc := 70) (dc_X7_set_63.1.2.1.1) rfl (by decide) (by decide) (by omega) (by omega) ?_ | refine sg_iinc (pc := 70) (dc_X7_set_63.1.2.1.1) rfl (by decide) (by decide) ?_
              refine sg_goto (pc := 73) (tgt := 42) (dc_X7_set_63.1.2.1.2) (by decide) ?_
              refine sg_lsub (lv' := [(4, _), (0, _), (1, _), (2, _), (3, _)]) ⟨rfl, rfl, rfl, rfl, rfl, trivial⟩ ?_
              exact ih _ _ _ s3 (show md_E h2 (h3.1, _) from ⟨E3.1, fun q hq => (sg_up_n (Nat.ne_of_lt hq)).trans (E3.2 q hq)⟩) sg_up_s (by rw [List.length_set]; exact l3) P70 (by omega) C70 (by first | exact jl_m1 hm (by omega) | exact jl_m2 hm (by omega) | omega)
            · refine sg_aload_n (pc := 62) (j := 0) (dc_X7_set_33.2.2.2.2) rfl rfl ?_
              have x3 := md_ME x2 E3
              refine md_grw (pc := 63) g (dc_X7_set_63.1.1.1.1) fk_X7_9 x3 (fun r63 => ?_)
              have hM3 : h3.2 M = some (8, [sg_i th, sg_r R, sg_r b, sg_i kn]) := (E3.2 M (by have := x2.1; omega)).trans hM2
              have hrr : md_r h3 M = R := md_re hM3
              have hRa : ∀ i : Int, md_a h3 R i = md_a h R i := fun i => by unfold md_a; rw [(E3.2 R (Nat.lt_of_lt_of_le hR1 hq2.1)).trans hRe2, hRe]
              refine sg_iload (pc := 66) (dc_X7_set_63.1.1.1.2) rfl ?_
              refine md_alt (pc := 68) (dc_X7_set_63.1.1.2.1) r63 (by omega) (by omega) (fun A68 l68 => ?_)
              obtain ⟨q1, zs, q2, q4, q5⟩ := id A68
              have C70 : ∀ j : Nat, (j : Int) < p + 1 → (xs.set p.toNat (sg_r (md_a h3 (md_r h3 M) p)))[j]? = some (sg_r (if (j : Int) = row then a else md_a h R (j : Int))) := fun j hj => by
                by_cases q : j = p.toNat
                · subst q
                  rw [List.getElem?_set_self (by omega), if_neg (by omega), hrr, hRa p, show ((p.toNat : Nat) : Int) = p by omega]
                · rw [List.getElem?_set_ne (by omega)]
                  exact c3 j (by omega)
              have P70 := md_pst T3 l3 p3 q3.1 (by omega) (fun z => absurd z (by omega)) (fun z => ⟨A68, l68⟩)
              refine sg_aast (pc := 69) g (dc_X7_set_63.1.1.2.2) T3 q5 (by decide) (by decide) md_as (by omega) (by omega) ?_
              try dsimp only
              first | refine sg_iincB (pc := 70) (dc_X7_set_63.1.2.1.1) rfl (by decide) (by decide) (by omega) (by omega) ?_ | refine sg_iinc (pc := 70) (dc_X7_set_63.1.2.1.1) rfl (by decide) (by decide) ?_
              refine sg_goto (pc := 73) (tgt := 42) (dc_X7_set_63.1.2.1.2) (by decide) ?_
              refine sg_lsub (lv' := [(4, _), (0, _), (1, _), (2, _), (3, _)]) ⟨rfl, rfl, rfl, rfl, rfl, trivial⟩ ?_
              exact ih _ _ _ s3 (show md_E h2 (h3.1, _) from ⟨E3.1, fun q hq => (sg_up_n (Nat.ne_of_lt hq)).trans (E3.2 q hq)⟩) sg_up_s (by rw [List.length_set]; exact l3) P70 (by omega) C70 (by first | exact jl_m1 hm (by omega) | exact jl_m2 hm (by omega) | omega)
          · refine sg_aload_n (pc := 58) (j := 2) (dc_X7_set_33.2.2.1.2) rfl rfl ?_
            refine sg_goto (pc := 59) (tgt := 69) (dc_X7_set_33.2.2.2.1) (by decide) ?_
            have e9 : p = row := by omega
            obtain ⟨q1, zs, q2, q4, q5⟩ := md_AE (md_AP hA0.1 (md_QP hq2)) E3
            have C70 : ∀ j : Nat, (j : Int) < p + 1 → (xs.set p.toNat (sg_r a))[j]? = some (sg_r (if (j : Int) = row then a else md_a h R (j : Int))) := fun j hj => by
              by_cases q : j = p.toNat
              · subst q
                rw [List.getElem?_set_self (by omega), if_pos (by omega)]
              · rw [List.getElem?_set_ne (by omega)]
                exact c3 j (by omega)
            have P70 := md_pst T3 l3 p3 q3.1 (by omega) (fun z => ⟨md_AE (md_AP (h4 (by omega)).1 (md_QP hq2)) E3, (h4 (by omega)).2⟩) (fun z => ⟨md_AE (md_AP (h5 (by omega)).1 (md_QP hq2)) E3, (h5 (by omega)).2⟩)
            refine sg_aast (pc := 69) g (dc_X7_set_63.1.1.2.2) T3 q5 (by decide) (by decide) md_as (by omega) (by omega) ?_
            try dsimp only
            first | refine sg_iincB (pc := 70) (dc_X7_set_63.1.2.1.1) rfl (by decide) (by decide) (by omega) (by omega) ?_ | refine sg_iinc (pc := 70) (dc_X7_set_63.1.2.1.1) rfl (by decide) (by decide) ?_
            refine sg_goto (pc := 73) (tgt := 42) (dc_X7_set_63.1.2.1.2) (by decide) ?_
            refine sg_lsub (lv' := [(4, _), (0, _), (1, _), (2, _), (3, _)]) ⟨rfl, rfl, rfl, rfl, rfl, trivial⟩ ?_
            exact ih _ _ _ s3 (show md_E h2 (h3.1, _) from ⟨E3.1, fun q hq => (sg_up_n (Nat.ne_of_lt hq)).trans (E3.2 q hq)⟩) sg_up_s (by rw [List.length_set]; exact l3) P70 (by omega) C70 (by first | exact jl_m1 hm (by omega) | exact jl_m2 hm (by omega) | omega)
    refine sg_lsub (lv' := [(4, _), (0, _), (1, _), (2, _), (3, _)]) ⟨rfl, rfl, rfl, rfl, rfl, trivial⟩ ?_
    exact loop42 _ _ _ _ rfl E3 sg_up_s (by decide) (fun j hj => absurd hj (by omega)) (by omega) (fun j hj => absurd hj (by omega)) (Nat.lt_succ_self _)
  have rest11 : ∀ (h1 : sg_H) (sz : Int), md_Q h h1 → md_L7 h1 b sz → md_bl h1 b = md_bl h b ++ [R] → sg_R w mi_X7_set d 2 16 Q 11 [(0, sg_r M), (1, sg_i row), (2, sg_r a)] [sg_i 1] h1 1 10 := by
    intro h1 sz1 hq1 hL1 eb1
    obtain ⟨hb1, m9, E9, ys, hb9, hE91, hE9, hl9, s90, s97, hel9⟩ := id hL1
    have hM19 := hq1.2 M hM1 _ hM rfl
    have ll := md_bll hb9 hE9 s90 (by omega)
    rw [eb1, List.length_append] at ll
    have bR : ∀ r ∈ md_bl h b ++ [R], md_R h r := fun r hr => by
      rcases List.mem_append.mp hr with q | q
      · exact md_blR hL0 r q
      · cases List.mem_singleton.mp q; exact hR
    have bq := fa_q6 ((md_bl h b).map (md_s h)) (md_s h R) (by rw [List.length_map]; exact bl6)
    rw [List.length_map] at bq
    have hel113 : ∀ i : Nat, (i : Int) < sz1 → sg_el h1 113 (ys.getD i sg_n) := fun i hi => by
      obtain ⟨R9, e9, -, A9, N9, e8, -⟩ := hel9 i hi
      exact Or.inr ⟨rfl, Or.inr ⟨R9, 110, _, by rw [List.getD_eq_getElem?_getD, e9]; rfl, e8, md_asO, rfl⟩⟩
    refine sg_pop (pc := 11) (dc_X7_set_0.1.2.1.2) rfl ?_
    refine sg_aload_n (pc := 12) (j := 0) (dc_X7_set_0.1.2.2.1) rfl rfl ?_
    refine sg_getf (pc := 13) g (dc_X7_set_0.1.2.2.2) fk_X7_18 hM19 rfl rfl ?_
    refine sg_cV0 (pc := 16) (d' := d - 1) (mc' := 0) (ms' := 0) g (dc_X7_set_0.2.1.1.1) cb_Jx4a65c_size_8abf5 ml_X7_53 mn_Jx4a65c_size_8abf5 mv_Jx4a65c_size_8abf5 hb9 (Nat.le_of_ble_eq_true rfl) rfl (Nat.le_of_ble_eq_true rfl) (by first | exact jl_d0 hd rfl | omega) (by first | exact Nat.le_of_ble_eq_true rfl | omega) (by first | exact Nat.le_of_ble_eq_true rfl | omega) ?_
    refine s_al_size g (by first | exact jl_d1 hd rfl | omega) hb9 ?_
    refine sg_K1 ?_
    refine sg_bipush (pc := 19) (z := 6) (dc_X7_set_0.2.1.1.2) (by decide) ?_
    refine sg_icmp_le (pc := 21) (tgt := 33) (dc_X7_set_0.2.1.2.1) (by decide) (fun c21 => ?_) (fun c21 => ?_)
    · exact rest33 h1 hq1 (md_ML hM1 hM th0 hk0 hR hq1 (md_L7L hL1 c21)) hM19 (md_L7L hL1 c21) (fun r hr => bR r (by rw [← eb1]; exact hr)) (by rw [if_neg (by simp only [List.length_cons, List.length_nil] at ll; omega)] at bq; rw [eb1, List.map_append]; exact bq)
    · refine sg_aload_n (pc := 24) (j := 0) (dc_X7_set_0.2.1.2.2) rfl rfl ?_
      refine sg_getf (pc := 25) g (dc_X7_set_0.2.2.1.1) fk_X7_18 hM19 rfl rfl ?_
      refine sg_iconst (pc := 28) (z := 0) (dc_X7_set_0.2.2.1.2) (by decide) ?_
      obtain ⟨R0, hv0, -⟩ := hel9 0 (by omega)
      refine sg_cV1 (pc := 29) (d' := d - 1) (mc' := 0) (ms' := 0) g (dc_X7_set_0.2.2.2.1) cb_Jx4a65c_remove_915e3 ml_X7_57 mn_Jx4a65c_remove_915e3 mv_Jx4a65c_remove_915e3 hb9 (Nat.le_of_ble_eq_true rfl) rfl (Nat.le_of_ble_eq_true rfl) (by first | exact jl_d0 hd rfl | omega) (by first | exact Nat.le_of_ble_eq_true rfl | omega) (by first | exact Nat.le_of_ble_eq_true rfl | omega) ?_
      refine s_al_remove g (by first | exact jl_d1 hd rfl | omega) hb9 hE9 (i := 0) (by decide) (by omega) (by omega) (by omega) hel113 hv0 (fun m1 f zs f1 f2 f3 f4 f5 => ?_)
      refine sg_K1 ?_
      refine sg_pop (pc := 32) (dc_X7_set_0.2.2.2.2) rfl ?_
      have nbE : b ≠ E9 := fun q => by rw [q, hE9] at hb9; cases hb9
      have hqf : md_Q h1 (h1.1, f) := ⟨Nat.le_refl _, fun q hq e he n1 => (f5 q (fun z => by rw [z, hb9] at he; cases he; exact absurd n1 (by simp)) (fun z => by rw [z, hE9] at he; cases he; exact absurd n1 (by simp))).trans he⟩
      exact rest33 (h1.1, f) (md_Qt hq1 hqf) (md_ML hM1 hM th0 hk0 hR (md_Qt hq1 hqf) (md_rem7 hqf hb1 hE91 f1 f2 hl9 f3 (by omega) s97 f4 hel9)) ((f5 M (fun z => by rw [z, hb9] at hM19; cases hM19) (fun z => by rw [z, hE9] at hM19; cases hM19)).trans hM19) (md_rem7 hqf hb1 hE91 f1 f2 hl9 f3 (by omega) s97 f4 hel9) (fun r hr => bR r (by rw [← eb1]; rw [md_blF hb9 hE9 f1 f2 (by omega) f4] at hr; exact List.mem_of_mem_drop hr)) (by rw [if_pos (by simp only [List.length_cons, List.length_nil] at ll; omega)] at bq; rw [md_blF hb9 hE9 f1 f2 (by omega) f4, eb1, List.map_drop, List.map_append]; exact bq)
  refine sg_aload_n (pc := 0) (j := 0) (dc_X7_set_0.1.1.1.1) rfl rfl ?_
  refine sg_getf (pc := 1) g (dc_X7_set_0.1.1.1.2) fk_X7_18 hM rfl rfl ?_
  refine sg_aload_n (pc := 4) (j := 0) (dc_X7_set_0.1.1.2.1) rfl rfl ?_
  refine sg_getf (pc := 5) g (dc_X7_set_0.1.1.2.2) fk_X7_9 hM rfl rfl ?_
  obtain ⟨hR1, A, N, hRe, -⟩ := id hR
  have nRb : R ≠ b := fun q => by rw [q, hb] at hRe; cases hRe
  rcases hEt with ⟨rfl, hx10⟩ | ⟨rfl, hx0, hZ⟩
  · refine sg_cV1 (pc := 8) (d' := d - 1) (mc' := 0) (ms' := 0) g (dc_X7_set_0.1.2.1.1) cb_Jx4a65c_add_9ea2d ml_X7_49 mn_Jx4a65c_add_9ea2d mv_Jx4a65c_add_9ea2d hb (Nat.le_of_ble_eq_true rfl) rfl (Nat.le_of_ble_eq_true rfl) (by first | exact jl_d0 hd rfl | omega) (by first | exact Nat.le_of_ble_eq_true rfl | omega) (by first | exact Nat.le_of_ble_eq_true rfl | omega) ?_
    refine s_al_addR g (by first | exact jl_d1 hd rfl | omega) hb hE sz0 (by omega) (by omega) hRe nRb md_asO rfl (fun m1 f f1 f2 f3 => ?_)
    refine sg_K1 ?_
    have hqf : md_Q h (h.1, f) := ⟨Nat.le_refl _, fun q hq e he n1 => (f3 q (fun z => by rw [z, hb] at he; cases he; exact absurd n1 (by simp)) (fun z => by rw [z, hE] at he; cases he; exact absurd n1 (by simp))).trans he⟩
    exact sg_widen (by omega) (by omega) (rest11 (h.1, f) (sz + 1) hqf (md_add7 hqf hb1 f1 hE1 f2 hx10 sz0 sz6 hR hel) (md_blA hb hE sz0 (by omega) f1 f2))
  · have hxs : xs = [] := List.eq_nil_of_length_eq_zero hx0
    subst hxs
    have sz9 : sz = 0 := by have : sz ≤ 0 := szx; omega
    refine sg_cV1 (pc := 8) (d' := d - 1) (mc' := 1) (ms' := 10) g (dc_X7_set_0.1.2.1.1) cb_Jx4a65c_add_9ea2d ml_X7_49 mn_Jx4a65c_add_9ea2d mv_Jx4a65c_add_9ea2d hb (Nat.le_of_ble_eq_true rfl) rfl (Nat.le_of_ble_eq_true rfl) (by first | exact jl_d0 hd rfl | omega) (by first | exact Nat.le_of_ble_eq_true rfl | omega) (by first | exact Nat.le_of_ble_eq_true rfl | omega) ?_
    refine s_al_addD g (by first | exact jl_d1 hd rfl | omega) hb hE hZ sz9 hRe nRb md_asO rfl (fun m1 f f1 f2 f3 => ?_)
    refine sg_K1 ?_
    have hqf : md_Q h (h.1 + 1, f) := ⟨Nat.le_succ _, fun q hq e he n1 => (f3 q (fun z => by rw [z, hb] at he; cases he; exact absurd n1 (by simp)) (Nat.ne_of_lt hq)).trans he⟩
    exact rest11 (h.1 + 1, f) (sz + 1) hqf (md_add7 hqf (Nat.lt_succ_of_lt hb1) f1 (Nat.lt_succ_self _) f2 (by decide) sz0 sz6 hR (fun j hj => absurd hj (by omega))) (md_blD hb hE sz9 f1 f2)

