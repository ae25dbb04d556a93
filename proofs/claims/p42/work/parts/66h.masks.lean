theorem md_vX {c : Nat} {h : sg_H} {a : Nat} {L : List Int} (x : md_X c h a L) (i : Int) : md_v h a i = L.getD i.toNat 0 := by
  unfold md_v
  rw [x.2.2]
  simp only [List.getElem?_map, List.getD_eq_getElem?_getD]
  cases L[i.toNat]? <;> rfl
section
variable {w : sg_W} {mi : sg_M} {d mc ms : Nat} {Q : sg_O → sg_H → Prop} {pc : Nat} {lv : List (Nat × sg_V)} {st : List sg_V} {h h0 : sg_H} {k n M : Nat} {A : fa_A} {L : List Int}
end
/-! words: where each begins and how long it is -/
def jw_b (W : List (Int × Int)) : List (Int × Int) := W.set (W.length - 1) ((W.getD (W.length - 1) (0, 0)).1, (W.getD (W.length - 1) (0, 0)).2 + 1)
def jwl (L : List Int) : Nat → List (Int × Int)
  | 0 => []
  | k + 1 => if fn_isOf (L.getD k 0) 2 = 0 then jwl L k else if k = 0 ∨ fn_isOf (L.getD (k - 1) 0) 2 = 0 then jwl L k ++ [((k : Int), 1)] else jw_b (jwl L k)
def jw_1 (L : List Int) (n N k : Nat) (w : Int × Int) : Prop := 0 ≤ w.1 ∧ 1 ≤ w.2 ∧ w.1 + w.2 ≤ (n : Int) ∧ fs_wb L w.1.toNat ∧ fs_wn L w.1.toNat = (k : Int) ∧ (∀ j : Nat, w.1 ≤ (j : Int) → (j : Int) < w.1 + w.2 → fn_isOf (L.getD j 0) 2 ≠ 0) ∧ ((k + 1 = N ∧ w.1 + w.2 = (n : Int)) ∨ fn_isOf (L.getD (w.1 + w.2).toNat 0) 2 = 0)
def jw_I (L : List Int) (n : Nat) (W : List (Int × Int)) : Prop := (W.length : Int) = fs_wn L n ∧ (0 < n → fn_isOf (L.getD (n - 1) 0) 2 ≠ 0 → ∃ w, 0 < W.length ∧ W[W.length - 1]? = some w ∧ w.1 + w.2 = (n : Int)) ∧ ∀ (k : Nat) (w : Int × Int), W[k]? = some w → jw_1 L n W.length k w
theorem jw_bl {W : List (Int × Int)} : (jw_b W).length = W.length := by
  unfold jw_b
  rw [List.length_set]
theorem jwl_i {L : List Int} : ∀ n : Nat, jw_I L n (jwl L n)
  | 0 => ⟨rfl, fun h => absurd h (by omega), fun k w h => by
      have h2 : ([] : List (Int × Int))[k]? = some w := h
      simp at h2⟩
  | n + 1 => by
    obtain ⟨i1, i2, i3⟩ := jwl_i (L := L) n
    have sw := fs_wns (L := L) (p := (n : Int)) (by omega)
    rw [show ((n : Int) + 1).toNat = n + 1 by omega, show ((n : Int)).toNat = n by omega] at sw
    have low : ∀ (k : Nat) (w : Int × Int), (jwl L n)[k]? = some w → k < (jwl L n).length := fun k w h => (List.getElem?_eq_some_iff.mp h).1
    by_cases c : fn_isOf (L.getD n 0) 2 = 0
    · have e : jwl L (n + 1) = jwl L n := if_pos c
      rw [e]
      rw [if_neg (fun q => q.1 c)] at sw
      refine ⟨by omega, fun _ q => absurd c q, fun k w h => ?_⟩
      obtain ⟨a1, a2, a3, a4, a5, a6, a7⟩ := i3 k w h
      refine ⟨a1, a2, by omega, a4, a5, a6, Or.inr ?_⟩
      rcases a7 with ⟨-, q⟩ | q
      · rw [q, show ((n : Int)).toNat = n by omega]; exact c
      · exact q
    · by_cases f : n = 0 ∨ fn_isOf (L.getD (n - 1) 0) 2 = 0
      · have e : jwl L (n + 1) = jwl L n ++ [((n : Int), 1)] := (if_neg c).trans (if_pos f)
        rw [e]
        rw [if_pos ⟨c, f⟩] at sw
        refine ⟨by rw [List.length_append]; show (((jwl L n).length + 1 : Nat) : Int) = _; omega, fun _ _ => ⟨((n : Int), 1), by rw [List.length_append]; exact Nat.succ_pos _, ?_, by show (n : Int) + 1 = _; omega⟩, fun k w h => ?_⟩
        · rw [List.length_append, show (jwl L n).length + [((n : Int), (1 : Int))].length - 1 = (jwl L n).length from rfl, List.getElem?_append_right (Nat.le_refl _), Nat.sub_self]
          rfl
        · by_cases hk : k < (jwl L n).length
          · rw [List.getElem?_append_left hk] at h
            obtain ⟨a1, a2, a3, a4, a5, a6, a7⟩ := i3 k w h
            refine ⟨a1, a2, by omega, a4, a5, a6, Or.inr ?_⟩
            rcases a7 with ⟨-, q⟩ | q
            · exfalso
              rcases f with f | f
              · omega
              · exact a6 (n - 1) (by omega) (by omega) f
            · exact q
          · rw [List.getElem?_append_right (by omega)] at h
            have hk2 : k = (jwl L n).length := by
              have := (List.getElem?_eq_some_iff.mp h).1
              simp at this
              omega
            rw [hk2, Nat.sub_self] at h
            have ew : w = ((n : Int), 1) := (Option.some.inj h).symm
            subst ew
            refine ⟨by show (0 : Int) ≤ n; omega, Int.le_refl _, by show (n : Int) + 1 ≤ _; omega, ?_, ?_, fun j j0 j1 => ?_, Or.inl ⟨by rw [List.length_append, hk2]; rfl, by show (n : Int) + 1 = _; omega⟩⟩
            · show fs_wb L ((n : Int)).toNat
              rw [show ((n : Int)).toNat = n by omega]; exact ⟨c, f⟩
            · show fs_wn L ((n : Int)).toNat = _
              rw [show ((n : Int)).toNat = n by omega, hk2]; exact i1.symm
            · have j2 : (n : Int) ≤ j := j0
              have j3 : (j : Int) < (n : Int) + 1 := j1
              rw [show j = n by omega]; exact c
      · have e : jwl L (n + 1) = jw_b (jwl L n) := (if_neg c).trans (if_neg f)
        have n0 : ¬ n = 0 := fun q => f (Or.inl q)
        obtain ⟨u, u0, u1, u2⟩ := i2 (by omega) (fun q => f (Or.inr q))
        have eu : (jwl L n).getD ((jwl L n).length - 1) (0, 0) = u := by rw [List.getD_eq_getElem?_getD, u1]; rfl
        have e2 : jw_b (jwl L n) = (jwl L n).set ((jwl L n).length - 1) (u.1, u.2 + 1) := by unfold jw_b; rw [eu]
        rw [e, e2]
        rw [if_neg (fun q => f q.2)] at sw
        have hs : ((jwl L n).set ((jwl L n).length - 1) (u.1, u.2 + 1))[(jwl L n).length - 1]? = some (u.1, u.2 + 1) := by rw [List.getElem?_set_self (by omega)]
        refine ⟨by rw [List.length_set]; omega, fun _ _ => ⟨(u.1, u.2 + 1), by rw [List.length_set]; exact u0, by rw [List.length_set]; exact hs, by show u.1 + (u.2 + 1) = _; omega⟩, fun k w h => ?_⟩
        rw [List.length_set]
        by_cases hk : (jwl L n).length - 1 = k
        · rw [← hk, hs] at h
          have ew : w = (u.1, u.2 + 1) := (Option.some.inj h).symm
          subst ew
          obtain ⟨a1, a2, a3, a4, a5, a6, a7⟩ := i3 _ u u1
          refine ⟨a1, by show 1 ≤ u.2 + 1; omega, by show u.1 + (u.2 + 1) ≤ _; omega, a4, by rw [← hk]; exact a5, fun j j0 j1 => ?_, Or.inl ⟨by omega, by show u.1 + (u.2 + 1) = _; omega⟩⟩
          have j2 : u.1 ≤ (j : Int) := j0
          have j3 : (j : Int) < u.1 + (u.2 + 1) := j1
          by_cases q : j = n
          · rw [q]; exact c
          · exact a6 j j2 (by omega)
        · rw [List.getElem?_set_ne hk] at h
          obtain ⟨a1, a2, a3, a4, a5, a6, a7⟩ := i3 k w h
          have hl := low k w h
          exact ⟨a1, a2, by omega, a4, a5, a6, Or.inr (a7.elim (fun q => absurd q.1 (by omega)) id)⟩
theorem jwl_r {L : List Int} {k : Nat} {w : Int × Int} (h : (jwl L L.length)[k]? = some w) : w.1 = fs_wat L k ∧ w.2 = fs_end L (fs_wat L k) - fs_wat L k := by
  obtain ⟨a1, a2, a3, a4, a5, a6, a7⟩ := (jwl_i (L := L) L.length).2.2 k w h
  have e1 : w.1 = fs_wat L k := fs_theE fs_wU (Or.inr ⟨a1, by omega, a4, a5⟩)
  have e2 : w.1 + w.2 = fs_end L w.1 := fs_theE (fs_eU a1) ⟨by omega, by omega, a6, a7.elim (fun q => Or.inl q.2) Or.inr⟩
  rw [← e1]
  exact ⟨rfl, by omega⟩
theorem jwl_o {L : List Int} {k : Int} (h : k < 0 ∨ ((jwl L L.length).length : Int) ≤ k) : fs_wat L k = -1 := by
  have i1 := (jwl_i (L := L) L.length).1
  refine (fs_theE fs_wU (Or.inl ⟨rfl, fun j hj wb e => ?_⟩)).symm
  have h1 := fs_wlt hj wb
  have h2 := fs_wnb (L := L) (n := j)
  omega
/-- what the list's arrays hold -/
def jw_L (h : sg_H) (b : Nat) (W : List (Int × Int)) : Prop := ∃ a : Nat → Nat, (∀ i j : Nat, i < j → j < W.length → a i < a j) ∧ ∀ (m : Int) (E : Nat) (sz : Int), h.2 b = some (2, [sg_i m, sg_r E, sg_i sz]) → sz = (W.length : Int) ∧ ∀ xs : List sg_V, h.2 E = some (113, xs) → ∀ j : Nat, j < W.length → xs[j]? = some (sg_r (a j)) ∧ h.2 (a j) = some (100, [sg_i (W.getD j (0, 0)).1, sg_i (W.getD j (0, 0)).2]) ∧ a j < h.1
theorem jw_L0 {h : sg_H} {b : Nat} {m : Int} {E : Nat} (hb : h.2 b = some (2, [sg_i m, sg_r E, sg_i 0])) : jw_L h b [] := by
  refine ⟨fun _ => 0, fun i j _ hj => absurd hj (by simp), fun m' E' sz' hb' => ⟨?_, fun xs _ j hj => absurd hj (by simp)⟩⟩
  cases hb.symm.trans hb'
  rfl
theorem jw_Ladd {h1 h : sg_H} {b E E' hn : Nat} {m m1 sz : Int} {ys zs : List sg_V} {f : Nat → Option sg_E} {W : List (Int × Int)} {v : Int × Int} (Lc : jw_L h1 b W) (e : md_E h1 h) (hb1 : h1.2 b = some (2, [sg_i m, sg_r E, sg_i sz])) (hW : 0 < sz → h1.2 E = some (113, ys)) (fb : f b = some (2, [sg_i m1, sg_r E', sg_i (sz + 1)])) (fE : f E' = some (113, zs.set sz.toNat (sg_r h1.1))) (zl : sz < (zs.length : Int)) (hz : ∀ j : Nat, (j : Int) < sz → zs[j]? = ys[j]?) (fr : ∀ q, q ≠ b → q ≠ E' → f q = h.2 q) (hx : h.2 h1.1 = some (100, [sg_i v.1, sg_i v.2])) (xb : h1.1 ≠ b) (xE : h1.1 ≠ E') (hl : h1.1 < hn) (hE' : ∀ q y, q < h1.1 → h1.2 q = some (100, y) → q ≠ E') : jw_L (hn, f) b (W ++ [v]) := by
  obtain ⟨a, am, ac⟩ := Lc
  obtain ⟨s1, s2⟩ := ac m E sz hb1
  have s3 : ∀ j : Nat, j < W.length → ys[j]? = some (sg_r (a j)) ∧ h1.2 (a j) = some (100, [sg_i (W.getD j (0, 0)).1, sg_i (W.getD j (0, 0)).2]) ∧ a j < h1.1 := fun j hj => s2 ys (hW (by omega)) j hj
  have wl : (W ++ [v]).length = W.length + 1 := by rw [List.length_append]; rfl
  refine ⟨fun j => if j < W.length then a j else h1.1, fun i j ij jl => ?_, fun m' E'' sz' hb' => ?_⟩
  · rw [wl] at jl
    show (if i < W.length then a i else h1.1) < (if j < W.length then a j else h1.1)
    rw [if_pos (by omega)]
    by_cases c : j < W.length
    · rw [if_pos c]; exact am i j ij c
    · rw [if_neg c]; exact (s3 i (by omega)).2.2
  · cases fb.symm.trans hb'
    refine ⟨by rw [wl]; omega, fun xs hE j hj => ?_⟩
    cases fE.symm.trans hE
    rw [wl] at hj
    by_cases c : j < W.length
    · obtain ⟨t1, t2, t3⟩ := s3 j c
      have g1 : (W ++ [v]).getD j (0, 0) = W.getD j (0, 0) := by rw [List.getD_eq_getElem?_getD, List.getD_eq_getElem?_getD, List.getElem?_append_left c]
      rw [g1]
      simp only [if_pos c]
      have nb : a j ≠ b := fun q => by rw [q, hb1] at t2; cases t2
      exact ⟨by rw [List.getElem?_set_ne (by omega), hz j (by omega)]; exact t1, (fr _ nb (hE' _ _ t3 t2)).trans ((e.2 _ t3).trans t2), Nat.lt_trans t3 hl⟩
    · have ej : j = W.length := by omega
      subst ej
      have g1 : (W ++ [v]).getD W.length (0, 0) = v := by rw [List.getD_eq_getElem?_getD, List.getElem?_append_right (Nat.le_refl _), Nat.sub_self]; rfl
      rw [g1]
      simp only [if_neg c]
      exact ⟨by rw [show sz.toNat = W.length by omega, List.getElem?_set_self (by omega)], (fr _ xb xE).trans hx, hl⟩
theorem jw_Linc {h : sg_H} {b E a2 : Nat} {m sz : Int} {xs : List sg_V} {W : List (Int × Int)} {x y : Int} (Lc : jw_L h b W) (hb : h.2 b = some (2, [sg_i m, sg_r E, sg_i sz])) (hE : h.2 E = some (113, xs)) (n0 : 0 < W.length) (ea : xs[W.length - 1]? = some (sg_r a2)) (ha : h.2 a2 = some (100, [sg_i x, sg_i y])) : x = (W.getD (W.length - 1) (0, 0)).1 ∧ y = (W.getD (W.length - 1) (0, 0)).2 ∧ jw_L (h.1, sg_up h.2 a2 (100, [sg_i x, sg_i (y + 1)])) b (jw_b W) := by
  obtain ⟨a, am, ac⟩ := Lc
  obtain ⟨s1, s2⟩ := ac m E sz hb
  obtain ⟨t1, t2, t3⟩ := s2 xs hE (W.length - 1) (by omega)
  have e2 : a2 = a (W.length - 1) := by
    have q := ea.symm.trans t1
    cases q
    rfl
  rw [← e2] at t2 t3
  have ev := ha.symm.trans t2
  have ex : x = (W.getD (W.length - 1) (0, 0)).1 := by
    have q := ev
    simp only [Option.some.injEq, Prod.mk.injEq, List.cons.injEq, sg_i] at q
    first | omega | (have := q.2.1; simpa using this)
  have ey : y = (W.getD (W.length - 1) (0, 0)).2 := by
    have q := ev
    simp only [Option.some.injEq, Prod.mk.injEq, List.cons.injEq, sg_i] at q
    first | omega | (have := q.2.2.1; simpa using this)
  refine ⟨ex, ey, a, fun i j ij jl => am i j ij (by rw [jw_bl] at jl; exact jl), fun m' E' sz' hb' => ?_⟩
  have nb : b ≠ a2 := fun q => by rw [q, ha] at hb; cases hb
  have nE : E ≠ a2 := fun q => by rw [q, ha] at hE; cases hE
  have hb2 : h.2 b = some (2, [sg_i m', sg_r E', sg_i sz']) := (sg_up_n nb).symm.trans hb'
  cases hb.symm.trans hb2
  refine ⟨by rw [jw_bl]; exact s1, fun xs' hE' j hj => ?_⟩
  have hE2 : h.2 E = some (113, xs') := (sg_up_n nE).symm.trans hE'
  rw [jw_bl] at hj
  obtain ⟨r1, r2, r3⟩ := s2 xs' hE2 j hj
  by_cases c : j = W.length - 1
  · subst c
    have g1 : (jw_b W).getD (W.length - 1) (0, 0) = (x, y + 1) := by
      unfold jw_b
      rw [List.getD_eq_getElem?_getD, List.getElem?_set_self (by omega), ← ex, ← ey]
      rfl
    rw [g1, ← e2]
    exact ⟨by rw [e2]; exact r1, sg_up_s, t3⟩
  · have g1 : (jw_b W).getD j (0, 0) = W.getD j (0, 0) := by
      unfold jw_b
      rw [List.getD_eq_getElem?_getD, List.getElem?_set_ne (by omega), ← List.getD_eq_getElem?_getD]
    have nj : a j ≠ a2 := by
      have := am j (W.length - 1) (by omega) (by omega)
      omega
    rw [g1]
    exact ⟨r1, (sg_up_n nj).trans r2, r3⟩
theorem jw_bg {W : List (Int × Int)} {v : Int × Int} : (W ++ [v]).getD ((W ++ [v]).length - 1) (0, 0) = v := by
  rw [List.length_append, show W.length + [v].length - 1 = W.length from rfl, List.getD_eq_getElem?_getD, List.getElem?_append_right (Nat.le_refl _), Nat.sub_self]
  rfl
theorem jw_ba {W : List (Int × Int)} {x : Int} : jw_b (W ++ [(x, 0)]) = W ++ [(x, 1)] := by
  unfold jw_b
  rw [jw_bg, List.length_append, show W.length + [(x, (0 : Int))].length - 1 = W.length from rfl, List.set_append_right _ _ (Nat.le_refl _), Nat.sub_self]
  rfl
set_option maxRecDepth 100000 in
set_option maxHeartbeats 1000000 in
theorem f_X7_wordsOf {w : sg_W} {Q : sg_O → sg_H → Prop} {h : sg_H} (g : sg_G w) {d : Nat} (hd : 10 ≤ d) {M : Nat} {row : Int} (hv : 0 ≤ row ∧ row < 4) {A : fa_A} {L : List Int} (hA : md_ab h M = A) (hL : fa_L A row.toNat = L) (hx : md_M w h M) (hQ : ∀ (h' : sg_H) (b cap : Nat) (sz : Int), jw_P w h h' b cap sz → jw_L h' b (jwl L L.length) → sz = jwc (md_v h (md_a h (md_r h M) row)) (md_n h (md_a h (md_r h M) row)) → sz ≤ 20 → Q (.inl (some (sg_r b))) h') : sg_C w mi_X7_wordsOf d 24 90 [sg_r M, sg_i row] h Q := by
  refine sg_of pn_X7 (Nat.le_of_ble_eq_true rfl) ?_
  have y0 := md_Y0 hx
  have hk := hx.2.1
  have xr := md_rX hx (i := row) (by omega) (by omega)
  rw [hA, hL] at xr
  have nl := md_ne (md_XA xr)
  have loop10 : ∀ (N : Nat) (h1 : sg_H) (p cap k1 n1 cc ss : Nat) (sz : Int), jw_P w h h1 h.1 cap sz → jwg cap cc ss → ((k1 : Int) ≤ 1 + cc + sz) → ((n1 : Int) ≤ 3 + ss + 2 * sz) → sz = jwc (md_v h (md_a h (md_r h M) row)) p → p ≤ (md_n h (md_a h (md_r h M) row)) → (2 * sz ≤ (p : Int) + 1) → ((p = 0 ∨ fn_isOf ((md_v h (md_a h (md_r h M) row)) ((p : Int) - 1)) 2 ≠ 1) → 2 * sz ≤ (p : Int)) → (0 < p → fn_isOf ((md_v h (md_a h (md_r h M) row)) ((p : Int) - 1)) 2 = 1 → 1 ≤ sz) → jw_L h1 h.1 (jwl L p) → 40 - p < N → sg_R w mi_X7_wordsOf d 24 90 Q 10 [(3, sg_i (p : Int)), (0, sg_r M), (1, sg_i row), (2, sg_r h.1)] [] h1 k1 n1 := by
    intro N
    induction N with
    | zero => intro h1 p cap k1 n1 cc ss sz P1 g1 kb nb cn pN b1 b2 b3 Lc hm; exact absurd hm (Nat.not_lt_zero _)
    | succ N ih =>
      intro h1 p cap k1 n1 cc ss sz P1 g1 kb nb cn pN b1 b2 b3 Lc hm
      have x1 : md_M w h1 M := md_ME hx P1.2.1
      have hk1 := x1.2.1
      have ve := md_vE hx P1.2.1 (i := row) (by omega) (by omega)
      have se := md_SE hx P1.2.1 (i := row) (by omega) (by omega)
      have n40 := md_n40 hx (i := row) (by omega) (by omega)
      have s0 : 0 ≤ sz := by obtain ⟨-, -, -, m, E, xs, -, -, s0, -⟩ := P1; exact s0
      have vp : (md_v h (md_a h (md_r h M) row)) (p : Int) = L.getD p 0 := by rw [md_vX xr, Int.toNat_natCast]
      have vq : (md_v h (md_a h (md_r h M) row)) ((p : Int) - 1) = L.getD (p - 1) 0 := by rw [md_vX xr, show ((p : Int) - 1).toNat = p - 1 by omega]
      have fp := fk_b (L.getD p 0) 2
      have fq := fk_b (L.getD (p - 1) 0) 2
      refine sg_frs (fun hf => ?_)
      have rk : k1 + 2 ≤ 24 + 2 ∧ n1 ≤ 90 := by unfold jwg at g1; omega
      refine sg_iload_n (pc := 10) (j := 3) dX7_wordsOf_10 rfl rfl ?_
      refine sg_aload_n (pc := 11) (j := 0) dX7_wordsOf_11 rfl rfl ?_
      refine md_grw (pc := 12) g dX7_wordsOf_12 fk_X7_9 (by assumption) (fun r12 => ?_)
      refine sg_iload_n (pc := 15) (j := 1) dX7_wordsOf_15 rfl rfl ?_
      first | refine md_alr (pc := 16) dX7_wordsOf_16 (by assumption) (by omega) (by omega) (fun A16 l16 => ?_) | refine md_alt (pc := 16) dX7_wordsOf_16 (by assumption) (by omega) (by omega) (fun A16 l16 => ?_)
      refine md_len (pc := 17) dX7_wordsOf_17 (by assumption) (by omega) ?_
      refine sg_icmp_ge (pc := 18) (tgt := 101) dX7_wordsOf_18 (by decide) (fun c18 => ?_) (fun c18 => ?_)
      · refine sg_aload_n (pc := 101) (j := 2) dX7_wordsOf_101 rfl rfl ?_
        refine sg_aret (pc := 102) dX7_wordsOf_102 rfl (by first | exact Or.inl ⟨_, rfl⟩ | exact Or.inr ⟨_, rfl⟩) (by first | exact Nat.le_of_ble_eq_true rfl | omega) (by first | exact Nat.le_of_ble_eq_true rfl | omega) ?_
        have ep : p = (md_n h (md_a h (md_r h M) row)) := by omega
        subst ep
        exact hQ _ _ _ _ P1 (by rw [← nl]; exact Lc) cn (by omega)
      · refine sg_aload_n (pc := 21) (j := 0) dX7_wordsOf_21 rfl rfl ?_
        refine md_grw (pc := 22) g dX7_wordsOf_22 fk_X7_9 (by assumption) (fun r22 => ?_)
        refine sg_iload_n (pc := 25) (j := 1) dX7_wordsOf_25 rfl rfl ?_
        first | refine md_alr (pc := 26) dX7_wordsOf_26 (by assumption) (by omega) (by omega) (fun A26 l26 => ?_) | refine md_alt (pc := 26) dX7_wordsOf_26 (by assumption) (by omega) (by omega) (fun A26 l26 => ?_)
        refine sg_iload_n (pc := 27) (j := 3) dX7_wordsOf_27 rfl rfl ?_
        refine md_alv (pc := 28) dX7_wordsOf_28 (by assumption) (by omega) (by omega) (fun g28 => ?_)
        rw [ve]
        refine sg_iconst (pc := 29) (z := 2) dX7_wordsOf_29 (by decide) ?_
        refine sg_cS2 (pc := 30) (d' := d - 1) (mc' := 0) (ms' := 0) g dX7_wordsOf_30 cb_X7_isKind ml_X7_26 ms_X7_isKind (Nat.le_of_ble_eq_true rfl) (by first | exact jl_d0 hd rfl | omega) (by first | exact Nat.le_of_ble_eq_true rfl | omega) (by first | exact Nat.le_of_ble_eq_true rfl | omega) ?_
        refine s_X7_isKind g (by first | exact jl_d1 hd rfl | omega) (by assumption) (by omega) (by omega) (fun z30 e30 b30 => sg_K1 ?_)
        refine sg_if_ne (pc := 33) (tgt := 39) dX7_wordsOf_33 (by decide) (fun c33 => ?_) (fun c33 => ?_)
        · have wp : fn_isOf ((md_v h (md_a h (md_r h M) row)) (p : Int)) 2 = 1 := by omega
          have rest76 : ∀ (h2 : sg_H) (cap2 k2 n2 c2 s2 : Nat) (sz2 : Int), jw_P w h h2 h.1 cap2 sz2 → 1 ≤ sz2 → jwg cap2 c2 s2 → ((k2 : Int) ≤ 1 + c2 + sz2) → ((n2 : Int) ≤ 3 + s2 + 2 * sz2) → sz2 = jwc (md_v h (md_a h (md_r h M) row)) (p + 1) → (2 * sz2 ≤ (p : Int) + 2) → ∀ W2 : List (Int × Int), jw_L h2 h.1 W2 → 0 < W2.length → jw_b W2 = jwl L (p + 1) → (0 ≤ (W2.getD (W2.length - 1) (0, 0)).2 ∧ (W2.getD (W2.length - 1) (0, 0)).2 ≤ 40) → sg_R w mi_X7_wordsOf d 24 90 Q 76 [(3, sg_i (p : Int)), (0, sg_r M), (1, sg_i row), (2, sg_r h.1)] [] h2 k2 n2 := by
            intro h2 cap2 k2 n2 c2 s2 sz2 P2 z1 g2 kb2 nb2 cn2 bb W2 L2 W2n W2e W2b
            obtain ⟨-, E02, b12, m2, E2, xs2, hb2, hE2, s02, sc2, hj2⟩ := id P2
            obtain ⟨a2, ea, a0, ⟨al, zs2, zl2, -, za2⟩⟩ := hj2 (sz2 - 1).toNat (by omega)
            have hE3 : h2.2 E2 = some (113, xs2) := by
              rcases hE2 with ⟨q1, q2, -⟩ | ⟨-, -, q3, -⟩
              · rw [q2] at ea; cases ea
              · exact q3
            obtain ⟨u2, v2, rfl⟩ : ∃ u v, zs2 = [u, v] := by
              match zs2, zl2 with
              | [u, v], _ => exact ⟨u, v, rfl⟩
            obtain ⟨-, ey, L3⟩ := jw_Linc L2 hb2 hE3 W2n (by have s9 := (L2.choose_spec.2 _ _ _ hb2).1; rw [← show (sz2 - 1).toNat = W2.length - 1 by omega]; exact ea) za2
            rw [W2e] at L3
            rw [← ey] at W2b
            refine sg_aload_n (pc := 76) (j := 2) dX7_wordsOf_76 rfl rfl ?_
            refine sg_aload_n (pc := 77) (j := 2) dX7_wordsOf_77 rfl rfl ?_
            refine sg_cV0 (pc := 78) (d' := d - 1) (mc' := 0) (ms' := 0) g dX7_wordsOf_78 cb_Jx4a65c_size_8abf5 ml_X7_53 mn_Jx4a65c_size_8abf5 mv_Jx4a65c_size_8abf5 hb2 (Nat.le_of_ble_eq_true rfl) rfl (Nat.le_of_ble_eq_true rfl) (by omega) (by unfold jwg at g2; omega) (by unfold jwg at g2; omega) ?_
            refine s_al_size g (by first | exact jl_d1 hd rfl | omega) hb2 ?_
            refine sg_K1 ?_
            refine sg_iconst (pc := 81) (z := 1) dX7_wordsOf_81 (by decide) ?_
            first | refine sg_isubB (pc := 82) dX7_wordsOf_82 (by omega) (by omega) ?_ | refine sg_isub (pc := 82) dX7_wordsOf_82 ?_
            refine sg_cV1 (pc := 83) (d' := d - 1) (mc' := 0) (ms' := 0) g dX7_wordsOf_83 cb_Jx4a65c_get_915e3 ml_X7_212 mn_Jx4a65c_get_915e3 mv_Jx4a65c_get_915e3 hb2 (Nat.le_of_ble_eq_true rfl) rfl (Nat.le_of_ble_eq_true rfl) (by omega) (by unfold jwg at g2; omega) (by unfold jwg at g2; omega) ?_
            refine s_al_get g (by first | exact jl_d1 hd rfl | omega) hb2 hE3 (i := sz2 - 1) (by omega) (by omega) ea ?_
            refine sg_K1 ?_
            refine sg_castA (pc := 86) g dX7_wordsOf_86 cl_X7_7 za2 (by decide) (by decide +kernel) ?_
            refine sg_iconst (pc := 89) (z := 1) dX7_wordsOf_89 (by decide) ?_
            refine sg_dup2 (pc := 90) dX7_wordsOf_90 rfl rfl ?_
            refine sg_iald (pc := 91) dX7_wordsOf_91 za2 (by decide) (by decide) (v := sg_i v2) rfl ?_
            refine sg_iconst (pc := 92) (z := 1) dX7_wordsOf_92 (by decide) ?_
            first | refine sg_iaddB (pc := 93) dX7_wordsOf_93 (by omega) (by omega) ?_ | refine sg_iadd (pc := 93) dX7_wordsOf_93 ?_
            refine sg_iast (pc := 94) dX7_wordsOf_94 za2 (by decide) (by rw [List.length_map, zl2]; decide) ?_
            first | refine sg_iincB (pc := 95) dX7_wordsOf_95 rfl (by decide) (by decide) (by omega) (by omega) ?_ | refine sg_iinc (pc := 95) dX7_wordsOf_95 rfl (by decide) (by decide) ?_
            refine sg_goto (pc := 98) (tgt := 10) dX7_wordsOf_98 (by decide) ?_
            refine sg_lsub (lv' := [(3, _), (0, _), (1, _), (2, _)]) ⟨rfl, rfl, rfl, rfl, trivial⟩ ?_
            exact ih _ (p + 1) cap2 k2 n2 c2 s2 sz2 (jw_inc P2 a0 za2 zl2) g2 kb2 nb2 cn2 (by omega) (by omega) (fun q => q.elim (fun e => absurd e (by omega)) (fun e => absurd (by rw [show ((p + 1 : Nat) : Int) - 1 = (p : Int) by omega]; exact wp) e)) (fun _ _ => z1) L3 (by omega)
          have rest60 : (p = 0 ∨ fn_isOf ((md_v h (md_a h (md_r h M) row)) ((p : Int) - 1)) 2 ≠ 1) → sg_R w mi_X7_wordsOf d 24 90 Q 60 [(3, sg_i (p : Int)), (0, sg_r M), (1, sg_i row), (2, sg_r h.1)] [] h1 k1 n1 := by
            intro first
            have b29 := b2 first
            have rk1 : k1 + 1 ≤ 24 ∧ n1 + 2 ≤ 90 := by unfold jwg at g1; omega
            have cn3 : sz + 1 = jwc (md_v h (md_a h (md_r h M) row)) (p + 1) := by rw [jwc, if_pos ⟨wp, first⟩, cn]
            refine sg_aload_n (pc := 60) (j := 2) dX7_wordsOf_60 rfl rfl ?_
            refine sg_iconst (pc := 61) (z := 2) dX7_wordsOf_61 (by decide) ?_
            refine sg_newa (t := 100) (N := 2) (pc := 62) g dX7_wordsOf_62 ac_int rfl (by decide) (by decide) rfl rfl (by decide) (by omega) (by omega) (by omega) (by omega) ?_
            try dsimp only
            refine sg_dup (pc := 64) dX7_wordsOf_64 rfl ?_
            refine sg_iconst (pc := 65) (z := 0) dX7_wordsOf_65 (by decide) ?_
            refine sg_iload_n (pc := 66) (j := 3) dX7_wordsOf_66 rfl rfl ?_
            refine md_astF (pc := 67) dX7_wordsOf_67 (md_newF (c := 0)) ck_v0 (by omega) (by decide) (fun h67 t67 => ?_)
            refine sg_dup (pc := 68) dX7_wordsOf_68 rfl ?_
            refine sg_iconst (pc := 69) (z := 1) dX7_wordsOf_69 (by decide) ?_
            refine sg_iconst (pc := 70) (z := 0) dX7_wordsOf_70 (by decide) ?_
            refine md_astF (pc := 71) dX7_wordsOf_71 t67 ck_v0 (by omega) (by rw [List.length_set]; decide) (fun h71 tF => ?_)
            have t71 : md_T 0 h1 h71 2 := ⟨tF.1, tF.2.1, md_XA (md_FX tF)⟩
            have hxA : h71.2 h1.1 = some (100, [sg_i (p : Int), sg_i 0]) := tF.2.2.2
            have wn : ¬ fn_isOf (L.getD p 0) 2 = 0 := by rw [← vp]; omega
            have fL : p = 0 ∨ fn_isOf (L.getD (p - 1) 0) 2 = 0 := by rw [vq] at first; omega
            have P7 := jw_E P1 (md_TE t71) hf
            obtain ⟨b07, E07, b17, m7, E7, xs7, hb7, hE7, s07, sc7, hj7⟩ := P7
            obtain ⟨xl, zx, zxl, -, hx7⟩ := id t71.2.2
            have nxb : h1.1 ≠ h.1 := by have := P1.2.2.1; omega
            have x0 : h.1 ≤ h1.1 := P1.2.1.1
            refine sg_frs (fun hf7 => ?_)
            have hbA := ((md_TE t71).2 _ P1.2.2.1).symm.trans hb7
            have hWA : ∀ ys, h71.2 E7 = some (113, ys) → h1.2 E7 = some (113, ys) := fun ys q => (tF.2.1 E7 (fun r => by rw [r, hxA] at q; cases q)).symm.trans q
            have t7l := t71.1
            rcases hE7 with ⟨rfl, rfl, hE8, hZ⟩ | ⟨cp0, hE0, hE8, hcl⟩
            · have sz9 : sz = 0 := by omega
              have gg : cc = 0 ∧ ss = 0 := by unfold jwg at g1; omega
              refine sg_cV1 (pc := 72) (d' := d - 1) (mc' := 1) (ms' := 10) g dX7_wordsOf_72 cb_Jx4a65c_add_9ea2d ml_X7_49 mn_Jx4a65c_add_9ea2d mv_Jx4a65c_add_9ea2d hb7 (Nat.le_of_ble_eq_true rfl) rfl (Nat.le_of_ble_eq_true rfl) (by omega) (by unfold jwg at g1; omega) (by unfold jwg at g1; omega) ?_
              refine s_al_addD g (by first | exact jl_d1 hd rfl | omega) hb7 hE8 hZ sz9 hx7 nxb md_asI rfl (fun m1 f f1 f2 f3 => ?_)
              refine sg_K1 ?_
              refine sg_pop (pc := 75) dX7_wordsOf_75 rfl ?_
              exact rest76 _ 10 _ _ 1 10 (sz + 1) (jw_add b07 E07 (Nat.le_succ _) b17 hb7 f1 f2 (by have := E07.1; omega) (by decide) s07 (by omega) (fun j hj => absurd hj (by omega)) hj7 x0 t71.2.2 (fun a z => Nat.ne_of_lt z.1) f3) (by omega) (by unfold jwg at *; omega) (by omega) (by omega) cn3 (by have := b2 first; omega) (jwl L p ++ [((p : Int), 0)]) (jw_Ladd (v := ((p : Int), 0)) Lc (md_TE t71) hbA (ys := []) (fun q => absurd q (by omega)) f1 f2 (by rw [sz9]; decide) (fun j hj => absurd hj (by omega)) f3 hxA nxb (by omega) (by omega) (fun q y hq _ => by omega)) (by rw [List.length_append]; exact Nat.succ_pos _) (jw_ba.trans ((if_neg wn).trans (if_pos fL)).symm) (by rw [jw_bg]; show (0 : Int) ≤ 0 ∧ (0 : Int) ≤ 40; decide)
            · by_cases full : sz < (xs7.length : Int)
              · refine sg_cV1 (pc := 72) (d' := d - 1) (mc' := 0) (ms' := 0) g dX7_wordsOf_72 cb_Jx4a65c_add_9ea2d ml_X7_49 mn_Jx4a65c_add_9ea2d mv_Jx4a65c_add_9ea2d hb7 (Nat.le_of_ble_eq_true rfl) rfl (Nat.le_of_ble_eq_true rfl) (by omega) (by unfold jwg at g1; omega) (by unfold jwg at g1; omega) ?_
                refine s_al_addR g (by first | exact jl_d1 hd rfl | omega) hb7 hE8 s07 full (by unfold jwg at g1; omega) hx7 nxb md_asI rfl (fun m1 f f1 f2 f3 => ?_)
                refine sg_K1 ?_
                refine sg_pop (pc := 75) dX7_wordsOf_75 rfl ?_
                exact rest76 _ cap _ _ cc ss (sz + 1) (jw_add b07 E07 (Nat.le_refl _) b17 hb7 f1 f2 hE0 hcl s07 (by omega) (fun j hj => rfl) hj7 x0 t71.2.2 (fun a z => md_Ane z hE8 (by decide)) f3) (by omega) (by unfold jwg at *; omega) (by omega) (by omega) cn3 (by have := b2 first; omega) (jwl L p ++ [((p : Int), 0)]) (jw_Ladd (v := ((p : Int), 0)) Lc (md_TE t71) hbA (fun _ => hWA _ hE8) f1 f2 full (fun j hj => rfl) f3 hxA nxb (fun r => by rw [← r, hxA] at hE8; cases hE8) (by omega) (fun q y _ hy r => by rw [r, hWA _ hE8] at hy; cases hy)) (by rw [List.length_append]; exact Nat.succ_pos _) (jw_ba.trans ((if_neg wn).trans (if_pos fL)).symm) (by rw [jw_bg]; show (0 : Int) ≤ 0 ∧ (0 : Int) ≤ 40; decide)
              · have hel : ∀ i : Nat, i < xs7.length → sg_el h71 113 (xs7.getD i sg_n) := fun i hi => by
                  obtain ⟨a9, e9, -, ⟨-, zs9, -, -, e8⟩⟩ := hj7 i (by omega)
                  exact Or.inr ⟨rfl, Or.inr ⟨a9, 100, _, by rw [List.getD_eq_getElem?_getD, e9]; rfl, e8, md_asI, rfl⟩⟩
                have gg : (cap = 10 ∧ cc = 1 ∧ ss = 10) ∨ (cap = 15 ∧ cc = 2 ∧ ss = 25) := by unfold jwg at g1; omega
                obtain ⟨qm, hM⟩ := hk1.2.2.1
                refine sg_cV1 (pc := 72) (d' := d - 1) (mc' := 1) (ms' := (xs7.length + xs7.length / 2)) g dX7_wordsOf_72 cb_Jx4a65c_add_9ea2d ml_X7_49 mn_Jx4a65c_add_9ea2d mv_Jx4a65c_add_9ea2d hb7 (Nat.le_of_ble_eq_true rfl) rfl (Nat.le_of_ble_eq_true rfl) (by omega) (by unfold jwg at g1; omega) (by unfold jwg at g1; omega) ?_
                refine s_al_addN g (by first | exact jl_d1 hd rfl | omega) hM hb7 hE8 (by omega) (by omega) hel (by omega) hx7 nxb md_asI rfl (fun m1 f f1 f2 f3 => ?_)
                refine sg_K1 ?_
                have zl9 : (sg_cp xs7 (List.replicate (xs7.length + xs7.length / 2) sg_n) 0 0 (min xs7.length (xs7.length + xs7.length / 2))).length = cap + cap / 2 := by rw [sg_cp_len, List.length_replicate, hcl]
                refine sg_pop (pc := 75) dX7_wordsOf_75 rfl ?_
                exact rest76 _ (cap + cap / 2) _ _ (cc + 1) (ss + (cap + cap / 2)) (sz + 1) (jw_add b07 E07 (Nat.le_succ _) b17 hb7 f1 f2 (by have := E07.1; omega) zl9 s07 (by omega) (fun j hj => by rw [sg_cp_at (by rw [List.length_replicate]; omega), if_pos (by omega), List.getD_eq_getElem?_getD, Nat.sub_zero, Nat.zero_add, List.getElem?_eq_getElem (by omega)]; rfl) hj7 x0 t71.2.2 (fun a z => Nat.ne_of_lt z.1) f3) (by omega) (by unfold jwg at *; omega) (by omega) (by omega) cn3 (by have := b2 first; omega) (jwl L p ++ [((p : Int), 0)]) (jw_Ladd (v := ((p : Int), 0)) Lc (md_TE t71) hbA (fun _ => hWA _ hE8) f1 f2 (by rw [zl9]; omega) (fun j hj => by rw [sg_cp_at (by rw [List.length_replicate]; omega), if_pos (by omega), List.getD_eq_getElem?_getD, Nat.sub_zero, Nat.zero_add, List.getElem?_eq_getElem (by omega)]; rfl) f3 hxA nxb (by omega) (by omega) (fun q y hq _ => by omega)) (by rw [List.length_append]; exact Nat.succ_pos _) (jw_ba.trans ((if_neg wn).trans (if_pos fL)).symm) (by rw [jw_bg]; show (0 : Int) ≤ 0 ∧ (0 : Int) ≤ 40; decide)
          refine sg_iload_n (pc := 39) (j := 3) dX7_wordsOf_39 rfl rfl ?_
          refine sg_if_eq (pc := 40) (tgt := 60) dX7_wordsOf_40 (by decide) (fun c40 => ?_) (fun c40 => ?_)
          · refine sg_lsub (lv' := [(3, _), (0, _), (1, _), (2, _)]) ⟨rfl, rfl, rfl, rfl, trivial⟩ ?_
            exact rest60 (by omega)
          · refine sg_aload_n (pc := 43) (j := 0) dX7_wordsOf_43 rfl rfl ?_
            refine md_grw (pc := 44) g dX7_wordsOf_44 fk_X7_9 (by assumption) (fun r44 => ?_)
            refine sg_iload_n (pc := 47) (j := 1) dX7_wordsOf_47 rfl rfl ?_
            first | refine md_alr (pc := 48) dX7_wordsOf_48 (by assumption) (by omega) (by omega) (fun A48 l48 => ?_) | refine md_alt (pc := 48) dX7_wordsOf_48 (by assumption) (by omega) (by omega) (fun A48 l48 => ?_)
            refine sg_iload_n (pc := 49) (j := 3) dX7_wordsOf_49 rfl rfl ?_
            refine sg_iconst (pc := 50) (z := 1) dX7_wordsOf_50 (by decide) ?_
            first | refine sg_isubB (pc := 51) dX7_wordsOf_51 (by omega) (by omega) ?_ | refine sg_isub (pc := 51) dX7_wordsOf_51 ?_
            refine md_alv (pc := 52) dX7_wordsOf_52 (by assumption) (by omega) (by omega) (fun g52 => ?_)
            rw [ve]
            refine sg_iconst (pc := 53) (z := 2) dX7_wordsOf_53 (by decide) ?_
            refine sg_cS2 (pc := 54) (d' := d - 1) (mc' := 0) (ms' := 0) g dX7_wordsOf_54 cb_X7_isKind ml_X7_26 ms_X7_isKind (Nat.le_of_ble_eq_true rfl) (by first | exact jl_d0 hd rfl | omega) (by first | exact Nat.le_of_ble_eq_true rfl | omega) (by first | exact Nat.le_of_ble_eq_true rfl | omega) ?_
            refine s_X7_isKind g (by first | exact jl_d1 hd rfl | omega) (by assumption) (by omega) (by omega) (fun z54 e54 b54 => sg_K1 ?_)
            refine sg_if_ne (pc := 57) (tgt := 76) dX7_wordsOf_57 (by decide) (fun c57 => ?_) (fun c57 => ?_)
            · have wn : ¬ fn_isOf (L.getD p 0) 2 = 0 := by rw [← vp]; omega
              have nf : ¬ (p = 0 ∨ fn_isOf (L.getD (p - 1) 0) 2 = 0) := by rw [← vq]; omega
              obtain ⟨u, u0, u1, -⟩ := (jwl_i (L := L) p).2.1 (by omega) (fun q => nf (Or.inr q))
              have ub := (jwl_i (L := L) p).2.2 _ _ u1
              have ug : (jwl L p).getD ((jwl L p).length - 1) (0, 0) = u := by rw [List.getD_eq_getElem?_getD, u1]; rfl
              refine sg_lsub (lv' := [(3, _), (0, _), (1, _), (2, _)]) ⟨rfl, rfl, rfl, rfl, trivial⟩ ?_
              exact rest76 h1 cap k1 n1 cc ss sz P1 (b3 (by omega) (by omega)) g1 kb nb (by rw [jwc, if_neg (by rintro ⟨q1, q2 | q2⟩ <;> omega)]; omega) (by omega) (jwl L p) Lc u0 ((if_neg wn).trans (if_neg nf)).symm (by rw [ug]; obtain ⟨q1, q2, q3, -⟩ := ub; omega)
            · refine sg_lsub (lv' := [(3, _), (0, _), (1, _), (2, _)]) ⟨rfl, rfl, rfl, rfl, trivial⟩ ?_
              exact rest60 (by omega)
        · refine sg_goto (pc := 36) (tgt := 95) dX7_wordsOf_36 (by decide) ?_
          first | refine sg_iincB (pc := 95) dX7_wordsOf_95 rfl (by decide) (by decide) (by omega) (by omega) ?_ | refine sg_iinc (pc := 95) dX7_wordsOf_95 rfl (by decide) (by decide) ?_
          refine sg_goto (pc := 98) (tgt := 10) dX7_wordsOf_98 (by decide) ?_
          have wp : fn_isOf ((md_v h (md_a h (md_r h M) row)) (p : Int)) 2 ≠ 1 := by omega
          refine sg_lsub (lv' := [(3, _), (0, _), (1, _), (2, _)]) ⟨rfl, rfl, rfl, rfl, trivial⟩ ?_
          exact ih _ (p + 1) cap k1 n1 cc ss sz P1 g1 kb nb (by rw [jwc, if_neg (fun q => wp q.1)]; omega) (by omega) (by omega) (fun _ => by omega) (fun _ q => absurd (by rw [show ((p + 1 : Nat) : Int) - 1 = (p : Int) by omega] at q; exact q) wp) (by rw [show jwl L (p + 1) = jwl L p from if_pos (by rw [vp] at wp; omega)]; exact Lc) (by omega)
  obtain ⟨D, hZ, hD1, hD⟩ := hx.2.1.2.2.2.1
  refine sg_new (pc := 0) g dX7_wordsOf_0 nk_X7_15 (by first | exact Nat.le_of_ble_eq_true rfl | omega) (by first | exact Nat.le_of_ble_eq_true rfl | omega) ?_
  try dsimp only
  refine sg_dup (pc := 3) dX7_wordsOf_3 rfl ?_
  refine sg_cI0 (pc := 4) (d' := d - 1) (mc' := 0) (ms' := 0) g dX7_wordsOf_4 cb_Jx4a65c_init_da8c8 rfl rfl ml_X7_17 mn_Jx4a65c_init_da8c8 (Nat.le_of_ble_eq_true rfl) (by first | exact jl_d0 hd rfl | omega) (by first | exact Nat.le_of_ble_eq_true rfl | omega) (by first | exact Nat.le_of_ble_eq_true rfl | omega) ?_
  refine s_al_init g (by first | exact jl_d1 hd rfl | omega) hZ (by with_reducible exact sg_up_s) (fun f f1 f2 => ?_)
  refine sg_K0 ?_
  refine sg_astore_n (pc := 7) (j := 2) dX7_wordsOf_7 rfl (by decide) ?_
  refine sg_iconst (pc := 8) (z := 0) dX7_wordsOf_8 (by decide) ?_
  refine sg_istore_n (pc := 9) (j := 3) dX7_wordsOf_9 rfl (by decide) ?_
  have P0 : jw_P w h (h.1 + 1, f) h.1 0 0 := ⟨Nat.le_refl _, ⟨Nat.le_succ _, fun q hq => (f2 q (Nat.ne_of_lt hq)).trans (sg_up_n (Nat.ne_of_lt hq))⟩, Nat.lt_succ_self _, 0, D, [], f1, Or.inl ⟨rfl, rfl, (f2 D (Nat.ne_of_lt hD1)).trans ((sg_up_n (Nat.ne_of_lt hD1)).trans hD), hZ⟩, by decide, by decide, fun j hj => absurd hj (by omega)⟩
  refine sg_lsub (lv' := [(3, sg_i ((0 : Nat) : Int)), (0, sg_r M), (1, sg_i row), (2, sg_r h.1)]) ⟨rfl, rfl, rfl, rfl, trivial⟩ ?_
  exact loop10 _ _ 0 0 _ _ 0 0 0 P0 (Or.inl ⟨rfl, rfl, rfl⟩) (by decide) (by decide) rfl (Nat.zero_le _) (by decide) (fun _ => by decide) (fun q => absurd q (by decide)) (jw_L0 f1) (Nat.lt_succ_self _)

theorem jw_at {L : List Int} {k : Int} (k0 : 0 ≤ k) (k1 : k < ((jwl L L.length).length : Int)) : 0 ≤ fs_wat L k ∧ 1 ≤ fs_end L (fs_wat L k) - fs_wat L k ∧ fs_end L (fs_wat L k) ≤ (L.length : Int) ∧ (jwl L L.length).getD k.toNat (0, 0) = (fs_wat L k, fs_end L (fs_wat L k) - fs_wat L k) := by
  obtain ⟨v, g⟩ : ∃ v, (jwl L L.length)[k.toNat]? = some v := ⟨_, List.getElem?_eq_getElem (by omega)⟩
  obtain ⟨a1, a2, a3, -⟩ := (jwl_i (L := L) L.length).2.2 _ _ g
  obtain ⟨r1, r2⟩ := jwl_r g
  rw [show ((k.toNat : Nat) : Int) = k by omega] at r1 r2
  rw [List.getD_eq_getElem?_getD, g]
  refine ⟨by omega, by omega, by omega, ?_⟩
  exact Prod.ext r1 r2

set_option maxRecDepth 100000 in
theorem f_X7_word {w : sg_W} {Q : sg_O → sg_H → Prop} {h : sg_H} (g : sg_G w) {d : Nat} (hd : 11 ≤ d) {M : Nat} {row k isl : Int} {A : fa_A} {L : List Int} (hA : md_ab h M = A) (hL : fa_L A row.toNat = L) (hx : md_M w h M) (hQ : ∀ (v : Int) (h' : sg_H), ((row < 0 ∨ 4 ≤ row ∨ fs_wat L k = -1) → md_t h' M = 1) → (¬ (row < 0 ∨ 4 ≤ row ∨ fs_wat L k = -1) → md_t h' M = 0) → (md_t h' M = 0 → v = (if isl = 0 then fs_wat L k else fs_end L (fs_wat L k) - fs_wat L k)) → md_Y w h h' M → Q (.inl (some (sg_i v))) h') : sg_C w mi_X7_word d 48 180 [sg_r M, sg_i row, sg_i k, sg_i isl] h Q := by
  refine sg_of pn_X7 (Nat.le_of_ble_eq_true rfl) ?_
  have y0 := md_Y0 hx
  have hk := hx.2.1
  have n40 : (0 ≤ row ∧ row < 4) → L.length ≤ 40 := fun q => by
    have xr := md_rX hx (i := row) (by omega) (by omega)
    rw [hA, hL] at xr
    have e := md_ne (md_XA xr)
    have := md_n40 hx (i := row) (by omega) (by omega)
    omega
  refine sg_aload_n (pc := 0) (j := 0) dX7_word_0 rfl rfl ?_
  refine sg_iload_n (pc := 1) (j := 1) dX7_word_1 rfl rfl ?_
  refine sg_cS1 (pc := 2) (d' := d - 1) (mc' := 0) (ms' := 0) g dX7_word_2 cb_X7_isNoRow ml_X7_68 ms_X7_isNoRow (Nat.le_of_ble_eq_true rfl) (by first | exact jl_d0 hd rfl | omega) (by first | exact Nat.le_of_ble_eq_true rfl | omega) (by first | exact Nat.le_of_ble_eq_true rfl | omega) ?_
  refine s_X7_isNoRow g (by first | exact jl_d1 hd rfl | omega) (fun z2 h2 b2 => sg_K1 ?_)
  (try simp only [fm_no, fm_one, fn_betw, fn_sign, fn_radix, fn_high, fn_low] at h2)
  refine sg_if_ne (pc := 5) (tgt := 26) dX7_word_5 (by decide) (fun c5 => ?_) (fun c5 => ?_)
  · refine sg_iconst (pc := 26) (z := 1) dX7_word_26 (by decide) ?_
    refine sg_goto (pc := 27) (tgt := 31) dX7_word_27 (by decide) ?_
    refine sg_iconst (pc := 31) (z := 1) dX7_word_31 (by decide) ?_
    refine sg_cE2 (pc := 32) (d' := d - 1) (mc' := 0) (ms' := 0) 8 g dX7_word_32 cb_X7_start ml_X7_71 mn_X7_start rfl mv_X7_start (Nat.le_of_ble_eq_true rfl) (md_oc (by assumption)) (Nat.le_of_ble_eq_true rfl) (by first | exact jl_d0 hd rfl | omega) (by first | exact Nat.le_of_ble_eq_true rfl | omega) (by first | exact Nat.le_of_ble_eq_true rfl | omega) ?_
    refine s_X7_start g (by first | exact jl_d1 hd rfl | omega) (by omega) (by assumption) (fun v32 h32 b32 i32 t32 s32 u32 y32 => sg_K1 ?_)
    have x32 := y32.1
    have hk32 := x32.2.1
    have y32 := md_Yt (h0 := h) (by assumption) y32
    refine sg_if_eq (pc := 35) (tgt := 42) dX7_word_35 (by decide) (fun c35 => absurd c35 (by omega)) (fun c35 => ?_)
    refine sg_iconst (pc := 38) (z := 0) dX7_word_38 (by decide) ?_
    refine sg_goto (pc := 39) (tgt := 64) dX7_word_39 (by decide) ?_
    refine sg_iret (pc := 64) dX7_word_64 rfl (by first | exact Nat.le_of_ble_eq_true rfl | omega) (by first | exact Nat.le_of_ble_eq_true rfl | omega) ?_
    first
      | exact hQ _ _ (by omega) (by omega) (fun q => absurd q (by omega)) (by assumption)
      | exact hQ _ _ (by omega) (by omega) (fun _ => (by first | rw [if_pos (by omega)] | rw [if_neg (by omega)])) (by assumption)
  · refine sg_iload_n (pc := 8) (j := 2) dX7_word_8 rfl rfl ?_
    refine sg_iconst (pc := 9) (z := 0) dX7_word_9 (by decide) ?_
    refine sg_aload_n (pc := 10) (j := 0) dX7_word_10 rfl rfl ?_
    refine sg_iload_n (pc := 11) (j := 1) dX7_word_11 rfl rfl ?_
    refine sg_cE1 (pc := 12) (d' := d - 1) (mc' := 24) (ms' := 90) 8 g dX7_word_12 cb_X7_wordsOf ml_X7_215 mn_X7_wordsOf rfl mv_X7_wordsOf (Nat.le_of_ble_eq_true rfl) (md_oc (by assumption)) (Nat.le_of_ble_eq_true rfl) (by first | exact jl_d0 hd rfl | omega) (by first | exact Nat.le_of_ble_eq_true rfl | omega) (by first | exact Nat.le_of_ble_eq_true rfl | omega) ?_
    refine f_X7_wordsOf g (by first | exact jl_d1 hd rfl | omega) (by omega) (md_Ya (h0 := h) (by assumption) hA) hL (by assumption) (fun h12 b12 cap12 sz12 P12 J12 w12 l12 => sg_K1 ?_)
    have x12 : md_M w h12 M := md_ME (by assumption) P12.2.1
    have hk12 := x12.2.1
    have th12 := md_tE (w := w) (M := M) (by assumption) P12.2.1
    have y12 : md_Y w h h12 M := md_YE (by assumption) P12.2.1
    obtain ⟨-, -, -, m12, E12, xs12, hb12, hE12, s12, sc12, hj12⟩ := id P12
    have s9 := (J12.choose_spec.2 _ _ _ hb12).1
    have wo : (k < 0 ∨ sz12 ≤ k) → fs_wat L k = -1 := fun q => jwl_o (by omega)
    have wi : (0 ≤ k ∧ k < sz12) → 0 ≤ fs_wat L k := fun q => (jw_at (L := L) (k := k) (by omega) (by omega)).1
    refine sg_cV0 (pc := 15) (d' := d - 1) (mc' := 0) (ms' := 0) g dX7_word_15 cb_Jx4a65c_size_8abf5 ml_X7_53 mn_Jx4a65c_size_8abf5 mv_Jx4a65c_size_8abf5 hb12 (Nat.le_of_ble_eq_true rfl) rfl (Nat.le_of_ble_eq_true rfl) (by first | exact jl_d0 hd rfl | omega) (by first | exact Nat.le_of_ble_eq_true rfl | omega) (by first | exact Nat.le_of_ble_eq_true rfl | omega) ?_
    refine s_al_size g (by first | exact jl_d1 hd rfl | omega) hb12 ?_
    refine sg_K1 ?_
    refine sg_iconst (pc := 18) (z := 1) dX7_word_18 (by decide) ?_
    first | refine sg_isubB (pc := 19) dX7_word_19 (by omega) (by omega) ?_ | refine sg_isub (pc := 19) dX7_word_19 ?_
    refine sg_cS3 (pc := 20) (d' := d - 1) (mc' := 0) (ms' := 0) g dX7_word_20 cb_X7_isOf ml_X7_22 ms_X7_isOf (Nat.le_of_ble_eq_true rfl) (by first | exact jl_d0 hd rfl | omega) (by first | exact Nat.le_of_ble_eq_true rfl | omega) (by first | exact Nat.le_of_ble_eq_true rfl | omega) ?_
    refine s_X7_isOf g (by first | exact jl_d1 hd rfl | omega) (fun z20 h20 b20 => sg_K1 ?_)
    (try simp only [fm_no, fm_one, fn_betw, fn_sign, fn_radix, fn_high, fn_low] at h20)
    refine sg_if_ne (pc := 23) (tgt := 30) dX7_word_23 (by decide) (fun c23 => ?_) (fun c23 => ?_)
    · refine sg_iconst (pc := 30) (z := 0) dX7_word_30 (by decide) ?_
      refine sg_iconst (pc := 31) (z := 1) dX7_word_31 (by decide) ?_
      refine sg_cE2 (pc := 32) (d' := d - 1) (mc' := 0) (ms' := 0) 8 g dX7_word_32 cb_X7_start ml_X7_71 mn_X7_start rfl mv_X7_start (Nat.le_of_ble_eq_true rfl) (md_oc (by assumption)) (Nat.le_of_ble_eq_true rfl) (by first | exact jl_d0 hd rfl | omega) (by first | exact Nat.le_of_ble_eq_true rfl | omega) (by first | exact Nat.le_of_ble_eq_true rfl | omega) ?_
      refine s_X7_start g (by first | exact jl_d1 hd rfl | omega) (by omega) (by assumption) (fun v32 h32 b32 i32 t32 s32 u32 y32 => sg_K1 ?_)
      have x32 := y32.1
      have hk32 := x32.2.1
      have y32 := md_Yt (h0 := h) (by assumption) y32
      refine sg_if_eq (pc := 35) (tgt := 42) dX7_word_35 (by decide) (fun c35 => ?_) (fun c35 => absurd c35 (by omega))
      refine sg_aload_n (pc := 42) (j := 0) dX7_word_42 rfl rfl ?_
      refine sg_iload_n (pc := 43) (j := 1) dX7_word_43 rfl rfl ?_
      refine sg_cE1 (pc := 44) (d' := d - 1) (mc' := 24) (ms' := 90) 8 g dX7_word_44 cb_X7_wordsOf ml_X7_215 mn_X7_wordsOf rfl mv_X7_wordsOf (Nat.le_of_ble_eq_true rfl) (md_oc (by assumption)) (Nat.le_of_ble_eq_true rfl) (by first | exact jl_d0 hd rfl | omega) (by first | exact Nat.le_of_ble_eq_true rfl | omega) (by first | exact Nat.le_of_ble_eq_true rfl | omega) ?_
      refine f_X7_wordsOf g (by first | exact jl_d1 hd rfl | omega) (by omega) (md_Ya (h0 := h) (by assumption) hA) hL (by assumption) (fun h44 b44 cap44 sz44 P44 J44 w44 l44 => sg_K1 ?_)
      have x44 : md_M w h44 M := md_ME (by assumption) P44.2.1
      have hk44 := x44.2.1
      have th44 := md_tE (w := w) (M := M) (by assumption) P44.2.1
      have y44 : md_Y w h h44 M := md_YE (by assumption) P44.2.1
      obtain ⟨-, -, -, m44, E44, xs44, hb44, hE44, s44, sc44, hj44⟩ := id P44
      have s8 := (J44.choose_spec.2 _ _ _ hb44).1
      obtain ⟨a9, ea, a90, -⟩ := hj44 k.toNat (by omega)
      have hE9 : h44.2 E44 = some (113, xs44) := by
        rcases hE44 with ⟨r1, r2, -⟩ | ⟨-, -, r3, -⟩
        · rw [r2] at ea; cases ea
        · exact r3
      obtain ⟨r9, qa, qb, -⟩ : ∃ a, xs44[k.toNat]? = some (sg_r a) ∧ h44.2 a = some (100, [sg_i ((jwl L L.length).getD k.toNat (0, 0)).1, sg_i ((jwl L L.length).getD k.toNat (0, 0)).2]) ∧ a < h44.1 := ⟨_, (J44.choose_spec.2 _ _ _ hb44).2 xs44 hE9 k.toNat (by omega)⟩
      obtain ⟨j1, j2, j3, j4⟩ := jw_at (L := L) (k := k) (by omega) (by omega)
      have n9 := n40 (by omega)
      have qb : h44.2 r9 = some (100, [sg_i (fs_wat L k), sg_i (fs_end L (fs_wat L k) - fs_wat L k)]) := by rw [j4] at qb; exact qb
      refine sg_iload_n (pc := 47) (j := 2) dX7_word_47 rfl rfl ?_
      refine sg_cV1 (pc := 48) (d' := d - 1) (mc' := 0) (ms' := 0) g dX7_word_48 cb_Jx4a65c_get_915e3 ml_X7_212 mn_Jx4a65c_get_915e3 mv_Jx4a65c_get_915e3 hb44 (Nat.le_of_ble_eq_true rfl) rfl (Nat.le_of_ble_eq_true rfl) (by first | exact jl_d0 hd rfl | omega) (by first | exact Nat.le_of_ble_eq_true rfl | omega) (by first | exact Nat.le_of_ble_eq_true rfl | omega) ?_
      refine s_al_get g (by first | exact jl_d1 hd rfl | omega) hb44 hE9 (i := k) (by omega) (by omega) qa ?_
      refine sg_K1 ?_
      refine sg_castA (pc := 51) g dX7_word_51 cl_X7_7 qb (by decide) (by decide +kernel) ?_
      refine sg_iload_n (pc := 54) (j := 3) dX7_word_54 rfl rfl ?_
      refine sg_if_eq (pc := 55) (tgt := 62) dX7_word_55 (by decide) (fun c55 => ?_) (fun c55 => ?_)
      · refine sg_iconst (pc := 62) (z := 0) dX7_word_62 (by decide) ?_
        refine sg_iald (pc := 63) dX7_word_63 qb (by decide) (by decide) (v := sg_i (fs_wat L k)) rfl ?_
        refine sg_iret (pc := 64) dX7_word_64 rfl (by first | exact Nat.le_of_ble_eq_true rfl | omega) (by first | exact Nat.le_of_ble_eq_true rfl | omega) ?_
        first
          | exact hQ _ _ (by omega) (by omega) (fun q => absurd q (by omega)) (by assumption)
          | exact hQ _ _ (by omega) (by omega) (fun _ => (by first | rw [if_pos (by omega)] | rw [if_neg (by omega)])) (by assumption)
      · refine sg_iconst (pc := 58) (z := 1) dX7_word_58 (by decide) ?_
        refine sg_goto (pc := 59) (tgt := 63) dX7_word_59 (by decide) ?_
        refine sg_iald (pc := 63) dX7_word_63 qb (by decide) (by decide) (v := sg_i (fs_end L (fs_wat L k) - fs_wat L k)) rfl ?_
        refine sg_iret (pc := 64) dX7_word_64 rfl (by first | exact Nat.le_of_ble_eq_true rfl | omega) (by first | exact Nat.le_of_ble_eq_true rfl | omega) ?_
        first
          | exact hQ _ _ (by omega) (by omega) (fun q => absurd q (by omega)) (by assumption)
          | exact hQ _ _ (by omega) (by omega) (fun _ => (by first | rw [if_pos (by omega)] | rw [if_neg (by omega)])) (by assumption)
    · refine sg_iconst (pc := 26) (z := 1) dX7_word_26 (by decide) ?_
      refine sg_goto (pc := 27) (tgt := 31) dX7_word_27 (by decide) ?_
      refine sg_iconst (pc := 31) (z := 1) dX7_word_31 (by decide) ?_
      refine sg_cE2 (pc := 32) (d' := d - 1) (mc' := 0) (ms' := 0) 8 g dX7_word_32 cb_X7_start ml_X7_71 mn_X7_start rfl mv_X7_start (Nat.le_of_ble_eq_true rfl) (md_oc (by assumption)) (Nat.le_of_ble_eq_true rfl) (by first | exact jl_d0 hd rfl | omega) (by first | exact Nat.le_of_ble_eq_true rfl | omega) (by first | exact Nat.le_of_ble_eq_true rfl | omega) ?_
      refine s_X7_start g (by first | exact jl_d1 hd rfl | omega) (by omega) (by assumption) (fun v32 h32 b32 i32 t32 s32 u32 y32 => sg_K1 ?_)
      have x32 := y32.1
      have hk32 := x32.2.1
      have y32 := md_Yt (h0 := h) (by assumption) y32
      refine sg_if_eq (pc := 35) (tgt := 42) dX7_word_35 (by decide) (fun c35 => absurd c35 (by omega)) (fun c35 => ?_)
      refine sg_iconst (pc := 38) (z := 0) dX7_word_38 (by decide) ?_
      refine sg_goto (pc := 39) (tgt := 64) dX7_word_39 (by decide) ?_
      refine sg_iret (pc := 64) dX7_word_64 rfl (by first | exact Nat.le_of_ble_eq_true rfl | omega) (by first | exact Nat.le_of_ble_eq_true rfl | omega) ?_
      first
        | exact hQ _ _ (by omega) (by omega) (fun q => absurd q (by omega)) (by assumption)
        | exact hQ _ _ (by omega) (by omega) (fun _ => (by first | rw [if_pos (by omega)] | rw [if_neg (by omega)])) (by assumption)

