/-! THE LAW'S INVARIANT: the class's cells and the reference's lie apart. cut: without the class's cells; tag: its int arrays told of as another kind, while the reference works. -/
def jk_f (t : Nat) : Bool := t != 500 && (t % 200 != 7 && (t % 200 != 3 && (t % 200 != 4 && (t % 200 != 5 && (t % 200 != 6 && (t % 200 != 111 && t % 200 != 112))))))
def jk_X (h h' : sg_H) : Prop := h.1 ≤ h'.1 ∧ ∀ q e, h.2 q = some e → jk_f e.1 = true → h'.2 q = some e
theorem jk_X0 {h : sg_H} : jk_X h h := ⟨Nat.le_refl _, fun _ _ x _ => x⟩
theorem jk_Xt {h0 h1 h2 : sg_H} (a : jk_X h0 h1) (b : jk_X h1 h2) : jk_X h0 h2 := ⟨Nat.le_trans a.1 b.1, fun q e x y => b.2 q e (a.2 q e x y) y⟩
theorem jk_AX {c : Nat} {h0 h : sg_H} {a n : Nat} (x : md_A c h0 a n) (p : jk_X h0 h) : md_A c h a n := by
  obtain ⟨h1, zs, h2, h3, h4⟩ := x
  exact ⟨Nat.lt_of_lt_of_le h1 p.1, zs, h2, h3, p.2 a _ h4 rfl⟩
theorem md_RX {h0 h : sg_H} {R : Nat} (x : md_R h0 R) (p : jk_X h0 h) : md_R h R := by
  obtain ⟨h1, A, N, h2, h3, h4⟩ := x
  exact ⟨Nat.lt_of_lt_of_le h1 p.1, A, N, p.2 R _ h2 rfl, fun i hi => ⟨jk_AX (h3 i hi).1 p, (h3 i hi).2⟩, fun i hi hj => ⟨jk_AX (h4 i hi hj).1 p, (h4 i hi hj).2⟩⟩
theorem md_kX {h0 h : sg_H} {b : Nat} {zs : List Int} (x : md_k h0 b zs) (p : jk_X h0 h) : md_k h b zs := ⟨Nat.lt_of_lt_of_le x.1 p.1, p.2 b _ x.2 (show jk_f 300 = true by decide)⟩
theorem md_K0X {w : sg_W} {h0 h : sg_H} (x : md_K0 w h0) (p : jk_X h0 h) : md_K0 w h := by
  obtain ⟨K, k0, k1, k2, k3, k4, z, l, hK, h0', h1, h2, h3, h4⟩ := x
  exact ⟨K, k0, k1, k2, k3, k4, z, Nat.lt_of_lt_of_le l p.1, p.2 K _ hK (show jk_f 310 = true by decide), md_kX h0' p, md_kX h1 p, md_kX h2 p, md_kX h3 p, md_kX h4 p⟩
theorem jk_f0 {t : Nat} (h : t % 200 = 0 ∨ t % 200 = 102) : jk_f t = true := by
  unfold jk_f
  simp only [Bool.and_eq_true, bne_iff_ne]
  omega
theorem js_BX {h0 h : sg_H} {v n : Nat} (x : js_B h0 v n) (p : jk_X h0 h) : js_B h v n := by
  obtain ⟨h1, t, zs, h2, h3, h4⟩ := x
  exact ⟨Nat.lt_of_lt_of_le h1 p.1, t, zs, p.2 v _ h2 (jk_f0 (Or.inr h3)), h3, h4⟩
theorem js_SX {h0 h : sg_H} {a n : Nat} (x : js_S h0 a n) (p : jk_X h0 h) : js_S h a n := by
  obtain ⟨h1, t, v, vs, h2, h3, h4⟩ := x
  exact ⟨Nat.lt_of_lt_of_le h1 p.1, t, v, vs, p.2 a _ h2 (jk_f0 (Or.inl h3)), h3, js_BX h4 p⟩
theorem jd_DX {w : sg_W} {h0 h : sg_H} (x : jd_D w h0) (p : jk_X h0 h) : jd_D w h := by
  obtain ⟨h1, h2, ⟨D, h3, h4, h5⟩, h6⟩ := x
  refine ⟨h1, h2, ⟨D, h3, Nat.lt_of_lt_of_le h4 p.1, p.2 D _ h5 (show jk_f 313 = true by decide)⟩, fun q hq => ?_⟩
  obtain ⟨a, g1, g2⟩ := h6 q hq
  exact ⟨a, g1, js_SX g2 p⟩
theorem md_KX {w : sg_W} {h0 h : sg_H} (x : md_K w h0) (p : jk_X h0 h) : md_K w h := ⟨md_K0X x.1 p, jd_DX x.2 p⟩
theorem md_LX {w : sg_W} {h0 h : sg_H} {b : Nat} (x : md_L w h0 b) (p : jk_X h0 h) : md_L w h b := by
  obtain ⟨h1, m, sz, E, t, xs, h2, h3, h4, h5, h6, h7, h8, h9⟩ := x
  refine ⟨Nat.lt_of_lt_of_le h1 p.1, m, sz, E, t, xs, p.2 b _ h2 rfl, Nat.lt_of_lt_of_le h3 p.1, p.2 E _ h4 (by rcases h5 with ⟨r, -⟩ | ⟨r, -⟩ <;> subst r <;> first | exact (show jk_f 113 = true by decide) | exact (show jk_f 313 = true by decide)), h5, h6, h7, h8, fun j hj => ?_⟩
  obtain ⟨R, q, r⟩ := h9 j hj
  exact ⟨R, q, md_RX r p⟩
theorem md_MX {w : sg_W} {h0 h : sg_H} {M : Nat} (x : md_M w h0 M) (p : jk_X h0 h) : md_M w h M := by
  obtain ⟨h1, k, th, kn, R, b, h2, h0', h3, h4⟩ := x
  exact ⟨Nat.lt_of_lt_of_le h1 p.1, md_KX k p, th, kn, R, b, p.2 M _ h2 rfl, h0', md_RX h3 p, md_LX h4 p⟩
theorem md_SX {w : sg_W} {h0 h : sg_H} {M : Nat} (x : md_M w h0 M) (p : jk_X h0 h) {i : Int} (i0 : 0 ≤ i) (i1 : i < 6) : md_n h (md_a h (md_r h M) i) = md_n h0 (md_a h0 (md_r h0 M) i) := by
  obtain ⟨l, q, th, kn, R, b, h2, h0', h3, h4⟩ := x
  obtain ⟨c, L, a, n, p1, p2, p3, p4⟩ := md_any h3 i0 i1
  obtain ⟨h9, A, N, r2, r3, r4⟩ := h3
  have p1' := p.2 R _ r2 rfl
  have eL : L = [sg_r (A 0), sg_r (A 1), sg_r (A 2), sg_r (A 3), sg_r (A 4), sg_r (A 5)] := by rw [r2] at p1; cases p1; rfl
  rw [← eL] at p1'
  rw [md_re h2, md_re (p.2 M _ h2 rfl), md_ae p1 p3, md_ae p1' p3, md_ne p4, md_ne (jk_AX p4 p)]
def jk_cut (B : Nat) (h : sg_H) : sg_H := (h.1, fun q => if B ≤ q ∧ q < B + 110 then none else h.2 q)
def jk_tg (e : sg_E) : sg_E := if e.1 = 100 then (500, e.2) else e
def jk_un (e : sg_E) : sg_E := if e.1 = 500 then (100, e.2) else e
def jk_tag (B : Nat) (h : sg_H) : sg_H := (h.1, fun q => if B ≤ q ∧ q < B + 110 then (h.2 q).map jk_tg else h.2 q)
def jk_unt (B : Nat) (h : sg_H) : sg_H := (h.1, fun q => if B ≤ q ∧ q < B + 110 then (h.2 q).map jk_un else h.2 q)
theorem jk_cutX {B : Nat} {h : sg_H} : jk_X (jk_cut B h) (jk_tag B h) := by
  refine ⟨Nat.le_refl _, fun q e x _ => ?_⟩
  by_cases c : B ≤ q ∧ q < B + 110
  · rw [show (jk_cut B h).2 q = none from if_pos c] at x; cases x
  · rw [show (jk_cut B h).2 q = h.2 q from if_neg c] at x
    exact (if_neg c).trans x
theorem jk_at {w : sg_W} {e e' : sg_E} {cell : Cell} (h : sg_at w e cell) (h1 : e.1 % 200 = e'.1 % 200) (h2 : e.2 = e'.2) (h4 : sg_wk e.1 = false) : sg_at w e' cell := by
  obtain ⟨a1, a2, a3⟩ := h
  refine ⟨sg_vm_of (a1.1 h4), fun k v hk => ?_, ?_⟩
  · rw [← h1]; rw [← h2] at hk; exact a2 k v hk
  · rw [← h1, ← h2]
    split
    · rename_i c; rw [if_pos c] at a3; exact ⟨a3.1, a3.2.elim fun q x => ⟨q, x.1, fun _ => x.2 h4⟩⟩
    · rename_i c; rw [if_neg c] at a3; exact ⟨sg_sz_of (a3.1.1 h4), a3.2.1, fun _ => a3.2.2 h4⟩
theorem jk_tgR {w : sg_W} {B : Nat} {h : sg_H} {H : Heap} (r : sg_rel w h H) : sg_rel w (jk_tag B h) H := by
  obtain ⟨r1, r2, r3, r4⟩ := r
  refine ⟨r1, r2, r3, fun a e ha => ?_⟩
  by_cases c : B ≤ a ∧ a < B + 110
  · rw [show (jk_tag B h).2 a = (h.2 a).map jk_tg from if_pos c] at ha
    obtain ⟨e0, p1, p2⟩ := Option.map_eq_some_iff.mp ha
    obtain ⟨q1, cell, q2, q3⟩ := r4 a e0 p1
    subst p2
    unfold jk_tg
    split
    · rename_i c2
      exact ⟨fun z => absurd (show 500 < 200 from z) (by decide), cell, q2, jk_at q3 (show e0.1 % 200 = 500 % 200 by omega) rfl (by rw [c2]; rfl)⟩
    · exact ⟨q1, cell, q2, q3⟩
  · rw [show (jk_tag B h).2 a = h.2 a from if_neg c] at ha
    exact r4 a e ha
theorem jk_unR {w : sg_W} {B : Nat} {h : sg_H} (hB : sg_b w ≤ B) {H : Heap} (r : sg_rel w h H) : sg_rel w (jk_unt B h) H := by
  obtain ⟨r1, r2, r3, r4⟩ := r
  refine ⟨r1, r2, r3, fun a e ha => ?_⟩
  by_cases c : B ≤ a ∧ a < B + 110
  · rw [show (jk_unt B h).2 a = (h.2 a).map jk_un from if_pos c] at ha
    obtain ⟨e0, p1, p2⟩ := Option.map_eq_some_iff.mp ha
    obtain ⟨q1, cell, q2, q3⟩ := r4 a e0 p1
    subst p2
    unfold jk_un
    split
    · rename_i c2
      exact ⟨fun z => by omega, cell, q2, jk_at q3 (show e0.1 % 200 = 100 % 200 by omega) rfl (by rw [c2]; rfl)⟩
    · exact ⟨q1, cell, q2, q3⟩
  · rw [show (jk_unt B h).2 a = h.2 a from if_neg c] at ha
    exact r4 a e ha
/-- the kinds of the class's cells -/
theorem jk_kd {B i : Nat} {e : sg_E} (h : ck_ok B i e) : e.1 = 3 ∨ e.1 = 4 ∨ e.1 = 5 ∨ e.1 = 6 ∨ e.1 = 100 ∨ e.1 = 111 ∨ e.1 = 112 := by
  unfold ck_ok at h
  split at h
  · obtain ⟨z, rfl⟩ := h; simp
  · obtain ⟨z, -, -, rfl⟩ := h; simp
  · obtain ⟨z, -, -, rfl⟩ := h; simp
  · rw [h]; simp
  · rw [h]; simp
  · rw [h]; simp
  · obtain ⟨z, rfl⟩ := h; simp
  · obtain ⟨z, -, -, rfl⟩ := h; simp
  · exact h.elim
def jk_I (w : sg_W) (B M O S : Nat) (xs : List Int) (h : sg_H) : Prop := sg_b w ≤ B ∧ B + 110 ≤ h.1 ∧ ck_X h B ∧ md_M w (jk_cut B h) M ∧ (O < B ∨ B + 110 ≤ O) ∧ (S < B ∨ B + 110 ≤ S) ∧ O < h.1 ∧ S < h.1 ∧ (∃ (z : Int) (r : sg_V), h.2 O = some (7, [sg_l z, r])) ∧ h.2 S = some (300, xs.map sg_i)
/-- the class worked -/
theorem jk_IY {w : sg_W} {B M O S : Nat} {xs : List Int} {h h' : sg_H} (x : jk_I w B M O S xs h) (y : ck_Y h h' B) : jk_I w B M O S xs h' ∧ jk_X (jk_cut B h) (jk_cut B h') := by
  obtain ⟨i1, i2, i3, i4, i5, i6, i7, i8, ⟨z, r, i9⟩, i10⟩ := x
  obtain ⟨y1, y2, y3⟩ := y
  have hX : jk_X (jk_cut B h) (jk_cut B h') := by
    refine ⟨y2, fun q e he _ => ?_⟩
    by_cases c : B ≤ q ∧ q < B + 110
    · rw [show (jk_cut B h).2 q = none from if_pos c] at he; cases he
    · rw [show (jk_cut B h).2 q = h.2 q from if_neg c] at he
      exact (if_neg c).trans ((y3 q (by omega)).trans he)
  exact ⟨⟨i1, Nat.le_trans i2 y2, y1, md_MX i4 hX, i5, i6, Nat.lt_of_lt_of_le i7 y2, Nat.lt_of_lt_of_le i8 y2, ⟨z, r, (y3 O i5).trans i9⟩, (y3 S i6).trans i10⟩, hX⟩
/-- the class made new things, all old ones stay -/
theorem jk_IE {w : sg_W} {B M O S : Nat} {xs : List Int} {h h' : sg_H} (x : jk_I w B M O S xs h) (hf : ∀ q e, h.2 q = some e → q < h.1) (E : md_E h h') (y : ck_X h' B) : jk_I w B M O S xs h' ∧ jk_X (jk_cut B h) (jk_cut B h') := by
  obtain ⟨i1, i2, i3, i4, i5, i6, i7, i8, ⟨z, r, i9⟩, i10⟩ := x
  have hX : jk_X (jk_cut B h) (jk_cut B h') := by
    refine ⟨E.1, fun q e he _ => ?_⟩
    by_cases c : B ≤ q ∧ q < B + 110
    · rw [show (jk_cut B h).2 q = none from if_pos c] at he; cases he
    · rw [show (jk_cut B h).2 q = h.2 q from if_neg c] at he
      exact (if_neg c).trans ((E.2 q (hf q e he)).trans he)
  exact ⟨⟨i1, Nat.le_trans i2 E.1, y, md_MX i4 hX, i5, i6, Nat.lt_of_lt_of_le i7 E.1, Nat.lt_of_lt_of_le i8 E.1, ⟨z, r, (E.2 O i7).trans i9⟩, (E.2 S i8).trans i10⟩, hX⟩
/-- the wrapper writes the answer down -/
theorem jk_IO {w : sg_W} {B M O S : Nat} {xs : List Int} {h : sg_H} (x : jk_I w B M O S xs h) {z : Int} {r : sg_V} : jk_I w B M O S xs (h.1, sg_up h.2 O (7, [sg_l z, r])) ∧ jk_X (jk_cut B h) (jk_cut B (h.1, sg_up h.2 O (7, [sg_l z, r]))) := by
  obtain ⟨i1, i2, i3, i4, i5, i6, i7, i8, ⟨z0, r0, i9⟩, i10⟩ := x
  have nS : S ≠ O := fun q => by rw [q, i9] at i10; cases i10
  have hX : jk_X (jk_cut B h) (jk_cut B (h.1, sg_up h.2 O (7, [sg_l z, r]))) := by
    refine ⟨Nat.le_refl _, fun q e he hk => ?_⟩
    by_cases c : B ≤ q ∧ q < B + 110
    · rw [show (jk_cut B h).2 q = none from if_pos c] at he; cases he
    · rw [show (jk_cut B h).2 q = h.2 q from if_neg c] at he
      refine (if_neg c).trans ?_
      by_cases c2 : q = O
      · rw [c2, i9] at he
        cases he
        exact absurd (show jk_f 7 = true from hk) (by decide)
      · exact (sg_up_n c2).trans he
  refine ⟨⟨i1, i2, fun i hi => ?_, md_MX i4 hX, i5, i6, i7, i8, ⟨z, r, sg_up_s⟩, (sg_up_n nS).trans i10⟩, hX⟩
  obtain ⟨e, p1, p2⟩ := i3 i hi
  exact ⟨e, (sg_up_n (by omega)).trans p1, p2⟩
theorem jk_tgk {B i : Nat} {e : sg_E} (h : ck_ok B i e) : ((jk_tg e).1 != 8 && ((jk_tg e).1 != 2 && (jk_tg e).1 != 113)) = true ∧ jk_f (jk_tg e).1 = false ∧ jk_un (jk_tg e) = e := by
  obtain ⟨t, vs⟩ := e
  rcases jk_kd h with q | q | q | q | q | q | q <;> (dsimp only at q; subst q; exact ⟨rfl, rfl, rfl⟩)
/-- the reference worked, on the heap with the class's arrays told of otherwise -/
theorem jk_IM {w : sg_W} {B M O S : Nat} {xs : List Int} {h h' : sg_H} (x : jk_I w B M O S xs h) (y : md_W w (jk_tag B h) h' M) : jk_I w B M O S xs (jk_unt B h') := by
  obtain ⟨i1, i2, i3, i4, i5, i6, i7, i8, ⟨z, r, i9⟩, i10⟩ := x
  obtain ⟨y1, y2, y3⟩ := y
  have y2' : h.1 ≤ h'.1 := y2
  have key : ∀ i, i < 110 → ∃ e, ck_ok B i e ∧ h'.2 (B + i) = some (jk_tg e) := fun i hi => by
    obtain ⟨e, p1, p2⟩ := i3 i hi
    refine ⟨e, p2, y3 (B + i) (show B + i < h.1 by omega) _ ?_ (jk_tgk p2).1⟩
    exact (if_pos (⟨by omega, by omega⟩ : B ≤ B + i ∧ B + i < B + 110)).trans (by rw [p1]; rfl)
  have hX : jk_X h' (jk_cut B (jk_unt B h')) := by
    refine ⟨Nat.le_refl _, fun q e he hk => ?_⟩
    by_cases c : B ≤ q ∧ q < B + 110
    · obtain ⟨e0, p1, p2⟩ := key (q - B) (by omega)
      rw [show B + (q - B) = q by omega, he] at p2
      cases p2
      rw [(jk_tgk p1).2.1] at hk
      cases hk
    · exact (if_neg c).trans ((if_neg c).trans he)
  refine ⟨i1, Nat.le_trans i2 y2', fun i hi => ?_, md_MX y1 hX, i5, i6, Nat.lt_of_lt_of_le i7 y2', Nat.lt_of_lt_of_le i8 y2', ⟨z, r, ?_⟩, ?_⟩
  · obtain ⟨e, p1, p2⟩ := key i hi
    refine ⟨e, ?_, p1⟩
    refine (if_pos (⟨by omega, by omega⟩ : B ≤ B + i ∧ B + i < B + 110)).trans ?_
    rw [p2]
    exact congrArg some (jk_tgk p1).2.2
  · exact (if_neg (by omega)).trans (y3 O i7 _ ((if_neg (by omega)).trans i9) rfl)
  · exact (if_neg (by omega)).trans (y3 S i8 _ ((if_neg (by omega)).trans i10) rfl)
/-- the reference's object, on that heap -/
theorem jk_Im {w : sg_W} {B M O S : Nat} {xs : List Int} {h : sg_H} (x : jk_I w B M O S xs h) : md_M w (jk_tag B h) M := md_MX x.2.2.2.1 jk_cutX
/-- what is said of the throws that are told apart -/
def jk_C (w : sg_W) : Prop := va_Nc e_A e_I w.2.1 ∧ va_Nc e_S e_I w.2.1 ∧ va_Nc e_S e_A w.2.1
/-- the answer that the wrapper has written down -/
def jk_o (h : sg_H) (O : Nat) : Int := match h.2 O with
  | some (_, .inr (.inl z) :: _) => z
  | _ => 0
theorem jk_oe {n O t : Nat} {f : Nat → Option sg_E} {z : Int} {vs : List sg_V} : jk_o (n, sg_up f O (t, sg_l z :: vs)) O = z := by
  unfold jk_o
  rw [show ((n, sg_up f O (t, sg_l z :: vs)) : sg_H).2 O = _ from sg_up_s]
theorem jk_ov {P : Int → Prop} {h : sg_H} {O : Nat} {z : Int} (e : jk_o h O = z) (p : P z) : P (jk_o h O) := by
  rw [e]
  exact p
theorem jk_oz {w : sg_W} {B M O S : Nat} {xs : List Int} {h : sg_H} (x : jk_I w B M O S xs h) : ∃ r, h.2 O = some (7, [sg_l (jk_o h O), r]) := by
  obtain ⟨-, -, -, -, -, -, -, -, ⟨z, r, i9⟩, -⟩ := x
  have e : jk_o h O = z := by
    unfold jk_o
    rw [i9]
  exact ⟨r, by rw [e]; exact i9⟩
theorem jk_oM {w : sg_W} {B M O S : Nat} {xs : List Int} {h h' : sg_H} (x : jk_I w B M O S xs h) (y : md_W w (jk_tag B h) h' M) : jk_o (jk_unt B h') O = jk_o h O := by
  obtain ⟨-, -, -, -, i5, -, i7, -, ⟨z, r, i9⟩, -⟩ := x
  obtain ⟨-, -, y3⟩ := y
  have e : (jk_unt B h').2 O = h.2 O := by
    rw [i9]
    exact (if_neg (by omega)).trans (y3 O i7 _ ((if_neg (by omega)).trans i9) rfl)
  unfold jk_o
  rw [e]
theorem jk_th {w : sg_W} {B M O S : Nat} {xs : List Int} {h' : sg_H} (x : jk_I w B M O S xs (jk_unt B h')) : ∃ vs, (jk_unt B h').2 M = some (8, sg_i (md_t h' M) :: vs) := by
  obtain ⟨-, -, -, ⟨-, -, th, kn, R, b, hM, -⟩, -⟩ := x
  have c : ¬ (B ≤ M ∧ M < B + 110) := fun c => by
    rw [show (jk_cut B (jk_unt B h')).2 M = none from if_pos c] at hM
    cases hM
  have e1 : (jk_unt B h').2 M = _ := (show (jk_cut B (jk_unt B h')).2 M = (jk_unt B h').2 M from if_neg c).symm.trans hM
  have e2 : h'.2 M = _ := (show (jk_unt B h').2 M = h'.2 M from if_neg c).symm.trans e1
  have e3 : md_t h' M = th := md_te e2
  exact ⟨_, by rw [e3]; exact e1⟩

