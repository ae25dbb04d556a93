/-- the reference worked while the class's arrays were told of otherwise: what holds then -/
theorem jk_Ma {w : sg_W} {B M : Nat} {h h' : sg_H} (i2 : B + 110 ≤ h.1) (i3 : ck_X h B) (y : md_W w (jk_tag B h) h' M) : ck_X (jk_unt B h') B ∧ jk_X h' (jk_cut B (jk_unt B h')) := by
  obtain ⟨y1, y2, y3⟩ := y
  have y2' : h.1 ≤ h'.1 := y2
  have key : ∀ i, i < 110 → ∃ e, ck_ok B i e ∧ h'.2 (B + i) = some (jk_tg e) := fun i hi => by
    obtain ⟨e, p1, p2⟩ := i3 i hi
    refine ⟨e, p2, y3 (B + i) (show B + i < h.1 by omega) _ ?_ (jk_tgk p2).1⟩
    exact (if_pos (⟨by omega, by omega⟩ : B ≤ B + i ∧ B + i < B + 110)).trans (by rw [p1]; rfl)
  refine ⟨fun i hi => ?_, Nat.le_refl _, fun q e he hk => ?_⟩
  · obtain ⟨e, p1, p2⟩ := key i hi
    refine ⟨e, ?_, p1⟩
    refine (if_pos (⟨by omega, by omega⟩ : B ≤ B + i ∧ B + i < B + 110)).trans ?_
    rw [p2]
    exact congrArg some (jk_tgk p1).2.2
  · by_cases c : B ≤ q ∧ q < B + 110
    · obtain ⟨e0, p1, p2⟩ := key (q - B) (by omega)
      rw [show B + (q - B) = q by omega, he] at p2
      cases p2
      rw [(jk_tgk p1).2.1] at hk
      cases hk
    · exact (if_neg c).trans ((if_neg c).trans he)
/-! THE STATE THAT CLASS AND REFERENCE ARE IN -/
/-- the class's cells are the same -/
def jk_F (B : Nat) (h h' : sg_H) : Prop := ∀ q, B ≤ q → q < B + 110 → h'.2 q = h.2 q
theorem jk_F0 {B : Nat} {h : sg_H} : jk_F B h h := fun _ _ _ => rfl
theorem jk_Ft {B : Nat} {h h1 h2 : sg_H} (a : jk_F B h h1) (b : jk_F B h1 h2) : jk_F B h h2 := fun q p1 p2 => (b q p1 p2).trans (a q p1 p2)
theorem cf_XF {h h' : sg_H} {B : Nat} {A : fa_A} (x : cf_X h B A) (f : jk_F B h h') : cf_X h' B A := by
  obtain ⟨x0, ho, hs, hp, hk⟩ := x
  obtain ⟨q1, q2⟩ := cf_hq (h1 := h') ho (fun q p1 p2 => f q (by omega) (by omega))
  refine ⟨fun i hi => ?_, q1, ?_, q2.trans hp, ?_⟩
  · obtain ⟨e, p1, p2⟩ := x0 i hi
    exact ⟨e, (f (B + i) (by omega) (by omega)).trans p1, p2⟩
  · rw [cf_sq (h := h) (fun q p1 p2 => f q (by omega) (by omega))]
    exact hs
  · rw [cf_kq (f B (by omega) (by omega))]
    exact hk
theorem md_abX {w : sg_W} {h0 h : sg_H} {M : Nat} (x : md_M w h0 M) (p : jk_X h0 h) : md_ab h M = md_ab h0 M := by
  obtain ⟨h1, k, th, kn, R, b, h2, h0', h3, h4⟩ := x
  refine md_abG h2 (p.2 M _ h2 rfl) h3 h4 (fun q e hq he hk => p.2 q e he ?_)
  rcases hk with r | r | r | r | r <;> rw [r] <;> decide
def jk_J (w : sg_W) (B M O S : Nat) (xs : List Int) (h : sg_H) (A : fa_A) : Prop := jk_I w B M O S xs h ∧ cf_X h B A ∧ md_ab (jk_cut B h) M = A ∧ fa_ok A
/-- where the reference begins -/
theorem jk_Jt {w : sg_W} {B M O S : Nat} {xs : List Int} {h h1 : sg_H} {A : fa_A} (J : jk_J w B M O S xs h A) (I1 : jk_I w B M O S xs h1) (X : jk_X (jk_cut B h) (jk_cut B h1)) : md_ab (jk_tag B h1) M = A := by
  rw [md_abX I1.2.2.2.1 jk_cutX, md_abX J.1.2.2.2.1 X]
  exact J.2.2.1
theorem jk_Fm {w : sg_W} {B M : Nat} {h h' : sg_H} (i2 : B + 110 ≤ h.1) (i3 : ck_X h B) (y : md_W w (jk_tag B h) h' M) : jk_F B h (jk_unt B h') := by
  intro q p1 p2
  obtain ⟨y1, y2, y3⟩ := y
  obtain ⟨e, e1, e2⟩ := i3 (q - B) (by omega)
  rw [show B + (q - B) = q by omega] at e1
  have hk : h'.2 q = some (jk_tg e) := y3 q (show q < h.1 by omega) _ ((if_pos (⟨p1, p2⟩ : B ≤ q ∧ q < B + 110)).trans (by rw [e1]; rfl)) (jk_tgk e2).1
  rw [e1]
  refine (if_pos (⟨p1, p2⟩ : B ≤ q ∧ q < B + 110)).trans ?_
  rw [hk]
  exact congrArg some (jk_tgk e2).2.2
theorem jk_FM {w : sg_W} {B M O S : Nat} {xs : List Int} {h h' : sg_H} (x : jk_I w B M O S xs h) (y : md_W w (jk_tag B h) h' M) : jk_F B h (jk_unt B h') := jk_Fm x.2.1 x.2.2.1 y
/-- both have worked -/
theorem jk_JM {w : sg_W} {B M O S : Nat} {xs : List Int} {h1 h' : sg_H} {A : fa_A} (I1 : jk_I w B M O S xs h1) (y : md_W w (jk_tag B h1) h' M) (cx : cf_X h1 B A) (ab : md_ab h' M = A) (ok : fa_ok A) : jk_J w B M O S xs (jk_unt B h') A :=
  ⟨jk_IM I1 y, cf_XF cx (jk_FM I1 y), (md_abX y.1 (jk_Ma I1.2.1 I1.2.2.1 y).2).trans ab, ok⟩
/-- the class's object as it is made -/
theorem cf_l0 {h : sg_H} {a t : Nat} {v : sg_V} (e : h.2 a = some (t, [v, sg_i 0])) : cf_l h a = [] := by
  unfold cf_l
  rw [cf_ne e]
  rfl
theorem cf_X0 {h : sg_H} {B : Nat} (x : ck_X h B) (z : ck_zz h.2 B) : cf_X h B ([[], [], [], [], [], []], ([], 0)) := by
  obtain ⟨z1, z2, z3, z4⟩ := z
  have e16 : cf_n h (B + 16) = 0 := cf_ne z3
  have e17 : cf_pa h B = [B + 18, B + 33, B + 48, B + 63, B + 78, B + 93] := cf_pe (t := 112) (A := [B + 18, B + 33, B + 48, B + 63, B + 78, B + 93]) z4
  refine ⟨x, ⟨by rw [e17], by rw [e16]; exact Int.le_refl _, by rw [e16]; decide⟩, ?_, ?_, ?_⟩
  · have c0 : cf_l h (B + 1 + 3) = [] := cf_l0 (z1 0 (by decide))
    have c1 : cf_l h (B + 1 + 5) = [] := cf_l0 (z1 1 (by decide))
    have c2 : cf_l h (B + 1 + 7) = [] := cf_l0 (z1 2 (by decide))
    have c3 : cf_l h (B + 1 + 9) = [] := cf_l0 (z1 3 (by decide))
    have c4 : cf_l h (B + 1 + 11) = [] := cf_l0 (z1 4 (by decide))
    have c5 : cf_l h (B + 1 + 13) = [] := cf_l0 (z1 5 (by decide))
    unfold cf_s
    rw [c0, c1, c2, c3, c4, c5]
  · unfold cf_p
    rw [e16]
    rfl
  · unfold cf_k
    rw [z2]
theorem jk_n {v j : Int} {C : Prop} (k : C → v = j) (hz : v = 0) (hj : j ≠ 0) : ¬ C := fun c => hj ((k c).symm.trans hz)

