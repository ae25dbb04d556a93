noncomputable def fs_wat (L : List Int) (k : Int) : Int := fs_the (fs_wR L k)
/-- where the word that begins at b ends -/
def fs_eR (L : List Int) (b e : Int) : Prop := b ≤ e ∧ e ≤ (L.length : Int) ∧ (∀ j : Nat, b ≤ (j : Int) → (j : Int) < e → fn_isOf (L.getD j 0) 2 ≠ 0) ∧ (e = (L.length : Int) ∨ fn_isOf (L.getD e.toNat 0) 2 = 0)
theorem fs_eU {L : List Int} {k : Int} (k0 : 0 ≤ k) (a b : Int) (x : fs_eR L k a) (y : fs_eR L k b) : a = b := by
  obtain ⟨x1, x2, x3, x4⟩ := x
  obtain ⟨y1, y2, y3, y4⟩ := y
  rcases Int.lt_trichotomy a b with c | c | c
  · rcases x4 with q | q
    · omega
    · exact absurd q (y3 a.toNat (by omega) (by omega))
  · exact c
  · rcases y4 with q | q
    · omega
    · exact absurd q (x3 b.toNat (by omega) (by omega))
noncomputable def fs_end (L : List Int) (b : Int) : Int := fs_the (fs_eR L b)
/-- rows beside each other -/
def fs_al (L M : List Int) : Prop := L.length = M.length ∧ ∀ j : Nat, j < L.length → fn_upper (L.getD j 0) = fn_upper (M.getD j 0)
def fs_cmp (x y : Int) : Int := if x = y then 0 else if x < y then -1 else 1
