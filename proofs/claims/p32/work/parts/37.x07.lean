def fs_oR (L M : List Int) (v : Int) : Prop := (∃ j : Nat, j < L.length ∧ j < M.length ∧ (∀ i : Nat, i < j → L.getD i 0 = M.getD i 0) ∧ L.getD j 0 ≠ M.getD j 0 ∧ v = fs_cmp (L.getD j 0) (M.getD j 0)) ∨ ((∀ i : Nat, i < L.length → i < M.length → L.getD i 0 = M.getD i 0) ∧ v = fs_cmp (L.length : Int) (M.length : Int))
theorem fs_oU {L M : List Int} (a b : Int) (x : fs_oR L M a) (y : fs_oR L M b) : a = b := by
  rcases x with ⟨j, x1, x2, x3, x4, x5⟩ | ⟨x1, x2⟩ <;> rcases y with ⟨i, y1, y2, y3, y4, y5⟩ | ⟨y1, y2⟩
  · rcases Nat.lt_trichotomy j i with c | c | c
    · exact absurd (y3 j c) x4
    · subst c
      rw [x5, y5]
    · exact absurd (x3 i c) y4
  · exact absurd (y1 j x1 x2) x4
  · exact absurd (x1 i y1 y2) y4
  · rw [x2, y2]
noncomputable def fs_ord (L M : List Int) : Int := fs_the (fs_oR L M)
/-- the CODES ahead of a place stand first in the list of CODES -/
theorem fs_cpre {L : List Int} {p : Nat} : ∀ k : Nat, ∃ X, fs_cs L (p + k) = fs_cs L p ++ X
  | 0 => ⟨[], (List.append_nil _).symm⟩
  | k + 1 => by
    obtain ⟨X, hX⟩ := fs_cpre (L := L) (p := p) k
    refine ⟨X ++ (if fs_bg L (p + k) then [fs_cd L (p + k)] else []), ?_⟩
    rw [show p + (k + 1) = (p + k) + 1 by omega, fs_css, hX, List.append_assoc]
