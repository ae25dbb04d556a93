theorem fs_fU {L : List Int} {kind f : Int} (a b : Int) (x : fs_fR L kind f a) (y : fs_fR L kind f b) : a = b := by
  rcases x with ⟨x1, x2⟩ | ⟨x1, x2, x3, x4, x5⟩ <;> rcases y with ⟨y1, y2⟩ | ⟨y1, y2, y3, y4, y5⟩
  · omega
  · exact absurd (x2 b.toNat (by omega) (by omega)) y4
  · exact absurd (y2 a.toNat (by omega) (by omega)) x4
  · rcases Int.lt_trichotomy a b with c | c | c
    · exact absurd (y5 a.toNat (by omega) (by omega)) x4
    · exact c
    · exact absurd (x5 b.toNat (by omega) (by omega)) y4
noncomputable def fs_first (L : List Int) (kind f : Int) : Int := fs_the (fs_fR L kind f)
/-- the last place -/
def fs_lR (L : List Int) (kind v : Int) : Prop := (v = -1 ∧ ∀ j : Nat, j < L.length → fn_isOf (L.getD j 0) kind = 0) ∨ (0 ≤ v ∧ v < (L.length : Int) ∧ fn_isOf (L.getD v.toNat 0) kind ≠ 0 ∧ ∀ j : Nat, v < (j : Int) → j < L.length → fn_isOf (L.getD j 0) kind = 0)
theorem fs_lU {L : List Int} {kind : Int} (a b : Int) (x : fs_lR L kind a) (y : fs_lR L kind b) : a = b := by
  rcases x with ⟨x1, x2⟩ | ⟨x1, x2, x3, x4⟩ <;> rcases y with ⟨y1, y2⟩ | ⟨y1, y2, y3, y4⟩
  · omega
  · exact absurd (x2 b.toNat (by omega)) y3
  · exact absurd (y2 a.toNat (by omega)) x3
  · rcases Int.lt_trichotomy a b with c | c | c
    · exact absurd (x4 b.toNat (by omega) (by omega)) y3
    · exact c
    · exact absurd (y4 a.toNat (by omega) (by omega)) x3
