noncomputable def fs_last (L : List Int) (kind : Int) : Int := fs_the (fs_lR L kind)
/-- a row told as a number -/
def fs_tf (L : List Int) (r : Int) : Nat → Int
  | 0 => 0
  | n + 1 => (fs_tf L r n * r + fn_num (L.getD n 0) r) % 1000003
theorem fs_tfs {L : List Int} {r p : Int} (p0 : 0 ≤ p) : fs_tf L r (p + 1).toNat = (fs_tf L r p.toNat * r + fn_num (L.getD p.toNat 0) r) % 1000003 := by
  rw [show (p + 1).toNat = p.toNat + 1 by omega]
  rfl
theorem fs_tfb {L : List Int} {r : Int} : ∀ n : Nat, 0 ≤ fs_tf L r n ∧ fs_tf L r n < 1000003
  | 0 => ⟨Int.le_refl _, show (0 : Int) < 1000003 by decide⟩
  | n + 1 => by
    show 0 ≤ (_ : Int) % 1000003 ∧ (_ : Int) % 1000003 < 1000003
    omega
def fs_tR (L : List Int) (r v : Int) : Prop := (v = -9 ∧ (L.length = 0 ∨ ∃ j : Nat, j < L.length ∧ fn_num (L.getD j 0) r = -1)) ∨ (v = fs_tf L r L.length ∧ L.length ≠ 0 ∧ ∀ j : Nat, j < L.length → fn_num (L.getD j 0) r ≠ -1)
theorem fs_tU {L : List Int} {r : Int} (a b : Int) (x : fs_tR L r a) (y : fs_tR L r b) : a = b := by
  rcases x with ⟨x1, x2⟩ | ⟨x1, x2, x3⟩ <;> rcases y with ⟨y1, y2⟩ | ⟨y1, y2, y3⟩
  · omega
  · rcases x2 with q | ⟨j, q1, q2⟩
    · exact absurd q y2
    · exact absurd q2 (y3 j q1)
  · rcases y2 with q | ⟨j, q1, q2⟩
    · exact absurd q x2
    · exact absurd q2 (x3 j q1)
  · omega
