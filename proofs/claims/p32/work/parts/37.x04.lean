theorem fs_vsb {L : List Int} {n : Nat} : 0 ≤ fs_vs L n ∧ fs_vs L n ≤ 35 * (n : Int) := by
  unfold fs_vs
  induction n with
  | zero => exact ⟨Int.le_refl _, Int.le_refl _⟩
  | succ n ih =>
    have hb := fn_vb (L.getD n 0)
    show 0 ≤ fz _ n + (if _ then _ else 0) ∧ fz _ n + (if _ then _ else 0) ≤ _
    split <;> omega
/-- words -/
abbrev fs_wb (L : List Int) (j : Nat) : Prop := fn_isOf (L.getD j 0) 2 ≠ 0 ∧ (j = 0 ∨ fn_isOf (L.getD (j - 1) 0) 2 = 0)
def fs_wn (L : List Int) (n : Nat) : Int := fz (fun j => if fs_wb L j then 1 else 0) n
theorem fs_wns {L : List Int} {p : Int} (p0 : 0 ≤ p) : fs_wn L (p + 1).toNat = fs_wn L p.toNat + (if fs_wb L p.toNat then 1 else 0) := fz_s p0
theorem fs_wnb {L : List Int} {n : Nat} : 0 ≤ fs_wn L n ∧ fs_wn L n ≤ (n : Int) := by
  unfold fs_wn
  induction n with
  | zero => exact ⟨Int.le_refl _, Int.le_refl _⟩
  | succ n ih =>
    show 0 ≤ fz _ n + (if _ then 1 else 0) ∧ fz _ n + (if _ then 1 else 0) ≤ _
    split <;> omega
