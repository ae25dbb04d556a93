/-! what the asks answer -/
noncomputable def fs_the (P : Int → Prop) : Int := @dite _ (∃ v, P v) (Classical.propDecidable _) (fun h => h.choose) (fun _ => 0)
theorem fs_theE {P : Int → Prop} (hu : ∀ a b, P a → P b → a = b) {v : Int} (h : P v) : v = fs_the P := by
  have hh : ∃ v, P v := ⟨v, h⟩
  unfold fs_the
  rw [dif_pos hh]
  exact hu _ _ h hh.choose_spec
def fs_cnt (L : List Int) (kind : Int) (n : Nat) : Int := fz (fun j => fn_isOf (L.getD j 0) kind) n
theorem fs_cnts {L : List Int} {kind p : Int} (p0 : 0 ≤ p) : fs_cnt L kind (p + 1).toNat = fs_cnt L kind p.toNat + fn_isOf (L.getD p.toNat 0) kind := fz_s p0
theorem fs_cntb {L : List Int} {kind : Int} {n : Nat} : 0 ≤ fs_cnt L kind n ∧ fs_cnt L kind n ≤ (n : Int) := by
  unfold fs_cnt
  induction n with
  | zero => exact ⟨Int.le_refl _, Int.le_refl _⟩
  | succ n ih =>
    have hb := fk_b (L.getD n 0) kind
    show 0 ≤ fz _ n + fn_isOf (L.getD n 0) kind ∧ fz _ n + fn_isOf (L.getD n 0) kind ≤ _
    omega
/-- the first place from f on -/
def fs_fR (L : List Int) (kind f v : Int) : Prop := (v = -1 ∧ ∀ j : Nat, f ≤ (j : Int) → j < L.length → fn_isOf (L.getD j 0) kind = 0) ∨ (f ≤ v ∧ 0 ≤ v ∧ v < (L.length : Int) ∧ fn_isOf (L.getD v.toNat 0) kind ≠ 0 ∧ ∀ j : Nat, f ≤ (j : Int) → (j : Int) < v → fn_isOf (L.getD j 0) kind = 0)
