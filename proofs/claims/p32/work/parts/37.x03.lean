noncomputable def fs_told (L : List Int) (r : Int) : Int := fs_the (fs_tR L r)
/-- sums -/
def fs_sm (L : List Int) (r : Int) (n : Nat) : Int := fz (fun j => if fn_num (L.getD j 0) r = -1 then 0 else fn_num (L.getD j 0) r) n
theorem fs_sms {L : List Int} {r p : Int} (p0 : 0 ≤ p) : fs_sm L r (p + 1).toNat = fs_sm L r p.toNat + (if fn_num (L.getD p.toNat 0) r = -1 then 0 else fn_num (L.getD p.toNat 0) r) := fz_s p0
theorem fn_nb (x r : Int) : -1 ≤ fn_num x r ∧ fn_num x r ≤ 35 := by
  unfold fn_num fn_plain
  (repeat' split) <;> omega
theorem fs_smb {L : List Int} {r : Int} {n : Nat} : 0 ≤ fs_sm L r n ∧ fs_sm L r n ≤ 35 * (n : Int) := by
  unfold fs_sm
  induction n with
  | zero => exact ⟨Int.le_refl _, Int.le_refl _⟩
  | succ n ih =>
    have hb := fn_nb (L.getD n 0) r
    show 0 ≤ fz _ n + (if _ then 0 else _) ∧ fz _ n + (if _ then 0 else _) ≤ _
    split <;> omega
def fs_vs (L : List Int) (n : Nat) : Int := fz (fun j => if 0 ≤ fn_val (L.getD j 0) then fn_val (L.getD j 0) else 0) n
theorem fs_vss {L : List Int} {p : Int} (p0 : 0 ≤ p) : fs_vs L (p + 1).toNat = fs_vs L p.toNat + (if 0 ≤ fn_val (L.getD p.toNat 0) then fn_val (L.getD p.toNat 0) else 0) := fz_s p0
theorem fn_vb (x : Int) : -2 ≤ fn_val x ∧ fn_val x ≤ 35 := by
  unfold fn_val fn_plain
  (repeat' split) <;> omega
