def fs_dg (x r : Int) (k : Nat) : Int := fn_digit (x / r ^ k % r) r
noncomputable def fs_digs (x r : Int) : List Int := @dite _ (∃ m, fs_dn x r m) (Classical.propDecidable _) (fun h => tt_b h.choose (fun j => fs_dg x r (h.choose - 1 - j))) (fun _ => [])
theorem fs_digsE {x r : Int} {m : Nat} (a : fs_dn x r m) : fs_digs x r = tt_b m (fun j => fs_dg x r (m - 1 - j)) := by
  have hh : ∃ m, fs_dn x r m := ⟨m, a⟩
  unfold fs_digs
  rw [dif_pos hh, fs_du hh.choose_spec a]
theorem fs_dv {x r : Int} {k : Nat} (x0 : 0 ≤ x) (r0 : 0 < r) : x / r ^ k / r = x / r ^ (k + 1) := by
  rw [Int.pow_succ, Int.ediv_ediv_of_nonneg (Int.le_of_lt (Int.pow_pos r0))]
theorem fs_dp {x r : Int} {k : Nat} (x0 : 0 ≤ x) (r0 : 0 < r) : 0 ≤ x / r ^ k ∧ x / r ^ k ≤ x := by
  have h1 : 0 < r ^ k := Int.pow_pos r0
  exact ⟨Int.ediv_nonneg x0 (Int.le_of_lt h1), Int.ediv_le_self _ x0⟩
theorem fs_pw {r : Int} (h : 2 ≤ r) : ∀ k : Nat, (2 : Int) ^ k ≤ r ^ k ∧ 0 < (2 : Int) ^ k
  | 0 => ⟨by rw [Int.pow_zero, Int.pow_zero]; exact Int.le_refl _, by decide⟩
  | k + 1 => by
    obtain ⟨i1, i2⟩ := fs_pw h k
    rw [Int.pow_succ, Int.pow_succ]
    exact ⟨Int.le_trans (Int.mul_le_mul_of_nonneg_right i1 (by decide)) (Int.mul_le_mul_of_nonneg_left h (by omega)), by omega⟩
theorem fs_d20 {x r : Int} (x0 : 0 ≤ x) (x1 : x ≤ 999999) (r2 : 2 ≤ r) : x / r ^ 20 = 0 := by
  have h := (fs_pw r2 20).1
  have e : (2 : Int) ^ 20 = 1048576 := by decide
  rw [e] at h
  exact Int.ediv_eq_zero_of_lt x0 (by omega)
