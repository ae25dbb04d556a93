theorem jt_div {m : Nat} {x r : Int} (h0 : 0 ≤ x) (h1 : x ≤ jt m) (h2 : 2 ≤ r) : 0 ≤ x / r ∧ x / r ≤ jt (m + 1) := by
  have a := Int.ediv_nonneg h0 (show (0 : Int) ≤ r by omega)
  have b := Int.ediv_mul_le x (show r ≠ 0 by omega)
  have c := Int.mul_le_mul_of_nonneg_left h2 a
  have e : jt (m + 1) = jt m / 2 := rfl
  exact ⟨a, by omega⟩
/-- the first n of these numbers have one that is no SIGN -/
def fs_bd (K : List Int) : Nat → Int
  | 0 => 0
  | n + 1 => if K.getD n 0 ≠ -1 ∧ (K.getD n 0 < 0 ∨ 255 < K.getD n 0) then 1 else fs_bd K n
theorem fs_bds {K : List Int} {n : Nat} : fs_bd K (n + 1) = if K.getD n 0 ≠ -1 ∧ (K.getD n 0 < 0 ∨ 255 < K.getD n 0) then 1 else fs_bd K n := rfl
theorem fs_bd01 {K : List Int} : ∀ n, fs_bd K n = 0 ∨ fs_bd K n = 1
  | 0 => Or.inl rfl
  | n + 1 => by
    rw [fs_bds]
    split
    · exact Or.inr rfl
    · exact fs_bd01 n
