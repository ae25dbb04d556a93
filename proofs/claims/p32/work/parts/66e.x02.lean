theorem fo_or {s : Int} (h : s = 0 ∨ s = 1) : sg_or s 0 = s ∧ sg_or s 1 = 1 := by
  rcases h with rfl | rfl <;> decide
theorem fo_bd4 {a b c e : Int} : (fs_bd [a, b, c, e] 4 ≠ 0) ↔ ((a ≠ -1 ∧ (a < 0 ∨ 255 < a)) ∨ (b ≠ -1 ∧ (b < 0 ∨ 255 < b)) ∨ (c ≠ -1 ∧ (c < 0 ∨ 255 < c)) ∨ (e ≠ -1 ∧ (e < 0 ∨ 255 < e))) := by
  rw [fs_bds, fs_bds, fs_bds, fs_bds]
  show ((if e ≠ -1 ∧ (e < 0 ∨ 255 < e) then (1 : Int) else if c ≠ -1 ∧ (c < 0 ∨ 255 < c) then 1 else if b ≠ -1 ∧ (b < 0 ∨ 255 < b) then 1 else if a ≠ -1 ∧ (a < 0 ∨ 255 < a) then 1 else 0) ≠ 0) ↔ _
  (repeat' split) <;> omega
theorem fo_lay {a b c e : Int} : [a, b, c, e].filter (fun u => decide (u ≠ -1)) = fs_lay a b c e := by
  unfold fs_lay
  by_cases h1 : a = -1 <;> by_cases h2 : b = -1 <;> by_cases h3 : c = -1 <;> by_cases h4 : e = -1 <;> simp [h1, h2, h3, h4]
/-- one digit ahead -/
theorem fo_dig {x r : Int} {m : Nat} : [fs_dg x r m] ++ tt_b m (fun j => fs_dg x r (m - 1 - j)) = tt_b (m + 1) (fun j => fs_dg x r (m + 1 - 1 - j)) := by
  refine tt_eq 0 (by rw [List.length_append, tt_len]; simp; omega) (fun j hj => ?_)
  rw [gd_app]
  by_cases c : j < [fs_dg x r m].length
  · rw [if_pos c]
    have : j = 0 := by simpa using c
    subst this
    rfl
  · rw [if_neg c]
    simp only [List.length_cons, List.length_nil] at c ⊢
    rw [tt_get (by omega)]
    congr 1
    omega
