/-- 999999 halved again and again -/
def jt : Nat → Int
  | 0 => 999999
  | m + 1 => jt m / 2
theorem jt_nn : ∀ m, 0 ≤ jt m
  | 0 => by decide
  | m + 1 => Int.ediv_nonneg (jt_nn m) (by decide)
theorem jt_anti (m : Nat) : ∀ j, jt (m + j) ≤ jt m
  | 0 => Int.le_refl _
  | j + 1 => by
    have h1 := jt_anti m j
    have h2 := jt_nn (m + j)
    have e : jt (m + (j + 1)) = jt (m + j) / 2 := rfl
    omega
theorem jt_pos {m : Nat} {x : Int} (h : 0 < x) (h2 : x ≤ jt m) : m ≤ 19 := by
  rcases Nat.lt_or_ge m 20 with c | c
  · omega
  · have h3 := jt_anti 20 (m - 20)
    rw [show 20 + (m - 20) = m by omega] at h3
    have h4 : jt 20 = 0 := by decide
    omega
