noncomputable def fs_strip (L : List Int) : List Int := @dite _ (∃ q : Nat × Nat, fs_R L q.1 q.2) (Classical.propDecidable _) (fun h => (L.take h.choose.2).drop h.choose.1) (fun _ => L)
theorem fs_stripE {L : List Int} {b e : Nat} (x : fs_R L b e) : fs_strip L = (L.take e).drop b := by
  have hh : ∃ q : Nat × Nat, fs_R L q.1 q.2 := ⟨(b, e), x⟩
  unfold fs_strip
  rw [dif_pos hh]
  obtain ⟨e1, e2⟩ := fs_Ru hh.choose_spec x
  rw [e1, e2]
theorem fs_stripl {L : List Int} {b e : Nat} (x : fs_R L b e) : ((fs_strip L).length : Int) = (e : Int) - (b : Int) := by
  rw [fs_stripE x, List.length_drop, List.length_take]
  have := x.1
  have := x.2.1
  omega
/-! numbers in digits -/
def fs_dn (x r : Int) (m : Nat) : Prop := 1 ≤ m ∧ x / r ^ m = 0 ∧ ∀ k : Nat, 1 ≤ k → k < m → x / r ^ k ≠ 0
theorem fs_du {x r : Int} {m n : Nat} (a : fs_dn x r m) (b : fs_dn x r n) : m = n := by
  obtain ⟨a1, a2, a3⟩ := a
  obtain ⟨b1, b2, b3⟩ := b
  rcases Nat.lt_trichotomy m n with c | c | c
  · exact absurd a2 (b3 m a1 c)
  · exact c
  · exact absurd b2 (a3 n b1 c)
