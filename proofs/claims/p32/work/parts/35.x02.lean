theorem fs_Fn {P : Int → Bool} {L : List Int} {p : Int} (h : (L.length : Int) ≤ p) : fs_F P L p = L.filter P := by
  unfold fs_F
  rw [List.take_of_length_le (by omega)]
theorem fs_svt {P : Int → Bool} {L : List Int} {p : Int} : (fs_sv P L p).take (fs_F P L p).length = fs_F P L p := by
  unfold fs_sv
  exact List.take_left
abbrev fs_is (kind isx : Int) : Int → Bool := fun u => decide (fn_isOf u kind = isx)
/-! stripped rows -/
abbrev fs_W (L : List Int) (j : Nat) : Prop := fn_isOf (L.getD j 0) 3 ≠ 0
def fs_R (L : List Int) (b e : Nat) : Prop := b ≤ e ∧ e ≤ L.length ∧ (∀ j, j < b → fs_W L j) ∧ (b = L.length ∨ ¬ fs_W L b) ∧ (∀ j, e ≤ j → j < L.length → fs_W L j) ∧ (e = b ∨ ¬ fs_W L (e - 1))
theorem fs_Ru {L : List Int} {b e b' e' : Nat} (x : fs_R L b e) (y : fs_R L b' e') : b = b' ∧ e = e' := by
  obtain ⟨x1, x2, x3, x4, x5, x6⟩ := x
  obtain ⟨y1, y2, y3, y4, y5, y6⟩ := y
  have hb : b = b' := by
    rcases Nat.lt_trichotomy b b' with c | c | c
    · rcases x4 with q | q
      · omega
      · exact absurd (y3 b c) q
    · exact c
    · rcases y4 with q | q
      · omega
      · exact absurd (x3 b' c) q
  subst hb
  refine ⟨rfl, ?_⟩
  rcases Nat.lt_trichotomy e e' with c | c | c
  · rcases y6 with q | q
    · omega
    · exact absurd (x5 (e' - 1) (by omega) (by omega)) q
  · exact c
  · rcases x6 with q | q
    · omega
    · exact absurd (y5 (e - 1) (by omega) (by omega)) q
