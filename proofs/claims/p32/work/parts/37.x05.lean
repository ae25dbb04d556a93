theorem fs_wnm {L : List Int} {m : Nat} : ∀ k : Nat, fs_wn L m ≤ fs_wn L (m + k)
  | 0 => Int.le_refl _
  | k + 1 => by
    have h := fs_wnm (L := L) (m := m) k
    have e : fs_wn L (m + (k + 1)) = fs_wn L (m + k) + (if fs_wb L (m + k) then 1 else 0) := rfl
    rw [e]
    split <;> omega
/-- the k-th word's first place -/
def fs_wR (L : List Int) (k v : Int) : Prop := (v = -1 ∧ ∀ j : Nat, j < L.length → fs_wb L j → fs_wn L j ≠ k) ∨ (0 ≤ v ∧ v < (L.length : Int) ∧ fs_wb L v.toNat ∧ fs_wn L v.toNat = k)
theorem fs_wlt {L : List Int} {a b : Nat} (h : a < b) (w : fs_wb L a) : fs_wn L a < fs_wn L b := by
  have h1 := fs_wnm (L := L) (m := a + 1) (b - (a + 1))
  rw [show a + 1 + (b - (a + 1)) = b by omega] at h1
  have e : fs_wn L (a + 1) = fs_wn L a + (if fs_wb L a then 1 else 0) := rfl
  rw [if_pos w] at e
  omega
theorem fs_wU {L : List Int} {k : Int} (a b : Int) (x : fs_wR L k a) (y : fs_wR L k b) : a = b := by
  rcases x with ⟨x1, x2⟩ | ⟨x1, x2, x3, x4⟩ <;> rcases y with ⟨y1, y2⟩ | ⟨y1, y2, y3, y4⟩
  · omega
  · exact absurd y4 (x2 b.toNat (by omega) y3)
  · exact absurd x4 (y2 a.toNat (by omega) x3)
  · rcases Int.lt_trichotomy a b with c | c | c
    · have := fs_wlt (L := L) (a := a.toNat) (b := b.toNat) (by omega) x3
      omega
    · exact c
    · have := fs_wlt (L := L) (a := b.toNat) (b := a.toNat) (by omega) y3
      omega
