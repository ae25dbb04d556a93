theorem fs_Fs {P : Int → Bool} {L : List Int} {p : Int} (p0 : 0 ≤ p) (p1 : p < (L.length : Int)) : fs_F P L (p + 1) = fs_F P L p ++ (if P (L.getD p.toNat 0) then [L.getD p.toNat 0] else []) := by
  unfold fs_F
  rw [show (p + 1).toNat = p.toNat + 1 by omega, List.take_add_one, List.getElem?_eq_getElem (by omega), List.filter_append, gd_in (by omega)]
  congr 1
  simp only [Option.toList, List.filter_cons, List.filter_nil]
theorem fs_sv1 {P : Int → Bool} {L : List Int} {p : Int} (p0 : 0 ≤ p) (p1 : p < (L.length : Int)) (h : P (L.getD p.toNat 0) = true) : (fs_sv P L p).set (fs_F P L p).length (L.getD p.toNat 0) = fs_sv P L (p + 1) ∧ (fs_F P L (p + 1)).length = (fs_F P L p).length + 1 := by
  have hl := fs_Fl (P := P) (L := L) (p := p)
  have e : fs_F P L (p + 1) = fs_F P L p ++ [L.getD p.toNat 0] := by rw [fs_Fs p0 p1, if_pos h]
  have e2 : (fs_F P L (p + 1)).length = (fs_F P L p).length + 1 := by rw [e, List.length_append]; rfl
  refine ⟨?_, e2⟩
  unfold fs_sv
  rw [e2, e, List.set_append_right _ _ (Nat.le_refl _), Nat.sub_self, List.append_assoc]
  congr 1
  rw [List.drop_eq_getElem_cons (i := (fs_F P L p).length) (by omega)]
  rfl
theorem fs_sv0 {P : Int → Bool} {L : List Int} {p : Int} (p0 : 0 ≤ p) (p1 : p < (L.length : Int)) (h : P (L.getD p.toNat 0) = false) : fs_sv P L p = fs_sv P L (p + 1) ∧ (fs_F P L (p + 1)).length = (fs_F P L p).length := by
  have e : fs_F P L (p + 1) = fs_F P L p := by rw [fs_Fs p0 p1, h]; simp
  exact ⟨by unfold fs_sv; rw [e], by rw [e]⟩
