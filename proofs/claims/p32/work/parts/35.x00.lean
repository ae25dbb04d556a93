/-! sieved rows -/
def fs_F (P : Int → Bool) (L : List Int) (p : Int) : List Int := (L.take p.toNat).filter P
def fs_sv (P : Int → Bool) (L : List Int) (p : Int) : List Int := fs_F P L p ++ L.drop (fs_F P L p).length
theorem fs_Fl {P : Int → Bool} {L : List Int} {p : Int} : (fs_F P L p).length ≤ p.toNat := by
  unfold fs_F
  refine Nat.le_trans (List.length_filter_le _ _) ?_
  rw [List.length_take]
  omega
theorem fs_svl {P : Int → Bool} {L : List Int} {p : Int} (p1 : p ≤ (L.length : Int)) : (fs_sv P L p).length = L.length := by
  have := fs_Fl (P := P) (L := L) (p := p)
  unfold fs_sv
  rw [List.length_append, List.length_drop]
  omega
theorem fs_svg {P : Int → Bool} {L : List Int} {p : Int} (p0 : 0 ≤ p) (p1 : p < (L.length : Int)) : gg_l (fs_sv P L p) p = L.getD p.toNat 0 := by
  have := fs_Fl (P := P) (L := L) (p := p)
  rw [gg_in p0 (by rw [fs_svl (by omega)]; exact p1)]
  unfold fs_sv
  rw [gd_app, if_neg (by omega), gd_drop]
  congr 1
  omega
