theorem fs_cat {L : List Int} {p : Nat} (hp : p < L.length) (hb : fs_bg L p) : (fs_codes L).getD (fs_cs L p).length 0 = fs_cd L p ∧ (fs_cs L p).length < (fs_codes L).length := by
  obtain ⟨X, hX⟩ := fs_cpre (L := L) (p := p + 1) (L.length - (p + 1))
  rw [show p + 1 + (L.length - (p + 1)) = L.length by omega, fs_css, if_pos hb, List.append_assoc] at hX
  show (fs_cs L L.length).getD _ 0 = _ ∧ _ < (fs_cs L L.length).length
  rw [hX, gd_app, if_neg (by omega), Nat.sub_self]
  refine ⟨rfl, ?_⟩
  simp only [List.length_append, List.length_cons, List.length_nil]
  omega
/-- the whole -/
def fs_hs (A : fa_A) : Int := ((fa_L A 0).length : Int) + ((fa_L A 1).length : Int) + ((fa_L A 2).length : Int) + ((fa_L A 3).length : Int)
def fs_hu (A : fa_A) : Int := ((fa_L A 4).length : Int) + ((fa_L A 5).length : Int)
def fs_house (A : fa_A) (what : Int) : Int := if what = 0 then fs_hs A else if what = 1 then fs_hu A else if what = 2 then (A.2.1.length : Int) else A.2.2
theorem cf_h0 {h : sg_H} {B : Nat} {A : fa_A} (hx : cf_X h B A) : cf_hm h (B + 1) 4 = fs_hs A := by
  have e0 := cf_rl hx (i := 0) (by decide)
  have e1 := cf_rl hx (i := 1) (by decide)
  have e2 := cf_rl hx (i := 2) (by decide)
  have e3 := cf_rl hx (i := 3) (by decide)
  unfold fs_hs
  rw [← e0, ← e1, ← e2, ← e3]
  show 0 + _ + _ + _ + _ = _
  rw [Int.zero_add]
