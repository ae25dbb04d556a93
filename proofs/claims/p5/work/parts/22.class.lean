/-! THE CLASS'S CELLS: 110 of them from B on, each of its kind (1 a Line, 2 its numbers, 3 a State, 4 its rows, 5 its tracks, 6 the Past, 7 its states, 0 the object) -/
def ck_st : List (Nat × Nat) := [(3, 0), (4, 0), (5, 0), (1, 0), (2, 0), (1, 0), (2, 0), (1, 0), (2, 0), (1, 0), (2, 0), (1, 1), (2, 1), (1, 1), (2, 1)]
def ck_tb : List (Nat × Nat) := [(0, 0)] ++ ck_st ++ [(6, 0), (7, 0)] ++ ck_st ++ ck_st ++ ck_st ++ ck_st ++ ck_st ++ ck_st ++ [(1, 2), (2, 2)]
def ck (i : Nat) : Nat × Nat := ck_tb.getD i (9, 0)
def ck_cap (c : Nat) : Nat := if c = 0 then 40 else 24
/-- what a Line of that code may hold: a ROW anything, a TRACK UNITS, the list of CODES CODES -/
def ck_v (c : Nat) (z : Int) : Prop := c = 0 ∨ (0 ≤ z ∧ z ≤ (if c = 1 then 65535 else if c = 3 then 255 else 1114111))
theorem ck_v0 {z : Int} : ck_v 0 z := Or.inl rfl
theorem ck_v1 {z : Int} : ck_v 1 z ↔ 0 ≤ z ∧ z ≤ 65535 := by simp [ck_v]
theorem ck_v2 {z : Int} : ck_v 2 z ↔ 0 ≤ z ∧ z ≤ 1114111 := by simp [ck_v]
theorem ck_v3 {z : Int} : ck_v 3 z ↔ 0 ≤ z ∧ z ≤ 255 := by simp [ck_v]
theorem ck_vz {c : Nat} : ck_v c 0 := by unfold ck_v; right; (repeat' split) <;> omega
theorem ck_capl {c : Nat} : ck_cap c ≤ 40 := by unfold ck_cap; split <;> omega
def ck_ok (B i : Nat) (e : sg_E) : Prop := match (ck i).1 with
  | 0 => ∃ z : Int, e = (6, [sg_r (B + 1), sg_r (B + 16), sg_r (B + 108), sg_i z])
  | 1 => ∃ z : Int, 0 ≤ z ∧ z ≤ (ck_cap (ck i).2 : Int) ∧ e = (3, [sg_r (B + i + 1), sg_i z])
  | 2 => ∃ zs : List Int, zs.length = ck_cap (ck i).2 ∧ (∀ z ∈ zs, ck_v (ck i).2 z) ∧ e = (100, zs.map sg_i)
  | 3 => e = (5, [sg_r (B + i + 1), sg_r (B + i + 2)])
  | 4 => e = (111, [sg_r (B + i + 2), sg_r (B + i + 4), sg_r (B + i + 6), sg_r (B + i + 8)])
  | 5 => e = (111, [sg_r (B + i + 9), sg_r (B + i + 11)])
  | 6 => ∃ z : Int, e = (4, [sg_r (B + 17), sg_i z])
  | 7 => ∃ f : List Nat, f.length = 6 ∧ (∀ x ∈ f, x < 110 ∧ (ck x).1 = 3) ∧ e = (112, f.map fun x => sg_r (B + x))
  | _ => False
def ck_X (h : sg_H) (B : Nat) : Prop := ∀ i, i < 110 → ∃ e, h.2 (B + i) = some e ∧ ck_ok B i e
/-- nothing but the class's cells has changed -/
def ck_F (B : Nat) (h h' : sg_H) : Prop := h.1 ≤ h'.1 ∧ ∀ q, (q < B ∨ B + 110 ≤ q) → h'.2 q = h.2 q
theorem ck_F0 {B : Nat} {h : sg_H} : ck_F B h h := ⟨Nat.le_refl _, fun _ _ => rfl⟩
theorem ck_Ft {B : Nat} {h h' h'' : sg_H} (a : ck_F B h h') (b : ck_F B h' h'') : ck_F B h h'' := ⟨Nat.le_trans a.1 b.1, fun q hq => (b.2 q hq).trans (a.2 q hq)⟩
/-- of a Line's two cells alone -/
def ck_G (B a : Nat) (h h' : sg_H) : Prop := ck_F B h h' ∧ ∀ q, q ≠ a → q ≠ a + 1 → h'.2 q = h.2 q
theorem ck_G0 {B a : Nat} {h : sg_H} : ck_G B a h h := ⟨ck_F0, fun _ _ _ => rfl⟩
theorem ck_Gt {B a : Nat} {h h' h'' : sg_H} (x : ck_G B a h h') (y : ck_G B a h' h'') : ck_G B a h h'' := ⟨ck_Ft x.1 y.1, fun q p1 p2 => (y.2 q p1 p2).trans (x.2 q p1 p2)⟩
theorem ck_put {B i : Nat} {h : sg_H} {e : sg_E} (hx : ck_X h B) (hi : i < 110) (he : ck_ok B i e) : ck_X (h.1, sg_up h.2 (B + i) e) B ∧ ck_F B h (h.1, sg_up h.2 (B + i) e) := by
  refine ⟨fun j hj => ?_, Nat.le_refl _, fun q hq => sg_up_n (by omega)⟩
  by_cases c : j = i
  · subst c
    exact ⟨e, sg_up_s, he⟩
  · obtain ⟨e', h1, h2⟩ := hx j hj
    exact ⟨e', by rw [← h1]; exact sg_up_n (by omega), h2⟩
def ck_L (B a c : Nat) : Prop := ∃ i, i < 110 ∧ a = B + i ∧ ck i = (1, c)
theorem ck_nx : ∀ i, i < 110 → (ck i).1 = 1 → ck (i + 1) = (2, (ck i).2) ∧ i + 1 < 110 := by decide +kernel
/-- a Line's length -/
def ck_N (h : sg_H) (a : Nat) (n : Int) : Prop := h.2 a = some (3, [sg_r (a + 1), sg_i n])
theorem ck_Nu {h : sg_H} {a : Nat} {n m : Int} (x : ck_N h a n) (y : ck_N h a m) : n = m := by
  have := x.symm.trans y
  simpa using this
theorem ck_ln {B a c : Nat} {h : sg_H} (hx : ck_X h B) (hl : ck_L B a c) : ∃ (n : Int) (zs : List Int), 0 ≤ n ∧ n ≤ (ck_cap c : Int) ∧ ck_cap c ≤ 40 ∧ zs.length = ck_cap c ∧ (zs.map sg_i).length = ck_cap c ∧ h.2 a = some (3, [sg_r (a + 1), sg_i n]) ∧ h.2 (a + 1) = some (100, zs.map sg_i) ∧ ∀ z ∈ zs, ck_v c z := by
  obtain ⟨i, hi, rfl, hc⟩ := hl
  obtain ⟨h2, h3⟩ := ck_nx i hi (by rw [hc])
  obtain ⟨e, e1, e2⟩ := hx i hi
  obtain ⟨f, f1, f2⟩ := hx (i + 1) h3
  unfold ck_ok at e2 f2
  rw [hc] at e2
  rw [h2, hc] at f2
  obtain ⟨z, z1, z2, rfl⟩ := e2
  obtain ⟨zs, z3, z4, rfl⟩ := f2
  exact ⟨z, zs, z1, z2, ck_capl, z3, by rw [List.length_map]; exact z3, e1, f1, z4⟩
theorem ck_at {zs : List Int} {j : Nat} (h : j < zs.length) : (zs.map sg_i)[j]? = some (sg_i zs[j]) := by simp [h]
/-- what get answers at a place -/
def ck_g (h : sg_H) (a : Nat) (p : Int) : Int := match h.2 a with
  | some (_, [_, .inl n]) => if 0 ≤ p ∧ p < n then (match h.2 (a + 1) with | some (_, vs) => (match vs[p.toNat]? with | some (.inl z) => z | _ => -1) | _ => -1) else -1
  | _ => -1
theorem ck_g1 {h : sg_H} {a : Nat} {p n : Int} {v : sg_V} (hA : h.2 a = some (3, [v, sg_i n])) (hn : ¬ (0 ≤ p ∧ p < n)) : -1 = ck_g h a p := by
  unfold ck_g
  rw [hA]
  simp only [sg_i, if_neg hn]
theorem ck_gv {h : sg_H} {a : Nat} {p n : Int} {v : sg_V} {zs : List Int} (hA : h.2 a = some (3, [v, sg_i n])) (hN : h.2 (a + 1) = some (100, zs.map sg_i)) (p0 : 0 ≤ p) (p1 : p < n) (hl : p.toNat < zs.length) : zs[p.toNat] = ck_g h a p := by
  unfold ck_g
  rw [hA]
  simp only [sg_i, if_pos (And.intro p0 p1)]
  rw [hN]
  simp [hl]
section
variable {w : sg_W} {mi : sg_M} {d mc ms : Nat} {Q : sg_O → sg_H → Prop} {pc : Nat} {lv : List (Nat × sg_V)} {st : List sg_V} {h : sg_H} {k n : Nat} {B a c : Nat} {m : Int} {zs : List Int}
theorem sg_alenN {N t : Nat} {vs : List sg_V} (hd : decode mi.2.1 pc = .ok (.arraylength, 1)) (ha : h.2 a = some (t, vs)) (ht : 100 ≤ t % 200) (hl : vs.length = N) (hN : N < 2147483648) (K : sg_R w mi d mc ms Q (pc + 1) lv (sg_i (N : Int) :: st) h k n) : sg_R w mi d mc ms Q pc lv (sg_r a :: st) h k n := by
  subst hl
  exact sg_alen hd ha ht hN K
end

