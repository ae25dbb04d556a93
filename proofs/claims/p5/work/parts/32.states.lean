/-! States and the Past, what stands in them -/
def cf_s (h : sg_H) (s : Nat) : List (List Int) := [cf_l h (s + 3), cf_l h (s + 5), cf_l h (s + 7), cf_l h (s + 9), cf_l h (s + 11), cf_l h (s + 13)]
theorem cf_lq {h h' : sg_H} {a : Nat} (e1 : h'.2 a = h.2 a) (e2 : h'.2 (a + 1) = h.2 (a + 1)) : cf_l h' a = cf_l h a := by
  unfold cf_l cf_n cf_w
  rw [e1, e2]
theorem cf_sq {h h' : sg_H} {s : Nat} (e : ∀ q, s + 3 ≤ q → q < s + 15 → h'.2 q = h.2 q) : cf_s h' s = cf_s h s := by
  unfold cf_s
  rw [cf_lq (e (s + 3) (by omega) (by omega)) (e (s + 3 + 1) (by omega) (by omega)), cf_lq (e (s + 5) (by omega) (by omega)) (e (s + 5 + 1) (by omega) (by omega)), cf_lq (e (s + 7) (by omega) (by omega)) (e (s + 7 + 1) (by omega) (by omega)), cf_lq (e (s + 9) (by omega) (by omega)) (e (s + 9 + 1) (by omega) (by omega)), cf_lq (e (s + 11) (by omega) (by omega)) (e (s + 11 + 1) (by omega) (by omega)), cf_lq (e (s + 13) (by omega) (by omega)) (e (s + 13 + 1) (by omega) (by omega))]
theorem cf_row {B a : Nat} {p : Int} (hs : ck_S B a) (h0 : 0 ≤ p) (h1 : p < 4) : ([sg_r (a + 3), sg_r (a + 5), sg_r (a + 7), sg_r (a + 9)] : List sg_V)[p.toNat]? = some (sg_r (a + 3 + 2 * p.toNat)) ∧ ck_L B (a + 3 + 2 * p.toNat) 0 := by
  obtain ⟨i, hi, rfl, hc⟩ := hs
  obtain ⟨k1, k2, k3, k4, k5, k6, k7, -⟩ := ck_sx i hi hc
  rcases (show p = 0 ∨ p = 1 ∨ p = 2 ∨ p = 3 by omega) with rfl | rfl | rfl | rfl
  · exact ⟨rfl, i + 3, by omega, by omega, k4⟩
  · exact ⟨rfl, i + 5, by omega, by omega, k5⟩
  · exact ⟨rfl, i + 7, by omega, by omega, k6⟩
  · exact ⟨rfl, i + 9, by omega, by omega, k7⟩
theorem cf_trk {B a : Nat} {p : Int} (hs : ck_S B a) (h0 : 0 ≤ p) (h1 : p < 2) : ([sg_r (a + 11), sg_r (a + 13)] : List sg_V)[p.toNat]? = some (sg_r (a + 3 + 2 * (4 + p.toNat))) ∧ ck_L B (a + 3 + 2 * (4 + p.toNat)) 1 := by
  obtain ⟨i, hi, rfl, hc⟩ := hs
  obtain ⟨k1, k2, k3, k4, k5, k6, k7, k8, k9⟩ := ck_sx i hi hc
  rcases (show p = 0 ∨ p = 1 by omega) with rfl | rfl
  · exact ⟨rfl, i + 11, by omega, by omega, k8⟩
  · exact ⟨rfl, i + 13, by omega, by omega, k9⟩
/-- one line of a State has become another State's -/
theorem cf_bs {B a b m : Nat} {h h1 h2 : sg_H} (hm : m < 6) (ap : a + 15 ≤ b ∨ b + 15 ≤ a) (fr : ∀ q, (q < a + 3 ∨ a + 3 + 2 * m ≤ q) → h1.2 q = h.2 q) (ct : ∀ j, j < m → cf_l h1 (a + 3 + 2 * j) = cf_l h (b + 3 + 2 * j)) (f : ck_G B (a + 3 + 2 * m) h1 h2) (l : cf_l h2 (a + 3 + 2 * m) = cf_l h1 (b + 3 + 2 * m)) : (∀ q, (q < a + 3 ∨ a + 3 + 2 * (m + 1) ≤ q) → h2.2 q = h.2 q) ∧ (∀ j, j < m + 1 → cf_l h2 (a + 3 + 2 * j) = cf_l h (b + 3 + 2 * j)) := by
  refine ⟨fun q hq => (f.2 q (by omega) (by omega)).trans (fr q (by omega)), fun j hj => ?_⟩
  by_cases c : j = m
  · subst c
    rw [l]
    exact cf_lq (fr _ (by omega)) (fr _ (by omega))
  · rw [cf_lq (f.2 _ (by omega) (by omega)) (f.2 _ (by omega) (by omega))]
    exact ct j (by omega)
theorem cf_be {a b : Nat} {h h1 : sg_H} (ct : ∀ j, j < 6 → cf_l h1 (a + 3 + 2 * j) = cf_l h (b + 3 + 2 * j)) : cf_s h1 a = cf_s h b := by
  have c0 : cf_l h1 (a + 3) = cf_l h (b + 3) := ct 0 (by decide)
  have c1 : cf_l h1 (a + 5) = cf_l h (b + 5) := ct 1 (by decide)
  have c2 : cf_l h1 (a + 7) = cf_l h (b + 7) := ct 2 (by decide)
  have c3 : cf_l h1 (a + 9) = cf_l h (b + 9) := ct 3 (by decide)
  have c4 : cf_l h1 (a + 11) = cf_l h (b + 11) := ct 4 (by decide)
  have c5 : cf_l h1 (a + 13) = cf_l h (b + 13) := ct 5 (by decide)
  unfold cf_s
  rw [c0, c1, c2, c3, c4, c5]
def cf_ad (v : sg_V) : Nat := match v with
  | .inr (.inr (some a)) => a
  | _ => 0
/-- where the Past's States lie -/
def cf_pa (h : sg_H) (B : Nat) : List Nat := match h.2 (B + 17) with
  | some (_, vs) => vs.map cf_ad
  | _ => []
theorem cf_pe {h : sg_H} {B t : Nat} {A : List Nat} (x : h.2 (B + 17) = some (t, A.map sg_r)) : cf_pa h B = A := by
  unfold cf_pa
  rw [x]
  simp only [List.map_map]
  exact List.map_id'' (fun _ => rfl) A
def cf_ho (h : sg_H) (B : Nat) : Prop := (cf_pa h B).Perm [B + 18, B + 33, B + 48, B + 63, B + 78, B + 93] ∧ 0 ≤ cf_n h (B + 16) ∧ cf_n h (B + 16) ≤ 6
/-- the rows before, of the last STEP first -/
def cf_p (h : sg_H) (B : Nat) : List (List (List Int)) := ((cf_pa h B).take (cf_n h (B + 16)).toNat).map (cf_s h)
theorem cf_ps {h : sg_H} {B : Nat} (hx : ck_X h B) : h.2 (B + 16) = some (4, [sg_r (B + 17), sg_i (cf_n h (B + 16))]) ∧ h.2 (B + 17) = some (112, (cf_pa h B).map sg_r) ∧ (cf_pa h B).length = 6 := by
  obtain ⟨e, e1, e2⟩ := hx 16 (by decide)
  obtain ⟨f, f1, f2⟩ := hx 17 (by decide)
  obtain ⟨z, rfl⟩ : ∃ z : Int, e = (4, [sg_r (B + 17), sg_i z]) := e2
  obtain ⟨vs, v1, v2, rfl⟩ : ∃ f' : List Nat, f'.length = 6 ∧ (∀ x ∈ f', x < 110 ∧ (ck x).1 = 3) ∧ f = (112, f'.map fun x => sg_r (B + x)) := f2
  have e3 : cf_n h (B + 16) = z := by
    unfold cf_n
    rw [e1]
  have e4 : h.2 (B + 17) = some (112, (vs.map (fun x => B + x)).map sg_r) := by
    rw [f1, List.map_map]
    rfl
  have e5 := cf_pe e4
  rw [e3, e5]
  exact ⟨e1, e4, by rw [List.length_map]; exact v1⟩
theorem cf_in {h : sg_H} {B a : Nat} (ho : cf_ho h B) (ha : a ∈ cf_pa h B) : a = B + 18 ∨ a = B + 33 ∨ a = B + 48 ∨ a = B + 63 ∨ a = B + 78 ∨ a = B + 93 := by
  have := ho.1.mem_iff.mp ha
  simpa using this
theorem cf_S6 {B a : Nat} (x : a = B + 18 ∨ a = B + 33 ∨ a = B + 48 ∨ a = B + 63 ∨ a = B + 78 ∨ a = B + 93) : ck_S B a := by
  rcases x with rfl | rfl | rfl | rfl | rfl | rfl
  · exact ⟨18, by decide, rfl, by decide +kernel⟩
  · exact ⟨33, by decide, rfl, by decide +kernel⟩
  · exact ⟨48, by decide, rfl, by decide +kernel⟩
  · exact ⟨63, by decide, rfl, by decide +kernel⟩
  · exact ⟨78, by decide, rfl, by decide +kernel⟩
  · exact ⟨93, by decide, rfl, by decide +kernel⟩
theorem cf_bd {B a : Nat} (x : a = B + 18 ∨ a = B + 33 ∨ a = B + 48 ∨ a = B + 63 ∨ a = B + 78 ∨ a = B + 93) : B + 18 ≤ a ∧ a ≤ B + 93 := by omega
theorem cf_far {B a b : Nat} (x : a = B + 18 ∨ a = B + 33 ∨ a = B + 48 ∨ a = B + 63 ∨ a = B + 78 ∨ a = B + 93) (y : b = B + 18 ∨ b = B + 33 ∨ b = B + 48 ∨ b = B + 63 ∨ b = B + 78 ∨ b = B + 93) (h : a ≠ b) : a + 15 ≤ b ∨ b + 15 ≤ a := by
  rcases x with rfl | rfl | rfl | rfl | rfl | rfl <;> omega
theorem cf_six {L : List Nat} (h : L.length = 6) : ∃ a b c d e f, L = [a, b, c, d, e, f] := by
  match L, h with
  | [a, b, c, d, e, f], _ => exact ⟨a, b, c, d, e, f, rfl⟩
/-- the States apart -/
theorem cf_nd {h : sg_H} {B : Nat} (ho : cf_ho h B) : (cf_pa h B).Nodup := by
  refine ho.1.nodup_iff.mpr ?_
  simp [List.nodup_cons]
section
variable {w : sg_W} {mi : sg_M} {d mc ms : Nat} {Q : sg_O → sg_H → Prop} {pc : Nat} {lv : List (Nat × sg_V)} {st : List sg_V} {h : sg_H} {k n : Nat} {B a : Nat}
/-- a State is put into the Past's row -/
theorem cf_pst {p : Int} (g : sg_G w) (hd : decode mi.2.1 pc = .ok (.aastore, 1)) (hx : ck_X h B) (hs : ck_S B a) (p0 : 0 ≤ p) (p1 : p < 6)
    (K : ∀ h' : sg_H, ck_X h' B → ck_F B h h' → (∀ q, q ≠ B + 17 → h'.2 q = h.2 q) → cf_pa h' B = (cf_pa h B).set p.toNat a → sg_R w mi d mc ms Q (pc + 1) lv st h' k n) : sg_R w mi d mc ms Q pc lv (sg_r a :: sg_i p :: sg_r (B + 17) :: st) h k n := by
  have hsl := (ck_sl hx hs).1
  obtain ⟨-, h17, l6⟩ := cf_ps hx
  obtain ⟨f, f1, f2⟩ := hx 17 (by decide)
  obtain ⟨fs, v1, v2, rfl⟩ : ∃ f' : List Nat, f'.length = 6 ∧ (∀ x ∈ f', x < 110 ∧ (ck x).1 = 3) ∧ f = (112, f'.map fun x => sg_r (B + x)) := f2
  refine sg_aast g hd f1 hsl (by decide) (by decide) (Or.inl ⟨by decide, _, rfl, Or.inl rfl⟩) p0 (by rw [List.length_map]; omega) ?_
  obtain ⟨i, hi, rfl, hc⟩ := hs
  have hok : ck_ok B 17 (112, (fs.map fun x => sg_r (B + x)).set p.toNat (sg_r (B + i))) := by
    refine ⟨fs.set p.toNat i, by rw [List.length_set]; exact v1, fun x hx => ?_, by rw [List.map_set]⟩
    rcases List.mem_or_eq_of_mem_set hx with h1 | h1
    · exact v2 x h1
    · rw [h1]; exact ⟨hi, hc⟩
  obtain ⟨p3, p4⟩ := ck_put hx (by decide) hok
  have e1 : (fs.map fun x => sg_r (B + x)) = (cf_pa h B).map sg_r := by
    have := f1.symm.trans h17
    exact congrArg Prod.snd (Option.some.inj this)
  refine K _ p3 p4 (fun q hq => sg_up_n hq) (cf_pe (t := 112) ?_)
  rw [List.map_set, ← e1]
  exact sg_up_s
theorem cf_pps {z : Int} {idx : Nat} (g : sg_G w) (hd : decode mi.2.1 pc = .ok (.putfield idx, 3)) (hf : sg_fk mi.1.cls idx 4 1 false .int) (hx : ck_X h B)
    (K : ∀ h' : sg_H, ck_X h' B → ck_F B h h' → (∀ q, q ≠ B + 16 → h'.2 q = h.2 q) → cf_n h' (B + 16) = z → sg_R w mi d mc ms Q (pc + 3) lv st h' k n) : sg_R w mi d mc ms Q pc lv (sg_i z :: sg_r (B + 16) :: st) h k n := by
  obtain ⟨h16, -, -⟩ := cf_ps hx
  refine sg_putf g hd hf h16 sg_ft_i ?_
  obtain ⟨p3, p4⟩ := ck_put (i := 16) hx (by decide) (show ck_ok B 16 (4, [sg_r (B + 17), sg_i z]) from ⟨z, rfl⟩)
  exact K _ p3 p4 (fun q hq => sg_up_n hq) (cf_ne (t := 4) sg_up_s)
end
/-- the Past's row, shifted as far as k -/
def cf_rk (A : List Nat) (k : Int) : Nat → Nat := fun j => if k < (j : Int) then A.getD (j - 1) 0 else A.getD j 0
def cf_rb (A : List Nat) (k : Int) : Nat → Nat := fun j => if (j : Int) < k then A.getD (j + 1) 0 else A.getD j 0
theorem cf_pq {h h' : sg_H} {B : Nat} (e : h'.2 (B + 17) = h.2 (B + 17)) : cf_pa h' B = cf_pa h B := by
  unfold cf_pa
  rw [e]
theorem cf_nq {h h' : sg_H} {a : Nat} (e : h'.2 a = h.2 a) : cf_n h' a = cf_n h a := by
  unfold cf_n
  rw [e]
/-- kept -/
theorem cf_kp {h h1 h2 h3 : sg_H} {B : Nat} (ho : cf_ho h B) (l6 : (cf_pa h B).length = 6) (e1 : cf_pa h1 B = (tt_b 6 (cf_rk (cf_pa h B) 0)).set 0 ((cf_pa h B).getD 5 0)) (f1 : ∀ q, q ≠ B + 17 → h1.2 q = h.2 q)
    (f2 : ∀ q, (q < (cf_pa h B).getD 5 0 + 3 ∨ (cf_pa h B).getD 5 0 + 15 ≤ q) → h2.2 q = h1.2 q) (e2 : cf_s h2 ((cf_pa h B).getD 5 0) = cf_s h1 (B + 1)) (f3 : ∀ q, q ≠ B + 16 → h3.2 q = h2.2 q) (e3 : cf_n h3 (B + 16) = if cf_n h (B + 16) < 6 then cf_n h (B + 16) + 1 else cf_n h (B + 16)) :
    cf_ho h3 B ∧ cf_p h3 B = (cf_s h (B + 1) :: cf_p h B).take 6 ∧ ∀ q, (q < B + 16 ∨ B + 108 ≤ q) → h3.2 q = h.2 q := by
  obtain ⟨a0, a1, a2, a3, a4, a5, eA⟩ := cf_six l6
  have hm : ∀ a, a ∈ cf_pa h B → a = B + 18 ∨ a = B + 33 ∨ a = B + 48 ∨ a = B + 63 ∨ a = B + 78 ∨ a = B + 93 := fun a ha => cf_in ho ha
  have hn := cf_nd ho
  have hp := ho.1
  obtain ⟨-, n0, n1⟩ := ho
  unfold cf_p
  rw [eA] at hm hn hp e1 f2 e2 ⊢
  have m0 := hm a0 (by simp)
  have m1 := hm a1 (by simp)
  have m2 := hm a2 (by simp)
  have m3 := hm a3 (by simp)
  have m4 := hm a4 (by simp)
  have m5 := hm a5 (by simp)
  simp only [List.nodup_cons, List.mem_cons, List.not_mem_nil, or_false, not_or] at hn
  replace e1 : cf_pa h1 B = [a5, a0, a1, a2, a3, a4] := e1
  replace f2 : ∀ q, (q < a5 + 3 ∨ a5 + 15 ≤ q) → h2.2 q = h1.2 q := f2
  replace e2 : cf_s h2 a5 = cf_s h1 (B + 1) := e2
  have b5 := cf_bd m5
  have sq : ∀ a, (a = B + 18 ∨ a = B + 33 ∨ a = B + 48 ∨ a = B + 63 ∨ a = B + 78 ∨ a = B + 93) → a ≠ a5 → cf_s h3 a = cf_s h a := fun a ha hne => by
    have fr := cf_far ha m5 hne
    have bd := cf_bd ha
    clear ha m0 m1 m2 m3 m4 m5 hm hn hne
    rw [cf_sq (h := h2) (fun q _ _ => f3 q (by omega)), cf_sq (h := h1) (fun q _ _ => f2 q (by omega)), cf_sq (h := h) (fun q _ _ => f1 q (by omega))]
  have s0 := sq a0 m0 hn.1.2.2.2.2
  have s1 := sq a1 m1 hn.2.1.2.2.2
  have s2 := sq a2 m2 hn.2.2.1.2.2
  have s3 := sq a3 m3 hn.2.2.2.1.2
  have s4 := sq a4 m4 hn.2.2.2.2.1
  clear sq m0 m1 m2 m3 m4 m5 hm hn
  have e17 : cf_pa h3 B = [a5, a0, a1, a2, a3, a4] := by
    rw [cf_pq (f3 _ (by omega)), cf_pq (f2 _ (by omega)), e1]
  have s5 : cf_s h3 a5 = cf_s h (B + 1) := by
    rw [cf_sq (h := h2) (fun q _ _ => f3 q (by omega)), e2, cf_sq (h := h) (fun q _ _ => f1 q (by omega))]
  refine ⟨⟨?_, by rw [e3]; split <;> omega, by rw [e3]; split <;> omega⟩, ?_, fun q hq => ?_⟩
  · rw [e17]
    refine List.Perm.trans ?_ hp
    exact (List.perm_append_singleton a5 [a0, a1, a2, a3, a4]).symm
  · rw [e17, e3]
    rcases (show cf_n h (B + 16) = 0 ∨ cf_n h (B + 16) = 1 ∨ cf_n h (B + 16) = 2 ∨ cf_n h (B + 16) = 3 ∨ cf_n h (B + 16) = 4 ∨ cf_n h (B + 16) = 5 ∨ cf_n h (B + 16) = 6 by omega) with c | c | c | c | c | c | c <;> rw [c] <;> simp [s5, s0, s1, s2, s3, s4]
  · rw [f3 q (by omega), f2 q (by omega), f1 q (by omega)]
/-- brought back -/
theorem cf_bb {h h1 h2 h3 : sg_H} {B : Nat} (ho : cf_ho h B) (hn0 : cf_n h (B + 16) ≠ 0) (l6 : (cf_pa h B).length = 6)
    (f1 : ∀ q, (q < B + 1 + 3 ∨ B + 1 + 15 ≤ q) → h1.2 q = h.2 q) (e1 : cf_s h1 (B + 1) = cf_s h ((cf_pa h B).getD 0 0)) (f2 : ∀ q, q ≠ B + 17 → h2.2 q = h1.2 q) (e2 : cf_pa h2 B = (tt_b 6 (cf_rb (cf_pa h B) 5)).set 5 ((cf_pa h B).getD 0 0)) (f3 : ∀ q, q ≠ B + 16 → h3.2 q = h2.2 q) (e3 : cf_n h3 (B + 16) = cf_n h (B + 16) - 1) :
    cf_ho h3 B ∧ (∃ S P, cf_p h B = S :: P ∧ cf_s h3 (B + 1) = S ∧ cf_p h3 B = P) ∧ ∀ q, (q < B + 4 ∨ (B + 16 ≠ q ∧ B + 17 ≠ q ∧ B + 16 ≤ q)) → h3.2 q = h.2 q := by
  obtain ⟨a0, a1, a2, a3, a4, a5, eA⟩ := cf_six l6
  have hm : ∀ a, a ∈ cf_pa h B → a = B + 18 ∨ a = B + 33 ∨ a = B + 48 ∨ a = B + 63 ∨ a = B + 78 ∨ a = B + 93 := fun a ha => cf_in ho ha
  have hp := ho.1
  obtain ⟨-, n0, n1⟩ := ho
  unfold cf_p
  rw [eA] at hm hp e1 e2 ⊢
  have m0 := hm a0 (by simp)
  have m1 := hm a1 (by simp)
  have m2 := hm a2 (by simp)
  have m3 := hm a3 (by simp)
  have m4 := hm a4 (by simp)
  have m5 := hm a5 (by simp)
  replace e1 : cf_s h1 (B + 1) = cf_s h a0 := e1
  replace e2 : cf_pa h2 B = [a1, a2, a3, a4, a5, a0] := e2
  have e17 : cf_pa h3 B = [a1, a2, a3, a4, a5, a0] := by
    clear m0 m1 m2 m3 m4 m5 hm
    rw [cf_pq (f3 _ (by omega)), e2]
  have sb : cf_s h3 (B + 1) = cf_s h a0 := by
    clear m0 m1 m2 m3 m4 m5 hm
    rw [cf_sq (h := h2) (fun q _ _ => f3 q (by omega)), cf_sq (h := h1) (fun q _ _ => f2 q (by omega)), e1]
  have sq : ∀ a, (a = B + 18 ∨ a = B + 33 ∨ a = B + 48 ∨ a = B + 63 ∨ a = B + 78 ∨ a = B + 93) → cf_s h3 a = cf_s h a := fun a ha => by
    have bd := cf_bd ha
    clear ha m0 m1 m2 m3 m4 m5 hm
    rw [cf_sq (h := h2) (fun q _ _ => f3 q (by omega)), cf_sq (h := h1) (fun q _ _ => f2 q (by omega)), cf_sq (h := h) (fun q _ _ => f1 q (by omega))]
  have s1 := sq a1 m1
  have s2 := sq a2 m2
  have s3 := sq a3 m3
  have s4 := sq a4 m4
  have s5 := sq a5 m5
  clear sq m0 m1 m2 m3 m4 m5 hm
  refine ⟨⟨?_, by rw [e3]; omega, by rw [e3]; omega⟩, ?_, fun q hq => ?_⟩
  · rw [e17]
    refine List.Perm.trans ?_ hp
    exact List.perm_append_singleton a0 [a1, a2, a3, a4, a5]
  · rw [e17, e3]
    rcases (show cf_n h (B + 16) = 1 ∨ cf_n h (B + 16) = 2 ∨ cf_n h (B + 16) = 3 ∨ cf_n h (B + 16) = 4 ∨ cf_n h (B + 16) = 5 ∨ cf_n h (B + 16) = 6 by omega) with c | c | c | c | c | c <;> rw [c] <;> exact ⟨_, _, rfl, sb, by simp [s1, s2, s3, s4, s5]⟩
  · rw [f3 q (by omega), f2 q (by omega), f1 q (by omega)]
set_option maxRecDepth 100000 in
theorem f_X3_become {w : sg_W} {Q : sg_O → sg_H → Prop} {h : sg_H} (g : sg_G w) {d : Nat} (hd : 4 ≤ d) {B a b : Nat} (hx : ck_X h B) (hs : ck_S B a) (hs2 : ck_S B b) (ap : a + 15 ≤ b ∨ b + 15 ≤ a) (hQ : ∀ h' : sg_H, ck_X h' B → ck_F B h h' → (∀ q, (q < a + 3 ∨ a + 15 ≤ q) → h'.2 q = h.2 q) → cf_s h' a = cf_s h b → Q (.inl none) h') : sg_C w mi_X3_become d 0 0 [sg_r a, sg_r b] h Q := by
  refine sg_of pn_X3 (Nat.le_of_ble_eq_true rfl) ?_
  refine sg_iconst (pc := 0) (z := 0) (dc_X3_become_0.1.1.1.1) (by decide) ?_
  refine sg_istore_n (pc := 1) (j := 2) (dc_X3_become_0.1.1.1.2) rfl (by decide) ?_
  have loop2 : ∀ (N : Nat) (h1 : sg_H) (p : Int), (ck_X h1 B) → (ck_F B h h1) → (0 ≤ p ∧ p ≤ 4) → (∀ q, (q < a + 3 ∨ a + 3 + 2 * (p.toNat) ≤ q) → h1.2 q = h.2 q) → (∀ j, j < p.toNat → cf_l h1 (a + 3 + 2 * j) = cf_l h (b + 3 + 2 * j)) → (4 - p).toNat < N → sg_R w mi_X3_become d 0 0 Q 2 [(2, sg_i p), (0, sg_r a), (1, sg_r b)] [] h1 0 0 := by
    intro N
    induction N with
    | zero => intro h1 p x1 F1 p0 fr ct hm; exact absurd hm (Nat.not_lt_zero _)
    | succ N ih =>
      intro h1 p x1 F1 p0 fr ct hm
      obtain ⟨hS0, hS1, hS2⟩ := ck_sl x1 hs
      obtain ⟨hT0, hT1, hT2⟩ := ck_sl x1 hs2
      have y1 : ck_Y h h1 B := ⟨x1, F1⟩
      refine sg_iload_n (pc := 2) (j := 2) (dc_X3_become_0.1.1.2.1) rfl rfl ?_
      refine sg_iconst (pc := 3) (z := 4) (dc_X3_become_0.1.1.2.2) (by decide) ?_
      refine sg_icmp_ge (pc := 4) (tgt := 28) (dc_X3_become_0.1.2.1.1) (by decide) (fun c4 => ?_) (fun c4 => ?_)
      · refine sg_iconst (pc := 28) (z := 0) (dc_X3_become_28.1.1.1.1) (by decide) ?_
        refine sg_istore_n (pc := 29) (j := 2) (dc_X3_become_28.1.1.1.2) rfl (by decide) ?_
        have loop30 : ∀ (N : Nat) (h1 : sg_H) (p : Int), (ck_X h1 B) → (ck_F B h h1) → (0 ≤ p ∧ p ≤ 2) → (∀ q, (q < a + 3 ∨ a + 3 + 2 * (4 + p.toNat) ≤ q) → h1.2 q = h.2 q) → (∀ j, j < 4 + p.toNat → cf_l h1 (a + 3 + 2 * j) = cf_l h (b + 3 + 2 * j)) → (2 - p).toNat < N → sg_R w mi_X3_become d 0 0 Q 30 [(2, sg_i p), (0, sg_r a), (1, sg_r b)] [] h1 0 0 := by
          intro N
          induction N with
          | zero => intro h1 p x1 F1 p0 fr ct hm; exact absurd hm (Nat.not_lt_zero _)
          | succ N ih =>
            intro h1 p x1 F1 p0 fr ct hm
            obtain ⟨hS0, hS1, hS2⟩ := ck_sl x1 hs
            obtain ⟨hT0, hT1, hT2⟩ := ck_sl x1 hs2
            have y1 : ck_Y h h1 B := ⟨x1, F1⟩
            refine sg_iload_n (pc := 30) (j := 2) (dc_X3_become_28.1.1.2.1) rfl rfl ?_
            refine sg_iconst (pc := 31) (z := 2) (dc_X3_become_28.1.1.2.2) (by decide) ?_
            refine sg_icmp_ge (pc := 32) (tgt := 56) (dc_X3_become_28.1.2.1.1) (by decide) (fun c32 => ?_) (fun c32 => ?_)
            · refine sg_vret (pc := 56) dc_X3_become_56 rfl (by first | exact Nat.le_of_ble_eq_true rfl | omega) (by first | exact Nat.le_of_ble_eq_true rfl | omega) ?_
              exact hQ _ x1 F1 (fun q hq => fr q (by omega)) (cf_be (fun j hj => ct j (by omega)))
            · refine sg_aload_n (pc := 35) (j := 0) (dc_X3_become_28.1.2.1.2) rfl rfl ?_
              refine sg_getf (pc := 36) g (dc_X3_become_28.1.2.2.1) fk_X3_17 hS0 rfl rfl ?_
              refine sg_iload_n (pc := 39) (j := 2) (dc_X3_become_28.1.2.2.2) rfl rfl ?_
              obtain ⟨e40, l40⟩ := cf_trk (p := p) hs (by omega) (by omega)
              refine sg_aald (pc := 40) (dc_X3_become_28.2.1.1.1) hS2 (by decide) (by omega) e40 ?_
              refine sg_aload_n (pc := 41) (j := 1) (dc_X3_become_28.2.1.1.2) rfl rfl ?_
              refine sg_getf (pc := 42) g (dc_X3_become_28.2.1.2.1) fk_X3_17 hT0 rfl rfl ?_
              refine sg_iload_n (pc := 45) (j := 2) (dc_X3_become_28.2.1.2.2) rfl rfl ?_
              obtain ⟨e46, l46⟩ := cf_trk (p := p) hs2 (by omega) (by omega)
              refine sg_aald (pc := 46) (dc_X3_become_28.2.2.1.1) hT2 (by decide) (by omega) e46 ?_
              refine sg_cE1 (pc := 47) (d' := d - 1) (mc' := 0) (ms' := 0) 3 g (dc_X3_become_28.2.2.1.2) cb_X0_become ml_X3_27 mn_X0_become rfl mv_X0_become (Nat.le_of_ble_eq_true rfl) (ck_lc (by assumption) (by first | assumption | exact ck_rev)) (Nat.le_of_ble_eq_true rfl) (by first | exact jl_d0 hd rfl | omega) (by first | exact Nat.le_of_ble_eq_true rfl | omega) (by first | exact Nat.le_of_ble_eq_true rfl | omega) ?_
              refine f_X0_become g (by first | exact jl_d1 hd rfl | omega) x1 l40 l46 (by unfold cf_ap; omega) (fun h47 x47 f47 l47 => sg_K0 ?_)
              first | refine sg_iincB (pc := 50) (dc_X3_become_28.2.2.2.1) rfl (by decide) (by decide) (by omega) (by omega) ?_ | refine sg_iinc (pc := 50) (dc_X3_become_28.2.2.2.1) rfl (by decide) (by decide) ?_
              refine sg_goto (pc := 53) (tgt := 30) (dc_X3_become_28.2.2.2.2) (by decide) ?_
              refine sg_lsub (lv' := [(2, _), (0, _), (1, _)]) ⟨rfl, rfl, rfl, trivial⟩ ?_
              exact ih _ _ x47 (ck_Ft F1 f47.1) (by omega) (by have q := (cf_bs (by omega) ap fr ct f47 l47).1; rw [show (p + 1).toNat = p.toNat + 1 by omega]; exact q) (by have q := (cf_bs (by omega) ap fr ct f47 l47).2; rw [show (p + 1).toNat = p.toNat + 1 by omega]; exact q) (by first | exact jl_m1 hm (by omega) | exact jl_m2 hm (by omega) | omega)
        refine sg_lsub (lv' := [(2, _), (0, _), (1, _)]) ⟨rfl, rfl, rfl, trivial⟩ ?_
        exact loop30 _ _ _ x1 F1 (by omega) (fun q hq => fr q (by omega)) (fun j hj => ct j (by omega)) (Nat.lt_succ_self _)
      · refine sg_aload_n (pc := 7) (j := 0) (dc_X3_become_0.1.2.1.2) rfl rfl ?_
        refine sg_getf (pc := 8) g (dc_X3_become_0.1.2.2.1) fk_X3_11 hS0 rfl rfl ?_
        refine sg_iload_n (pc := 11) (j := 2) (dc_X3_become_0.1.2.2.2) rfl rfl ?_
        obtain ⟨e12, l12⟩ := cf_row (p := p) hs (by omega) (by omega)
        refine sg_aald (pc := 12) (dc_X3_become_0.2.1.1.1) hS1 (by decide) (by omega) e12 ?_
        refine sg_aload_n (pc := 13) (j := 1) (dc_X3_become_0.2.1.1.2) rfl rfl ?_
        refine sg_getf (pc := 14) g (dc_X3_become_0.2.1.2.1) fk_X3_11 hT0 rfl rfl ?_
        refine sg_iload_n (pc := 17) (j := 2) (dc_X3_become_0.2.1.2.2) rfl rfl ?_
        obtain ⟨e18, l18⟩ := cf_row (p := p) hs2 (by omega) (by omega)
        refine sg_aald (pc := 18) (dc_X3_become_0.2.2.1.1) hT1 (by decide) (by omega) e18 ?_
        refine sg_cE1 (pc := 19) (d' := d - 1) (mc' := 0) (ms' := 0) 3 g (dc_X3_become_0.2.2.1.2) cb_X0_become ml_X3_27 mn_X0_become rfl mv_X0_become (Nat.le_of_ble_eq_true rfl) (ck_lc (by assumption) (by first | assumption | exact ck_rev)) (Nat.le_of_ble_eq_true rfl) (by first | exact jl_d0 hd rfl | omega) (by first | exact Nat.le_of_ble_eq_true rfl | omega) (by first | exact Nat.le_of_ble_eq_true rfl | omega) ?_
        refine f_X0_become g (by first | exact jl_d1 hd rfl | omega) x1 l12 l18 (by unfold cf_ap; omega) (fun h19 x19 f19 l19 => sg_K0 ?_)
        first | refine sg_iincB (pc := 22) (dc_X3_become_0.2.2.2.1) rfl (by decide) (by decide) (by omega) (by omega) ?_ | refine sg_iinc (pc := 22) (dc_X3_become_0.2.2.2.1) rfl (by decide) (by decide) ?_
        refine sg_goto (pc := 25) (tgt := 2) (dc_X3_become_0.2.2.2.2) (by decide) ?_
        refine sg_lsub (lv' := [(2, _), (0, _), (1, _)]) ⟨rfl, rfl, rfl, trivial⟩ ?_
        exact ih _ _ x19 (ck_Ft F1 f19.1) (by omega) (by have q := (cf_bs (by omega) ap fr ct f19 l19).1; rw [show (p + 1).toNat = p.toNat + 1 by omega]; exact q) (by have q := (cf_bs (by omega) ap fr ct f19 l19).2; rw [show (p + 1).toNat = p.toNat + 1 by omega]; exact q) (by first | exact jl_m1 hm (by omega) | exact jl_m2 hm (by omega) | omega)
  refine sg_lsub (lv' := [(2, _), (0, _), (1, _)]) ⟨rfl, rfl, rfl, trivial⟩ ?_
  exact loop2 _ _ _ hx ck_F0 (by omega) (fun _ _ => rfl) (fun j hj => absurd hj (by simp)) (Nat.lt_succ_self _)

/-- how many numbers the first m Lines of a State hold -/
def cf_hm (h : sg_H) (s : Nat) : Nat → Int
  | 0 => 0
  | m + 1 => cf_hm h s m + ((cf_l h (s + 3 + 2 * m)).length : Int)
def cf_ht (h : sg_H) (s : Nat) : Nat → Int
  | 0 => 0
  | m + 1 => cf_ht h s m + ((cf_l h (s + 3 + 2 * (4 + m))).length : Int)

set_option maxRecDepth 100000 in
theorem f_X3_howManySigns {w : sg_W} {Q : sg_O → sg_H → Prop} {h : sg_H} (g : sg_G w) {d : Nat} (hd : 2 ≤ d) {B a : Nat} (hx : ck_X h B) (hs : ck_S B a) (hQ : ∀ z : Int, z = cf_hm h a 4 → Q (.inl (some (sg_i z))) h) : sg_C w mi_X3_howManySigns d 0 0 [sg_r a] h Q := by
  refine sg_of pn_X3 (Nat.le_of_ble_eq_true rfl) ?_
  obtain ⟨hS0, hS1, hS2⟩ := ck_sl hx hs
  have c40a : ck_cap 0 = 40 := rfl
  have c40b : ck_cap 1 = 24 := rfl
  refine sg_iconst (pc := 0) (z := 0) (dc_X3_howManySigns_0.1.1.1.1) (by decide) ?_
  refine sg_istore_n (pc := 1) (j := 1) (dc_X3_howManySigns_0.1.1.1.2) rfl (by decide) ?_
  refine sg_iconst (pc := 2) (z := 0) (dc_X3_howManySigns_0.1.1.2.1) (by decide) ?_
  refine sg_istore_n (pc := 3) (j := 2) (dc_X3_howManySigns_0.1.1.2.2) rfl (by decide) ?_
  have loop4 : ∀ (N : Nat) (p s : Int), (0 ≤ p ∧ p ≤ 4) → (s = cf_hm h a p.toNat) → (0 ≤ s ∧ s ≤ 40 * p) → (4 - p).toNat < N → sg_R w mi_X3_howManySigns d 0 0 Q 4 [(2, sg_i p), (1, sg_i s), (0, sg_r a)] [] h 0 0 := by
    intro N
    induction N with
    | zero => intro p s p0 s0 s1 hm; exact absurd hm (Nat.not_lt_zero _)
    | succ N ih =>
      intro p s p0 s0 s1 hm
      refine sg_iload_n (pc := 4) (j := 2) (dc_X3_howManySigns_0.1.2.1.1) rfl rfl ?_
      refine sg_iconst (pc := 5) (z := 4) (dc_X3_howManySigns_0.1.2.1.2) (by decide) ?_
      refine sg_icmp_ge (pc := 6) (tgt := 27) (dc_X3_howManySigns_0.1.2.2.1) (by decide) (fun c6 => ?_) (fun c6 => ?_)
      · refine sg_iload_n (pc := 27) (j := 1) (dc_X3_howManySigns_24.1.2) rfl rfl ?_
        refine sg_iret (pc := 28) (dc_X3_howManySigns_24.2.1) rfl (by first | exact Nat.le_of_ble_eq_true rfl | omega) (by first | exact Nat.le_of_ble_eq_true rfl | omega) ?_
        exact hQ _ (by rw [s0, show p.toNat = 4 by omega])
      · refine sg_iload_n (pc := 9) (j := 1) (dc_X3_howManySigns_0.1.2.2.2) rfl rfl ?_
        refine sg_aload_n (pc := 10) (j := 0) (dc_X3_howManySigns_0.2.1.1.1) rfl rfl ?_
        refine sg_getf (pc := 11) g (dc_X3_howManySigns_0.2.1.1.2) fk_X3_11 hS0 rfl rfl ?_
        refine sg_iload_n (pc := 14) (j := 2) (dc_X3_howManySigns_0.2.1.2.1) rfl rfl ?_
        obtain ⟨e15, l15⟩ := cf_row (p := p) hs (by omega) (by omega)
        refine sg_aald (pc := 15) (dc_X3_howManySigns_0.2.1.2.2) hS1 (by decide) (by omega) e15 ?_
        refine sg_cE0 (pc := 16) (d' := d - 1) (mc' := 0) (ms' := 0) 3 g (dc_X3_howManySigns_0.2.2.1.1) cb_X0_size ml_X3_23 mn_X0_size rfl mv_X0_size (Nat.le_of_ble_eq_true rfl) (ck_lc (by assumption) (by first | assumption | exact ck_rev)) (Nat.le_of_ble_eq_true rfl) (by first | exact jl_d0 hd rfl | omega) (by first | exact Nat.le_of_ble_eq_true rfl | omega) (by first | exact Nat.le_of_ble_eq_true rfl | omega) ?_
        refine f_X0_size g (by first | exact jl_d1 hd rfl | omega) (by assumption) (by first | assumption | exact ck_rev) (fun z16 e16 l16 u16 => sg_K1 ?_)
        first | refine sg_iaddB (pc := 19) (dc_X3_howManySigns_0.2.2.1.2) (by omega) (by omega) ?_ | refine sg_iadd (pc := 19) (dc_X3_howManySigns_0.2.2.1.2) ?_
        refine sg_istore_n (pc := 20) (j := 1) (dc_X3_howManySigns_0.2.2.2.1) rfl (by decide) ?_
        first | refine sg_iincB (pc := 21) (dc_X3_howManySigns_0.2.2.2.2) rfl (by decide) (by decide) (by omega) (by omega) ?_ | refine sg_iinc (pc := 21) (dc_X3_howManySigns_0.2.2.2.2) rfl (by decide) (by decide) ?_
        refine sg_goto (pc := 24) (tgt := 4) (dc_X3_howManySigns_24.1.1) (by decide) ?_
        refine sg_lsub (lv' := [(2, _), (1, _), (0, _)]) ⟨rfl, rfl, rfl, trivial⟩ ?_
        exact ih _ _ (by omega) (by rw [show (p + 1).toNat = p.toNat + 1 by omega]; show _ = cf_hm h a p.toNat + _; rw [← s0, e16]) (by omega) (by first | exact jl_m1 hm (by omega) | exact jl_m2 hm (by omega) | omega)
  refine sg_lsub (lv' := [(2, _), (1, _), (0, _)]) ⟨rfl, rfl, rfl, trivial⟩ ?_
  exact loop4 _ _ _ (by omega) rfl (by omega) (Nat.lt_succ_self _)

set_option maxRecDepth 100000 in
theorem f_X3_howManyUnits {w : sg_W} {Q : sg_O → sg_H → Prop} {h : sg_H} (g : sg_G w) {d : Nat} (hd : 2 ≤ d) {B a : Nat} (hx : ck_X h B) (hs : ck_S B a) (hQ : ∀ z : Int, z = cf_ht h a 2 → Q (.inl (some (sg_i z))) h) : sg_C w mi_X3_howManyUnits d 0 0 [sg_r a] h Q := by
  refine sg_of pn_X3 (Nat.le_of_ble_eq_true rfl) ?_
  obtain ⟨hS0, hS1, hS2⟩ := ck_sl hx hs
  have c40a : ck_cap 0 = 40 := rfl
  have c40b : ck_cap 1 = 24 := rfl
  refine sg_iconst (pc := 0) (z := 0) (dc_X3_howManyUnits_0.1.1.1.1) (by decide) ?_
  refine sg_istore_n (pc := 1) (j := 1) (dc_X3_howManyUnits_0.1.1.1.2) rfl (by decide) ?_
  refine sg_iconst (pc := 2) (z := 0) (dc_X3_howManyUnits_0.1.1.2.1) (by decide) ?_
  refine sg_istore_n (pc := 3) (j := 2) (dc_X3_howManyUnits_0.1.1.2.2) rfl (by decide) ?_
  have loop4 : ∀ (N : Nat) (p s : Int), (0 ≤ p ∧ p ≤ 2) → (s = cf_ht h a p.toNat) → (0 ≤ s ∧ s ≤ 40 * p) → (2 - p).toNat < N → sg_R w mi_X3_howManyUnits d 0 0 Q 4 [(2, sg_i p), (1, sg_i s), (0, sg_r a)] [] h 0 0 := by
    intro N
    induction N with
    | zero => intro p s p0 s0 s1 hm; exact absurd hm (Nat.not_lt_zero _)
    | succ N ih =>
      intro p s p0 s0 s1 hm
      refine sg_iload_n (pc := 4) (j := 2) (dc_X3_howManyUnits_0.1.2.1.1) rfl rfl ?_
      refine sg_iconst (pc := 5) (z := 2) (dc_X3_howManyUnits_0.1.2.1.2) (by decide) ?_
      refine sg_icmp_ge (pc := 6) (tgt := 27) (dc_X3_howManyUnits_0.1.2.2.1) (by decide) (fun c6 => ?_) (fun c6 => ?_)
      · refine sg_iload_n (pc := 27) (j := 1) (dc_X3_howManyUnits_24.1.2) rfl rfl ?_
        refine sg_iret (pc := 28) (dc_X3_howManyUnits_24.2.1) rfl (by first | exact Nat.le_of_ble_eq_true rfl | omega) (by first | exact Nat.le_of_ble_eq_true rfl | omega) ?_
        exact hQ _ (by rw [s0, show p.toNat = 2 by omega])
      · refine sg_iload_n (pc := 9) (j := 1) (dc_X3_howManyUnits_0.1.2.2.2) rfl rfl ?_
        refine sg_aload_n (pc := 10) (j := 0) (dc_X3_howManyUnits_0.2.1.1.1) rfl rfl ?_
        refine sg_getf (pc := 11) g (dc_X3_howManyUnits_0.2.1.1.2) fk_X3_17 hS0 rfl rfl ?_
        refine sg_iload_n (pc := 14) (j := 2) (dc_X3_howManyUnits_0.2.1.2.1) rfl rfl ?_
        obtain ⟨e15, l15⟩ := cf_trk (p := p) hs (by omega) (by omega)
        refine sg_aald (pc := 15) (dc_X3_howManyUnits_0.2.1.2.2) hS2 (by decide) (by omega) e15 ?_
        refine sg_cE0 (pc := 16) (d' := d - 1) (mc' := 0) (ms' := 0) 3 g (dc_X3_howManyUnits_0.2.2.1.1) cb_X0_size ml_X3_23 mn_X0_size rfl mv_X0_size (Nat.le_of_ble_eq_true rfl) (ck_lc (by assumption) (by first | assumption | exact ck_rev)) (Nat.le_of_ble_eq_true rfl) (by first | exact jl_d0 hd rfl | omega) (by first | exact Nat.le_of_ble_eq_true rfl | omega) (by first | exact Nat.le_of_ble_eq_true rfl | omega) ?_
        refine f_X0_size g (by first | exact jl_d1 hd rfl | omega) (by assumption) (by first | assumption | exact ck_rev) (fun z16 e16 l16 u16 => sg_K1 ?_)
        first | refine sg_iaddB (pc := 19) (dc_X3_howManyUnits_0.2.2.1.2) (by omega) (by omega) ?_ | refine sg_iadd (pc := 19) (dc_X3_howManyUnits_0.2.2.1.2) ?_
        refine sg_istore_n (pc := 20) (j := 1) (dc_X3_howManyUnits_0.2.2.2.1) rfl (by decide) ?_
        first | refine sg_iincB (pc := 21) (dc_X3_howManyUnits_0.2.2.2.2) rfl (by decide) (by decide) (by omega) (by omega) ?_ | refine sg_iinc (pc := 21) (dc_X3_howManyUnits_0.2.2.2.2) rfl (by decide) (by decide) ?_
        refine sg_goto (pc := 24) (tgt := 4) (dc_X3_howManyUnits_24.1.1) (by decide) ?_
        refine sg_lsub (lv' := [(2, _), (1, _), (0, _)]) ⟨rfl, rfl, rfl, trivial⟩ ?_
        exact ih _ _ (by omega) (by rw [show (p + 1).toNat = p.toNat + 1 by omega]; show _ = cf_ht h a p.toNat + _; rw [← s0, e16]) (by omega) (by first | exact jl_m1 hm (by omega) | exact jl_m2 hm (by omega) | omega)
  refine sg_lsub (lv' := [(2, _), (1, _), (0, _)]) ⟨rfl, rfl, rfl, trivial⟩ ?_
  exact loop4 _ _ _ (by omega) rfl (by omega) (Nat.lt_succ_self _)

set_option maxRecDepth 100000 in
theorem f_X1_size {w : sg_W} {Q : sg_O → sg_H → Prop} {h : sg_H} (g : sg_G w) {d : Nat} (hd : 1 ≤ d) {B : Nat} (hx : ck_X h B) (hQ : Q (.inl (some (sg_i (cf_n h (B + 16))))) h) : sg_C w mi_X1_size d 0 0 [sg_r (B + 16)] h Q := by
  refine sg_of pn_X1 (Nat.le_of_ble_eq_true rfl) ?_
  obtain ⟨hP, hV, hL⟩ := cf_ps hx
  refine sg_aload_n (pc := 0) (j := 0) (dc_X1_size_0.1.1) rfl rfl ?_
  refine sg_getf (pc := 1) g (dc_X1_size_0.1.2) fk_X1_18 hP rfl rfl ?_
  refine sg_iret (pc := 4) (dc_X1_size_0.2.1) rfl (by first | exact Nat.le_of_ble_eq_true rfl | omega) (by first | exact Nat.le_of_ble_eq_true rfl | omega) ?_
  exact hQ

theorem cf_gv {A : List Nat} {j : Nat} (h : j < A.length) : (A.map sg_r)[j]? = some (sg_r (A.getD j 0)) := by
  rw [List.getElem?_map, List.getElem?_eq_getElem h, gd_in h]
  rfl
theorem cf_Sg {h : sg_H} {B j : Nat} (ho : cf_ho h B) (hj : j < (cf_pa h B).length) : ck_S B ((cf_pa h B).getD j 0) ∧ B + 18 ≤ (cf_pa h B).getD j 0 ∧ (cf_pa h B).getD j 0 ≤ B + 93 := by
  have x := cf_in ho (gd_mem (d := 0) hj)
  exact ⟨cf_S6 x, by omega, by omega⟩

theorem cf_r1 {A L L2 : List Nat} {k : Int} (hL : A.length = 6) (k0 : 0 < k) (k5 : k ≤ 5) (e : L = tt_b 6 (cf_rk A k)) (e2 : L2 = L.set k.toNat (L.getD (k - 1).toNat 0)) : L2 = tt_b 6 (cf_rk A (k + -1)) := by
  have l6 : L.length = 6 := by rw [e, tt_len]
  refine tt_eq 0 (by rw [e2, List.length_set, l6]) (fun j hj => ?_)
  rw [e2, gd_set (by omega), e, tt_get (by omega), tt_get hj]
  unfold cf_rk
  by_cases c : j = k.toNat
  · rw [if_pos c, if_neg (by omega), if_pos (by omega)]
    congr 1
    omega
  · rw [if_neg c]
    by_cases c2 : k < (j : Int)
    · rw [if_pos c2, if_pos (by omega)]
    · rw [if_neg c2, if_neg (by omega)]
theorem cf_r2 {A L L2 : List Nat} {k : Int} (hL : A.length = 6) (k0 : 0 ≤ k) (k5 : k < 5) (e : L = tt_b 6 (cf_rb A k)) (e2 : L2 = L.set k.toNat (L.getD (k + 1).toNat 0)) : L2 = tt_b 6 (cf_rb A (k + 1)) := by
  have l6 : L.length = 6 := by rw [e, tt_len]
  refine tt_eq 0 (by rw [e2, List.length_set, l6]) (fun j hj => ?_)
  rw [e2, gd_set (by omega), e, tt_get (by omega), tt_get hj]
  unfold cf_rb
  by_cases c : j = k.toNat
  · rw [if_pos c, if_neg (by omega), if_pos (by omega)]
    congr 1
    omega
  · rw [if_neg c]
    by_cases c2 : (j : Int) < k
    · rw [if_pos c2, if_pos (by omega)]
    · rw [if_neg c2, if_neg (by omega)]

set_option maxRecDepth 100000 in
theorem f_X1_keep {w : sg_W} {Q : sg_O → sg_H → Prop} {h : sg_H} (g : sg_G w) {d : Nat} (hd : 5 ≤ d) {B : Nat} (hx : ck_X h B) (ho : cf_ho h B) (hQ : ∀ h' : sg_H, ck_X h' B → ck_F B h h' → (∀ q, (q < B + 16 ∨ B + 108 ≤ q) → h'.2 q = h.2 q) → cf_ho h' B → cf_p h' B = (cf_s h (B + 1) :: cf_p h B).take 6 → Q (.inl none) h') : sg_C w mi_X1_keep d 0 0 [sg_r (B + 16), sg_r (B + 1)] h Q := by
  refine sg_of pn_X1 (Nat.le_of_ble_eq_true rfl) ?_
  obtain ⟨hP, hV, hL⟩ := cf_ps hx
  obtain ⟨-, hm0, hm6⟩ := id ho
  refine sg_aload_n (pc := 0) (j := 0) (dc_X1_keep_0.1.1.1.1) rfl rfl ?_
  refine sg_getf (pc := 1) g (dc_X1_keep_0.1.1.1.2) fk_X1_11 hP rfl rfl ?_
  refine sg_iconst (pc := 4) (z := 5) (dc_X1_keep_0.1.1.2.1) (by decide) ?_
  refine sg_aald (v := sg_r ((cf_pa h B).getD 5 0)) (pc := 5) (dc_X1_keep_0.1.1.2.2) hV (by decide) (by omega) (cf_gv (by omega)) ?_
  refine sg_astore_n (pc := 6) (j := 2) (dc_X1_keep_0.1.2.1.1) rfl (by decide) ?_
  refine sg_iconst (pc := 7) (z := 5) (dc_X1_keep_0.1.2.1.2) (by decide) ?_
  refine sg_istore_n (pc := 8) (j := 3) (dc_X1_keep_0.1.2.2.1) rfl (by decide) ?_
  have loop9 : ∀ (N : Nat) (h1 : sg_H) (k : Int), (ck_X h1 B) → (ck_F B h h1) → (∀ q, q ≠ B + 17 → h1.2 q = h.2 q) → (0 ≤ k ∧ k ≤ 5) → (cf_pa h1 B = tt_b 6 (cf_rk (cf_pa h B) k)) → k.toNat < N → sg_R w mi_X1_keep d 0 0 Q 9 [(3, sg_i k), (2, sg_r ((cf_pa h B).getD 5 0)), (0, sg_r (B + 16)), (1, sg_r (B + 1))] [] h1 0 0 := by
    intro N
    induction N with
    | zero => intro h1 k x1 F1 f1 k0 e1 hm; exact absurd hm (Nat.not_lt_zero _)
    | succ N ih =>
      intro h1 k x1 F1 f1 k0 e1 hm
      obtain ⟨hP1, hV1, hL1⟩ := cf_ps x1
      refine sg_iload_n (pc := 9) (j := 3) (dc_X1_keep_0.1.2.2.2) rfl rfl ?_
      refine sg_if_le (pc := 10) (tgt := 33) (dc_X1_keep_0.2.1.1.1) (by decide) (fun c10 => ?_) (fun c10 => ?_)
      · refine sg_aload_n (pc := 33) (j := 0) (dc_X1_keep_24.1.2.1.2) rfl rfl ?_
        refine sg_getf (pc := 34) g (dc_X1_keep_24.1.2.2.1) fk_X1_11 hP1 rfl rfl ?_
        refine sg_iconst (pc := 37) (z := 0) (dc_X1_keep_24.1.2.2.2) (by decide) ?_
        refine sg_aload_n (pc := 38) (j := 2) (dc_X1_keep_24.2.1.1.1) rfl rfl ?_
        refine cf_pst (pc := 39) g (dc_X1_keep_24.2.1.1.2) x1 (cf_Sg (j := 5) ho (by omega)).1 (by omega) (by omega) (fun h39 x39 F39 f39 a39 => ?_)
        refine sg_aload_n (pc := 40) (j := 2) (dc_X1_keep_24.2.1.2.1) rfl rfl ?_
        refine sg_aload_n (pc := 41) (j := 1) (dc_X1_keep_24.2.1.2.2) rfl rfl ?_
        obtain ⟨hS5, hl5, hu5⟩ := cf_Sg (j := 5) ho (by omega)
        have x42' := x39
        refine sg_cE1 (pc := 42) (d' := d - 1) (mc' := 0) (ms' := 0) 5 g (dc_X1_keep_24.2.2.1.1) cb_X3_become ml_X1_22 mn_X3_become rfl mv_X3_become (Nat.le_of_ble_eq_true rfl) (ck_sc x39 hS5) (Nat.le_of_ble_eq_true rfl) (by first | exact jl_d0 hd rfl | omega) (by first | exact Nat.le_of_ble_eq_true rfl | omega) (by first | exact Nat.le_of_ble_eq_true rfl | omega) ?_
        refine f_X3_become g (by first | exact jl_d1 hd rfl | omega) x39 hS5 ck_now (by omega) (fun h42 x42 F42 f42 e42 => sg_K0 ?_)
        obtain ⟨hP2, hV2, hL2⟩ := cf_ps x42
        have n42 : cf_n h42 (B + 16) = cf_n h (B + 16) := by rw [cf_nq (f42 _ (by omega)), cf_nq (f39 _ (by omega)), cf_nq (f1 _ (by omega))]
        have f139 : ∀ q, q ≠ B + 17 → h39.2 q = h.2 q := fun q hq => (f39 q hq).trans (f1 q hq)
        rw [e1, show k = 0 by omega] at a39
        refine sg_aload_n (pc := 45) (j := 0) (dc_X1_keep_24.2.2.1.2) rfl rfl ?_
        refine sg_getf (pc := 46) g (dc_X1_keep_24.2.2.2.1) fk_X1_18 hP2 rfl rfl ?_
        refine sg_bipush (pc := 49) (z := 6) (dc_X1_keep_24.2.2.2.2) (by decide) ?_
        refine sg_icmp_ge (pc := 51) (tgt := 64) (dc_X1_keep_51.1.1.1) (by decide) (fun c51 => ?_) (fun c51 => ?_)
        · refine sg_vret (pc := 64) (dc_X1_keep_51.2.2.2) rfl (by first | exact Nat.le_of_ble_eq_true rfl | omega) (by first | exact Nat.le_of_ble_eq_true rfl | omega) ?_
          first
            | (have K := cf_kp ho hL a39 f139 f42 e42 f61 (by rw [n61, n42, if_pos (by omega)])
               exact hQ _ x61 (ck_Ft (ck_Ft F1 (ck_Ft F39 F42)) F61) K.2.2 K.1 K.2.1)
            | (have K := cf_kp ho hL a39 f139 f42 e42 (fun _ _ => rfl) (by rw [n42, if_neg (by omega)])
               exact hQ _ x42 (ck_Ft F1 (ck_Ft F39 F42)) K.2.2 K.1 K.2.1)
        · refine sg_aload_n (pc := 54) (j := 0) (dc_X1_keep_51.1.1.2) rfl rfl ?_
          refine sg_dup (pc := 55) (dc_X1_keep_51.1.2.1) rfl ?_
          refine sg_getf (pc := 56) g (dc_X1_keep_51.1.2.2) fk_X1_18 hP2 rfl rfl ?_
          refine sg_iconst (pc := 59) (z := 1) (dc_X1_keep_51.2.1.1) (by decide) ?_
          first | refine sg_iaddB (pc := 60) (dc_X1_keep_51.2.1.2) (by omega) (by omega) ?_ | refine sg_iadd (pc := 60) (dc_X1_keep_51.2.1.2) ?_
          refine cf_pps (pc := 61) g (dc_X1_keep_51.2.2.1) fk_X1_18 x42 (fun h61 x61 F61 f61 n61 => ?_)
          refine sg_vret (pc := 64) (dc_X1_keep_51.2.2.2) rfl (by first | exact Nat.le_of_ble_eq_true rfl | omega) (by first | exact Nat.le_of_ble_eq_true rfl | omega) ?_
          first
            | (have K := cf_kp ho hL a39 f139 f42 e42 f61 (by rw [n61, n42, if_pos (by omega)])
               exact hQ _ x61 (ck_Ft (ck_Ft F1 (ck_Ft F39 F42)) F61) K.2.2 K.1 K.2.1)
            | (have K := cf_kp ho hL a39 f139 f42 e42 (fun _ _ => rfl) (by rw [n42, if_neg (by omega)])
               exact hQ _ x42 (ck_Ft F1 (ck_Ft F39 F42)) K.2.2 K.1 K.2.1)
      · refine sg_aload_n (pc := 13) (j := 0) (dc_X1_keep_0.2.1.1.2) rfl rfl ?_
        refine sg_getf (pc := 14) g (dc_X1_keep_0.2.1.2.1) fk_X1_11 hP1 rfl rfl ?_
        refine sg_iload_n (pc := 17) (j := 3) (dc_X1_keep_0.2.1.2.2) rfl rfl ?_
        refine sg_aload_n (pc := 18) (j := 0) (dc_X1_keep_0.2.2.1.1) rfl rfl ?_
        refine sg_getf (pc := 19) g (dc_X1_keep_0.2.2.1.2) fk_X1_11 hP1 rfl rfl ?_
        refine sg_iload_n (pc := 22) (j := 3) (dc_X1_keep_0.2.2.2.1) rfl rfl ?_
        refine sg_iconst (pc := 23) (z := 1) (dc_X1_keep_0.2.2.2.2) (by decide) ?_
        first | refine sg_isubB (pc := 24) (dc_X1_keep_24.1.1.1.1) (by omega) (by omega) ?_ | refine sg_isub (pc := 24) (dc_X1_keep_24.1.1.1.1) ?_
        refine sg_aald (v := sg_r ((cf_pa h1 B).getD (k - 1).toNat 0)) (pc := 25) (dc_X1_keep_24.1.1.1.2) hV1 (by decide) (by omega) (cf_gv (by omega)) ?_
        have hS25 : ck_S B ((cf_pa h1 B).getD (k - 1).toNat 0) := by rw [e1, tt_get (by omega)]; unfold cf_rk; rw [if_neg (by omega)]; exact (cf_Sg ho (by omega)).1
        refine cf_pst (pc := 26) g (dc_X1_keep_24.1.1.2.1) x1 hS25 (by omega) (by omega) (fun h26 x26 F26 f26 a26 => ?_)
        first | refine sg_iincB (pc := 27) (dc_X1_keep_24.1.1.2.2) rfl (by decide) (by decide) (by omega) (by omega) ?_ | refine sg_iinc (pc := 27) (dc_X1_keep_24.1.1.2.2) rfl (by decide) (by decide) ?_
        refine sg_goto (pc := 30) (tgt := 9) (dc_X1_keep_24.1.2.1.1) (by decide) ?_
        refine sg_lsub (lv' := [(3, _), (2, _), (0, _), (1, _)]) ⟨rfl, rfl, rfl, rfl, trivial⟩ ?_
        exact ih _ _ x26 (ck_Ft F1 F26) (fun q hq => (f26 q hq).trans (f1 q hq)) (by omega) (cf_r1 hL (by omega) (by omega) e1 a26) (by first | exact jl_m1 hm (by omega) | exact jl_m2 hm (by omega) | omega)
  refine sg_lsub (lv' := [(3, _), (2, _), (0, _), (1, _)]) ⟨rfl, rfl, rfl, rfl, trivial⟩ ?_
  exact loop9 _ _ _ hx ck_F0 (fun _ _ => rfl) (by omega) (tt_eq 0 hL (fun j hj => by unfold cf_rk; rw [if_neg (by omega)])) (Nat.lt_succ_self _)

set_option maxRecDepth 100000 in
theorem f_X1_bringBack {w : sg_W} {Q : sg_O → sg_H → Prop} {h : sg_H} (g : sg_G w) {d : Nat} (hd : 5 ≤ d) {B : Nat} (hx : ck_X h B) (ho : cf_ho h B) (hn0 : cf_n h (B + 16) ≠ 0) (hQ : ∀ h' : sg_H, ck_X h' B → ck_F B h h' → (∀ q, (q < B + 4 ∨ (B + 16 ≠ q ∧ B + 17 ≠ q ∧ B + 16 ≤ q)) → h'.2 q = h.2 q) → cf_ho h' B → (∃ S P, cf_p h B = S :: P ∧ cf_s h' (B + 1) = S ∧ cf_p h' B = P) → Q (.inl none) h') : sg_C w mi_X1_bringBack d 0 0 [sg_r (B + 16), sg_r (B + 1)] h Q := by
  refine sg_of pn_X1 (Nat.le_of_ble_eq_true rfl) ?_
  obtain ⟨hP, hV, hL⟩ := cf_ps hx
  obtain ⟨-, hm0, hm6⟩ := id ho
  refine sg_aload_n (pc := 0) (j := 0) (dc_X1_bringBack_0.1.1.1.1) rfl rfl ?_
  refine sg_getf (pc := 1) g (dc_X1_bringBack_0.1.1.1.2) fk_X1_18 hP rfl rfl ?_
  refine sg_if_ne (pc := 4) (tgt := 8) (dc_X1_bringBack_0.1.1.2.1) (by decide) (fun c4 => ?_) (fun c4 => absurd c4 hn0)
  refine sg_aload_n (pc := 8) (j := 0) (dc_X1_bringBack_0.1.2.1.1) rfl rfl ?_
  refine sg_getf (pc := 9) g (dc_X1_bringBack_0.1.2.1.2) fk_X1_11 hP rfl rfl ?_
  refine sg_iconst (pc := 12) (z := 0) (dc_X1_bringBack_0.1.2.2.1) (by decide) ?_
  refine sg_aald (v := sg_r ((cf_pa h B).getD 0 0)) (pc := 13) (dc_X1_bringBack_0.1.2.2.2) hV (by decide) (by omega) (cf_gv (by omega)) ?_
  refine sg_astore_n (pc := 14) (j := 2) (dc_X1_bringBack_0.2.1.1.1) rfl (by decide) ?_
  refine sg_aload_n (pc := 15) (j := 1) (dc_X1_bringBack_0.2.1.1.2) rfl rfl ?_
  refine sg_aload_n (pc := 16) (j := 2) (dc_X1_bringBack_0.2.1.2.1) rfl rfl ?_
  obtain ⟨hS0, hl0, hu0⟩ := cf_Sg (j := 0) ho (by omega)
  refine sg_cE1 (pc := 17) (d' := d - 1) (mc' := 0) (ms' := 0) 5 g (dc_X1_bringBack_0.2.1.2.2) cb_X3_become ml_X1_22 mn_X3_become rfl mv_X3_become (Nat.le_of_ble_eq_true rfl) (ck_sc hx ck_now) (Nat.le_of_ble_eq_true rfl) (by first | exact jl_d0 hd rfl | omega) (by first | exact Nat.le_of_ble_eq_true rfl | omega) (by first | exact Nat.le_of_ble_eq_true rfl | omega) ?_
  refine f_X3_become g (by first | exact jl_d1 hd rfl | omega) hx ck_now hS0 (by omega) (fun h17 x17 F17 f17 e17 => sg_K0 ?_)
  have a17 : cf_pa h17 B = cf_pa h B := cf_pq (f17 _ (by omega))
  refine sg_iconst (pc := 20) (z := 0) (dc_X1_bringBack_0.2.2.1.1) (by decide) ?_
  refine sg_istore_n (pc := 21) (j := 3) (dc_X1_bringBack_0.2.2.1.2) rfl (by decide) ?_
  have loop22 : ∀ (N : Nat) (h1 : sg_H) (k : Int), (ck_X h1 B) → (ck_F B h17 h1) → (∀ q, q ≠ B + 17 → h1.2 q = h17.2 q) → (0 ≤ k ∧ k ≤ 5) → (cf_pa h1 B = tt_b 6 (cf_rb (cf_pa h B) k)) → (6 - k).toNat < N → sg_R w mi_X1_bringBack d 0 0 Q 22 [(3, sg_i k), (2, sg_r ((cf_pa h B).getD 0 0)), (0, sg_r (B + 16)), (1, sg_r (B + 1))] [] h1 0 0 := by
    intro N
    induction N with
    | zero => intro h1 k x1 F1 f1 k0 e1 hm; exact absurd hm (Nat.not_lt_zero _)
    | succ N ih =>
      intro h1 k x1 F1 f1 k0 e1 hm
      obtain ⟨hP1, hV1, hL1⟩ := cf_ps x1
      refine sg_iload_n (pc := 22) (j := 3) (dc_X1_bringBack_0.2.2.2.1) rfl rfl ?_
      refine sg_iconst (pc := 23) (z := 1) (dc_X1_bringBack_0.2.2.2.2) (by decide) ?_
      first | refine sg_iaddB (pc := 24) (dc_X1_bringBack_24.1.1.1.1) (by omega) (by omega) ?_ | refine sg_iadd (pc := 24) (dc_X1_bringBack_24.1.1.1.1) ?_
      refine sg_bipush (pc := 25) (z := 6) (dc_X1_bringBack_24.1.1.1.2) (by decide) ?_
      refine sg_icmp_ge (pc := 27) (tgt := 50) (dc_X1_bringBack_24.1.1.2.1) (by decide) (fun c27 => ?_) (fun c27 => ?_)
      · refine sg_aload_n (pc := 50) (j := 0) (dc_X1_bringBack_24.2.2.2.2) rfl rfl ?_
        refine sg_getf (pc := 51) g (dc_X1_bringBack_51.1.1.1.1) fk_X1_11 hP1 rfl rfl ?_
        refine sg_iconst (pc := 54) (z := 5) (dc_X1_bringBack_51.1.1.1.2) (by decide) ?_
        refine sg_aload_n (pc := 55) (j := 2) (dc_X1_bringBack_51.1.1.2.1) rfl rfl ?_
        refine cf_pst (pc := 56) g (dc_X1_bringBack_51.1.1.2.2) x1 hS0 (by omega) (by omega) (fun h56 x56 F56 f56 a56 => ?_)
        refine sg_aload_n (pc := 57) (j := 0) (dc_X1_bringBack_51.1.2.1.1) rfl rfl ?_
        obtain ⟨hP2, hV2, hL2⟩ := cf_ps x56
        have f156 : ∀ q, q ≠ B + 17 → h56.2 q = h17.2 q := fun q hq => (f56 q hq).trans (f1 q hq)
        rw [e1, show k = 5 by omega] at a56
        have n56 : cf_n h56 (B + 16) = cf_n h (B + 16) := by rw [cf_nq (f156 _ (by omega)), cf_nq (f17 _ (by omega))]
        refine sg_dup (pc := 58) (dc_X1_bringBack_51.1.2.1.2) rfl ?_
        refine sg_getf (pc := 59) g (dc_X1_bringBack_51.1.2.2.1) fk_X1_18 hP2 rfl rfl ?_
        refine sg_iconst (pc := 62) (z := 1) (dc_X1_bringBack_51.1.2.2.2) (by decide) ?_
        first | refine sg_isubB (pc := 63) (dc_X1_bringBack_51.2.1.1.1) (by omega) (by omega) ?_ | refine sg_isub (pc := 63) (dc_X1_bringBack_51.2.1.1.1) ?_
        refine cf_pps (pc := 64) g (dc_X1_bringBack_51.2.1.1.2) fk_X1_18 x56 (fun h64 x64 F64 f64 n64 => ?_)
        refine sg_vret (pc := 67) (dc_X1_bringBack_51.2.1.2.1) rfl (by first | exact Nat.le_of_ble_eq_true rfl | omega) (by first | exact Nat.le_of_ble_eq_true rfl | omega) ?_
        first
          | (exact absurd c4 hn0)
          | (have K := cf_bb ho hn0 hL f17 e17 f156 a56 f64 (by rw [n64, n56])
             exact hQ _ x64 (ck_Ft F17 (ck_Ft F1 (ck_Ft F56 F64))) K.2.2 K.1 K.2.1)
      · refine sg_aload_n (pc := 30) (j := 0) (dc_X1_bringBack_24.1.1.2.2) rfl rfl ?_
        refine sg_getf (pc := 31) g (dc_X1_bringBack_24.1.2.1.1) fk_X1_11 hP1 rfl rfl ?_
        refine sg_iload_n (pc := 34) (j := 3) (dc_X1_bringBack_24.1.2.1.2) rfl rfl ?_
        refine sg_aload_n (pc := 35) (j := 0) (dc_X1_bringBack_24.1.2.2.1) rfl rfl ?_
        refine sg_getf (pc := 36) g (dc_X1_bringBack_24.1.2.2.2) fk_X1_11 hP1 rfl rfl ?_
        refine sg_iload_n (pc := 39) (j := 3) (dc_X1_bringBack_24.2.1.1.1) rfl rfl ?_
        refine sg_iconst (pc := 40) (z := 1) (dc_X1_bringBack_24.2.1.1.2) (by decide) ?_
        first | refine sg_iaddB (pc := 41) (dc_X1_bringBack_24.2.1.2.1) (by omega) (by omega) ?_ | refine sg_iadd (pc := 41) (dc_X1_bringBack_24.2.1.2.1) ?_
        refine sg_aald (v := sg_r ((cf_pa h1 B).getD (k + 1).toNat 0)) (pc := 42) (dc_X1_bringBack_24.2.1.2.2) hV1 (by decide) (by omega) (cf_gv (by omega)) ?_
        have hS42 : ck_S B ((cf_pa h1 B).getD (k + 1).toNat 0) := by rw [e1, tt_get (by omega)]; unfold cf_rb; rw [if_neg (by omega)]; exact (cf_Sg ho (by omega)).1
        refine cf_pst (pc := 43) g (dc_X1_bringBack_24.2.2.1.1) x1 hS42 (by omega) (by omega) (fun h43 x43 F43 f43 a43 => ?_)
        first | refine sg_iincB (pc := 44) (dc_X1_bringBack_24.2.2.1.2) rfl (by decide) (by decide) (by omega) (by omega) ?_ | refine sg_iinc (pc := 44) (dc_X1_bringBack_24.2.2.1.2) rfl (by decide) (by decide) ?_
        refine sg_goto (pc := 47) (tgt := 22) (dc_X1_bringBack_24.2.2.2.1) (by decide) ?_
        refine sg_lsub (lv' := [(3, _), (2, _), (0, _), (1, _)]) ⟨rfl, rfl, rfl, rfl, trivial⟩ ?_
        exact ih _ _ x43 (ck_Ft F1 F43) (fun q hq => (f43 q hq).trans (f1 q hq)) (by omega) (cf_r2 hL (by omega) (by omega) e1 a43) (by first | exact jl_m1 hm (by omega) | exact jl_m2 hm (by omega) | omega)
  refine sg_lsub (lv' := [(3, _), (2, _), (0, _), (1, _)]) ⟨rfl, rfl, rfl, rfl, trivial⟩ ?_
  exact loop22 _ _ _ x17 ck_F0 (fun _ _ => rfl) (by omega) (tt_eq 0 (by rw [a17]; exact hL) (fun j hj => by unfold cf_rb; rw [a17, if_neg (by omega)])) (Nat.lt_succ_self _)

