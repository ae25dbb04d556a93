/-! THE REFERENCE'S OBJECT: its rows, its list of rows before -/
/-- rows: four of at most 40 numbers, two of at most 24 UNITS -/
def md_R (h : sg_H) (R : Nat) : Prop := R < h.1 ∧ ∃ (A : Nat → Nat) (N : Nat → Nat), h.2 R = some (110, [sg_r (A 0), sg_r (A 1), sg_r (A 2), sg_r (A 3), sg_r (A 4), sg_r (A 5)]) ∧ (∀ i, i < 4 → md_A 0 h (A i) (N i) ∧ N i ≤ 40) ∧ (∀ i, 4 ≤ i → i < 6 → md_A 1 h (A i) (N i) ∧ N i ≤ 24)
/-- nothing changes but objects of the reference, lists and their arrays -/
def md_P (h h' : sg_H) : Prop := h.1 ≤ h'.1 ∧ ∀ q, q < h.1 → ∀ e, h.2 q = some e → (e.1 != 8 && (e.1 != 2 && e.1 != 113)) = true → h'.2 q = some e
theorem md_P0 {h : sg_H} : md_P h h := ⟨Nat.le_refl _, fun _ _ _ x _ => x⟩
theorem md_Pt {h0 h1 h2 : sg_H} (a : md_P h0 h1) (b : md_P h1 h2) : md_P h0 h2 := ⟨Nat.le_trans a.1 b.1, fun q hq e he n1 => b.2 q (Nat.lt_of_lt_of_le hq a.1) e (a.2 q hq e he n1) n1⟩
theorem md_EP {h0 h : sg_H} (e : md_E h0 h) : md_P h0 h := ⟨e.1, fun q hq x hx _ => (e.2 q hq).trans hx⟩
theorem md_AP {c : Nat} {h0 h : sg_H} {a n : Nat} (x : md_A c h0 a n) (p : md_P h0 h) : md_A c h a n := by
  obtain ⟨h1, zs, h2, h3, h4⟩ := x
  exact ⟨Nat.lt_of_lt_of_le h1 p.1, zs, h2, h3, p.2 a h1 _ h4 rfl⟩
theorem md_RP {h0 h : sg_H} {R : Nat} (x : md_R h0 R) (p : md_P h0 h) : md_R h R := by
  obtain ⟨h1, A, N, h2, h3, h4⟩ := x
  exact ⟨Nat.lt_of_lt_of_le h1 p.1, A, N, p.2 R h1 _ h2 rfl, fun i hi => ⟨md_AP (h3 i hi).1 p, (h3 i hi).2⟩, fun i hi hj => ⟨md_AP (h4 i hi hj).1 p, (h4 i hi hj).2⟩⟩
theorem md_kP {h0 h : sg_H} {b : Nat} {zs : List Int} (x : md_k h0 b zs) (p : md_P h0 h) : md_k h b zs := ⟨Nat.lt_of_lt_of_le x.1 p.1, p.2 b x.1 _ x.2 rfl⟩
theorem md_K0P {w : sg_W} {h0 h : sg_H} (x : md_K0 w h0) (p : md_P h0 h) : md_K0 w h := by
  obtain ⟨K, k0, k1, k2, k3, k4, z, l, hK, h0', h1, h2, h3, h4⟩ := x
  exact ⟨K, k0, k1, k2, k3, k4, z, Nat.lt_of_lt_of_le l p.1, p.2 K l _ hK rfl, md_kP h0' p, md_kP h1 p, md_kP h2 p, md_kP h3 p, md_kP h4 p⟩
theorem js_BP {h0 h : sg_H} {v n : Nat} (x : js_B h0 v n) (p : md_P h0 h) : js_B h v n := by
  obtain ⟨h1, t, zs, h2, h3, h4⟩ := x
  exact ⟨Nat.lt_of_lt_of_le h1 p.1, t, zs, p.2 v h1 _ h2 (by simp only [Bool.and_eq_true, bne_iff_ne]; omega), h3, h4⟩
theorem js_SP {h0 h : sg_H} {a n : Nat} (x : js_S h0 a n) (p : md_P h0 h) : js_S h a n := by
  obtain ⟨h1, t, v, vs, h2, h3, h4⟩ := x
  exact ⟨Nat.lt_of_lt_of_le h1 p.1, t, v, vs, p.2 a h1 _ h2 (by simp only [Bool.and_eq_true, bne_iff_ne]; omega), h3, js_BP h4 p⟩
theorem jd_DP {w : sg_W} {h0 h : sg_H} (x : jd_D w h0) (p : md_P h0 h) : jd_D w h := by
  obtain ⟨h1, h2, ⟨D, h3, h4, h5⟩, h6⟩ := x
  refine ⟨h1, h2, ⟨D, h3, Nat.lt_of_lt_of_le h4 p.1, p.2 D h4 _ h5 rfl⟩, fun q hq => ?_⟩
  obtain ⟨a, g1, g2⟩ := h6 q hq
  exact ⟨a, g1, js_SP g2 p⟩
theorem md_KP {w : sg_W} {h0 h : sg_H} (x : md_K w h0) (p : md_P h0 h) : md_K w h := ⟨md_K0P x.1 p, jd_DP x.2 p⟩
/-- the list: at most 6 rows -/
def md_L (w : sg_W) (h : sg_H) (b : Nat) : Prop := b < h.1 ∧ ∃ (m sz : Int) (E t : Nat) (xs : List sg_V), h.2 b = some (2, [sg_i m, sg_r E, sg_i sz]) ∧ E < h.1 ∧ h.2 E = some (t, xs) ∧ ((t = 113 ∧ xs.length = 10) ∨ (t = 313 ∧ xs.length = 0 ∧ va_Z "java/util/ArrayList" "DEFAULTCAPACITY_EMPTY_ELEMENTDATA" "[Ljava/lang/Object;" (.ref E) (fun q => sg_b w ≤ q) w.2.1 w.2.1.heap)) ∧ 0 ≤ sz ∧ sz ≤ 6 ∧ sz ≤ xs.length ∧ ∀ j : Nat, (j : Int) < sz → ∃ R, xs[j]? = some (sg_r R) ∧ md_R h R
def md_M (w : sg_W) (h : sg_H) (M : Nat) : Prop := M < h.1 ∧ md_K w h ∧ ∃ (th kn : Int) (R b : Nat), h.2 M = some (8, [sg_i th, sg_r R, sg_r b, sg_i kn]) ∧ 0 ≤ th ∧ md_R h R ∧ md_L w h b
/-- what its field thrown holds -/
def md_t (h : sg_H) (M : Nat) : Int := match h.2 M with
  | some (_, .inl z :: _) => z
  | _ => 0
theorem md_te {h : sg_H} {M t : Nat} {z : Int} {vs : List sg_V} (x : h.2 M = some (t, sg_i z :: vs)) : md_t h M = z := by
  unfold md_t
  rw [x]
theorem md_LE {w : sg_W} {h0 h : sg_H} {b : Nat} (x : md_L w h0 b) (e : md_E h0 h) : md_L w h b := by
  obtain ⟨h1, m, sz, E, t, xs, h2, h3, h4, h5, h6, h7, h8, h9⟩ := x
  refine ⟨Nat.lt_of_lt_of_le h1 e.1, m, sz, E, t, xs, (e.2 b h1).trans h2, Nat.lt_of_lt_of_le h3 e.1, (e.2 E h3).trans h4, h5, h6, h7, h8, fun j hj => ?_⟩
  obtain ⟨R, q, r⟩ := h9 j hj
  exact ⟨R, q, md_RP r (md_EP e)⟩
theorem md_ME {w : sg_W} {h0 h : sg_H} {M : Nat} (x : md_M w h0 M) (e : md_E h0 h) : md_M w h M := by
  obtain ⟨h1, k, th, kn, R, b, h2, h0', h3, h4⟩ := x
  exact ⟨Nat.lt_of_lt_of_le h1 e.1, md_KE k e, th, kn, R, b, (e.2 M h1).trans h2, h0', md_RP h3 (md_EP e), md_LE h4 e⟩
/-- the object's own cell changes: all else stays -/
theorem md_up {h : sg_H} {M : Nat} {vs vs' : List sg_V} (hM : h.2 M = some (8, vs)) : md_P h (h.1, sg_up h.2 M (8, vs')) := by
  refine ⟨Nat.le_refl _, fun q hq e he n1 => ?_⟩
  by_cases hqM : q = M
  · subst hqM
    rw [hM] at he
    cases he
    exact absurd n1 (by simp)
  · exact (sg_up_n hqM).trans he
theorem md_Lup {w : sg_W} {h : sg_H} {M b : Nat} {vs vs' : List sg_V} (hM : h.2 M = some (8, vs)) (x : md_L w h b) : md_L w (h.1, sg_up h.2 M (8, vs')) b := by
  obtain ⟨h1, m, sz, E, t, xs, h2, h3, h4, h5, h6, h7, h8, h9⟩ := x
  have nb : b ≠ M := fun q => by rw [q, hM] at h2; simp at h2
  have nE : E ≠ M := fun q => by rw [q, hM] at h4; simp at h4; rcases h5 with ⟨q, -⟩ | ⟨q, -⟩ <;> omega
  refine ⟨h1, m, sz, E, t, xs, (sg_up_n nb).trans h2, h3, (sg_up_n nE).trans h4, h5, h6, h7, h8, fun j hj => ?_⟩
  obtain ⟨R, q, r⟩ := h9 j hj
  exact ⟨R, q, md_RP r (md_up hM)⟩
/-- where the rows lie, where one of them, how long it is -/
def md_r (h : sg_H) (M : Nat) : Nat := match h.2 M with
  | some (_, _ :: .inr (.inr (some R)) :: _) => R
  | _ => 0
def md_a (h : sg_H) (R : Nat) (i : Int) : Nat := match h.2 R with
  | some (_, L) => (match L[i.toNat]? with | some (.inr (.inr (some a))) => a | _ => 0)
  | _ => 0
def md_n (h : sg_H) (a : Nat) : Nat := match h.2 a with
  | some (_, zs) => zs.length
  | _ => 0
theorem md_re {h : sg_H} {M t R : Nat} {v : sg_V} {vs : List sg_V} (x : h.2 M = some (t, v :: sg_r R :: vs)) : md_r h M = R := by
  unfold md_r
  rw [x]
theorem md_ae {h : sg_H} {R t a : Nat} {i : Int} {L : List sg_V} (x : h.2 R = some (t, L)) (y : L[i.toNat]? = some (sg_r a)) : md_a h R i = a := by
  unfold md_a
  rw [x]
  simp only []
  rw [y]
theorem md_ne {c : Nat} {h : sg_H} {a n : Nat} (x : md_A c h a n) : md_n h a = n := by
  obtain ⟨h1, zs, h2, h3, h4⟩ := x
  unfold md_n
  rw [h4]
  simp [h2]
/-- the rows are as long as before -/
def md_S (h h' : sg_H) (M : Nat) : Prop := ∀ i : Int, md_n h' (md_a h' (md_r h' M) i) = md_n h (md_a h (md_r h M) i)
theorem md_S0 {h : sg_H} {M : Nat} : md_S h h M := fun _ => rfl
theorem md_St {h h1 h2 : sg_H} {M : Nat} (a : md_S h h1 M) (b : md_S h1 h2 M) : md_S h h2 M := fun i => (b i).trans (a i)
theorem md_Sup {h : sg_H} {M R b : Nat} {th kn th' kn' : Int} (hM : h.2 M = some (8, [sg_i th, sg_r R, sg_r b, sg_i kn])) (hR : md_R h R) : md_S h (h.1, sg_up h.2 M (8, [sg_i th', sg_r R, sg_r b, sg_i kn'])) M := by
  intro i
  have nR : R ≠ M := fun q => by
    obtain ⟨h1, A, N, h2, -⟩ := hR
    rw [q, hM] at h2
    simp at h2
  rw [md_re hM, md_re (h := (h.1, sg_up h.2 M (8, [sg_i th', sg_r R, sg_r b, sg_i kn']))) sg_up_s]
  have ha : md_a (h.1, sg_up h.2 M (8, [sg_i th', sg_r R, sg_r b, sg_i kn'])) R i = md_a h R i := by
    unfold md_a
    rw [show ((h.1, sg_up h.2 M (8, [sg_i th', sg_r R, sg_r b, sg_i kn'])) : sg_H).2 R = h.2 R from sg_up_n nR]
  rw [ha]
  unfold md_n
  by_cases q : md_a h R i = M
  · rw [q, show ((h.1, sg_up h.2 M (8, [sg_i th', sg_r R, sg_r b, sg_i kn'])) : sg_H).2 M = _ from sg_up_s, hM]
    rfl
  · rw [show ((h.1, sg_up h.2 M (8, [sg_i th', sg_r R, sg_r b, sg_i kn'])) : sg_H).2 (md_a h R i) = h.2 (md_a h R i) from sg_up_n q]
theorem md_row {h : sg_H} {R : Nat} (x : md_R h R) {i : Int} (i0 : 0 ≤ i) (i1 : i < 4) : ∃ (L : List sg_V) (a n : Nat), h.2 R = some (110, L) ∧ i.toNat < L.length ∧ L[i.toNat]? = some (sg_r a) ∧ md_A 0 h a n ∧ n ≤ 40 := by
  obtain ⟨h1, A, N, h2, h3, h4⟩ := x
  rcases (show i = 0 ∨ i = 1 ∨ i = 2 ∨ i = 3 by omega) with rfl | rfl | rfl | rfl
  · exact ⟨_, A 0, N 0, h2, Nat.le_of_ble_eq_true rfl, rfl, h3 0 (by decide)⟩
  · exact ⟨_, A 1, N 1, h2, Nat.le_of_ble_eq_true rfl, rfl, h3 1 (by decide)⟩
  · exact ⟨_, A 2, N 2, h2, Nat.le_of_ble_eq_true rfl, rfl, h3 2 (by decide)⟩
  · exact ⟨_, A 3, N 3, h2, Nat.le_of_ble_eq_true rfl, rfl, h3 3 (by decide)⟩
theorem md_trk {h : sg_H} {R : Nat} (x : md_R h R) {i : Int} (i0 : 4 ≤ i) (i1 : i < 6) : ∃ (L : List sg_V) (a n : Nat), h.2 R = some (110, L) ∧ i.toNat < L.length ∧ L[i.toNat]? = some (sg_r a) ∧ md_A 1 h a n ∧ n ≤ 24 := by
  obtain ⟨h1, A, N, h2, h3, h4⟩ := x
  rcases (show i = 4 ∨ i = 5 by omega) with rfl | rfl
  · exact ⟨_, A 4, N 4, h2, Nat.le_of_ble_eq_true rfl, rfl, h4 4 (by decide) (by decide)⟩
  · exact ⟨_, A 5, N 5, h2, Nat.le_of_ble_eq_true rfl, rfl, h4 5 (by decide) (by decide)⟩
theorem md_any {h : sg_H} {R : Nat} (x : md_R h R) {i : Int} (i0 : 0 ≤ i) (i1 : i < 6) : ∃ (c : Nat) (L : List sg_V) (a n : Nat), h.2 R = some (110, L) ∧ i.toNat < L.length ∧ L[i.toNat]? = some (sg_r a) ∧ md_A c h a n := by
  by_cases p : i < 4
  · obtain ⟨L, a, n, p1, p2, p3, p4, p5⟩ := md_row x i0 p
    exact ⟨0, L, a, n, p1, p2, p3, p4⟩
  · obtain ⟨L, a, n, p1, p2, p3, p4, p5⟩ := md_trk x (by omega) i1
    exact ⟨1, L, a, n, p1, p2, p3, p4⟩
/-! WHAT STANDS IN THE REFERENCE'S OBJECT: its state, as the document tells it -/
def md_l (h : sg_H) (a : Nat) : List Int := match h.2 a with
  | some (_, vs) => vs.map cf_i
  | _ => []
theorem md_le {h : sg_H} {a t : Nat} {zs : List Int} (x : h.2 a = some (t, zs.map sg_i)) : md_l h a = zs := by
  unfold md_l
  rw [x]
  exact cf_im zs
theorem md_Al {c : Nat} {h : sg_H} {a n : Nat} (x : md_A c h a n) : (md_l h a).length = n ∧ (∀ z ∈ md_l h a, ck_v c z) ∧ h.2 a = some (100, (md_l h a).map sg_i) := by
  obtain ⟨h1, zs, h2, h3, h4⟩ := x
  rw [md_le h4]
  exact ⟨h2, h3, h4⟩
/-- what the state rests on stays -/
def md_kp (h0 h : sg_H) : Prop := ∀ q e, q < h0.1 → h0.2 q = some e → (e.1 = 100 ∨ e.1 = 110 ∨ e.1 = 2 ∨ e.1 = 113 ∨ e.1 = 313) → h.2 q = some e
theorem md_kpE {h0 h : sg_H} (e : md_E h0 h) : md_kp h0 h := fun q x hq hx _ => (e.2 q hq).trans hx
theorem md_lq {h0 h : sg_H} {a : Nat} (e : h.2 a = h0.2 a) : md_l h a = md_l h0 a := by
  unfold md_l
  rw [e]
/-- arrays of numbers, and of rows, stay -/
def md_ka (h0 h : sg_H) : Prop := ∀ q e, q < h0.1 → h0.2 q = some e → (e.1 = 100 ∨ e.1 = 110) → h.2 q = some e
theorem md_kk {h0 h : sg_H} (k : md_kp h0 h) : md_ka h0 h := fun q e hq he hk => k q e hq he (hk.elim Or.inl (fun z => Or.inr (Or.inl z)))
theorem md_lG {c : Nat} {h0 h : sg_H} {a n : Nat} (x : md_A c h0 a n) (k : md_ka h0 h) : md_l h a = md_l h0 a := by
  obtain ⟨h1, zs, h2, h3, h4⟩ := x
  exact md_lq ((k a _ h1 h4 (Or.inl rfl)).trans h4.symm)
def md_s (h : sg_H) (R : Nat) : List (List Int) := [md_l h (md_a h R 0), md_l h (md_a h R 1), md_l h (md_a h R 2), md_l h (md_a h R 3), md_l h (md_a h R 4), md_l h (md_a h R 5)]
theorem md_sG {h0 h : sg_H} {R : Nat} (x : md_R h0 R) (k : md_ka h0 h) : md_s h R = md_s h0 R := by
  obtain ⟨h1, A, N, h2, h3, h4⟩ := x
  have e2 := k R _ h1 h2 (Or.inr rfl)
  have ea : ∀ i : Int, md_a h R i = md_a h0 R i := fun i => by
    unfold md_a
    rw [e2, h2]
  have e : ∀ i : Nat, i < 6 → md_l h (A i) = md_l h0 (A i) := fun i hi => by
    by_cases c : i < 4
    · exact md_lG (h3 i c).1 k
    · exact md_lG (h4 i (by omega) hi).1 k
  have g0 : md_a h0 R 0 = A 0 := md_ae h2 rfl
  have g1 : md_a h0 R 1 = A 1 := md_ae h2 rfl
  have g2 : md_a h0 R 2 = A 2 := md_ae h2 rfl
  have g3 : md_a h0 R 3 = A 3 := md_ae h2 rfl
  have g4 : md_a h0 R 4 = A 4 := md_ae h2 rfl
  have g5 : md_a h0 R 5 = A 5 := md_ae h2 rfl
  unfold md_s
  rw [ea 0, ea 1, ea 2, ea 3, ea 4, ea 5, g0, g1, g2, g3, g4, g5, e 0 (by decide), e 1 (by decide), e 2 (by decide), e 3 (by decide), e 4 (by decide), e 5 (by decide)]
/-- the rows of before, as they lie in the list -/
def md_bl (h : sg_H) (b : Nat) : List Nat := match h.2 b with
  | some (_, [_, .inr (.inr (some E)), .inl sz]) => (match h.2 E with
    | some (_, xs) => (xs.take sz.toNat).map cf_ad
    | none => [])
  | _ => []
theorem md_ble {h : sg_H} {b t t2 E : Nat} {v : sg_V} {sz : Int} {xs : List sg_V} (x : h.2 b = some (t, [v, sg_r E, sg_i sz])) (y : h.2 E = some (t2, xs)) : md_bl h b = (xs.take sz.toNat).map cf_ad := by
  unfold md_bl
  rw [x]
  show (match h.2 E with | some (_, xs) => (xs.take sz.toNat).map cf_ad | none => []) = _
  rw [y]
def md_bf (h : sg_H) (M : Nat) : Nat := match h.2 M with
  | some (_, [_, _, .inr (.inr (some b)), _]) => b
  | _ => 0
def md_kn (h : sg_H) (M : Nat) : Int := match h.2 M with
  | some (_, [_, _, _, .inl z]) => z
  | _ => 0
/-- the state that the object is in -/
def md_ab (h : sg_H) (M : Nat) : fa_A := (md_s h (md_r h M), (((md_bl h (md_bf h M)).map (md_s h)).reverse, md_kn h M))
theorem md_abe {h : sg_H} {M R b : Nat} {th kn : Int} (x : h.2 M = some (8, [sg_i th, sg_r R, sg_r b, sg_i kn])) : md_ab h M = (md_s h R, (((md_bl h b).map (md_s h)).reverse, kn)) := by
  have e1 : md_r h M = R := md_re x
  have e2 : md_bf h M = b := by
    unfold md_bf
    rw [x]
  have e3 : md_kn h M = kn := by
    unfold md_kn
    rw [x]
  unfold md_ab
  rw [e1, e2, e3]
theorem md_blR {w : sg_W} {h : sg_H} {b : Nat} (x : md_L w h b) : ∀ R ∈ md_bl h b, md_R h R := by
  obtain ⟨h1, m, sz, E, t, xs, h2, h3, h4, h5, h6, h7, h8, h9⟩ := x
  intro R hR
  rw [md_ble h2 h4] at hR
  obtain ⟨v, hv, rfl⟩ := List.mem_map.mp hR
  obtain ⟨j, hj, hj2⟩ := List.mem_iff_getElem.mp hv
  rw [List.length_take] at hj
  rw [List.getElem_take] at hj2
  obtain ⟨R, q, r⟩ := h9 j (by omega)
  rw [List.getElem?_eq_getElem (by omega), hj2] at q
  cases Option.some.inj q
  exact r
theorem md_blG {w : sg_W} {h0 h : sg_H} {b : Nat} (x : md_L w h0 b) (k : md_kp h0 h) : md_bl h b = md_bl h0 b ∧ (md_bl h b).map (md_s h) = (md_bl h0 b).map (md_s h0) := by
  have hR := md_blR x
  obtain ⟨h1, m, sz, E, t, xs, h2, h3, h4, h5, h6, h7, h8, h9⟩ := x
  have e1 := k b _ h1 h2 (Or.inr (Or.inr (Or.inl rfl)))
  have e2 := k E _ h3 h4 (by rcases h5 with ⟨rfl, -⟩ | ⟨rfl, -⟩ <;> simp)
  have e3 : md_bl h b = md_bl h0 b := by rw [md_ble e1 e2, md_ble h2 h4]
  refine ⟨e3, ?_⟩
  rw [e3]
  exact List.map_congr_left (fun R h => md_sG (hR R h) (md_kk k))
theorem md_abG {w : sg_W} {h0 h : sg_H} {M R b : Nat} {th th' kn : Int} (hM0 : h0.2 M = some (8, [sg_i th, sg_r R, sg_r b, sg_i kn])) (hM : h.2 M = some (8, [sg_i th', sg_r R, sg_r b, sg_i kn])) (hR : md_R h0 R) (hL : md_L w h0 b) (k : md_kp h0 h) : md_ab h M = md_ab h0 M := by
  rw [md_abe hM0, md_abe hM, md_sG hR (md_kk k), (md_blG hL k).2]
theorem md_abE {w : sg_W} {h0 h : sg_H} {M : Nat} (x : md_M w h0 M) (e : md_E h0 h) : md_ab h M = md_ab h0 M := by
  obtain ⟨h1, k, th, kn, R, b, h2, h0', h3, h4⟩ := x
  exact md_abG h2 ((e.2 M h1).trans h2) h3 h4 (md_kpE e)
theorem md_kpM {h : sg_H} {M : Nat} {vs vs' : List sg_V} (hM : h.2 M = some (8, vs)) : md_kp h (h.1, sg_up h.2 M (8, vs')) := by
  intro q e hq he hk
  by_cases c : q = M
  · rw [c, hM] at he
    cases he
    simp at hk
  · exact (sg_up_n c).trans he
/-- of the object's rows: the six of them -/
theorem md_abL {h : sg_H} {M : Nat} {i : Int} (i0 : 0 ≤ i) (i1 : i < 6) : fa_L (md_ab h M) i.toNat = md_l h (md_a h (md_r h M) i) := by
  rcases (show i = 0 ∨ i = 1 ∨ i = 2 ∨ i = 3 ∨ i = 4 ∨ i = 5 by omega) with rfl | rfl | rfl | rfl | rfl | rfl <;> rfl
/-- the reference worked -/
def md_W (w : sg_W) (h0 h : sg_H) (M : Nat) : Prop := md_M w h M ∧ md_P h0 h
theorem md_WE {w : sg_W} {h0 h1 h2 : sg_H} {M : Nat} (x : md_W w h0 h1 M) (e : md_E h1 h2) : md_W w h0 h2 M := ⟨md_ME x.1 e, md_Pt x.2 (md_EP e)⟩
/-- it was only asked: its state is the same -/
def md_Y (w : sg_W) (h0 h : sg_H) (M : Nat) : Prop := md_M w h M ∧ (md_P h0 h ∧ md_ab h M = md_ab h0 M)
theorem md_YW {w : sg_W} {h0 h : sg_H} {M : Nat} (x : md_Y w h0 h M) : md_W w h0 h M := ⟨x.1, x.2.1⟩
theorem md_Y0 {w : sg_W} {h : sg_H} {M : Nat} (x : md_M w h M) : md_Y w h h M := ⟨x, md_P0, rfl⟩
theorem md_Yt {w : sg_W} {h0 h1 h2 : sg_H} {M : Nat} (x : md_Y w h0 h1 M) (y : md_Y w h1 h2 M) : md_Y w h0 h2 M := ⟨y.1, md_Pt x.2.1 y.2.1, y.2.2.trans x.2.2⟩
theorem md_YE {w : sg_W} {h0 h1 h2 : sg_H} {M : Nat} (x : md_Y w h0 h1 M) (e : md_E h1 h2) : md_Y w h0 h2 M := ⟨md_ME x.1 e, md_Pt x.2.1 (md_EP e), (md_abE x.1 e).trans x.2.2⟩
/-- the rows are the very same -/
def md_U (h h' : sg_H) (M : Nat) : Prop := ∀ i : Int, 0 ≤ i → i < 6 → md_a h' (md_r h' M) i = md_a h (md_r h M) i ∧ h'.2 (md_a h (md_r h M) i) = h.2 (md_a h (md_r h M) i)
theorem md_U0 {h : sg_H} {M : Nat} : md_U h h M := fun _ _ _ => ⟨rfl, rfl⟩
theorem md_Ut {h h1 h2 : sg_H} {M : Nat} (a : md_U h h1 M) (b : md_U h1 h2 M) : md_U h h2 M := fun i i0 i1 => by
  obtain ⟨a1, a2⟩ := a i i0 i1
  obtain ⟨b1, b2⟩ := b i i0 i1
  rw [a1] at b1 b2
  exact ⟨b1, b2.trans a2⟩
theorem md_Uup {h : sg_H} {M R b : Nat} {th kn th' kn' : Int} (hM : h.2 M = some (8, [sg_i th, sg_r R, sg_r b, sg_i kn])) (hR : md_R h R) : md_U h (h.1, sg_up h.2 M (8, [sg_i th', sg_r R, sg_r b, sg_i kn'])) M := by
  intro i i0 i1
  have nR : R ≠ M := fun q => by
    obtain ⟨h1, A, N, h2, -⟩ := hR
    rw [q, hM] at h2
    simp at h2
  obtain ⟨c, L, a, n, p1, p2, p3, p4⟩ := md_any hR i0 i1
  have na : a ≠ M := fun q => by
    obtain ⟨h1, zs, h2, h3, h4⟩ := p4
    rw [q, hM] at h4
    simp at h4
  rw [md_re hM, md_re (h := (h.1, sg_up h.2 M (8, [sg_i th', sg_r R, sg_r b, sg_i kn']))) sg_up_s, md_ae p1 p3, md_ae (h := (h.1, sg_up h.2 M (8, [sg_i th', sg_r R, sg_r b, sg_i kn']))) ((sg_up_n nR).trans p1) p3]
  exact ⟨rfl, sg_up_n na⟩
section
variable {w : sg_W} {mi : sg_M} {d mc ms : Nat} {Q : sg_O → sg_H → Prop} {pc : Nat} {lv : List (Nat × sg_V)} {st : List sg_V} {h h0 : sg_H} {k n : Nat} {M : Nat}
theorem md_gth {idx : Nat} {fin : Bool} {ft : FieldType} (g : sg_G w) (hd : decode mi.2.1 pc = .ok (.getfield idx, 3)) (hf : sg_fk mi.1.cls idx 8 0 fin ft) (x : md_M w h M) (K : ∀ z : Int, 0 ≤ z → z = md_t h M → sg_R w mi d mc ms Q (pc + 3) lv (sg_i z :: st) h k n) : sg_R w mi d mc ms Q pc lv (sg_r M :: st) h k n := by
  obtain ⟨h1, q, th, kn, R, b, h2, h0', h3, h4⟩ := x
  exact sg_getf g hd hf h2 rfl rfl (K th h0' (md_te h2).symm)
theorem md_gkn {idx : Nat} {fin : Bool} {ft : FieldType} (g : sg_G w) (hd : decode mi.2.1 pc = .ok (.getfield idx, 3)) (hf : sg_fk mi.1.cls idx 8 3 fin ft) (x : md_M w h M) (K : sg_R w mi d mc ms Q (pc + 3) lv (sg_i (md_kn h M) :: st) h k n) : sg_R w mi d mc ms Q pc lv (sg_r M :: st) h k n := by
  obtain ⟨h1, q, th, kn, R, b, h2, h0', h3, h4⟩ := x
  have e : md_kn h M = kn := by
    unfold md_kn
    rw [h2]
  rw [e] at K
  exact sg_getf g hd hf h2 rfl rfl K
theorem md_pth {idx : Nat} {z : Int} (g : sg_G w) (hd : decode mi.2.1 pc = .ok (.putfield idx, 3)) (hf : sg_fk mi.1.cls idx 8 0 false .int) (x : md_Y w h0 h M) (z0 : 0 ≤ z) (K : ∀ h' : sg_H, md_Y w h0 h' M → md_t h' M = z → md_S h h' M → md_U h h' M → sg_R w mi d mc ms Q (pc + 3) lv st h' k n) : sg_R w mi d mc ms Q pc lv (sg_i z :: sg_r M :: st) h k n := by
  obtain ⟨⟨h1, q, th, kn, R, b, h2, h0', h3, h4⟩, p, pa⟩ := x
  refine sg_putf g hd hf h2 sg_ft_i (K _ ⟨⟨h1, md_KP q (md_up h2), z, kn, R, b, sg_up_s, z0, md_RP h3 (md_up h2), md_Lup h2 h4⟩, md_Pt p (md_up h2), (md_abG h2 sg_up_s h3 h4 (md_kpM h2)).trans pa⟩ (md_te (vs := [sg_r R, sg_r b, sg_i kn]) sg_up_s) (md_Sup h2 h3) (md_Uup h2 h3))
theorem md_pkn {idx : Nat} {z : Int} (g : sg_G w) (hd : decode mi.2.1 pc = .ok (.putfield idx, 3)) (hf : sg_fk mi.1.cls idx 8 3 false .int) (x : md_Y w h0 h M) (K : ∀ h' : sg_H, md_W w h0 h' M → md_t h' M = md_t h M → md_ab h' M = ((md_ab h0 M).1, ((md_ab h0 M).2.1, z)) → md_kn h' M = z → sg_R w mi d mc ms Q (pc + 3) lv st h' k n) : sg_R w mi d mc ms Q pc lv (sg_i z :: sg_r M :: st) h k n := by
  obtain ⟨⟨h1, q, th, kn, R, b, h2, h0', h3, h4⟩, p, pa⟩ := x
  refine sg_putf g hd hf h2 sg_ft_i (K _ ⟨⟨h1, md_KP q (md_up h2), th, z, R, b, sg_up_s, h0', md_RP h3 (md_up h2), md_Lup h2 h4⟩, md_Pt p (md_up h2)⟩ ((md_te sg_up_s).trans (md_te h2).symm) ?_ ?_)
  · show md_ab (h.1, sg_up h.2 M (8, [sg_i th, sg_r R, sg_r b, sg_i z])) M = _
    rw [md_abe (h := (h.1, sg_up h.2 M (8, [sg_i th, sg_r R, sg_r b, sg_i z]))) sg_up_s, ← pa, md_abe h2, md_sG h3 (md_kk (md_kpM h2)), (md_blG h4 (md_kpM h2)).2]
  · show md_kn (h.1, sg_up h.2 M (8, [sg_i th, sg_r R, sg_r b, sg_i z])) M = z
    unfold md_kn
    rw [show ((h.1, sg_up h.2 M (8, [sg_i th, sg_r R, sg_r b, sg_i z])) : sg_H).2 M = _ from sg_up_s]
/-- one of the rows, by its number: getfield rows, the number, aaload -/
theorem md_grw {idx : Nat} {fin : Bool} {ft : FieldType} (g : sg_G w) (hd : decode mi.2.1 pc = .ok (.getfield idx, 3)) (hf : sg_fk mi.1.cls idx 8 1 fin ft) (x : md_M w h M) (K : md_R h (md_r h M) → sg_R w mi d mc ms Q (pc + 3) lv (sg_r (md_r h M) :: st) h k n) : sg_R w mi d mc ms Q pc lv (sg_r M :: st) h k n := by
  obtain ⟨h1, q, th, kn, R, b, h2, h0', h3, h4⟩ := x
  have e := md_re h2
  rw [e] at K
  exact sg_getf g hd hf h2 rfl rfl (K h3)
theorem md_alr {i : Int} {R : Nat} (hd : decode mi.2.1 pc = .ok (.aaload, 1)) (x : md_R h R) (i0 : 0 ≤ i) (i1 : i < 4) (K : md_A 0 h (md_a h R i) (md_n h (md_a h R i)) → md_n h (md_a h R i) ≤ 40 → sg_R w mi d mc ms Q (pc + 1) lv (sg_r (md_a h R i) :: st) h k n) : sg_R w mi d mc ms Q pc lv (sg_i i :: sg_r R :: st) h k n := by
  obtain ⟨L, a, N, h1, h2, h3, h4, h5⟩ := md_row x i0 i1
  have e := md_ae h1 h3
  rw [e, md_ne h4] at K
  exact sg_aald hd h1 (by decide) i0 h3 (K h4 h5)
theorem md_alt {i : Int} {R : Nat} (hd : decode mi.2.1 pc = .ok (.aaload, 1)) (x : md_R h R) (i0 : 4 ≤ i) (i1 : i < 6) (K : md_A 1 h (md_a h R i) (md_n h (md_a h R i)) → md_n h (md_a h R i) ≤ 24 → sg_R w mi d mc ms Q (pc + 1) lv (sg_r (md_a h R i) :: st) h k n) : sg_R w mi d mc ms Q pc lv (sg_i i :: sg_r R :: st) h k n := by
  obtain ⟨L, a, N, h1, h2, h3, h4, h5⟩ := md_trk x i0 i1
  have e := md_ae h1 h3
  rw [e, md_ne h4] at K
  exact sg_aald hd h1 (by decide) (by omega) h3 (K h4 h5)
end
theorem md_oc {w : sg_W} {h : sg_H} {M : Nat} (x : md_M w h M) : ∃ us, h.2 M = some (8, us) := by
  obtain ⟨h1, q, th, kn, R, b, h2, h3⟩ := x
  exact ⟨_, h2⟩
theorem ck_b01 {a b : Int} (ha : a = 0 ∨ a = 1) (hb : b = 0 ∨ b = 1) : sg_and a b = 0 ∨ sg_and a b = 1 := by
  rcases ha with rfl | rfl <;> rcases hb with rfl | rfl <;> decide

