/-! THE STATE, as the document tells it: rows and tracks; the rows before, of the last STEP first; how often one knocked -/
abbrev fa_A : Type := List (List Int) × (List (List (List Int)) × Int)
abbrev fa_L (A : fa_A) (i : Nat) : List Int := A.1.getD i []
def fa_put (A : fa_A) (i : Nat) (L : List Int) : fa_A := (A.1.set i L, ((A.1 :: A.2.1).take 6, A.2.2))
def fa_so (S : List (List Int)) : Prop := S.length = 6 ∧ ∀ i, i < 6 → (S.getD i []).length ≤ (if i < 4 then 40 else 24) ∧ ∀ z ∈ S.getD i [], 0 ≤ z ∧ z ≤ (if i < 4 then 255 else 65535)
def fa_ok (A : fa_A) : Prop := fa_so A.1 ∧ (∀ P ∈ A.2.1, fa_so P) ∧ A.2.1.length ≤ 6
theorem fa_row {A : fa_A} (ok : fa_ok A) {i : Nat} (hi : i < 4) : (fa_L A i).length ≤ 40 ∧ ∀ z ∈ fa_L A i, 0 ≤ z ∧ z ≤ 255 := by
  have x := ok.1.2 i (by omega)
  rw [if_pos hi, if_pos hi] at x
  exact x
theorem fa_trk {A : fa_A} (ok : fa_ok A) {i : Nat} (h4 : 4 ≤ i) (hi : i < 6) : (fa_L A i).length ≤ 24 ∧ ∀ z ∈ fa_L A i, 0 ≤ z ∧ z ≤ 65535 := by
  have x := ok.1.2 i (by omega)
  rw [if_neg (by omega), if_neg (by omega)] at x
  exact x
theorem fa_okp {A : fa_A} (ok : fa_ok A) {i : Nat} {L : List Int} (hi : i < 6) (hl : L.length ≤ (if i < 4 then 40 else 24)) (hv : ∀ z ∈ L, 0 ≤ z ∧ z ≤ (if i < 4 then 255 else 65535)) : fa_ok (fa_put A i L) := by
  obtain ⟨⟨l6, o1⟩, o2, o3⟩ := ok
  refine ⟨⟨by unfold fa_put; rw [List.length_set]; exact l6, fun j hj => ?_⟩, fun P hP => ?_, ?_⟩
  · show ((A.1.set i L).getD j []).length ≤ _ ∧ ∀ z ∈ (A.1.set i L).getD j [], _
    rw [gd_set (by omega)]
    by_cases c : j = i
    · subst c
      rw [if_pos rfl]
      exact ⟨hl, hv⟩
    · rw [if_neg c]
      exact o1 j hj
  · have hP' := List.mem_of_mem_take hP
    rcases List.mem_cons.mp hP' with rfl | q
    · exact ⟨l6, o1⟩
    · exact o2 P q
  · show ((A.1 :: A.2.1).take 6).length ≤ 6
    rw [List.length_take]
    omega
def cf_k (h : sg_H) (B : Nat) : Int := match h.2 B with
  | some (_, [_, _, _, .inl z]) => z
  | _ => 0
/-- the class's object at B is in the state A -/
def cf_X (h : sg_H) (B : Nat) (A : fa_A) : Prop := ck_X h B ∧ cf_ho h B ∧ cf_s h (B + 1) = A.1 ∧ cf_p h B = A.2.1 ∧ cf_k h B = A.2.2
theorem cf_rl {h : sg_H} {B : Nat} {A : fa_A} (hx : cf_X h B A) {i : Nat} (hi : i < 6) : cf_l h (B + 1 + 3 + 2 * i) = fa_L A i := by
  unfold fa_L
  rw [← hx.2.2.1]
  rcases (show i = 0 ∨ i = 1 ∨ i = 2 ∨ i = 3 ∨ i = 4 ∨ i = 5 by omega) with rfl | rfl | rfl | rfl | rfl | rfl <;> rfl
theorem cf_kq {h h' : sg_H} {B : Nat} (e : h'.2 B = h.2 B) : cf_k h' B = cf_k h B := by
  unfold cf_k
  rw [e]
theorem cf_st {h h1 : sg_H} {B a i : Nat} (f : ∀ q, q ≠ a → q ≠ a + 1 → h1.2 q = h.2 q) (ea : B + 1 + 3 + 2 * i = a) (hi : i < 6) : cf_s h1 (B + 1) = (cf_s h (B + 1)).set i (cf_l h1 a) := by
  subst ea
  rcases (show i = 0 ∨ i = 1 ∨ i = 2 ∨ i = 3 ∨ i = 4 ∨ i = 5 by omega) with rfl | rfl | rfl | rfl | rfl | rfl
  all_goals
    unfold cf_s
    simp only [List.set_cons_zero, List.set_cons_succ]
  · rw [cf_lq (a := B + 1 + 5) (f _ (by omega) (by omega)) (f _ (by omega) (by omega)), cf_lq (a := B + 1 + 7) (f _ (by omega) (by omega)) (f _ (by omega) (by omega)), cf_lq (a := B + 1 + 9) (f _ (by omega) (by omega)) (f _ (by omega) (by omega)), cf_lq (a := B + 1 + 11) (f _ (by omega) (by omega)) (f _ (by omega) (by omega)), cf_lq (a := B + 1 + 13) (f _ (by omega) (by omega)) (f _ (by omega) (by omega))]
  · rw [cf_lq (a := B + 1 + 3) (f _ (by omega) (by omega)) (f _ (by omega) (by omega)), cf_lq (a := B + 1 + 7) (f _ (by omega) (by omega)) (f _ (by omega) (by omega)), cf_lq (a := B + 1 + 9) (f _ (by omega) (by omega)) (f _ (by omega) (by omega)), cf_lq (a := B + 1 + 11) (f _ (by omega) (by omega)) (f _ (by omega) (by omega)), cf_lq (a := B + 1 + 13) (f _ (by omega) (by omega)) (f _ (by omega) (by omega))]
  · rw [cf_lq (a := B + 1 + 3) (f _ (by omega) (by omega)) (f _ (by omega) (by omega)), cf_lq (a := B + 1 + 5) (f _ (by omega) (by omega)) (f _ (by omega) (by omega)), cf_lq (a := B + 1 + 9) (f _ (by omega) (by omega)) (f _ (by omega) (by omega)), cf_lq (a := B + 1 + 11) (f _ (by omega) (by omega)) (f _ (by omega) (by omega)), cf_lq (a := B + 1 + 13) (f _ (by omega) (by omega)) (f _ (by omega) (by omega))]
  · rw [cf_lq (a := B + 1 + 3) (f _ (by omega) (by omega)) (f _ (by omega) (by omega)), cf_lq (a := B + 1 + 5) (f _ (by omega) (by omega)) (f _ (by omega) (by omega)), cf_lq (a := B + 1 + 7) (f _ (by omega) (by omega)) (f _ (by omega) (by omega)), cf_lq (a := B + 1 + 11) (f _ (by omega) (by omega)) (f _ (by omega) (by omega)), cf_lq (a := B + 1 + 13) (f _ (by omega) (by omega)) (f _ (by omega) (by omega))]
  · rw [cf_lq (a := B + 1 + 3) (f _ (by omega) (by omega)) (f _ (by omega) (by omega)), cf_lq (a := B + 1 + 5) (f _ (by omega) (by omega)) (f _ (by omega) (by omega)), cf_lq (a := B + 1 + 7) (f _ (by omega) (by omega)) (f _ (by omega) (by omega)), cf_lq (a := B + 1 + 9) (f _ (by omega) (by omega)) (f _ (by omega) (by omega)), cf_lq (a := B + 1 + 13) (f _ (by omega) (by omega)) (f _ (by omega) (by omega))]
  · rw [cf_lq (a := B + 1 + 3) (f _ (by omega) (by omega)) (f _ (by omega) (by omega)), cf_lq (a := B + 1 + 5) (f _ (by omega) (by omega)) (f _ (by omega) (by omega)), cf_lq (a := B + 1 + 7) (f _ (by omega) (by omega)) (f _ (by omega) (by omega)), cf_lq (a := B + 1 + 9) (f _ (by omega) (by omega)) (f _ (by omega) (by omega)), cf_lq (a := B + 1 + 11) (f _ (by omega) (by omega)) (f _ (by omega) (by omega))]
/-- what stays where the Past's cells, and the object's, stay -/
theorem cf_hq {h h1 : sg_H} {B : Nat} (ho : cf_ho h B) (f : ∀ q, B + 16 ≤ q → q < B + 108 → h1.2 q = h.2 q) : cf_ho h1 B ∧ cf_p h1 B = cf_p h B := by
  have e1 : cf_pa h1 B = cf_pa h B := cf_pq (f _ (by omega) (by omega))
  have e2 : cf_n h1 (B + 16) = cf_n h (B + 16) := cf_nq (f _ (by omega) (by omega))
  refine ⟨⟨by rw [e1]; exact ho.1, by rw [e2]; exact ho.2.1, by rw [e2]; exact ho.2.2⟩, ?_⟩
  unfold cf_p
  rw [e1, e2]
  refine List.map_congr_left (fun a ha => cf_sq (fun q q1 q2 => ?_))
  have := cf_in ho (List.mem_of_mem_take ha)
  exact f q (by omega) (by omega)
/-- a STEP: the Past has kept, then one Line of the State has changed -/
theorem cf_put {h h1 h2 : sg_H} {B a i : Nat} {A : fa_A} {L : List Int} (hx : cf_X h B A) (fr : ∀ q, (q < B + 16 ∨ B + 108 ≤ q) → h1.2 q = h.2 q) (ho1 : cf_ho h1 B) (P1 : cf_p h1 B = (cf_s h (B + 1) :: cf_p h B).take 6) (x2 : ck_X h2 B) (G : ck_G B a h1 h2) (ea : B + 1 + 3 + 2 * i = a) (hi : i < 6) (e : cf_l h2 a = L) : cf_X h2 B (fa_put A i L) := by
  obtain ⟨x, ho, s, p, k⟩ := hx
  have f2 : ∀ q, q ≠ a → q ≠ a + 1 → h2.2 q = h1.2 q := fun q q1 q2 => G.2 q q1 q2
  obtain ⟨q1, q2⟩ := cf_hq ho1 (fun q q1 q2 => f2 q (by omega) (by omega))
  refine ⟨x2, q1, ?_, ?_, ?_⟩
  · rw [cf_st f2 ea hi, e, cf_sq (h := h) (fun q q1 q2 => fr q (by omega)), s]
    rfl
  · rw [q2, P1, s, p]
    rfl
  · rw [cf_kq (f2 B (by omega) (by omega)), cf_kq (fr B (by omega)), k]
    rfl
/-! sums over a list -/
def fz (f : Nat → Int) : Nat → Int
  | 0 => 0
  | n + 1 => fz f n + f n
theorem fz_s {f : Nat → Int} {p : Int} (p0 : 0 ≤ p) : fz f (p + 1).toNat = fz f p.toNat + f p.toNat := by
  rw [show (p + 1).toNat = p.toNat + 1 by omega]
  rfl
/-- a list changed as far as p -/
def fa_tl (F : Int → Int) (L : List Int) (p : Int) : List Int := tt_b L.length (fun j => if (j : Int) < p then F (L.getD j 0) else L.getD j 0)
theorem fa_t0 {F : Int → Int} {L : List Int} : L = fa_tl F L 0 := tt_eq 0 rfl (fun j hj => (if_neg (by omega)).symm)
theorem fa_tn {F : Int → Int} {L : List Int} {p : Int} (h : (L.length : Int) ≤ p) : fa_tl F L p = L.map F := by
  refine (tt_eq 0 (by rw [List.length_map]) (fun j hj => ?_)).symm
  rw [if_pos (by omega), List.getD_eq_getElem?_getD, List.getElem?_map, List.getElem?_eq_getElem hj, gd_in hj]
  rfl
theorem fa_tlen {F : Int → Int} {L : List Int} {p : Int} : (fa_tl F L p).length = L.length := tt_len
theorem fa_tg {F : Int → Int} {L : List Int} {p : Int} (p0 : 0 ≤ p) (p1 : p < (L.length : Int)) : gg_l (fa_tl F L p) p = L.getD p.toNat 0 := by
  rw [gg_in p0 (by rw [fa_tlen]; exact p1)]
  unfold fa_tl
  rw [tt_get (by omega), if_neg (by omega)]
theorem fa_ts {F : Int → Int} {L : List Int} {p : Int} (p0 : 0 ≤ p) (p1 : p < (L.length : Int)) : (fa_tl F L p).set p.toNat (F (L.getD p.toNat 0)) = fa_tl F L (p + 1) := by
  refine tt_eq 0 (by rw [List.length_set, fa_tlen]) (fun j hj => ?_)
  rw [gd_set (by rw [fa_tlen]; omega)]
  unfold fa_tl
  rw [tt_get hj]
  by_cases c : j = p.toNat
  · rw [if_pos c, if_pos (by omega), c]
  · rw [if_neg c]
    by_cases c2 : (j : Int) < p
    · rw [if_pos c2, if_pos (by omega)]
    · rw [if_neg c2, if_neg (by omega)]
/-- it stays as it is where the change changes nothing -/
theorem fa_tk {F : Int → Int} {L : List Int} {p : Int} (p0 : 0 ≤ p) (e : F (L.getD p.toNat 0) = L.getD p.toNat 0) : fa_tl F L p = fa_tl F L (p + 1) := by
  unfold fa_tl
  refine tt_cg (fun j hj => ?_)
  by_cases c : (j : Int) < p
  · rw [if_pos c, if_pos (by omega)]
  · rw [if_neg c]
    by_cases c2 : (j : Int) < p + 1
    · rw [if_pos c2, show j = p.toNat by omega, e]
    · rw [if_neg c2]
/-! what the calls make of rows -/
def rz (s : Int) : Int := if 0 ≤ fn_upper s ∧ fn_upper s ≤ 255 then fn_upper s else s
def fs_diff (F : Int → Int) (L : List Int) (n : Nat) : Int := fz (fun j => if F (L.getD j 0) = L.getD j 0 then 0 else 1) n
theorem fs_b {F : Int → Int} {L : List Int} {n : Nat} : 0 ≤ fs_diff F L n ∧ fs_diff F L n ≤ (n : Int) := by
  unfold fs_diff
  induction n with
  | zero => exact ⟨Int.le_refl _, Int.le_refl _⟩
  | succ n ih =>
    show 0 ≤ fz _ n + (if _ then 0 else 1) ∧ fz _ n + (if _ then 0 else 1) ≤ _
    split <;> omega
def fs_lay (a b c e : Int) : List Int := (if a = -1 then [] else [a]) ++ ((if b = -1 then [] else [b]) ++ ((if c = -1 then [] else [c]) ++ (if e = -1 then [] else [e])))
theorem fs_d1 {F : Int → Int} {L : List Int} {p : Int} (p0 : 0 ≤ p) (n : F (L.getD p.toNat 0) ≠ L.getD p.toNat 0) : fs_diff F L (p + 1).toNat = fs_diff F L p.toNat + 1 := by
  unfold fs_diff
  rw [fz_s p0, if_neg n]
theorem fs_d0 {F : Int → Int} {L : List Int} {p : Int} (p0 : 0 ≤ p) (n : F (L.getD p.toNat 0) = L.getD p.toNat 0) : fs_diff F L (p + 1).toNat = fs_diff F L p.toNat := by
  unfold fs_diff
  rw [fz_s p0, if_pos n, Int.add_zero]
theorem rz_p {s : Int} (h : 0 ≤ fn_upper s ∧ fn_upper s ≤ 255) : rz s = fn_upper s := if_pos h
theorem rz_n {s : Int} (h : ¬ (0 ≤ fn_upper s ∧ fn_upper s ≤ 255)) : rz s = s := if_neg h
set_option maxRecDepth 100000 in
theorem f_X5_rowOf {w : sg_W} {Q : sg_O → sg_H → Prop} {h : sg_H} (g : sg_G w) {d : Nat} (hd : 11 ≤ d) {B : Nat} (hx : ck_X h B) {row : Int} (hQ : 0 ≤ row → row < 4 → ck_L B (B + 1 + 3 + 2 * row.toNat) 0 → Q (.inl (some (sg_r (B + 1 + 3 + 2 * row.toNat)))) h) (hX : (row < 0 ∨ 4 ≤ row) → ∀ z, h.1 ≤ z → Q (.inr e_I) (z, h.2)) : sg_C w mi_X5_rowOf d 1 6 [sg_r B, sg_i row] h Q := by
  refine sg_of pn_X5 (Nat.le_of_ble_eq_true rfl) ?_
  have y0 := ck_Y0 hx
  refine sg_iload_n (pc := 0) (j := 1) (dc_X5_rowOf_0.1.1.1.1) rfl rfl ?_
  refine sg_if_lt (pc := 1) (tgt := 9) (dc_X5_rowOf_0.1.1.1.2) (by decide) (fun c1 => ?_) (fun c1 => ?_)
  · refine sg_throwW (pc := 9) g th_X5_226_310 (dc_X5_rowOf_0.1.2.1.2) (dc_X5_rowOf_0.1.2.2.1) (dc_X5_rowOf_0.1.2.2.2) (dc_X5_rowOf_0.2.1.1.1) (dc_X5_rowOf_0.2.1.1.2) (by first | exact Nat.le_trans (Nat.le_of_ble_eq_true rfl) hd | omega) (Nat.le_of_ble_eq_true rfl) (by first | exact Nat.le_of_ble_eq_true rfl | omega) (by first | exact Nat.le_of_ble_eq_true rfl | omega) ?_
    exact fun z hz => hX (by omega) z hz
  · refine sg_iload_n (pc := 4) (j := 1) (dc_X5_rowOf_0.1.1.2.1) rfl rfl ?_
    refine sg_iconst (pc := 5) (z := 4) (dc_X5_rowOf_0.1.1.2.2) (by decide) ?_
    refine sg_icmp_lt (pc := 6) (tgt := 20) (dc_X5_rowOf_0.1.2.1.1) (by decide) (fun c6 => ?_) (fun c6 => ?_)
    · obtain ⟨hS0, hS1, hS2⟩ := ck_sl hx ck_now
      refine sg_aload_n (pc := 20) (j := 0) (dc_X5_rowOf_0.2.1.2.1) rfl rfl ?_
      refine ck_gob (pc := 21) g (dc_X5_rowOf_0.2.1.2.2) fk_X5_10 (by assumption) (fun _ => rfl) ?_
      refine sg_getN (pc := 24) g (dc_X5_rowOf_0.2.2.1.1) fk_X5_312 hS0 rfl rfl ?_
      refine sg_iload_n (pc := 27) (j := 1) (dc_X5_rowOf_0.2.2.1.2) rfl rfl ?_
      obtain ⟨e28, l28⟩ := cf_row (p := row) (ck_now (B := B)) (by omega) (by omega)
      refine sg_aald (pc := 28) (dc_X5_rowOf_0.2.2.2.1) hS1 (by decide) (by omega) e28 ?_
      refine sg_aret (pc := 29) (dc_X5_rowOf_0.2.2.2.2) rfl (by first | exact Or.inl ⟨_, rfl⟩ | exact Or.inr ⟨_, rfl⟩) (by first | exact Nat.le_of_ble_eq_true rfl | omega) (by first | exact Nat.le_of_ble_eq_true rfl | omega) ?_
      exact hQ (by omega) (by omega) l28
    · refine sg_throwW (pc := 9) g th_X5_226_310 (dc_X5_rowOf_0.1.2.1.2) (dc_X5_rowOf_0.1.2.2.1) (dc_X5_rowOf_0.1.2.2.2) (dc_X5_rowOf_0.2.1.1.1) (dc_X5_rowOf_0.2.1.1.2) (by first | exact Nat.le_trans (Nat.le_of_ble_eq_true rfl) hd | omega) (Nat.le_of_ble_eq_true rfl) (by first | exact Nat.le_of_ble_eq_true rfl | omega) (by first | exact Nat.le_of_ble_eq_true rfl | omega) ?_
      exact fun z hz => hX (by omega) z hz

set_option maxRecDepth 100000 in
theorem f_X5_trackOf {w : sg_W} {Q : sg_O → sg_H → Prop} {h : sg_H} (g : sg_G w) {d : Nat} (hd : 11 ≤ d) {B : Nat} (hx : ck_X h B) {trk : Int} (hQ : 0 ≤ trk → trk < 2 → ck_L B (B + 1 + 3 + 2 * (4 + trk.toNat)) 1 → Q (.inl (some (sg_r (B + 1 + 3 + 2 * (4 + trk.toNat))))) h) (hX : (trk < 0 ∨ 2 ≤ trk) → ∀ z, h.1 ≤ z → Q (.inr e_I) (z, h.2)) : sg_C w mi_X5_trackOf d 1 6 [sg_r B, sg_i trk] h Q := by
  refine sg_of pn_X5 (Nat.le_of_ble_eq_true rfl) ?_
  have y0 := ck_Y0 hx
  refine sg_iload_n (pc := 0) (j := 1) (dc_X5_trackOf_0.1.1.1.1) rfl rfl ?_
  refine sg_if_lt (pc := 1) (tgt := 9) (dc_X5_trackOf_0.1.1.1.2) (by decide) (fun c1 => ?_) (fun c1 => ?_)
  · refine sg_throwW (pc := 9) g th_X5_226_316 (dc_X5_trackOf_0.1.2.1.2) (dc_X5_trackOf_0.1.2.2.1) (dc_X5_trackOf_0.1.2.2.2) (dc_X5_trackOf_0.2.1.1.1) (dc_X5_trackOf_0.2.1.1.2) (by first | exact Nat.le_trans (Nat.le_of_ble_eq_true rfl) hd | omega) (Nat.le_of_ble_eq_true rfl) (by first | exact Nat.le_of_ble_eq_true rfl | omega) (by first | exact Nat.le_of_ble_eq_true rfl | omega) ?_
    exact fun z hz => hX (by omega) z hz
  · refine sg_iload_n (pc := 4) (j := 1) (dc_X5_trackOf_0.1.1.2.1) rfl rfl ?_
    refine sg_iconst (pc := 5) (z := 2) (dc_X5_trackOf_0.1.1.2.2) (by decide) ?_
    refine sg_icmp_lt (pc := 6) (tgt := 20) (dc_X5_trackOf_0.1.2.1.1) (by decide) (fun c6 => ?_) (fun c6 => ?_)
    · obtain ⟨hS0, hS1, hS2⟩ := ck_sl hx ck_now
      refine sg_aload_n (pc := 20) (j := 0) (dc_X5_trackOf_0.2.1.2.1) rfl rfl ?_
      refine ck_gob (pc := 21) g (dc_X5_trackOf_0.2.1.2.2) fk_X5_10 (by assumption) (fun _ => rfl) ?_
      refine sg_getN (pc := 24) g (dc_X5_trackOf_0.2.2.1.1) fk_X5_318 hS0 rfl rfl ?_
      refine sg_iload_n (pc := 27) (j := 1) (dc_X5_trackOf_0.2.2.1.2) rfl rfl ?_
      obtain ⟨e28, l28⟩ := cf_trk (p := trk) (ck_now (B := B)) (by omega) (by omega)
      refine sg_aald (pc := 28) (dc_X5_trackOf_0.2.2.2.1) hS2 (by decide) (by omega) e28 ?_
      refine sg_aret (pc := 29) (dc_X5_trackOf_0.2.2.2.2) rfl (by first | exact Or.inl ⟨_, rfl⟩ | exact Or.inr ⟨_, rfl⟩) (by first | exact Nat.le_of_ble_eq_true rfl | omega) (by first | exact Nat.le_of_ble_eq_true rfl | omega) ?_
      exact hQ (by omega) (by omega) l28
    · refine sg_throwW (pc := 9) g th_X5_226_316 (dc_X5_trackOf_0.1.2.1.2) (dc_X5_trackOf_0.1.2.2.1) (dc_X5_trackOf_0.1.2.2.2) (dc_X5_trackOf_0.2.1.1.1) (dc_X5_trackOf_0.2.1.1.2) (by first | exact Nat.le_trans (Nat.le_of_ble_eq_true rfl) hd | omega) (Nat.le_of_ble_eq_true rfl) (by first | exact Nat.le_of_ble_eq_true rfl | omega) (by first | exact Nat.le_of_ble_eq_true rfl | omega) ?_
      exact fun z hz => hX (by omega) z hz

set_option maxRecDepth 100000 in
theorem f_X5_raise {w : sg_W} {Q : sg_O → sg_H → Prop} {h : sg_H} (g : sg_G w) {d : Nat} (hd : 14 ≤ d) {B : Nat} {A : fa_A} (hx : cf_X h B A) (ok : fa_ok A) {row : Int} {L : List Int} (hL : fa_L A row.toNat = L) (hQ : ¬ (row < 0 ∨ 4 ≤ row) → ∀ (v : Int) (h' : sg_H), v = fs_diff rz L L.length → cf_X h' B (fa_put A row.toNat (L.map rz)) → ck_F B h h' → Q (.inl (some (sg_i v))) h') (hXI : (row < 0 ∨ 4 ≤ row) → ∀ z, h.1 ≤ z → Q (.inr e_I) (z, h.2)) : sg_C w mi_X5_raise d 8 48 [sg_r B, sg_i row] h Q := by
  refine sg_of pn_X5 (Nat.le_of_ble_eq_true rfl) ?_
  obtain ⟨x0, ho, hS, hP, hK⟩ := id hx
  have y0 := ck_Y0 x0
  refine sg_aload_n (pc := 0) (j := 0) (dc_X5_raise_0.1.1.1.1) rfl rfl ?_
  refine sg_iload_n (pc := 1) (j := 1) (dc_X5_raise_0.1.1.1.2) rfl rfl ?_
  refine sg_cE1 (pc := 2) (d' := d - 1) (mc' := 1) (ms' := 6) 6 g (dc_X5_raise_0.1.1.2.1) cb_X5_rowOf ml_X5_36 mn_X5_rowOf rfl mv_X5_rowOf (Nat.le_of_ble_eq_true rfl) (ck_oc (by assumption)) (Nat.le_of_ble_eq_true rfl) (by first | exact jl_d0 hd rfl | omega) (by first | exact Nat.le_of_ble_eq_true rfl | omega) (by first | exact Nat.le_of_ble_eq_true rfl | omega) ?_
  refine f_X5_rowOf g (by first | exact jl_d1 hd rfl | omega) (by assumption) (fun l2 r2 L2 => sg_K1 ?_) (fun t2 z2 w2 => sg_KX (by first | exact Nat.le_of_ble_eq_true rfl | omega) (by first | exact Nat.le_of_ble_eq_true rfl | omega) (hXI (by omega) z2 w2))
  obtain ⟨a2, ea2⟩ : ∃ a, a = B + 1 + 3 + 2 * row.toNat := ⟨_, rfl⟩
  rw [← ea2] at L2 ⊢
  have k2 : cf_l h a2 = L := by rw [ea2, cf_rl hx (by omega)]; exact hL
  have r42 := fa_row ok (i := row.toNat) (by omega)
  rw [hL] at r42
  refine sg_astore_n (pc := 5) (j := 2) (dc_X5_raise_0.1.1.2.2) rfl (by decide) ?_
  refine sg_aload_n (pc := 6) (j := 0) (dc_X5_raise_0.1.2.1.1) rfl rfl ?_
  refine ck_gob (pc := 7) g (dc_X5_raise_0.1.2.1.2) fk_X5_19 (by assumption) (fun _ => rfl) ?_
  refine sg_aload_n (pc := 10) (j := 0) (dc_X5_raise_0.1.2.2.1) rfl rfl ?_
  refine ck_gob (pc := 11) g (dc_X5_raise_0.1.2.2.2) fk_X5_10 (by assumption) (fun _ => rfl) ?_
  refine sg_cE1 (pc := 14) (d' := d - 1) (mc' := 0) (ms' := 0) 4 g (dc_X5_raise_0.2.1.1.1) cb_X1_keep ml_X5_55 mn_X1_keep rfl mv_X1_keep (Nat.le_of_ble_eq_true rfl) (ck_pc (by assumption)) (Nat.le_of_ble_eq_true rfl) (by first | exact jl_d0 hd rfl | omega) (by first | exact Nat.le_of_ble_eq_true rfl | omega) (by first | exact Nat.le_of_ble_eq_true rfl | omega) ?_
  refine f_X1_keep g (by first | exact jl_d1 hd rfl | omega) x0 ho (fun h14 x14 F14 fr14 ho14 P14 => sg_K0 ?_)
  have y14 : ck_Y h h14 B := ⟨x14, F14⟩
  have q14a2 : cf_l h14 a2 = cf_l h a2 := cf_lq (fr14 _ (by omega)) (fr14 _ (by omega))
  rw [k2] at q14a2
  refine sg_iconst (pc := 17) (z := 0) (dc_X5_raise_0.2.1.1.2) (by decide) ?_
  refine sg_istore_n (pc := 18) (j := 3) (dc_X5_raise_0.2.1.2.1) rfl (by decide) ?_
  refine sg_iconst (pc := 19) (z := 0) (dc_X5_raise_0.2.1.2.2) (by decide) ?_
  refine sg_istore (pc := 20) (dc_X5_raise_0.2.2.1.1) (by decide) ?_
  have loop22 : ∀ (N : Nat) (h1 : sg_H) (p s : Int), (ck_X h1 B) → (ck_G B a2 h14 h1) → (0 ≤ p ∧ p ≤ (L.length : Int)) → (cf_l h1 a2 = fa_tl (rz) L p) → (s = fs_diff (rz) L p.toNat) → ((L.length : Int) - p).toNat < N → sg_R w mi_X5_raise d 8 48 Q 22 [(4, sg_i p), (3, sg_i s), (0, sg_r B), (2, sg_r a2)] [] h1 1 6 := by
    intro N
    induction N with
    | zero => intro h1 p s x1 G1 p0 l1 s1 hm; exact absurd hm (Nat.not_lt_zero _)
    | succ N ih =>
      intro h1 p s x1 G1 p0 l1 s1 hm
      have y1 : ck_Y h h1 B := ⟨x1, ck_Ft F14 G1.1⟩
      have bzp := fs_b (F := rz) (L := L) (n := p.toNat)
      rw [← s1] at bzp
      refine sg_iload (pc := 22) (dc_X5_raise_0.2.2.1.2) rfl ?_
      refine sg_aload_n (pc := 24) (j := 2) (dc_X5_raise_0.2.2.2.1) rfl rfl ?_
      refine sg_cE0 (pc := 25) (d' := d - 1) (mc' := 0) (ms' := 0) 3 g (dc_X5_raise_0.2.2.2.2) cb_X0_size ml_X5_63 mn_X0_size rfl mv_X0_size (Nat.le_of_ble_eq_true rfl) (ck_lc (by assumption) (by first | assumption | exact ck_rev)) (Nat.le_of_ble_eq_true rfl) (by first | exact jl_d0 hd rfl | omega) (by first | exact Nat.le_of_ble_eq_true rfl | omega) (by first | exact Nat.le_of_ble_eq_true rfl | omega) ?_
      refine f_X0_size g (by first | exact jl_d1 hd rfl | omega) (by assumption) L2 (fun z25 e25 l025 u25 => sg_K1 ?_)
      rw [l1] at e25
      try rw [fa_tlen] at e25
      refine sg_icmp_ge (pc := 28) (tgt := 78) (dc_X5_raise_28.1.1.1.1) (by decide) (fun c28 => ?_) (fun c28 => ?_)
      · refine sg_iload_n (pc := 78) (j := 3) (dc_X5_raise_64.2.1.2) rfl rfl ?_
        refine sg_iret (pc := 79) (dc_X5_raise_64.2.2.1) rfl (by first | exact Nat.le_of_ble_eq_true rfl | omega) (by first | exact Nat.le_of_ble_eq_true rfl | omega) ?_
        exact hQ (by omega) _ _ (by rw [s1, show p.toNat = L.length by omega]) (cf_put (i := row.toNat) hx fr14 ho14 P14 x1 G1 (by omega) (by omega) (by rw [l1, fa_tn (by omega)])) (ck_Ft F14 G1.1)
      · refine sg_aload_n (pc := 31) (j := 2) (dc_X5_raise_28.1.1.1.2) rfl rfl ?_
        refine sg_iload (pc := 32) (dc_X5_raise_28.1.1.2.1) rfl ?_
        refine sg_cE1 (pc := 34) (d' := d - 1) (mc' := 0) (ms' := 0) 3 g (dc_X5_raise_28.1.1.2.2) cb_X0_get ml_X5_75 mn_X0_get rfl mv_X0_get (Nat.le_of_ble_eq_true rfl) (ck_lc (by assumption) (by first | assumption | exact ck_rev)) (Nat.le_of_ble_eq_true rfl) (by first | exact jl_d0 hd rfl | omega) (by first | exact Nat.le_of_ble_eq_true rfl | omega) (by first | exact Nat.le_of_ble_eq_true rfl | omega) ?_
        refine f_X0_get g (by first | exact jl_d1 hd rfl | omega) (by assumption) L2 (fun z34 e34 v34 => sg_K1 ?_)
        rw [l1] at e34
        rw [l1] at v34
        try rw [fa_tg (by omega) (by omega)] at e34
        subst e34
        refine sg_cS1 (pc := 37) (d' := d - 1) (mc' := 0) (ms' := 0) g (dc_X5_raise_28.1.2.1.1) cb_X2_upperOf ml_X5_78 ms_X2_upperOf (Nat.le_of_ble_eq_true rfl) (by first | exact jl_d0 hd rfl | omega) (by first | exact Nat.le_of_ble_eq_true rfl | omega) (by first | exact Nat.le_of_ble_eq_true rfl | omega) ?_
        refine s_X2_upperOf g (by first | exact jl_d1 hd rfl | omega) (fun z37 h37 => sg_K1 ?_)
        (try simp only [fn_sign] at h37)
        refine sg_istore (pc := 40) (dc_X5_raise_28.1.2.1.2) (by decide) ?_
        refine sg_iload (pc := 42) (dc_X5_raise_28.1.2.2.1) rfl ?_
        refine sg_cS1 (pc := 44) (d' := d - 1) (mc' := 0) (ms' := 0) g (dc_X5_raise_28.1.2.2.2) cb_X2_isSign ml_X5_83 ms_X2_isSign (Nat.le_of_ble_eq_true rfl) (by first | exact jl_d0 hd rfl | omega) (by first | exact Nat.le_of_ble_eq_true rfl | omega) (by first | exact Nat.le_of_ble_eq_true rfl | omega) ?_
        refine s_X2_isSign g (by first | exact jl_d1 hd rfl | omega) (fun z44 h44 b44 => sg_K1 ?_)
        (try simp only [fn_sign] at h44)
        refine sg_if_eq (pc := 47) (tgt := 72) (dc_X5_raise_28.2.1.1.1) (by decide) (fun c47 => ?_) (fun c47 => ?_)
        · have rzp : rz (L.getD p.toNat 0) = L.getD p.toNat 0 := by
            by_cases q : 0 ≤ z37 ∧ z37 ≤ 255
            · rw [rz_p (by rw [← h37]; exact q), ← h37]; omega
            · exact rz_n (by rw [← h37]; exact q)
          have bk1 := l1.trans (fa_tk (F := rz) (L := L) (p := p) (by omega) rzp)
          have bk2 : s = fs_diff rz L (p + 1).toNat := by rw [fs_d0 (by omega) rzp, s1]
          first | refine sg_iincB (pc := 72) (dc_X5_raise_64.1.2.2) rfl (by decide) (by decide) (by omega) (by omega) ?_ | refine sg_iinc (pc := 72) (dc_X5_raise_64.1.2.2) rfl (by decide) (by decide) ?_
          refine sg_goto (pc := 75) (tgt := 22) (dc_X5_raise_64.2.1.1) (by decide) ?_
          refine sg_lsub (lv' := [(4, _), (3, _), (0, _), (2, _)]) ⟨rfl, rfl, rfl, rfl, trivial⟩ ?_
          exact ih _ _ _ x1 G1 (by omega) bk1 bk2 (by first | exact jl_m1 hm (by omega) | exact jl_m2 hm (by omega) | omega)
        · refine sg_iload (pc := 50) (dc_X5_raise_28.2.1.1.2) rfl ?_
          refine sg_aload_n (pc := 52) (j := 2) (dc_X5_raise_28.2.1.2.1) rfl rfl ?_
          refine sg_iload (pc := 53) (dc_X5_raise_28.2.1.2.2) rfl ?_
          refine sg_cE1 (pc := 55) (d' := d - 1) (mc' := 0) (ms' := 0) 3 g (dc_X5_raise_28.2.2.1.1) cb_X0_get ml_X5_75 mn_X0_get rfl mv_X0_get (Nat.le_of_ble_eq_true rfl) (ck_lc (by assumption) (by first | assumption | exact ck_rev)) (Nat.le_of_ble_eq_true rfl) (by first | exact jl_d0 hd rfl | omega) (by first | exact Nat.le_of_ble_eq_true rfl | omega) (by first | exact Nat.le_of_ble_eq_true rfl | omega) ?_
          refine f_X0_get g (by first | exact jl_d1 hd rfl | omega) (by assumption) L2 (fun z55 e55 v55 => sg_K1 ?_)
          rw [l1] at e55
          rw [l1] at v55
          try rw [fa_tg (by omega) (by omega)] at e55
          refine sg_icmp_eq (pc := 58) (tgt := 72) (dc_X5_raise_28.2.2.1.2) (by decide) (fun c58 => ?_) (fun c58 => ?_)
          · have rzp : rz (L.getD p.toNat 0) = L.getD p.toNat 0 := by
              by_cases q : 0 ≤ z37 ∧ z37 ≤ 255
              · rw [rz_p (by rw [← h37]; exact q), ← h37]; omega
              · exact rz_n (by rw [← h37]; exact q)
            have bk1 := l1.trans (fa_tk (F := rz) (L := L) (p := p) (by omega) rzp)
            have bk2 : s = fs_diff rz L (p + 1).toNat := by rw [fs_d0 (by omega) rzp, s1]
            first | refine sg_iincB (pc := 72) (dc_X5_raise_64.1.2.2) rfl (by decide) (by decide) (by omega) (by omega) ?_ | refine sg_iinc (pc := 72) (dc_X5_raise_64.1.2.2) rfl (by decide) (by decide) ?_
            refine sg_goto (pc := 75) (tgt := 22) (dc_X5_raise_64.2.1.1) (by decide) ?_
            refine sg_lsub (lv' := [(4, _), (3, _), (0, _), (2, _)]) ⟨rfl, rfl, rfl, rfl, trivial⟩ ?_
            exact ih _ _ _ x1 G1 (by omega) bk1 bk2 (by first | exact jl_m1 hm (by omega) | exact jl_m2 hm (by omega) | omega)
          · refine sg_aload_n (pc := 61) (j := 2) (dc_X5_raise_28.2.2.2.1) rfl rfl ?_
            refine sg_iload (pc := 62) (dc_X5_raise_28.2.2.2.2) rfl ?_
            refine sg_iload (pc := 64) (dc_X5_raise_64.1.1.1) rfl ?_
            refine sg_cE2 (pc := 66) (d' := d - 1) (mc' := 0) (ms' := 0) 3 g (dc_X5_raise_64.1.1.2) cb_X0_set ml_X5_86 mn_X0_set rfl mv_X0_set (Nat.le_of_ble_eq_true rfl) (ck_lc (by assumption) (by first | assumption | exact ck_rev)) (Nat.le_of_ble_eq_true rfl) (by first | exact jl_d0 hd rfl | omega) (by first | exact Nat.le_of_ble_eq_true rfl | omega) (by first | exact Nat.le_of_ble_eq_true rfl | omega) ?_
            refine f_X0_set g (by first | exact jl_d1 hd rfl | omega) (by assumption) L2 (by first | exact ck_v0 | assumption | (simp only [ck_v1, ck_v2] at * <;> omega)) (by omega) (by rw [l1]; first | omega | (rw [fa_tlen]; omega) | (rw [fs_svl (by omega)]; omega)) (fun h66 x66 f66 n66 w66 => sg_K0 ?_)
            have l66 := cf_ls n66 w66
            rw [l1] at l66
            have y66 := ck_Yt (h0 := h) (by assumption) x66 f66.1
            first | refine sg_iincB (pc := 69) (dc_X5_raise_64.1.2.1) rfl (by decide) (by decide) (by omega) (by omega) ?_ | refine sg_iinc (pc := 69) (dc_X5_raise_64.1.2.1) rfl (by decide) (by decide) ?_
            have rzp : rz (L.getD p.toNat 0) = z37 := by rw [h37]; exact rz_p (by rw [← h37]; omega)
            have bk1 := fa_ts (F := rz) (L := L) (p := p) (by omega) (by omega)
            rw [rzp] at bk1
            have bk2 : s + 1 = fs_diff rz L (p + 1).toNat := by rw [fs_d1 (by omega) (by rw [rzp]; omega), s1]
            first | refine sg_iincB (pc := 72) (dc_X5_raise_64.1.2.2) rfl (by decide) (by decide) (by omega) (by omega) ?_ | refine sg_iinc (pc := 72) (dc_X5_raise_64.1.2.2) rfl (by decide) (by decide) ?_
            refine sg_goto (pc := 75) (tgt := 22) (dc_X5_raise_64.2.1.1) (by decide) ?_
            refine sg_lsub (lv' := [(4, _), (3, _), (0, _), (2, _)]) ⟨rfl, rfl, rfl, rfl, trivial⟩ ?_
            exact ih _ _ _ x66 (ck_Gt G1 f66) (by omega) (by rw [l66]; exact bk1) bk2 (by first | exact jl_m1 hm (by omega) | exact jl_m2 hm (by omega) | omega)
  refine sg_lsub (lv' := [(4, _), (3, _), (0, _), (2, _)]) ⟨rfl, rfl, rfl, rfl, trivial⟩ ?_
  exact loop22 _ _ _ _ x14 ck_G0 (by omega) (q14a2.trans fa_t0) rfl (Nat.lt_succ_self _)

set_option maxRecDepth 100000 in
theorem f_X5_sink {w : sg_W} {Q : sg_O → sg_H → Prop} {h : sg_H} (g : sg_G w) {d : Nat} (hd : 14 ≤ d) {B : Nat} {A : fa_A} (hx : cf_X h B A) (ok : fa_ok A) {row : Int} {L : List Int} (hL : fa_L A row.toNat = L) (hQ : ¬ (row < 0 ∨ 4 ≤ row) → ∀ (v : Int) (h' : sg_H), v = fs_diff fn_lower L L.length → cf_X h' B (fa_put A row.toNat (L.map fn_lower)) → ck_F B h h' → Q (.inl (some (sg_i v))) h') (hXI : (row < 0 ∨ 4 ≤ row) → ∀ z, h.1 ≤ z → Q (.inr e_I) (z, h.2)) : sg_C w mi_X5_sink d 8 48 [sg_r B, sg_i row] h Q := by
  refine sg_of pn_X5 (Nat.le_of_ble_eq_true rfl) ?_
  obtain ⟨x0, ho, hS, hP, hK⟩ := id hx
  have y0 := ck_Y0 x0
  refine sg_aload_n (pc := 0) (j := 0) (dc_X5_sink_0.1.1.1.1) rfl rfl ?_
  refine sg_iload_n (pc := 1) (j := 1) (dc_X5_sink_0.1.1.1.2) rfl rfl ?_
  refine sg_cE1 (pc := 2) (d' := d - 1) (mc' := 1) (ms' := 6) 6 g (dc_X5_sink_0.1.1.2.1) cb_X5_rowOf ml_X5_36 mn_X5_rowOf rfl mv_X5_rowOf (Nat.le_of_ble_eq_true rfl) (ck_oc (by assumption)) (Nat.le_of_ble_eq_true rfl) (by first | exact jl_d0 hd rfl | omega) (by first | exact Nat.le_of_ble_eq_true rfl | omega) (by first | exact Nat.le_of_ble_eq_true rfl | omega) ?_
  refine f_X5_rowOf g (by first | exact jl_d1 hd rfl | omega) (by assumption) (fun l2 r2 L2 => sg_K1 ?_) (fun t2 z2 w2 => sg_KX (by first | exact Nat.le_of_ble_eq_true rfl | omega) (by first | exact Nat.le_of_ble_eq_true rfl | omega) (hXI (by omega) z2 w2))
  obtain ⟨a2, ea2⟩ : ∃ a, a = B + 1 + 3 + 2 * row.toNat := ⟨_, rfl⟩
  rw [← ea2] at L2 ⊢
  have k2 : cf_l h a2 = L := by rw [ea2, cf_rl hx (by omega)]; exact hL
  have r42 := fa_row ok (i := row.toNat) (by omega)
  rw [hL] at r42
  refine sg_astore_n (pc := 5) (j := 2) (dc_X5_sink_0.1.1.2.2) rfl (by decide) ?_
  refine sg_aload_n (pc := 6) (j := 0) (dc_X5_sink_0.1.2.1.1) rfl rfl ?_
  refine ck_gob (pc := 7) g (dc_X5_sink_0.1.2.1.2) fk_X5_19 (by assumption) (fun _ => rfl) ?_
  refine sg_aload_n (pc := 10) (j := 0) (dc_X5_sink_0.1.2.2.1) rfl rfl ?_
  refine ck_gob (pc := 11) g (dc_X5_sink_0.1.2.2.2) fk_X5_10 (by assumption) (fun _ => rfl) ?_
  refine sg_cE1 (pc := 14) (d' := d - 1) (mc' := 0) (ms' := 0) 4 g (dc_X5_sink_0.2.1.1.1) cb_X1_keep ml_X5_55 mn_X1_keep rfl mv_X1_keep (Nat.le_of_ble_eq_true rfl) (ck_pc (by assumption)) (Nat.le_of_ble_eq_true rfl) (by first | exact jl_d0 hd rfl | omega) (by first | exact Nat.le_of_ble_eq_true rfl | omega) (by first | exact Nat.le_of_ble_eq_true rfl | omega) ?_
  refine f_X1_keep g (by first | exact jl_d1 hd rfl | omega) x0 ho (fun h14 x14 F14 fr14 ho14 P14 => sg_K0 ?_)
  have y14 : ck_Y h h14 B := ⟨x14, F14⟩
  have q14a2 : cf_l h14 a2 = cf_l h a2 := cf_lq (fr14 _ (by omega)) (fr14 _ (by omega))
  rw [k2] at q14a2
  refine sg_iconst (pc := 17) (z := 0) (dc_X5_sink_0.2.1.1.2) (by decide) ?_
  refine sg_istore_n (pc := 18) (j := 3) (dc_X5_sink_0.2.1.2.1) rfl (by decide) ?_
  refine sg_iconst (pc := 19) (z := 0) (dc_X5_sink_0.2.1.2.2) (by decide) ?_
  refine sg_istore (pc := 20) (dc_X5_sink_0.2.2.1.1) (by decide) ?_
  have loop22 : ∀ (N : Nat) (h1 : sg_H) (p s : Int), (ck_X h1 B) → (ck_G B a2 h14 h1) → (0 ≤ p ∧ p ≤ (L.length : Int)) → (cf_l h1 a2 = fa_tl (fn_lower) L p) → (s = fs_diff (fn_lower) L p.toNat) → ((L.length : Int) - p).toNat < N → sg_R w mi_X5_sink d 8 48 Q 22 [(4, sg_i p), (3, sg_i s), (0, sg_r B), (2, sg_r a2)] [] h1 1 6 := by
    intro N
    induction N with
    | zero => intro h1 p s x1 G1 p0 l1 s1 hm; exact absurd hm (Nat.not_lt_zero _)
    | succ N ih =>
      intro h1 p s x1 G1 p0 l1 s1 hm
      have y1 : ck_Y h h1 B := ⟨x1, ck_Ft F14 G1.1⟩
      have bzp := fs_b (F := fn_lower) (L := L) (n := p.toNat)
      rw [← s1] at bzp
      refine sg_iload (pc := 22) (dc_X5_sink_0.2.2.1.2) rfl ?_
      refine sg_aload_n (pc := 24) (j := 2) (dc_X5_sink_0.2.2.2.1) rfl rfl ?_
      refine sg_cE0 (pc := 25) (d' := d - 1) (mc' := 0) (ms' := 0) 3 g (dc_X5_sink_0.2.2.2.2) cb_X0_size ml_X5_63 mn_X0_size rfl mv_X0_size (Nat.le_of_ble_eq_true rfl) (ck_lc (by assumption) (by first | assumption | exact ck_rev)) (Nat.le_of_ble_eq_true rfl) (by first | exact jl_d0 hd rfl | omega) (by first | exact Nat.le_of_ble_eq_true rfl | omega) (by first | exact Nat.le_of_ble_eq_true rfl | omega) ?_
      refine f_X0_size g (by first | exact jl_d1 hd rfl | omega) (by assumption) L2 (fun z25 e25 l025 u25 => sg_K1 ?_)
      rw [l1] at e25
      try rw [fa_tlen] at e25
      refine sg_icmp_ge (pc := 28) (tgt := 70) (dc_X5_sink_28.1.1.1.1) (by decide) (fun c28 => ?_) (fun c28 => ?_)
      · refine sg_iload_n (pc := 70) (j := 3) (dc_X5_sink_64.2.1) rfl rfl ?_
        refine sg_iret (pc := 71) (dc_X5_sink_64.2.2) rfl (by first | exact Nat.le_of_ble_eq_true rfl | omega) (by first | exact Nat.le_of_ble_eq_true rfl | omega) ?_
        exact hQ (by omega) _ _ (by rw [s1, show p.toNat = L.length by omega]) (cf_put (i := row.toNat) hx fr14 ho14 P14 x1 G1 (by omega) (by omega) (by rw [l1, fa_tn (by omega)])) (ck_Ft F14 G1.1)
      · refine sg_aload_n (pc := 31) (j := 2) (dc_X5_sink_28.1.1.1.2) rfl rfl ?_
        refine sg_iload (pc := 32) (dc_X5_sink_28.1.1.2.1) rfl ?_
        refine sg_cE1 (pc := 34) (d' := d - 1) (mc' := 0) (ms' := 0) 3 g (dc_X5_sink_28.1.1.2.2) cb_X0_get ml_X5_75 mn_X0_get rfl mv_X0_get (Nat.le_of_ble_eq_true rfl) (ck_lc (by assumption) (by first | assumption | exact ck_rev)) (Nat.le_of_ble_eq_true rfl) (by first | exact jl_d0 hd rfl | omega) (by first | exact Nat.le_of_ble_eq_true rfl | omega) (by first | exact Nat.le_of_ble_eq_true rfl | omega) ?_
        refine f_X0_get g (by first | exact jl_d1 hd rfl | omega) (by assumption) L2 (fun z34 e34 v34 => sg_K1 ?_)
        rw [l1] at e34
        rw [l1] at v34
        try rw [fa_tg (by omega) (by omega)] at e34
        subst e34
        refine sg_cS1 (pc := 37) (d' := d - 1) (mc' := 0) (ms' := 0) g (dc_X5_sink_28.1.2.1.1) cb_X2_lowerOf ml_X5_90 ms_X2_lowerOf (Nat.le_of_ble_eq_true rfl) (by first | exact jl_d0 hd rfl | omega) (by first | exact Nat.le_of_ble_eq_true rfl | omega) (by first | exact Nat.le_of_ble_eq_true rfl | omega) ?_
        refine s_X2_lowerOf g (by first | exact jl_d1 hd rfl | omega) (fun z37 h37 => sg_K1 ?_)
        refine sg_istore (pc := 40) (dc_X5_sink_28.1.2.1.2) (by decide) ?_
        refine sg_iload (pc := 42) (dc_X5_sink_28.1.2.2.1) rfl ?_
        refine sg_aload_n (pc := 44) (j := 2) (dc_X5_sink_28.1.2.2.2) rfl rfl ?_
        refine sg_iload (pc := 45) (dc_X5_sink_28.2.1.1.1) rfl ?_
        refine sg_cE1 (pc := 47) (d' := d - 1) (mc' := 0) (ms' := 0) 3 g (dc_X5_sink_28.2.1.1.2) cb_X0_get ml_X5_75 mn_X0_get rfl mv_X0_get (Nat.le_of_ble_eq_true rfl) (ck_lc (by assumption) (by first | assumption | exact ck_rev)) (Nat.le_of_ble_eq_true rfl) (by first | exact jl_d0 hd rfl | omega) (by first | exact Nat.le_of_ble_eq_true rfl | omega) (by first | exact Nat.le_of_ble_eq_true rfl | omega) ?_
        refine f_X0_get g (by first | exact jl_d1 hd rfl | omega) (by assumption) L2 (fun z47 e47 v47 => sg_K1 ?_)
        rw [l1] at e47
        rw [l1] at v47
        try rw [fa_tg (by omega) (by omega)] at e47
        refine sg_icmp_eq (pc := 50) (tgt := 64) (dc_X5_sink_28.2.1.2.1) (by decide) (fun c50 => ?_) (fun c50 => ?_)
        · have bk1 := l1.trans (fa_tk (F := fn_lower) (L := L) (p := p) (by omega) (by rw [← h37]; omega))
          have bk2 : s = fs_diff fn_lower L (p + 1).toNat := by rw [fs_d0 (by omega) (by rw [← h37]; omega), s1]
          first | refine sg_iincB (pc := 64) (dc_X5_sink_64.1.1) rfl (by decide) (by decide) (by omega) (by omega) ?_ | refine sg_iinc (pc := 64) (dc_X5_sink_64.1.1) rfl (by decide) (by decide) ?_
          refine sg_goto (pc := 67) (tgt := 22) (dc_X5_sink_64.1.2) (by decide) ?_
          refine sg_lsub (lv' := [(4, _), (3, _), (0, _), (2, _)]) ⟨rfl, rfl, rfl, rfl, trivial⟩ ?_
          exact ih _ _ _ x1 G1 (by omega) bk1 bk2 (by first | exact jl_m1 hm (by omega) | exact jl_m2 hm (by omega) | omega)
        · refine sg_aload_n (pc := 53) (j := 2) (dc_X5_sink_28.2.1.2.2) rfl rfl ?_
          refine sg_iload (pc := 54) (dc_X5_sink_28.2.2.1.1) rfl ?_
          refine sg_iload (pc := 56) (dc_X5_sink_28.2.2.1.2) rfl ?_
          refine sg_cE2 (pc := 58) (d' := d - 1) (mc' := 0) (ms' := 0) 3 g (dc_X5_sink_28.2.2.2.1) cb_X0_set ml_X5_86 mn_X0_set rfl mv_X0_set (Nat.le_of_ble_eq_true rfl) (ck_lc (by assumption) (by first | assumption | exact ck_rev)) (Nat.le_of_ble_eq_true rfl) (by first | exact jl_d0 hd rfl | omega) (by first | exact Nat.le_of_ble_eq_true rfl | omega) (by first | exact Nat.le_of_ble_eq_true rfl | omega) ?_
          refine f_X0_set g (by first | exact jl_d1 hd rfl | omega) (by assumption) L2 (by first | exact ck_v0 | assumption | (simp only [ck_v1, ck_v2] at * <;> omega)) (by omega) (by rw [l1]; first | omega | (rw [fa_tlen]; omega) | (rw [fs_svl (by omega)]; omega)) (fun h58 x58 f58 n58 w58 => sg_K0 ?_)
          have l58 := cf_ls n58 w58
          rw [l1] at l58
          have y58 := ck_Yt (h0 := h) (by assumption) x58 f58.1
          first | refine sg_iincB (pc := 61) (dc_X5_sink_28.2.2.2.2) rfl (by decide) (by decide) (by omega) (by omega) ?_ | refine sg_iinc (pc := 61) (dc_X5_sink_28.2.2.2.2) rfl (by decide) (by decide) ?_
          have bk1 := fa_ts (F := fn_lower) (L := L) (p := p) (by omega) (by omega)
          rw [← h37] at bk1
          have bk2 : s + 1 = fs_diff fn_lower L (p + 1).toNat := by rw [fs_d1 (by omega) (by rw [← h37]; omega), s1]
          first | refine sg_iincB (pc := 64) (dc_X5_sink_64.1.1) rfl (by decide) (by decide) (by omega) (by omega) ?_ | refine sg_iinc (pc := 64) (dc_X5_sink_64.1.1) rfl (by decide) (by decide) ?_
          refine sg_goto (pc := 67) (tgt := 22) (dc_X5_sink_64.1.2) (by decide) ?_
          refine sg_lsub (lv' := [(4, _), (3, _), (0, _), (2, _)]) ⟨rfl, rfl, rfl, rfl, trivial⟩ ?_
          exact ih _ _ _ x58 (ck_Gt G1 f58) (by omega) (by rw [l58]; exact bk1) bk2 (by first | exact jl_m1 hm (by omega) | exact jl_m2 hm (by omega) | omega)
  refine sg_lsub (lv' := [(4, _), (3, _), (0, _), (2, _)]) ⟨rfl, rfl, rfl, rfl, trivial⟩ ?_
  exact loop22 _ _ _ _ x14 ck_G0 (by omega) (q14a2.trans fa_t0) rfl (Nat.lt_succ_self _)

set_option maxRecDepth 100000 in
theorem f_X5_turn {w : sg_W} {Q : sg_O → sg_H → Prop} {h : sg_H} (g : sg_G w) {d : Nat} (hd : 14 ≤ d) {B : Nat} {A : fa_A} (hx : cf_X h B A) (ok : fa_ok A) {row : Int} {L : List Int} (hL : fa_L A row.toNat = L) (hQ : ¬ (row < 0 ∨ 4 ≤ row) → ∀ (v : Int) (h' : sg_H), v = (L.length : Int) → cf_X h' B (fa_put A row.toNat (L.reverse)) → ck_F B h h' → Q (.inl (some (sg_i v))) h') (hXI : (row < 0 ∨ 4 ≤ row) → ∀ z, h.1 ≤ z → Q (.inr e_I) (z, h.2)) : sg_C w mi_X5_turn d 8 48 [sg_r B, sg_i row] h Q := by
  refine sg_of pn_X5 (Nat.le_of_ble_eq_true rfl) ?_
  obtain ⟨x0, ho, hS, hP, hK⟩ := id hx
  have y0 := ck_Y0 x0
  refine sg_aload_n (pc := 0) (j := 0) (dc_X5_turn_0.1.1.1.1) rfl rfl ?_
  refine sg_iload_n (pc := 1) (j := 1) (dc_X5_turn_0.1.1.1.2) rfl rfl ?_
  refine sg_cE1 (pc := 2) (d' := d - 1) (mc' := 1) (ms' := 6) 6 g (dc_X5_turn_0.1.1.2.1) cb_X5_rowOf ml_X5_36 mn_X5_rowOf rfl mv_X5_rowOf (Nat.le_of_ble_eq_true rfl) (ck_oc (by assumption)) (Nat.le_of_ble_eq_true rfl) (by first | exact jl_d0 hd rfl | omega) (by first | exact Nat.le_of_ble_eq_true rfl | omega) (by first | exact Nat.le_of_ble_eq_true rfl | omega) ?_
  refine f_X5_rowOf g (by first | exact jl_d1 hd rfl | omega) (by assumption) (fun l2 r2 L2 => sg_K1 ?_) (fun t2 z2 w2 => sg_KX (by first | exact Nat.le_of_ble_eq_true rfl | omega) (by first | exact Nat.le_of_ble_eq_true rfl | omega) (hXI (by omega) z2 w2))
  obtain ⟨a2, ea2⟩ : ∃ a, a = B + 1 + 3 + 2 * row.toNat := ⟨_, rfl⟩
  rw [← ea2] at L2 ⊢
  have k2 : cf_l h a2 = L := by rw [ea2, cf_rl hx (by omega)]; exact hL
  have r42 := fa_row ok (i := row.toNat) (by omega)
  rw [hL] at r42
  refine sg_astore_n (pc := 5) (j := 2) (dc_X5_turn_0.1.1.2.2) rfl (by decide) ?_
  refine sg_aload_n (pc := 6) (j := 0) (dc_X5_turn_0.1.2.1.1) rfl rfl ?_
  refine ck_gob (pc := 7) g (dc_X5_turn_0.1.2.1.2) fk_X5_19 (by assumption) (fun _ => rfl) ?_
  refine sg_aload_n (pc := 10) (j := 0) (dc_X5_turn_0.1.2.2.1) rfl rfl ?_
  refine ck_gob (pc := 11) g (dc_X5_turn_0.1.2.2.2) fk_X5_10 (by assumption) (fun _ => rfl) ?_
  refine sg_cE1 (pc := 14) (d' := d - 1) (mc' := 0) (ms' := 0) 4 g (dc_X5_turn_0.2.1.1.1) cb_X1_keep ml_X5_55 mn_X1_keep rfl mv_X1_keep (Nat.le_of_ble_eq_true rfl) (ck_pc (by assumption)) (Nat.le_of_ble_eq_true rfl) (by first | exact jl_d0 hd rfl | omega) (by first | exact Nat.le_of_ble_eq_true rfl | omega) (by first | exact Nat.le_of_ble_eq_true rfl | omega) ?_
  refine f_X1_keep g (by first | exact jl_d1 hd rfl | omega) x0 ho (fun h14 x14 F14 fr14 ho14 P14 => sg_K0 ?_)
  have y14 : ck_Y h h14 B := ⟨x14, F14⟩
  have q14a2 : cf_l h14 a2 = cf_l h a2 := cf_lq (fr14 _ (by omega)) (fr14 _ (by omega))
  rw [k2] at q14a2
  refine sg_aload_n (pc := 17) (j := 2) (dc_X5_turn_0.2.1.1.2) rfl rfl ?_
  refine sg_cE0 (pc := 18) (d' := d - 1) (mc' := 0) (ms' := 0) 3 g (dc_X5_turn_0.2.1.2.1) cb_X0_turnRound ml_X5_106 mn_X0_turnRound rfl mv_X0_turnRound (Nat.le_of_ble_eq_true rfl) (ck_lc (by assumption) (by first | assumption | exact ck_rev)) (Nat.le_of_ble_eq_true rfl) (by first | exact jl_d0 hd rfl | omega) (by first | exact Nat.le_of_ble_eq_true rfl | omega) (by first | exact Nat.le_of_ble_eq_true rfl | omega) ?_
  refine f_X0_turnRound g (by first | exact jl_d1 hd rfl | omega) (by assumption) L2 (fun h18 x18 f18 l18 => sg_K0 ?_)
  rw [q14a2] at l18
  have y18 := ck_Yt (h0 := h) (by assumption) x18 f18.1
  refine sg_aload_n (pc := 21) (j := 2) (dc_X5_turn_0.2.1.2.2) rfl rfl ?_
  refine sg_cE0 (pc := 22) (d' := d - 1) (mc' := 0) (ms' := 0) 3 g (dc_X5_turn_0.2.2.1.1) cb_X0_size ml_X5_63 mn_X0_size rfl mv_X0_size (Nat.le_of_ble_eq_true rfl) (ck_lc (by assumption) (by first | assumption | exact ck_rev)) (Nat.le_of_ble_eq_true rfl) (by first | exact jl_d0 hd rfl | omega) (by first | exact Nat.le_of_ble_eq_true rfl | omega) (by first | exact Nat.le_of_ble_eq_true rfl | omega) ?_
  refine f_X0_size g (by first | exact jl_d1 hd rfl | omega) (by assumption) L2 (fun z22 e22 l022 u22 => sg_K1 ?_)
  rw [l18] at e22
  try rw [fa_tlen] at e22
  refine sg_iret (pc := 25) (dc_X5_turn_0.2.2.1.2) rfl (by first | exact Nat.le_of_ble_eq_true rfl | omega) (by first | exact Nat.le_of_ble_eq_true rfl | omega) ?_
  exact hQ (by omega) _ _ (by rw [List.length_reverse] at e22; exact e22) (cf_put (i := row.toNat) hx fr14 ho14 P14 x18 f18 (by omega) (by omega) l18) (ck_Ft F14 f18.1)

set_option maxRecDepth 100000 in
theorem f_X5_put {w : sg_W} {Q : sg_O → sg_H → Prop} {h : sg_H} (g : sg_G w) {d : Nat} (hd : 14 ≤ d) {B : Nat} {A : fa_A} (hx : cf_X h B A) (ok : fa_ok A) {trk u : Int} {L : List Int} (hL : fa_L A (4 + trk.toNat) = L) (hQ : ¬ (trk < 0 ∨ 2 ≤ trk) → ¬ (u < 0 ∨ 65536 ≤ u) → ∀ (v : Int) (h' : sg_H), ((24 < L.length + 1 ∧ v = -9 ∧ cf_X h' B A) ∨ (L.length + 1 ≤ 24 ∧ v = (L.length : Int) + 1 ∧ cf_X h' B (fa_put A (4 + trk.toNat) (L ++ [u])))) → ck_F B h h' → Q (.inl (some (sg_i v))) h') (hXI : (trk < 0 ∨ 2 ≤ trk) → ∀ z, h.1 ≤ z → Q (.inr e_I) (z, h.2)) (hXA : ¬ (trk < 0 ∨ 2 ≤ trk) → (u < 0 ∨ 65536 ≤ u) → ∀ z, h.1 ≤ z → Q (.inr e_A) (z, h.2)) : sg_C w mi_X5_put d 8 48 [sg_r B, sg_i trk, sg_i u] h Q := by
  refine sg_of pn_X5 (Nat.le_of_ble_eq_true rfl) ?_
  obtain ⟨x0, ho, hS, hP, hK⟩ := id hx
  have y0 := ck_Y0 x0
  have hc24 : ck_cap 1 = 24 := rfl
  refine sg_aload_n (pc := 0) (j := 0) (dc_X5_put_0.1.1.1.1) rfl rfl ?_
  refine sg_iload_n (pc := 1) (j := 1) (dc_X5_put_0.1.1.1.2) rfl rfl ?_
  refine sg_cE1 (pc := 2) (d' := d - 1) (mc' := 1) (ms' := 6) 6 g (dc_X5_put_0.1.1.2.1) cb_X5_trackOf ml_X5_151 mn_X5_trackOf rfl mv_X5_trackOf (Nat.le_of_ble_eq_true rfl) (ck_oc (by assumption)) (Nat.le_of_ble_eq_true rfl) (by first | exact jl_d0 hd rfl | omega) (by first | exact Nat.le_of_ble_eq_true rfl | omega) (by first | exact Nat.le_of_ble_eq_true rfl | omega) ?_
  refine f_X5_trackOf g (by first | exact jl_d1 hd rfl | omega) (by assumption) (fun l2 r2 L2 => sg_K1 ?_) (fun t2 z2 w2 => sg_KX (by first | exact Nat.le_of_ble_eq_true rfl | omega) (by first | exact Nat.le_of_ble_eq_true rfl | omega) (hXI (by omega) z2 w2))
  obtain ⟨a2, ea2⟩ : ∃ a, a = B + 1 + 3 + 2 * (4 + trk.toNat) := ⟨_, rfl⟩
  rw [← ea2] at L2 ⊢
  have k2 : cf_l h a2 = L := by rw [ea2, cf_rl hx (by omega)]; exact hL
  have r42 := fa_trk ok (i := (4 + trk.toNat)) (by omega) (by omega)
  rw [hL] at r42
  refine sg_astore_n (pc := 5) (j := 3) (dc_X5_put_0.1.1.2.2) rfl (by decide) ?_
  refine sg_iload_n (pc := 6) (j := 2) (dc_X5_put_0.1.2.1.1) rfl rfl ?_
  refine sg_cS1 (pc := 7) (d' := d - 1) (mc' := 1) (ms' := 6) g (dc_X5_put_0.1.2.1.2) cb_X5_checkUnit ml_X5_167 ms_X5_checkUnit (Nat.le_of_ble_eq_true rfl) (by first | exact jl_d0 hd rfl | omega) (by first | exact Nat.le_of_ble_eq_true rfl | omega) (by first | exact Nat.le_of_ble_eq_true rfl | omega) ?_
  refine s_X5_checkUnit g (by first | exact jl_d1 hd rfl | omega) (fun v7 => sg_K0 ?_) (fun t7 z7 w7 => sg_KX (by first | exact Nat.le_of_ble_eq_true rfl | omega) (by first | exact Nat.le_of_ble_eq_true rfl | omega) (hXA (by omega) (by omega) z7 w7))
  refine sg_aload_n (pc := 10) (j := 3) (dc_X5_put_0.1.2.2.1) rfl rfl ?_
  refine sg_iconst (pc := 11) (z := 1) (dc_X5_put_0.1.2.2.2) (by decide) ?_
  refine sg_cE1 (pc := 12) (d' := d - 1) (mc' := 0) (ms' := 0) 3 g (dc_X5_put_0.2.1.1.1) cb_X0_hasRoomFor ml_X5_44 mn_X0_hasRoomFor rfl mv_X0_hasRoomFor (Nat.le_of_ble_eq_true rfl) (ck_lc (by assumption) (by first | assumption | exact ck_rev)) (Nat.le_of_ble_eq_true rfl) (by first | exact jl_d0 hd rfl | omega) (by first | exact Nat.le_of_ble_eq_true rfl | omega) (by first | exact Nat.le_of_ble_eq_true rfl | omega) ?_
  refine f_X0_hasRoomFor g (by first | exact jl_d1 hd rfl | omega) (by assumption) L2 (by omega) (fun z12 b12 i12 j12 => sg_K1 ?_)
  rw [k2] at i12 j12
  refine sg_if_ne (pc := 15) (tgt := 21) (dc_X5_put_0.2.1.1.2) (by decide) (fun c15 => ?_) (fun c15 => ?_)
  · refine sg_aload_n (pc := 21) (j := 0) (dc_X5_put_0.2.2.1.1) rfl rfl ?_
    refine ck_gob (pc := 22) g (dc_X5_put_0.2.2.1.2) fk_X5_19 (by assumption) (fun _ => rfl) ?_
    refine sg_aload_n (pc := 25) (j := 0) (dc_X5_put_0.2.2.2.1) rfl rfl ?_
    refine ck_gob (pc := 26) g (dc_X5_put_0.2.2.2.2) fk_X5_10 (by assumption) (fun _ => rfl) ?_
    refine sg_cE1 (pc := 29) (d' := d - 1) (mc' := 0) (ms' := 0) 4 g (dc_X5_put_29.1.1.1) cb_X1_keep ml_X5_55 mn_X1_keep rfl mv_X1_keep (Nat.le_of_ble_eq_true rfl) (ck_pc (by assumption)) (Nat.le_of_ble_eq_true rfl) (by first | exact jl_d0 hd rfl | omega) (by first | exact Nat.le_of_ble_eq_true rfl | omega) (by first | exact Nat.le_of_ble_eq_true rfl | omega) ?_
    refine f_X1_keep g (by first | exact jl_d1 hd rfl | omega) x0 ho (fun h29 x29 F29 fr29 ho29 P29 => sg_K0 ?_)
    have y29 : ck_Y h h29 B := ⟨x29, F29⟩
    have q29a2 : cf_l h29 a2 = cf_l h a2 := cf_lq (fr29 _ (by omega)) (fr29 _ (by omega))
    rw [k2] at q29a2
    refine sg_aload_n (pc := 32) (j := 3) (dc_X5_put_29.1.1.2) rfl rfl ?_
    refine sg_iload_n (pc := 33) (j := 2) (dc_X5_put_29.1.2.1) rfl rfl ?_
    have hv34 : ck_v 1 u := ck_v1.mpr (by omega)
    refine sg_cE1 (pc := 34) (d' := d - 1) (mc' := 0) (ms' := 0) 3 g (dc_X5_put_29.1.2.2) cb_X0_add ml_X5_129 mn_X0_add rfl mv_X0_add (Nat.le_of_ble_eq_true rfl) (ck_lc (by assumption) (by first | assumption | exact ck_rev)) (Nat.le_of_ble_eq_true rfl) (by first | exact jl_d0 hd rfl | omega) (by first | exact Nat.le_of_ble_eq_true rfl | omega) (by first | exact Nat.le_of_ble_eq_true rfl | omega) ?_
    have nn34 := cf_len (by assumption) L2
    rw [q29a2] at nn34
    try simp only [List.length_append, tt_len, List.length_cons, List.length_nil] at nn34
    have hcap34 : ck_cap 1 = 24 := rfl
    refine f_X0_add g (by first | exact jl_d1 hd rfl | omega) (by assumption) L2 (by first | exact ck_v0 | assumption | (simp only [ck_v1, ck_v2] at * <;> omega)) (by omega) (fun h34 x34 f34 n34 w34 => sg_K0 ?_)
    have l34 := cf_la (by assumption) L2 (by omega) n34 w34
    rw [q29a2] at l34
    have y34 := ck_Yt (h0 := h) (by assumption) x34 f34.1
    refine sg_aload_n (pc := 37) (j := 3) (dc_X5_put_29.2.1.1) rfl rfl ?_
    refine sg_cE0 (pc := 38) (d' := d - 1) (mc' := 0) (ms' := 0) 3 g (dc_X5_put_29.2.1.2) cb_X0_size ml_X5_63 mn_X0_size rfl mv_X0_size (Nat.le_of_ble_eq_true rfl) (ck_lc (by assumption) (by first | assumption | exact ck_rev)) (Nat.le_of_ble_eq_true rfl) (by first | exact jl_d0 hd rfl | omega) (by first | exact Nat.le_of_ble_eq_true rfl | omega) (by first | exact Nat.le_of_ble_eq_true rfl | omega) ?_
    refine f_X0_size g (by first | exact jl_d1 hd rfl | omega) (by assumption) L2 (fun z38 e38 l038 u38 => sg_K1 ?_)
    rw [l34] at e38
    try rw [fa_tlen] at e38
    refine sg_iret (pc := 41) (dc_X5_put_29.2.2.1) rfl (by first | exact Nat.le_of_ble_eq_true rfl | omega) (by first | exact Nat.le_of_ble_eq_true rfl | omega) ?_
    first
      | (exact hQ (by omega) (by omega) _ _ (Or.inl ⟨by omega, rfl, hx⟩) ck_F0)
      | (exact hQ (by omega) (by omega) _ _ (Or.inr ⟨by omega, by rw [List.length_append] at e38; simp only [List.length_cons, List.length_nil] at e38; omega, (cf_put (i := (4 + trk.toNat)) hx fr29 ho29 P29 x34 f34 (by omega) (by omega) l34)⟩) (ck_Ft F29 f34.1))
  · refine sg_bipush (pc := 18) (z := -9) (dc_X5_put_0.2.1.2.1) (by decide) ?_
    refine sg_iret (pc := 20) (dc_X5_put_0.2.1.2.2) rfl (by first | exact Nat.le_of_ble_eq_true rfl | omega) (by first | exact Nat.le_of_ble_eq_true rfl | omega) ?_
    first
      | (exact hQ (by omega) (by omega) _ _ (Or.inl ⟨by omega, rfl, hx⟩) ck_F0)
      | (exact hQ (by omega) (by omega) _ _ (Or.inr ⟨by omega, by rw [List.length_append] at e38; simp only [List.length_cons, List.length_nil] at e38; omega, (cf_put (i := (4 + trk.toNat)) hx fr29 ho29 P29 x34 f34 (by omega) (by omega) l34)⟩) (ck_Ft F29 f34.1))

set_option maxRecDepth 100000 in
theorem f_X5_knock {w : sg_W} {Q : sg_O → sg_H → Prop} {h : sg_H} (g : sg_G w) {d : Nat} (hd : 1 ≤ d) {B : Nat} {A : fa_A} (hx : cf_X h B A) (hQ : ∀ (h' : sg_H), cf_X h' B (A.1, (A.2.1, sg_w (A.2.2 + 1))) → ck_F B h h' → Q (.inl (some (sg_i (sg_w (A.2.2 + 1))))) h') : sg_C w mi_X5_knock d 0 0 [sg_r B] h Q := by
  refine sg_of pn_X5 (Nat.le_of_ble_eq_true rfl) ?_
  obtain ⟨x0, ho, hS, hP, hK⟩ := id hx
  refine sg_aload_n (pc := 0) (j := 0) (dc_X5_knock_0.1.1.1.1) rfl rfl ?_
  refine sg_dup (pc := 1) (dc_X5_knock_0.1.1.1.2) rfl ?_
  obtain ⟨z, hz⟩ := ck_obj x0
  have ez : z = A.2.2 := by rw [← hK]; unfold cf_k; rw [hz]
  subst ez
  refine sg_getf (pc := 2) g (dc_X5_knock_0.1.1.2.1) fk_X5_32 hz rfl rfl ?_
  refine sg_iconst (pc := 5) (z := 1) (dc_X5_knock_0.1.1.2.2) (by decide) ?_
  refine sg_iadd (pc := 6) (dc_X5_knock_0.1.2.1.1) ?_
  refine sg_putf (pc := 7) g (dc_X5_knock_0.1.2.1.2) fk_X5_32 hz sg_ft_i ?_
  obtain ⟨x2, F2⟩ := ck_put (i := 0) (e := (6, [sg_r (B + 1), sg_r (B + 16), sg_r (B + 108), sg_i (sg_w (A.2.2 + 1))])) x0 (by decide) ⟨_, rfl⟩
  have fq : ∀ q, q ≠ B → (sg_up h.2 (B + 0) (6, [sg_r (B + 1), sg_r (B + 16), sg_r (B + 108), sg_i (sg_w (A.2.2 + 1))])) q = h.2 q := fun q hq => sg_up_n hq
  obtain ⟨q1, q2⟩ := cf_hq (h1 := (h.1, sg_up h.2 (B + 0) (6, [sg_r (B + 1), sg_r (B + 16), sg_r (B + 108), sg_i (sg_w (A.2.2 + 1))]))) ho (fun q _ _ => fq q (by omega))
  have e5 := (cf_sq (h' := (h.1, sg_up h.2 (B + 0) (6, [sg_r (B + 1), sg_r (B + 16), sg_r (B + 108), sg_i (sg_w (A.2.2 + 1))]))) (s := B + 1) (fun q _ _ => fq q (by omega))).trans hS
  have e6 := q2.trans hP
  have hz2 : ((h.1, sg_up h.2 (B + 0) (6, [sg_r (B + 1), sg_r (B + 16), sg_r (B + 108), sg_i (sg_w (A.2.2 + 1))])) : sg_H).2 B = some (6, [sg_r (B + 1), sg_r (B + 16), sg_r (B + 108), sg_i (sg_w (A.2.2 + 1))]) := sg_up_s
  have e7 : cf_k (h.1, sg_up h.2 (B + 0) (6, [sg_r (B + 1), sg_r (B + 16), sg_r (B + 108), sg_i (sg_w (A.2.2 + 1))])) B = sg_w (A.2.2 + 1) := by unfold cf_k; rw [hz2]
  refine sg_aload_n (pc := 10) (j := 0) (dc_X5_knock_0.1.2.2.1) rfl rfl ?_
  refine sg_getf (pc := 11) g (dc_X5_knock_0.1.2.2.2) fk_X5_32 hz2 rfl rfl ?_
  refine sg_iret (pc := 14) (dc_X5_knock_0.2.1.1.1) rfl (by first | exact Nat.le_of_ble_eq_true rfl | omega) (by first | exact Nat.le_of_ble_eq_true rfl | omega) ?_
  exact hQ _ ⟨x2, q1, e5, e6, e7⟩ F2

