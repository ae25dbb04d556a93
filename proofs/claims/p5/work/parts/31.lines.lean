/-! TABLED LISTS, and what stands in the class's cells, as functions of the heap -/
def tt_b {α : Type} (n : Nat) (f : Nat → α) : List α := (List.range n).map f
theorem tt_len {α : Type} {n : Nat} {f : Nat → α} : (tt_b n f).length = n := by simp [tt_b]
theorem tt_get {α : Type} {d : α} {n : Nat} {f : Nat → α} {j : Nat} (h : j < n) : (tt_b n f).getD j d = f j := by
  unfold tt_b
  rw [List.getD_eq_getElem?_getD, List.getElem?_map, List.getElem?_range h]
  rfl
theorem tt_cg {α : Type} {n : Nat} {f g : Nat → α} (h : ∀ j, j < n → f j = g j) : tt_b n f = tt_b n g :=
  List.map_congr_left (fun j hj => h j (List.mem_range.mp hj))
theorem tt_of {α : Type} (d : α) (L : List α) : L = tt_b L.length (fun j => L.getD j d) := by
  refine List.ext_getElem (by rw [tt_len]) (fun j h1 h2 => ?_)
  simp [tt_b, h1]
theorem tt_eq {α : Type} (d : α) {L : List α} {n : Nat} {f : Nat → α} (hl : L.length = n) (h : ∀ j, j < n → L.getD j d = f j) : L = tt_b n f := by
  rw [tt_of d L, hl]
  exact tt_cg h
theorem tt_ext {α : Type} (d : α) {L M : List α} (hl : L.length = M.length) (h : ∀ j, j < L.length → L.getD j d = M.getD j d) : L = M := by
  rw [tt_of d L, tt_of d M, ← hl]
  exact tt_cg h
theorem gd_set {α : Type} {d : α} {L : List α} {i j : Nat} {x : α} (hi : i < L.length) : (L.set i x).getD j d = if j = i then x else L.getD j d := by
  rw [List.getD_eq_getElem?_getD, List.getD_eq_getElem?_getD, List.getElem?_set]
  by_cases c : i = j
  · subst c
    simp [hi]
  · rw [if_neg c, if_neg (fun e => c e.symm)]
theorem gd_take {α : Type} {d : α} {L : List α} {n j : Nat} : (L.take n).getD j d = if j < n then L.getD j d else d := by
  rw [List.getD_eq_getElem?_getD, List.getD_eq_getElem?_getD, List.getElem?_take]
  split <;> rfl
theorem gd_drop {α : Type} {d : α} {L : List α} {n j : Nat} : (L.drop n).getD j d = L.getD (n + j) d := by
  rw [List.getD_eq_getElem?_getD, List.getD_eq_getElem?_getD, List.getElem?_drop]
theorem gd_app {α : Type} {d : α} {L M : List α} {j : Nat} : (L ++ M).getD j d = if j < L.length then L.getD j d else M.getD (j - L.length) d := by
  rw [List.getD_eq_getElem?_getD, List.getD_eq_getElem?_getD, List.getD_eq_getElem?_getD, List.getElem?_append]
  split <;> rfl
theorem gd_in {α : Type} {d : α} {L : List α} {j : Nat} (h : j < L.length) : L.getD j d = L[j] := by
  rw [List.getD_eq_getElem?_getD, List.getElem?_eq_getElem h]
  rfl
theorem gd_mem {α : Type} {d : α} {L : List α} {j : Nat} (h : j < L.length) : L.getD j d ∈ L := by
  rw [gd_in h]
  exact List.getElem_mem h
theorem gd_rev {α : Type} {d : α} {L : List α} {j : Nat} (h : j < L.length) : L.reverse.getD j d = L.getD (L.length - 1 - j) d := by
  rw [List.getD_eq_getElem?_getD, List.getElem?_reverse h, List.getD_eq_getElem?_getD]
/-- the number at a place of a list; -1 without such a place -/
def gg_l (L : List Int) (p : Int) : Int := if 0 ≤ p ∧ p < (L.length : Int) then L.getD p.toNat 0 else -1
theorem gg_in {L : List Int} {p : Int} (h0 : 0 ≤ p) (h1 : p < (L.length : Int)) : gg_l L p = L.getD p.toNat 0 := if_pos ⟨h0, h1⟩
theorem gg_out {L : List Int} {p : Int} (h : ¬ (0 ≤ p ∧ p < (L.length : Int))) : gg_l L p = -1 := if_neg h
def cf_i (v : sg_V) : Int := match v with
  | .inl z => z
  | _ => 0
def cf_n (h : sg_H) (a : Nat) : Int := match h.2 a with
  | some (_, [_, .inl n]) => n
  | _ => 0
def cf_w (h : sg_H) (a : Nat) : List Int := match h.2 (a + 1) with
  | some (_, vs) => vs.map cf_i
  | _ => []
/-- what a Line holds -/
def cf_l (h : sg_H) (a : Nat) : List Int := (cf_w h a).take (cf_n h a).toNat
theorem cf_ne {h : sg_H} {a t : Nat} {v : sg_V} {n : Int} (x : h.2 a = some (t, [v, sg_i n])) : cf_n h a = n := by
  unfold cf_n
  rw [x]
theorem cf_im (zs : List Int) : (zs.map sg_i).map cf_i = zs := by
  rw [List.map_map]
  exact List.map_id'' (fun _ => rfl) zs
theorem cf_we {h : sg_H} {a t : Nat} {zs : List Int} (x : h.2 (a + 1) = some (t, zs.map sg_i)) : cf_w h a = zs := by
  unfold cf_w
  rw [x]
  exact cf_im zs
theorem cf_of {h : sg_H} {B a c : Nat} (hx : ck_X h B) (hl : ck_L B a c) : 0 ≤ cf_n h a ∧ cf_n h a ≤ (ck_cap c : Int) ∧ ck_cap c ≤ 40 ∧ (cf_w h a).length = ck_cap c ∧ ((cf_w h a).map sg_i).length = ck_cap c ∧ h.2 a = some (3, [sg_r (a + 1), sg_i (cf_n h a)]) ∧ h.2 (a + 1) = some (100, (cf_w h a).map sg_i) ∧ ∀ z ∈ cf_w h a, ck_v c z := by
  obtain ⟨n, zs, n0, n1, c40, hz, hzm, hA, hN, hvs⟩ := ck_ln hx hl
  rw [cf_ne hA, cf_we hN]
  exact ⟨n0, n1, c40, hz, hzm, hA, hN, hvs⟩
theorem cf_len {h : sg_H} {B a c : Nat} (hx : ck_X h B) (hl : ck_L B a c) : ((cf_l h a).length : Int) = cf_n h a := by
  obtain ⟨n0, n1, c40, hz, -⟩ := cf_of hx hl
  unfold cf_l
  rw [List.length_take]
  omega
theorem cf_g {h : sg_H} {B a c : Nat} {p : Int} (hx : ck_X h B) (hl : ck_L B a c) : ck_g h a p = gg_l (cf_l h a) p := by
  obtain ⟨n0, n1, c40, hz, -, hA, hN, -⟩ := cf_of hx hl
  have e := cf_len hx hl
  by_cases q : 0 ≤ p ∧ p < cf_n h a
  · rw [← ck_gv hA hN q.1 q.2 (by omega), gg_in q.1 (by omega)]
    unfold cf_l
    rw [gd_take, if_pos (by omega), gd_in]
  · rw [← ck_g1 hA q, gg_out (by omega)]
theorem cf_40 {h : sg_H} {B a c : Nat} (hx : ck_X h B) (hl : ck_L B a c) : (cf_l h a).length ≤ ck_cap c := by
  have e := cf_len hx hl
  obtain ⟨n0, n1, -⟩ := cf_of hx hl
  omega
/-- two Lines apart -/
def cf_ap (a b : Nat) : Prop := b ≠ a ∧ b ≠ a + 1 ∧ b + 1 ≠ a
theorem cf_fr {h h' : sg_H} {B a b : Nat} (f : ck_G B a h h') (x : cf_ap a b) : cf_l h' b = cf_l h b ∧ cf_n h' b = cf_n h b ∧ cf_w h' b = cf_w h b := by
  obtain ⟨x1, x2, x3⟩ := x
  have e1 := f.2 b x1 x2
  have e2 := f.2 (b + 1) x3 (by omega)
  have e3 : cf_n h' b = cf_n h b := by unfold cf_n; rw [e1]
  have e4 : cf_w h' b = cf_w h b := by unfold cf_w; rw [e2]
  exact ⟨by unfold cf_l; rw [e3, e4], e3, e4⟩
/-- one behind -/
theorem cf_la {h h' : sg_H} {B a c : Nat} {v : Int} (hx : ck_X h B) (hl : ck_L B a c) (hr : cf_n h a < (ck_cap c : Int)) (e1 : cf_n h' a = cf_n h a + 1) (e2 : cf_w h' a = (cf_w h a).set (cf_n h a).toNat v) : cf_l h' a = cf_l h a ++ [v] := by
  obtain ⟨n0, n1, c40, hz, -⟩ := cf_of hx hl
  unfold cf_l
  rw [e1, e2, show (cf_n h a + 1).toNat = (cf_n h a).toNat + 1 by omega]
  rw [List.take_add_one, List.getElem?_set_self (by omega), List.take_set_of_le (Nat.le_refl _)]
  rfl
/-- one is another -/
theorem cf_ls {h h' : sg_H} {a : Nat} {p : Nat} {v : Int} (e1 : cf_n h' a = cf_n h a) (e2 : cf_w h' a = (cf_w h a).set p v) : cf_l h' a = (cf_l h a).set p v := by
  unfold cf_l
  rw [e1, e2, List.take_set]
section
variable {w : sg_W} {mi : sg_M} {d mc ms : Nat} {Q : sg_O → sg_H → Prop} {pc : Nat} {lv : List (Nat × sg_V)} {st : List sg_V} {h : sg_H} {k n : Nat} {B a c : Nat}
theorem cf_ast {z x : Int} (hd : decode mi.2.1 pc = .ok (.iastore, 1)) (hx : ck_X h B) (hl : ck_L B a c) (hv : ck_v c x) (h0 : 0 ≤ z) (h1 : z.toNat < ck_cap c)
    (K : ∀ h' : sg_H, ck_X h' B → ck_G B a h h' → cf_n h' a = cf_n h a → cf_w h' a = (cf_w h a).set z.toNat x → sg_R w mi d mc ms Q (pc + 1) lv st h' k n) : sg_R w mi d mc ms Q pc lv (sg_i x :: sg_i z :: sg_r (a + 1) :: st) h k n := by
  obtain ⟨n0, n1, c40, hz, hzm, hA, hN, hvs⟩ := cf_of hx hl
  refine sg_iast hd hN h0 (by rw [hzm]; exact h1) ?_
  obtain ⟨i, hi, rfl, hc⟩ := id hl
  obtain ⟨h2, h3⟩ := ck_nx i hi (by rw [hc])
  have hok : ck_ok B (i + 1) (100, ((cf_w h (B + i)).map sg_i).set z.toNat (sg_i x)) := by
    unfold ck_ok
    rw [h2, hc]
    exact ⟨(cf_w h (B + i)).set z.toNat x, by rw [List.length_set]; exact hz, fun y hy => (List.mem_or_eq_of_mem_set hy).elim (hvs y) (fun e => e ▸ hv), by rw [List.map_set]⟩
  obtain ⟨p1, p2⟩ := ck_put hx h3 hok
  refine K _ p1 ⟨p2, fun q q1 q2 => sg_up_n (by omega)⟩ (cf_ne (t := 3) ((sg_up_n (by omega)).trans hA)) (cf_we (t := 100) ?_)
  rw [List.map_set]
  exact sg_up_s
theorem cf_psz {z : Int} {idx : Nat} (g : sg_G w) (hd : decode mi.2.1 pc = .ok (.putfield idx, 3)) (hf : sg_fk mi.1.cls idx 3 1 false .int) (hx : ck_X h B) (hl : ck_L B a c) (h0 : 0 ≤ z) (h1 : z ≤ (ck_cap c : Int))
    (K : ∀ h' : sg_H, ck_X h' B → ck_G B a h h' → cf_n h' a = z → cf_w h' a = cf_w h a → sg_R w mi d mc ms Q (pc + 3) lv st h' k n) : sg_R w mi d mc ms Q pc lv (sg_i z :: sg_r a :: st) h k n := by
  obtain ⟨n0, n1, c40, hz, hzm, hA, hN, hvs⟩ := cf_of hx hl
  refine sg_putf g hd hf hA sg_ft_i ?_
  obtain ⟨i, hi, rfl, hc⟩ := id hl
  have hok : ck_ok B i (3, [sg_r (B + i + 1), sg_i z]) := by
    unfold ck_ok
    rw [hc]
    exact ⟨z, h0, h1, rfl⟩
  obtain ⟨p1, p2⟩ := ck_put hx hi hok
  exact K _ p1 ⟨p2, fun q q1 q2 => sg_up_n q1⟩ (cf_ne (t := 3) sg_up_s) (cf_we (t := 100) ((sg_up_n (by omega)).trans hN))
end
theorem cf_nrN {W W1 : List Int} {b p : Nat} (hp : b ≤ p) (hl : p < W1.length) (hw : W1.length = W.length) (e2 : W1.take (p - b) = (W.take p).drop b) (e3 : W1.drop p = W.drop p) : (W1.set (p - b) (W1.getD p 0)).take (p + 1 - b) = (W.take (p + 1)).drop b ∧ (W1.set (p - b) (W1.getD p 0)).drop (p + 1) = W.drop (p + 1) := by
  have g2 : ∀ j, j < p - b → W1.getD j 0 = W.getD (b + j) 0 := fun j hj => by
    have := congrArg (fun L => L.getD j 0) e2
    simp only [gd_take, gd_drop] at this
    rw [if_pos hj, if_pos (by omega)] at this
    exact this
  have g3 : ∀ j, W1.getD (p + j) 0 = W.getD (p + j) 0 := fun j => by
    have := congrArg (fun L => L.getD j 0) e3
    simp only [gd_drop] at this
    exact this
  refine ⟨tt_ext (0 : Int) (by simp only [List.length_take, List.length_set, List.length_drop]; omega) (fun j hj => ?_), tt_ext (0 : Int) (by simp only [List.length_set, List.length_drop]; omega) (fun j hj => ?_)⟩
  · rw [List.length_take, List.length_set] at hj
    have r : ((W.take (p + 1)).drop b).getD j 0 = W.getD (b + j) 0 := by rw [gd_drop, gd_take, if_pos (by omega)]
    rw [r, gd_take, if_pos (by omega), gd_set (by omega)]
    split
    · rename_i c
      have := g3 0
      rw [Nat.add_zero] at this
      rw [this, c]
      congr 1
      omega
    · exact g2 j (by omega)
  · rw [gd_drop, gd_set (by omega), if_neg (by omega), gd_drop, show p + 1 + j = p + (1 + j) by omega]
    exact g3 (1 + j)
theorem cf_nr1 {W W1 W2 : List Int} {b p n v : Int} (hb : 0 ≤ b) (hp : b ≤ p) (hl : p.toNat < W1.length) (hw : W1.length = W.length) (hv : v = W1.getD p.toNat 0) (e1 : n = p - b) (e2 : W1.take (p - b).toNat = (W.take p.toNat).drop b.toNat) (e3 : W1.drop p.toNat = W.drop p.toNat) (e4 : W2 = W1.set n.toNat v) : W2.take (p + 1 - b).toNat = (W.take (p + 1).toNat).drop b.toNat := by
  subst e4 hv e1
  rw [show (p - b).toNat = p.toNat - b.toNat by omega] at e2 ⊢
  rw [show (p + 1 - b).toNat = p.toNat + 1 - b.toNat by omega, show (p + 1).toNat = p.toNat + 1 by omega]
  exact (cf_nrN (by omega) hl hw e2 e3).1
theorem cf_nr2 {W W1 W2 : List Int} {b p n v : Int} (hb : 0 ≤ b) (hp : b ≤ p) (hl : p.toNat < W1.length) (hw : W1.length = W.length) (hv : v = W1.getD p.toNat 0) (e1 : n = p - b) (e2 : W1.take (p - b).toNat = (W.take p.toNat).drop b.toNat) (e3 : W1.drop p.toNat = W.drop p.toNat) (e4 : W2 = W1.set n.toNat v) : W2.drop (p + 1).toNat = W.drop (p + 1).toNat := by
  subst e4 hv e1
  rw [show (p - b).toNat = p.toNat - b.toNat by omega] at e2 ⊢
  rw [show (p + 1).toNat = p.toNat + 1 by omega]
  exact (cf_nrN (by omega) hl hw e2 e3).2
theorem cf_nr3 {h h1 : sg_H} {a : Nat} {b e p : Int} (pe : p = e) (he : e ≤ cf_n h a) (e1 : cf_n h1 a = p - b) (e2 : (cf_w h1 a).take (p - b).toNat = ((cf_w h a).take p.toNat).drop b.toNat) : cf_l h1 a = ((cf_l h a).take e.toNat).drop b.toNat := by
  subst pe
  unfold cf_l
  rw [e1, e2, List.take_take, Nat.min_eq_left (by omega)]
/-- a row half turned round -/
def cf_tr (L : List Int) (N : Nat) (p e : Int) : Nat → Int := fun j => if (j : Int) < p ∨ e < (j : Int) then L.getD (N - 1 - j) 0 else L.getD j 0
theorem cf_tr0 {L : List Int} {N : Nat} {e : Int} (hN : N = L.length) (he : (N : Int) - 1 ≤ e) : L = tt_b N (cf_tr L N 0 e) :=
  tt_eq 0 hN.symm (fun j hj => by unfold cf_tr; rw [if_neg (by omega)])
theorem cf_tr1 {L L1 L2 L3 : List Int} {N : Nat} {p e z y : Int} (hN : N = L.length) (p0 : 0 ≤ p) (pe : p < e) (hs : p + e = (N : Int) - 1) (e1 : L1 = tt_b N (cf_tr L N p e)) (ez : z = gg_l L1 p) (ey : y = gg_l L1 e) (e2 : L2 = L1.set p.toNat y) (e3 : L3 = L2.set e.toNat z) : L3 = tt_b N (cf_tr L N (p + 1) (e + -1)) := by
  have l1 : L1.length = N := by rw [e1, tt_len]
  rw [gg_in (by omega) (by omega), e1, tt_get (by omega)] at ez ey
  unfold cf_tr at ez ey
  rw [if_neg (by omega)] at ez ey
  refine tt_eq 0 (by rw [e3, List.length_set, e2, List.length_set, l1]) (fun j hj => ?_)
  rw [e3, gd_set (by rw [e2, List.length_set]; omega), e2, gd_set (by omega), e1, tt_get hj]
  unfold cf_tr
  by_cases c1 : j = e.toNat
  · rw [if_pos c1, if_pos (by omega), ez]
    congr 1
    omega
  · rw [if_neg c1]
    by_cases c2 : j = p.toNat
    · rw [if_pos c2, if_pos (by omega), ey]
      congr 1
      omega
    · rw [if_neg c2]
      by_cases c3 : (j : Int) < p ∨ e < (j : Int)
      · rw [if_pos c3, if_pos (by omega)]
      · rw [if_neg c3, if_neg (by omega)]
theorem tt_rev {L : List Int} {N : Nat} (hN : N = L.length) : L.reverse = tt_b N (fun j => L.getD (N - 1 - j) 0) :=
  tt_eq 0 (by rw [List.length_reverse, hN]) (fun j hj => by rw [gd_rev (by omega), hN])
theorem cf_tr2 {L L1 : List Int} {N : Nat} {p e : Int} (hN : N = L.length) (p0 : 0 ≤ p) (pe : e ≤ p ∧ p + e = (N : Int) - 1) (e1 : L1 = tt_b N (cf_tr L N p e)) : L1 = L.reverse := by
  rw [e1, tt_rev hN]
  refine tt_cg (fun j hj => ?_)
  unfold cf_tr
  split
  · rfl
  · congr 1
    omega
theorem cf_bc {L L1 L2 : List Int} {p n z : Int} (p0 : 0 ≤ p) (p1 : p < n) (hl : (L.length : Int) = n) (e2 : L1 = L.take p.toNat) (e3 : z = gg_l L p) (e4 : L2 = L1 ++ [z]) : L2 = L.take (p + 1).toNat := by
  rw [e4, e2, e3, gg_in p0 (by omega), show (p + 1).toNat = p.toNat + 1 by omega, List.take_add_one, List.getElem?_eq_getElem (by omega), gd_in (by omega)]
  rfl
theorem f_X0_size {w : sg_W} {Q : sg_O → sg_H → Prop} {h : sg_H} (g : sg_G w) {d : Nat} (hd : 1 ≤ d) {B a c : Nat} (hx : ck_X h B) (hl : ck_L B a c) (hQ : ∀ z : Int, z = ((cf_l h a).length : Int) → 0 ≤ z → z ≤ (ck_cap c : Int) → Q (.inl (some (sg_i z))) h) : sg_C w mi_X0_size d 0 0 [sg_r a] h Q :=
  s_X0_size g hd hx hl (fun z z0 z1 hN => by
    have e := cf_len hx hl
    have e2 := cf_ne hN
    have e3 := cf_of hx hl
    exact hQ z (by omega) z0 (by omega))
theorem f_X0_get {w : sg_W} {Q : sg_O → sg_H → Prop} {h : sg_H} (g : sg_G w) {d : Nat} (hd : 2 ≤ d) {B a c : Nat} (hx : ck_X h B) (hl : ck_L B a c) {p : Int} (hQ : ∀ z : Int, z = gg_l (cf_l h a) p → (0 ≤ p → p < ((cf_l h a).length : Int) → ck_v c z) → Q (.inl (some (sg_i z))) h) : sg_C w mi_X0_get d 0 0 [sg_r a, sg_i p] h Q :=
  s_X0_get g hd hx hl (fun z z0 z1 => hQ z (z0.trans (cf_g hx hl)) (fun p0 p1 => z1 _ (cf_of hx hl).2.2.2.2.2.1 p0 (by rw [cf_len hx hl] at p1; exact p1)))
theorem f_X0_hasPlace {w : sg_W} {Q : sg_O → sg_H → Prop} {h : sg_H} (g : sg_G w) {d : Nat} (hd : 1 ≤ d) {B a c : Nat} (hx : ck_X h B) (hl : ck_L B a c) {p : Int} (hQ : ∀ z : Int, (z = 0 ∨ z = 1) → (z = 0 → ¬ (0 ≤ p ∧ p < ((cf_l h a).length : Int))) → (z ≠ 0 → 0 ≤ p ∧ p < ((cf_l h a).length : Int)) → Q (.inl (some (sg_i z))) h) : sg_C w mi_X0_hasPlace d 0 0 [sg_r a, sg_i p] h Q :=
  s_X0_hasPlace g hd hx hl (fun z b i j k => by
    have e := cf_len hx hl
    have hA := (cf_of hx hl).2.2.2.2.2.1
    exact hQ z b (fun q r => j _ hA q r.1 (by omega)) (fun q => ⟨(i q).1, by have := k _ hA q; omega⟩))

set_option maxRecDepth 100000 in
theorem f_X0_hasRoomFor {w : sg_W} {Q : sg_O → sg_H → Prop} {h : sg_H} (g : sg_G w) {d : Nat} (hd : 1 ≤ d) {B a c : Nat} (hx : ck_X h B) (hl : ck_L B a c) {p : Int} (p0 : 0 ≤ p ∧ p ≤ 1000) (hQ : ∀ z : Int, (z = 0 ∨ z = 1) → (z = 0 → (ck_cap c : Int) < ((cf_l h a).length : Int) + p) → (z ≠ 0 → ((cf_l h a).length : Int) + p ≤ (ck_cap c : Int)) → Q (.inl (some (sg_i z))) h) : sg_C w mi_X0_hasRoomFor d 0 0 [sg_r a, sg_i p] h Q := by
  refine sg_of pn_X0 (Nat.le_of_ble_eq_true rfl) ?_
  obtain ⟨n0, n1, c40, hz, hzm, hA, hN, hvs⟩ := cf_of hx hl
  refine sg_iload_n (pc := 0) (j := 1) (dc_X0_hasRoomFor_0.1.1.1.1) rfl rfl ?_
  refine sg_aload_n (pc := 1) (j := 0) (dc_X0_hasRoomFor_0.1.1.1.2) rfl rfl ?_
  refine sg_getf (pc := 2) g (dc_X0_hasRoomFor_0.1.1.2.1) fk_X0_9 hA rfl rfl ?_
  refine sg_alenN (pc := 5) (dc_X0_hasRoomFor_0.1.1.2.2) hN (Nat.le_of_ble_eq_true rfl) hzm (by omega) ?_
  refine sg_aload_n (pc := 6) (j := 0) (dc_X0_hasRoomFor_0.1.2.1.1) rfl rfl ?_
  refine sg_getf (pc := 7) g (dc_X0_hasRoomFor_0.1.2.1.2) fk_X0_15 hA rfl rfl ?_
  first | refine sg_isubB (pc := 10) (dc_X0_hasRoomFor_0.1.2.2.1) (by omega) (by omega) ?_ | refine sg_isub (pc := 10) (dc_X0_hasRoomFor_0.1.2.2.1) ?_
  refine sg_icmp_gt (pc := 11) (tgt := 18) (dc_X0_hasRoomFor_0.1.2.2.2) (by decide) (fun c11 => ?_) (fun c11 => ?_)
  · refine sg_iconst (pc := 18) (z := 0) (dc_X0_hasRoomFor_0.2.1.2.1) (by decide) ?_
    refine sg_zret (pc := 19) (dc_X0_hasRoomFor_0.2.1.2.2) rfl (by first | exact Or.inl rfl | exact Or.inr rfl | omega | assumption) (by first | exact Nat.le_of_ble_eq_true rfl | omega) (by first | exact Nat.le_of_ble_eq_true rfl | omega) ?_
    exact hQ _ (by omega) (by have e := cf_len hx hl; omega) (by have e := cf_len hx hl; omega)
  · refine sg_iconst (pc := 14) (z := 1) (dc_X0_hasRoomFor_0.2.1.1.1) (by decide) ?_
    refine sg_goto (pc := 15) (tgt := 19) (dc_X0_hasRoomFor_0.2.1.1.2) (by decide) ?_
    refine sg_zret (pc := 19) (dc_X0_hasRoomFor_0.2.1.2.2) rfl (by first | exact Or.inl rfl | exact Or.inr rfl | omega | assumption) (by first | exact Nat.le_of_ble_eq_true rfl | omega) (by first | exact Nat.le_of_ble_eq_true rfl | omega) ?_
    exact hQ _ (by omega) (by have e := cf_len hx hl; omega) (by have e := cf_len hx hl; omega)

set_option maxRecDepth 100000 in
theorem f_X0_set {w : sg_W} {Q : sg_O → sg_H → Prop} {h : sg_H} (g : sg_G w) {d : Nat} (hd : 2 ≤ d) {B a c : Nat} (hx : ck_X h B) (hl : ck_L B a c) {p v : Int} (hv : ck_v c v) (p0 : 0 ≤ p) (p1 : p < ((cf_l h a).length : Int)) (hQ : ∀ h' : sg_H, ck_X h' B → ck_G B a h h' → cf_n h' a = cf_n h a → cf_w h' a = (cf_w h a).set p.toNat v → Q (.inl none) h') : sg_C w mi_X0_set d 0 0 [sg_r a, sg_i p, sg_i v] h Q := by
  refine sg_of pn_X0 (Nat.le_of_ble_eq_true rfl) ?_
  obtain ⟨n0, n1, c40, hz, hzm, hA, hN, hvs⟩ := cf_of hx hl
  have hln := cf_len hx hl
  refine sg_aload_n (pc := 0) (j := 0) (dc_X0_set_0.1.1.1.1) rfl rfl ?_
  refine sg_iload_n (pc := 1) (j := 1) (dc_X0_set_0.1.1.1.2) rfl rfl ?_
  refine sg_cE1 (pc := 2) (d' := d - 1) (mc' := 0) (ms' := 0) 3 g (dc_X0_set_0.1.1.2.1) cb_X0_hasPlace ml_X0_19 mn_X0_hasPlace rfl mv_X0_hasPlace (Nat.le_of_ble_eq_true rfl) (ck_lc (by assumption) (by first | assumption | exact ck_rev)) (Nat.le_of_ble_eq_true rfl) (by first | exact jl_d0 hd rfl | omega) (by first | exact Nat.le_of_ble_eq_true rfl | omega) (by first | exact Nat.le_of_ble_eq_true rfl | omega) ?_
  refine f_X0_hasPlace g (by first | exact jl_d1 hd rfl | omega) (by assumption) (by first | assumption | exact ck_rev) (fun z2 b2 i2 j2 => sg_K1 ?_)
  refine sg_if_eq (pc := 5) (tgt := 15) (dc_X0_set_0.1.1.2.2) (by decide) (fun c5 => ?_) (fun c5 => ?_)
  · refine sg_vret (pc := 15) (dc_X0_set_0.2.1.1.2) rfl (by first | exact Nat.le_of_ble_eq_true rfl | omega) (by first | exact Nat.le_of_ble_eq_true rfl | omega) ?_
    first | exact hQ _ x14 f14 n14 w14 | exact absurd ⟨p0, p1⟩ (i2 (by omega))
  · refine sg_aload_n (pc := 8) (j := 0) (dc_X0_set_0.1.2.1.1) rfl rfl ?_
    refine sg_getf (pc := 9) g (dc_X0_set_0.1.2.1.2) fk_X0_9 hA rfl rfl ?_
    refine sg_iload_n (pc := 12) (j := 1) (dc_X0_set_0.1.2.2.1) rfl rfl ?_
    refine sg_iload_n (pc := 13) (j := 2) (dc_X0_set_0.1.2.2.2) rfl rfl ?_
    refine cf_ast (pc := 14) (dc_X0_set_0.2.1.1.1) hx hl hv (by omega) (by omega) (fun h14 x14 f14 n14 w14 => ?_)
    refine sg_vret (pc := 15) (dc_X0_set_0.2.1.1.2) rfl (by first | exact Nat.le_of_ble_eq_true rfl | omega) (by first | exact Nat.le_of_ble_eq_true rfl | omega) ?_
    first | exact hQ _ x14 f14 n14 w14 | exact absurd ⟨p0, p1⟩ (i2 (by omega))

set_option maxRecDepth 100000 in
theorem f_X0_add {w : sg_W} {Q : sg_O → sg_H → Prop} {h : sg_H} (g : sg_G w) {d : Nat} (hd : 1 ≤ d) {B a c : Nat} (hx : ck_X h B) (hl : ck_L B a c) {v : Int} (hv : ck_v c v) (hr : cf_n h a < (ck_cap c : Int)) (hQ : ∀ h' : sg_H, ck_X h' B → ck_G B a h h' → cf_n h' a = cf_n h a + 1 → cf_w h' a = (cf_w h a).set (cf_n h a).toNat v → Q (.inl none) h') : sg_C w mi_X0_add d 0 0 [sg_r a, sg_i v] h Q := by
  refine sg_of pn_X0 (Nat.le_of_ble_eq_true rfl) ?_
  obtain ⟨n0, n1, c40, hz, hzm, hA, hN, hvs⟩ := cf_of hx hl
  refine sg_aload_n (pc := 0) (j := 0) (dc_X0_add_0.1.1.1.1) rfl rfl ?_
  refine sg_getf (pc := 1) g (dc_X0_add_0.1.1.1.2) fk_X0_15 hA rfl rfl ?_
  refine sg_if_lt (pc := 4) (tgt := 39) (dc_X0_add_0.1.1.2.1) (by decide) (fun c4 => ?_) (fun c4 => ?_)
  · refine sg_vret (pc := 39) (dc_X0_add_30.2.1.2) rfl (by first | exact Nat.le_of_ble_eq_true rfl | omega) (by first | exact Nat.le_of_ble_eq_true rfl | omega) ?_
    first | exact hQ _ x36 (ck_Gt f28 f36) n36 (by rw [w36, w28]) | (exfalso; omega)
  · refine sg_aload_n (pc := 7) (j := 0) (dc_X0_add_0.1.1.2.2) rfl rfl ?_
    refine sg_getf (pc := 8) g (dc_X0_add_0.1.2.1.1) fk_X0_15 hA rfl rfl ?_
    refine sg_aload_n (pc := 11) (j := 0) (dc_X0_add_0.1.2.1.2) rfl rfl ?_
    refine sg_getf (pc := 12) g (dc_X0_add_0.1.2.2.1) fk_X0_9 hA rfl rfl ?_
    refine sg_alenN (pc := 15) (dc_X0_add_0.1.2.2.2) hN (Nat.le_of_ble_eq_true rfl) hzm (by omega) ?_
    refine sg_icmp_ge (pc := 16) (tgt := 39) (dc_X0_add_0.2.1.1.1) (by decide) (fun c16 => ?_) (fun c16 => ?_)
    · refine sg_vret (pc := 39) (dc_X0_add_30.2.1.2) rfl (by first | exact Nat.le_of_ble_eq_true rfl | omega) (by first | exact Nat.le_of_ble_eq_true rfl | omega) ?_
      first | exact hQ _ x36 (ck_Gt f28 f36) n36 (by rw [w36, w28]) | (exfalso; omega)
    · refine sg_aload_n (pc := 19) (j := 0) (dc_X0_add_0.2.1.1.2) rfl rfl ?_
      refine sg_getf (pc := 20) g (dc_X0_add_0.2.1.2.1) fk_X0_9 hA rfl rfl ?_
      refine sg_aload_n (pc := 23) (j := 0) (dc_X0_add_0.2.1.2.2) rfl rfl ?_
      refine sg_getf (pc := 24) g (dc_X0_add_0.2.2.1.1) fk_X0_15 hA rfl rfl ?_
      refine sg_iload_n (pc := 27) (j := 1) (dc_X0_add_0.2.2.1.2) rfl rfl ?_
      refine cf_ast (pc := 28) (dc_X0_add_0.2.2.2.1) hx hl hv (by omega) (by omega) (fun h28 x28 f28 n28 w28 => ?_)
      refine sg_aload_n (pc := 29) (j := 0) (dc_X0_add_0.2.2.2.2) rfl rfl ?_
      refine sg_dup (pc := 30) (dc_X0_add_30.1.1.1) rfl ?_
      have hA28 := (cf_of x28 hl).2.2.2.2.2.1
      rw [n28] at hA28
      refine sg_getf (pc := 31) g (dc_X0_add_30.1.1.2) fk_X0_15 hA28 rfl rfl ?_
      refine sg_iconst (pc := 34) (z := 1) (dc_X0_add_30.1.2.1) (by decide) ?_
      first | refine sg_iaddB (pc := 35) (dc_X0_add_30.1.2.2) (by omega) (by omega) ?_ | refine sg_iadd (pc := 35) (dc_X0_add_30.1.2.2) ?_
      refine cf_psz (pc := 36) g (dc_X0_add_30.2.1.1) fk_X0_15 x28 hl (by omega) (by omega) (fun h36 x36 f36 n36 w36 => ?_)
      refine sg_vret (pc := 39) (dc_X0_add_30.2.1.2) rfl (by first | exact Nat.le_of_ble_eq_true rfl | omega) (by first | exact Nat.le_of_ble_eq_true rfl | omega) ?_
      first | exact hQ _ x36 (ck_Gt f28 f36) n36 (by rw [w36, w28]) | (exfalso; omega)

set_option maxRecDepth 100000 in
theorem f_X0_clear {w : sg_W} {Q : sg_O → sg_H → Prop} {h : sg_H} (g : sg_G w) {d : Nat} (hd : 1 ≤ d) {B a c : Nat} (hx : ck_X h B) (hl : ck_L B a c) (hQ : ∀ h' : sg_H, ck_X h' B → ck_G B a h h' → cf_n h' a = 0 → cf_w h' a = cf_w h a → cf_l h' a = [] → Q (.inl none) h') : sg_C w mi_X0_clear d 0 0 [sg_r a] h Q := by
  refine sg_of pn_X0 (Nat.le_of_ble_eq_true rfl) ?_
  obtain ⟨n0, n1, c40, hz, hzm, hA, hN, hvs⟩ := cf_of hx hl
  refine sg_aload_n (pc := 0) (j := 0) (dc_X0_clear_0.1.1) rfl rfl ?_
  refine sg_iconst (pc := 1) (z := 0) (dc_X0_clear_0.1.2) (by decide) ?_
  refine cf_psz (pc := 2) g (dc_X0_clear_0.2.1) fk_X0_15 hx hl (by omega) (by omega) (fun h2 x2 f2 n2 w2 => ?_)
  refine sg_vret (pc := 5) (dc_X0_clear_0.2.2) rfl (by first | exact Nat.le_of_ble_eq_true rfl | omega) (by first | exact Nat.le_of_ble_eq_true rfl | omega) ?_
  exact hQ _ x2 f2 n2 w2 (by unfold cf_l; rw [n2]; rfl)

set_option maxRecDepth 100000 in
theorem f_X0_takeAway {w : sg_W} {Q : sg_O → sg_H → Prop} {h : sg_H} (g : sg_G w) {d : Nat} (hd : 1 ≤ d) {B a c : Nat} (hx : ck_X h B) (hl : ck_L B a c) {v : Int} (v0 : 0 ≤ v) (v1 : v ≤ ((cf_l h a).length : Int)) (hQ : ∀ h' : sg_H, ck_X h' B → ck_G B a h h' → cf_l h' a = (cf_l h a).take ((cf_l h a).length - v.toNat) → Q (.inl none) h') : sg_C w mi_X0_takeAway d 0 0 [sg_r a, sg_i v] h Q := by
  refine sg_of pn_X0 (Nat.le_of_ble_eq_true rfl) ?_
  obtain ⟨n0, n1, c40, hz, hzm, hA, hN, hvs⟩ := cf_of hx hl
  have hln := cf_len hx hl
  refine sg_iload_n (pc := 0) (j := 1) (dc_X0_takeAway_0.1.1.1.1) rfl rfl ?_
  refine sg_if_lt (pc := 1) (tgt := 22) (dc_X0_takeAway_0.1.1.1.2) (by decide) (fun c1 => ?_) (fun c1 => ?_)
  · refine sg_vret (pc := 22) (dc_X0_takeAway_0.2.2.1.1) rfl (by first | exact Nat.le_of_ble_eq_true rfl | omega) (by first | exact Nat.le_of_ble_eq_true rfl | omega) ?_
    first | exact hQ _ x19 f19 (by unfold cf_l; rw [n19, w19, List.take_take, show min (((cf_w h a).take (cf_n h a).toNat).length - v.toNat) (cf_n h a).toNat = (cf_n h a - v).toNat by rw [List.length_take]; omega]) | (exfalso; omega)
  · refine sg_iload_n (pc := 4) (j := 1) (dc_X0_takeAway_0.1.1.2.1) rfl rfl ?_
    refine sg_aload_n (pc := 5) (j := 0) (dc_X0_takeAway_0.1.1.2.2) rfl rfl ?_
    refine sg_getf (pc := 6) g (dc_X0_takeAway_0.1.2.1.1) fk_X0_15 hA rfl rfl ?_
    refine sg_icmp_gt (pc := 9) (tgt := 22) (dc_X0_takeAway_0.1.2.1.2) (by decide) (fun c9 => ?_) (fun c9 => ?_)
    · refine sg_vret (pc := 22) (dc_X0_takeAway_0.2.2.1.1) rfl (by first | exact Nat.le_of_ble_eq_true rfl | omega) (by first | exact Nat.le_of_ble_eq_true rfl | omega) ?_
      first | exact hQ _ x19 f19 (by unfold cf_l; rw [n19, w19, List.take_take, show min (((cf_w h a).take (cf_n h a).toNat).length - v.toNat) (cf_n h a).toNat = (cf_n h a - v).toNat by rw [List.length_take]; omega]) | (exfalso; omega)
    · refine sg_aload_n (pc := 12) (j := 0) (dc_X0_takeAway_0.1.2.2.1) rfl rfl ?_
      refine sg_dup (pc := 13) (dc_X0_takeAway_0.1.2.2.2) rfl ?_
      refine sg_getf (pc := 14) g (dc_X0_takeAway_0.2.1.1.1) fk_X0_15 hA rfl rfl ?_
      refine sg_iload_n (pc := 17) (j := 1) (dc_X0_takeAway_0.2.1.1.2) rfl rfl ?_
      first | refine sg_isubB (pc := 18) (dc_X0_takeAway_0.2.1.2.1) (by omega) (by omega) ?_ | refine sg_isub (pc := 18) (dc_X0_takeAway_0.2.1.2.1) ?_
      refine cf_psz (pc := 19) g (dc_X0_takeAway_0.2.1.2.2) fk_X0_15 hx hl (by omega) (by omega) (fun h19 x19 f19 n19 w19 => ?_)
      refine sg_vret (pc := 22) (dc_X0_takeAway_0.2.2.1.1) rfl (by first | exact Nat.le_of_ble_eq_true rfl | omega) (by first | exact Nat.le_of_ble_eq_true rfl | omega) ?_
      first | exact hQ _ x19 f19 (by unfold cf_l; rw [n19, w19, List.take_take, show min (((cf_w h a).take (cf_n h a).toNat).length - v.toNat) (cf_n h a).toNat = (cf_n h a - v).toNat by rw [List.length_take]; omega]) | (exfalso; omega)

set_option maxRecDepth 100000 in
theorem f_X0_narrow {w : sg_W} {Q : sg_O → sg_H → Prop} {h : sg_H} (g : sg_G w) {d : Nat} (hd : 2 ≤ d) {B a c : Nat} (hx : ck_X h B) (hl : ck_L B a c) {b e : Int} (b0 : 0 ≤ b) (be : b ≤ e) (en : e ≤ ((cf_l h a).length : Int)) (hQ : ∀ h' : sg_H, ck_X h' B → ck_G B a h h' → cf_l h' a = ((cf_l h a).take e.toNat).drop b.toNat → Q (.inl none) h') : sg_C w mi_X0_narrow d 0 0 [sg_r a, sg_i b, sg_i e] h Q := by
  refine sg_of pn_X0 (Nat.le_of_ble_eq_true rfl) ?_
  obtain ⟨n0, n1, c40, hz, hzm, hA, hN, hvs⟩ := cf_of hx hl
  have hln := cf_len hx hl
  refine sg_aload_n (pc := 0) (j := 0) (dc_X0_narrow_0.1.1.1.1) rfl rfl ?_
  refine sg_iconst (pc := 1) (z := 0) (dc_X0_narrow_0.1.1.1.2) (by decide) ?_
  refine cf_psz (pc := 2) g (dc_X0_narrow_0.1.1.2.1) fk_X0_15 hx hl (by omega) (by omega) (fun h2 x2 f2 n2 w2 => ?_)
  refine sg_iload_n (pc := 5) (j := 1) (dc_X0_narrow_0.1.1.2.2) rfl rfl ?_
  refine sg_istore_n (pc := 6) (j := 3) (dc_X0_narrow_0.1.2.1.1) rfl (by decide) ?_
  have loop7 : ∀ (N : Nat) (h1 : sg_H) (p : Int), (ck_X h1 B) → (ck_G B a h h1) → (b ≤ p ∧ p ≤ e) → (cf_n h1 a = p - b) → ((cf_w h1 a).take (p - b).toNat = ((cf_w h a).take p.toNat).drop b.toNat) → ((cf_w h1 a).drop p.toNat = (cf_w h a).drop p.toNat) → (e - p).toNat < N → sg_R w mi_X0_narrow d 0 0 Q 7 [(3, sg_i p), (0, sg_r a), (1, sg_i b), (2, sg_i e)] [] h1 0 0 := by
    intro N
    induction N with
    | zero => intro h1 p hx1 hf1 p0 e1 e2 e3 hm; exact absurd hm (Nat.not_lt_zero _)
    | succ N ih =>
      intro h1 p hx1 hf1 p0 e1 e2 e3 hm
      obtain ⟨n0, n1, c40, hz, hzm, hA, hN, hvs⟩ := cf_of hx1 hl
      have hzw := (cf_of hx hl).2.2.2.1
      have hn1 := (cf_of hx hl).2.1
      have y1 : ck_Y h h1 B := ⟨hx1, hf1.1⟩
      refine sg_iload_n (pc := 7) (j := 3) (dc_X0_narrow_0.1.2.1.2) rfl rfl ?_
      refine sg_if_lt (pc := 8) (tgt := 41) (dc_X0_narrow_0.1.2.2.1) (by decide) (fun c8 => ?_) (fun c8 => ?_)
      · refine sg_vret (pc := 41) (dc_X0_narrow_26.2.2.2) rfl (by first | exact Nat.le_of_ble_eq_true rfl | omega) (by first | exact Nat.le_of_ble_eq_true rfl | omega) ?_
        first | exact hQ _ hx1 hf1 (cf_nr3 (by omega) (by omega) e1 e2) | (exfalso; omega)
      · refine sg_iload_n (pc := 11) (j := 3) (dc_X0_narrow_0.1.2.2.2) rfl rfl ?_
        refine sg_iload_n (pc := 12) (j := 2) (dc_X0_narrow_0.2.1.1.1) rfl rfl ?_
        refine sg_icmp_ge (pc := 13) (tgt := 41) (dc_X0_narrow_0.2.1.1.2) (by decide) (fun c13 => ?_) (fun c13 => ?_)
        · refine sg_vret (pc := 41) (dc_X0_narrow_26.2.2.2) rfl (by first | exact Nat.le_of_ble_eq_true rfl | omega) (by first | exact Nat.le_of_ble_eq_true rfl | omega) ?_
          first | exact hQ _ hx1 hf1 (cf_nr3 (by omega) (by omega) e1 e2) | (exfalso; omega)
        · refine sg_iload_n (pc := 16) (j := 3) (dc_X0_narrow_0.2.1.2.1) rfl rfl ?_
          refine sg_aload_n (pc := 17) (j := 0) (dc_X0_narrow_0.2.1.2.2) rfl rfl ?_
          refine sg_getf (pc := 18) g (dc_X0_narrow_0.2.2.1.1) fk_X0_9 hA rfl rfl ?_
          refine sg_alenN (pc := 21) (dc_X0_narrow_0.2.2.1.2) hN (Nat.le_of_ble_eq_true rfl) hzm (by omega) ?_
          refine sg_icmp_ge (pc := 22) (tgt := 41) (dc_X0_narrow_0.2.2.2.1) (by decide) (fun c22 => ?_) (fun c22 => ?_)
          · refine sg_vret (pc := 41) (dc_X0_narrow_26.2.2.2) rfl (by first | exact Nat.le_of_ble_eq_true rfl | omega) (by first | exact Nat.le_of_ble_eq_true rfl | omega) ?_
            first | exact hQ _ hx1 hf1 (cf_nr3 (by omega) (by omega) e1 e2) | (exfalso; omega)
          · refine sg_aload_n (pc := 25) (j := 0) (dc_X0_narrow_0.2.2.2.2) rfl rfl ?_
            refine sg_aload_n (pc := 26) (j := 0) (dc_X0_narrow_26.1.1.1) rfl rfl ?_
            refine sg_getf (pc := 27) g (dc_X0_narrow_26.1.1.2) fk_X0_9 hA rfl rfl ?_
            refine sg_iload_n (pc := 30) (j := 3) (dc_X0_narrow_26.1.2.1) rfl rfl ?_
            refine sg_iald (pc := 31) (dc_X0_narrow_26.1.2.2) hN rfl (by omega) (ck_at (by omega)) ?_
            have hv32 := hvs _ (List.getElem_mem (l := cf_w h1 a) (n := p.toNat) (by omega))
            refine sg_cE1 (pc := 32) (d' := d - 1) (mc' := 0) (ms' := 0) 3 g (dc_X0_narrow_26.2.1.1) cb_X0_add ml_X0_23 mn_X0_add rfl mv_X0_add (Nat.le_of_ble_eq_true rfl) (ck_lc (by assumption) (by first | assumption | exact ck_rev)) (Nat.le_of_ble_eq_true rfl) (by first | exact jl_d0 hd rfl | omega) (by first | exact Nat.le_of_ble_eq_true rfl | omega) (by first | exact Nat.le_of_ble_eq_true rfl | omega) ?_
            refine f_X0_add g (by first | exact jl_d1 hd rfl | omega) (by assumption) (by assumption) (by first | exact ck_v0 | assumption | (simp only [ck_v1, ck_v2] at * <;> omega)) (by omega) (fun h32 x32 f32 n32 w32 => sg_K0 ?_)
            have l32 := cf_la (by assumption) (by assumption) (by omega) n32 w32
            have y32 := ck_Yt (h0 := h) (by assumption) x32 f32.1
            first | refine sg_iincB (pc := 35) (dc_X0_narrow_26.2.1.2) rfl (by decide) (by decide) (by omega) (by omega) ?_ | refine sg_iinc (pc := 35) (dc_X0_narrow_26.2.1.2) rfl (by decide) (by decide) ?_
            refine sg_goto (pc := 38) (tgt := 7) (dc_X0_narrow_26.2.2.1) (by decide) ?_
            refine sg_lsub (lv' := [(3, _), (0, _), (1, _), (2, _)]) ⟨rfl, rfl, rfl, rfl, trivial⟩ ?_
            exact ih _ _ x32 (ck_Gt hf1 f32) (by omega) (by omega) (cf_nr1 (by omega) (by omega) (by omega) (by omega) (gd_in _).symm e1 e2 e3 w32) (cf_nr2 (by omega) (by omega) (by omega) (by omega) (gd_in _).symm e1 e2 e3 w32) (by first | exact jl_m1 hm (by omega) | exact jl_m2 hm (by omega) | omega)
  refine sg_lsub (lv' := [(3, _), (0, _), (1, _), (2, _)]) ⟨rfl, rfl, rfl, rfl, trivial⟩ ?_
  exact loop7 _ _ _ x2 f2 (by omega) (by omega) (by rw [Int.sub_self, List.drop_eq_nil_of_le (by rw [List.length_take]; omega)]; rfl) (by rw [w2]) (Nat.lt_succ_self _)

set_option maxRecDepth 100000 in
theorem f_X0_turnRound {w : sg_W} {Q : sg_O → sg_H → Prop} {h : sg_H} (g : sg_G w) {d : Nat} (hd : 3 ≤ d) {B a : Nat} (hx : ck_X h B) (hl : ck_L B a 0) (hQ : ∀ h' : sg_H, ck_X h' B → ck_G B a h h' → cf_l h' a = (cf_l h a).reverse → Q (.inl none) h') : sg_C w mi_X0_turnRound d 0 0 [sg_r a] h Q := by
  refine sg_of pn_X0 (Nat.le_of_ble_eq_true rfl) ?_
  obtain ⟨n0, n1, c40, hz, hzm, hA, hN, hvs⟩ := cf_of hx hl
  have hln := cf_len hx hl
  have y0 := ck_Y0 hx
  obtain ⟨NL, hNl⟩ : ∃ N, N = (cf_l h a).length := ⟨_, rfl⟩
  refine sg_iconst (pc := 0) (z := 0) (dc_X0_turnRound_0.1.1.1.1) (by decide) ?_
  refine sg_istore_n (pc := 1) (j := 1) (dc_X0_turnRound_0.1.1.1.2) rfl (by decide) ?_
  refine sg_aload_n (pc := 2) (j := 0) (dc_X0_turnRound_0.1.1.2.1) rfl rfl ?_
  refine sg_getf (pc := 3) g (dc_X0_turnRound_0.1.1.2.2) fk_X0_15 hA rfl rfl ?_
  refine sg_iconst (pc := 6) (z := 1) (dc_X0_turnRound_0.1.2.1.1) (by decide) ?_
  first | refine sg_isubB (pc := 7) (dc_X0_turnRound_0.1.2.1.2) (by omega) (by omega) ?_ | refine sg_isub (pc := 7) (dc_X0_turnRound_0.1.2.1.2) ?_
  refine sg_istore_n (pc := 8) (j := 2) (dc_X0_turnRound_0.1.2.2.1) rfl (by decide) ?_
  have loop9 : ∀ (N : Nat) (h1 : sg_H) (p e : Int), (ck_X h1 B) → (ck_G B a h h1) → (0 ≤ p ∧ p ≤ e + 1 ∧ p + e = (NL : Int) - 1) → (cf_n h1 a = cf_n h a) → (cf_l h1 a = tt_b NL (cf_tr (cf_l h a) NL p e)) → (e - p + 100).toNat < N → sg_R w mi_X0_turnRound d 0 0 Q 9 [(1, sg_i p), (2, sg_i e), (0, sg_r a)] [] h1 0 0 := by
    intro N
    induction N with
    | zero => intro h1 p e hx1 hf1 hp e1 e2 hm; exact absurd hm (Nat.not_lt_zero _)
    | succ N ih =>
      intro h1 p e hx1 hf1 hp e1 e2 hm
      obtain ⟨n0, n1, c40, hz, hzm, hA, hN, hvs⟩ := cf_of hx1 hl
      have hln1 := cf_len hx1 hl
      have y1 : ck_Y h h1 B := ⟨hx1, hf1.1⟩
      refine sg_iload_n (pc := 9) (j := 1) (dc_X0_turnRound_0.1.2.2.2) rfl rfl ?_
      refine sg_iload_n (pc := 10) (j := 2) (dc_X0_turnRound_0.2.1.1.1) rfl rfl ?_
      refine sg_icmp_ge (pc := 11) (tgt := 45) (dc_X0_turnRound_0.2.1.1.2) (by decide) (fun c11 => ?_) (fun c11 => ?_)
      · refine sg_vret (pc := 45) (dc_X0_turnRound_22.2.1.2.2) rfl (by first | exact Nat.le_of_ble_eq_true rfl | omega) (by first | exact Nat.le_of_ble_eq_true rfl | omega) ?_
        exact hQ _ hx1 hf1 (cf_tr2 hNl (by omega) (by omega) e2)
      · refine sg_aload_n (pc := 14) (j := 0) (dc_X0_turnRound_0.2.1.2.1) rfl rfl ?_
        refine sg_iload_n (pc := 15) (j := 1) (dc_X0_turnRound_0.2.1.2.2) rfl rfl ?_
        refine sg_cV1 (pc := 16) (d' := d - 1) (mc' := 0) (ms' := 0) g (dc_X0_turnRound_0.2.2.1.1) cb_X0_get ml_X0_27 mn_X0_get mv_X0_get hA (Nat.le_of_ble_eq_true rfl) rfl (Nat.le_of_ble_eq_true rfl) (by first | exact jl_d0 hd rfl | omega) (by first | exact Nat.le_of_ble_eq_true rfl | omega) (by first | exact Nat.le_of_ble_eq_true rfl | omega) ?_
        refine f_X0_get g (by first | exact jl_d1 hd rfl | omega) (by assumption) (by first | assumption | exact ck_rev) (fun z16 e16 v16 => sg_K1 ?_)
        refine sg_istore_n (pc := 19) (j := 3) (dc_X0_turnRound_0.2.2.1.2) rfl (by decide) ?_
        refine sg_aload_n (pc := 20) (j := 0) (dc_X0_turnRound_0.2.2.2.1) rfl rfl ?_
        refine sg_iload_n (pc := 21) (j := 1) (dc_X0_turnRound_0.2.2.2.2) rfl rfl ?_
        refine sg_aload_n (pc := 22) (j := 0) (dc_X0_turnRound_22.1.1.1.1) rfl rfl ?_
        refine sg_iload_n (pc := 23) (j := 2) (dc_X0_turnRound_22.1.1.1.2) rfl rfl ?_
        refine sg_cV1 (pc := 24) (d' := d - 1) (mc' := 0) (ms' := 0) g (dc_X0_turnRound_22.1.1.2.1) cb_X0_get ml_X0_27 mn_X0_get mv_X0_get hA (Nat.le_of_ble_eq_true rfl) rfl (Nat.le_of_ble_eq_true rfl) (by first | exact jl_d0 hd rfl | omega) (by first | exact Nat.le_of_ble_eq_true rfl | omega) (by first | exact Nat.le_of_ble_eq_true rfl | omega) ?_
        refine f_X0_get g (by first | exact jl_d1 hd rfl | omega) (by assumption) (by first | assumption | exact ck_rev) (fun z24 e24 v24 => sg_K1 ?_)
        have hv27 : ck_v 0 z24 := ck_v0
        refine sg_cV2 (pc := 27) (d' := d - 1) (mc' := 0) (ms' := 0) g (dc_X0_turnRound_22.1.1.2.2) cb_X0_set ml_X0_31 mn_X0_set mv_X0_set hA (Nat.le_of_ble_eq_true rfl) rfl (Nat.le_of_ble_eq_true rfl) (by first | exact jl_d0 hd rfl | omega) (by first | exact Nat.le_of_ble_eq_true rfl | omega) (by first | exact Nat.le_of_ble_eq_true rfl | omega) ?_
        refine f_X0_set g (by first | exact jl_d1 hd rfl | omega) (by assumption) (by assumption) (by first | exact ck_v0 | assumption | (simp only [ck_v1, ck_v2] at * <;> omega)) (by omega) (by omega) (fun h27 x27 f27 n27 w27 => sg_K0 ?_)
        have l27 := cf_ls n27 w27
        have y27 := ck_Yt (h0 := h) (by assumption) x27 f27.1
        refine sg_aload_n (pc := 30) (j := 0) (dc_X0_turnRound_22.1.2.1.1) rfl rfl ?_
        refine sg_iload_n (pc := 31) (j := 2) (dc_X0_turnRound_22.1.2.1.2) rfl rfl ?_
        refine sg_iload_n (pc := 32) (j := 3) (dc_X0_turnRound_22.1.2.2.1) rfl rfl ?_
        have hv33 : ck_v 0 z16 := ck_v0
        have hA33 := (cf_of x27 hl).2.2.2.2.2.1
        have hln27 := cf_len x27 hl
        refine sg_cV2 (pc := 33) (d' := d - 1) (mc' := 0) (ms' := 0) g (dc_X0_turnRound_22.1.2.2.2) cb_X0_set ml_X0_31 mn_X0_set mv_X0_set hA33 (Nat.le_of_ble_eq_true rfl) rfl (Nat.le_of_ble_eq_true rfl) (by first | exact jl_d0 hd rfl | omega) (by first | exact Nat.le_of_ble_eq_true rfl | omega) (by first | exact Nat.le_of_ble_eq_true rfl | omega) ?_
        refine f_X0_set g (by first | exact jl_d1 hd rfl | omega) (by assumption) (by assumption) (by first | exact ck_v0 | assumption | (simp only [ck_v1, ck_v2] at * <;> omega)) (by omega) (by omega) (fun h33 x33 f33 n33 w33 => sg_K0 ?_)
        have l33 := cf_ls n33 w33
        have y33 := ck_Yt (h0 := h) (by assumption) x33 f33.1
        first | refine sg_iincB (pc := 36) (dc_X0_turnRound_22.2.1.1.1) rfl (by decide) (by decide) (by omega) (by omega) ?_ | refine sg_iinc (pc := 36) (dc_X0_turnRound_22.2.1.1.1) rfl (by decide) (by decide) ?_
        first | refine sg_iincB (pc := 39) (dc_X0_turnRound_22.2.1.1.2) rfl (by decide) (by decide) (by omega) (by omega) ?_ | refine sg_iinc (pc := 39) (dc_X0_turnRound_22.2.1.1.2) rfl (by decide) (by decide) ?_
        refine sg_goto (pc := 42) (tgt := 9) (dc_X0_turnRound_22.2.1.2.1) (by decide) ?_
        refine sg_lsub (lv' := [(1, _), (2, _), (0, _)]) ⟨rfl, rfl, rfl, trivial⟩ ?_
        exact ih _ _ _ x33 (ck_Gt (ck_Gt hf1 f27) f33) (by omega) (by rw [n33, n27, e1]) (cf_tr1 hNl (by omega) (by omega) (by omega) e2 e16 e24 l27 l33) (by first | exact jl_m1 hm (by omega) | exact jl_m2 hm (by omega) | omega)
  refine sg_lsub (lv' := [(1, _), (2, _), (0, _)]) ⟨rfl, rfl, rfl, trivial⟩ ?_
  exact loop9 _ _ _ _ hx ck_G0 (by omega) rfl (cf_tr0 hNl (by omega)) (Nat.lt_succ_self _)

set_option maxRecDepth 100000 in
theorem f_X0_become {w : sg_W} {Q : sg_O → sg_H → Prop} {h : sg_H} (g : sg_G w) {d : Nat} (hd : 3 ≤ d) {B a c b : Nat} (hx : ck_X h B) (hl : ck_L B a c) (hl2 : ck_L B b c) (hap : cf_ap a b) (hQ : ∀ h' : sg_H, ck_X h' B → ck_G B a h h' → cf_l h' a = cf_l h b → Q (.inl none) h') : sg_C w mi_X0_become d 0 0 [sg_r a, sg_r b] h Q := by
  refine sg_of pn_X0 (Nat.le_of_ble_eq_true rfl) ?_
  obtain ⟨n0, n1, c40, hz, hzm, hA, hN, hvs⟩ := cf_of hx hl
  have nb0 := (cf_of hx hl2).1
  refine sg_aload_n (pc := 0) (j := 0) (dc_X0_become_0.1.1.1.1) rfl rfl ?_
  refine sg_iconst (pc := 1) (z := 0) (dc_X0_become_0.1.1.1.2) (by decide) ?_
  refine cf_psz (pc := 2) g (dc_X0_become_0.1.1.2.1) fk_X0_15 hx hl (by omega) (by omega) (fun h2 x2 f2 n2 w2 => ?_)
  refine sg_iconst (pc := 5) (z := 0) (dc_X0_become_0.1.1.2.2) (by decide) ?_
  refine sg_istore_n (pc := 6) (j := 2) (dc_X0_become_0.1.2.1.1) rfl (by decide) ?_
  have loop7 : ∀ (N : Nat) (h1 : sg_H) (p : Int), (ck_X h1 B) → (ck_G B a h h1) → (0 ≤ p ∧ p ≤ cf_n h b) → (cf_n h1 a = p) → (cf_l h1 a = (cf_l h b).take p.toNat) → (40 - p).toNat < N → sg_R w mi_X0_become d 0 0 Q 7 [(2, sg_i p), (0, sg_r a), (1, sg_r b)] [] h1 0 0 := by
    intro N
    induction N with
    | zero => intro h1 p hx1 hf1 hp e1 e2 hm; exact absurd hm (Nat.not_lt_zero _)
    | succ N ih =>
      intro h1 p hx1 hf1 hp e1 e2 hm
      obtain ⟨n0, n1, c40, hz, hzm, hA, hN, hvs⟩ := cf_of hx1 hl
      obtain ⟨n09, n19, c409, hz9, hzm9, hA9, hN9, hvs9⟩ := cf_of hx1 hl2
      obtain ⟨fr1, fr2, fr3⟩ := cf_fr hf1 hap
      have y1 : ck_Y h h1 B := ⟨hx1, hf1.1⟩
      have hln9 := cf_len hx hl2
      have ncb := (cf_of hx hl2).2.1
      rw [fr2] at hA9
      refine sg_iload_n (pc := 7) (j := 2) (dc_X0_become_0.1.2.1.2) rfl rfl ?_
      refine sg_aload_n (pc := 8) (j := 1) (dc_X0_become_0.1.2.2.1) rfl rfl ?_
      refine sg_getf (pc := 9) g (dc_X0_become_0.1.2.2.2) fk_X0_15 hA9 rfl rfl ?_
      refine sg_icmp_ge (pc := 12) (tgt := 30) (dc_X0_become_0.2.1.1.1) (by decide) (fun c12 => ?_) (fun c12 => ?_)
      · refine sg_vret (pc := 30) dc_X0_become_30 rfl (by first | exact Nat.le_of_ble_eq_true rfl | omega) (by first | exact Nat.le_of_ble_eq_true rfl | omega) ?_
        exact hQ _ hx1 hf1 (by rw [e2, List.take_of_length_le (by omega)])
      · refine sg_aload_n (pc := 15) (j := 0) (dc_X0_become_0.2.1.1.2) rfl rfl ?_
        refine sg_aload_n (pc := 16) (j := 1) (dc_X0_become_0.2.1.2.1) rfl rfl ?_
        refine sg_iload_n (pc := 17) (j := 2) (dc_X0_become_0.2.1.2.2) rfl rfl ?_
        refine sg_cE1 (pc := 18) (d' := d - 1) (mc' := 0) (ms' := 0) 3 g (dc_X0_become_0.2.2.1.1) cb_X0_get ml_X0_27 mn_X0_get rfl mv_X0_get (Nat.le_of_ble_eq_true rfl) (ck_lc hx1 hl2) (Nat.le_of_ble_eq_true rfl) (by first | exact jl_d0 hd rfl | omega) (by first | exact Nat.le_of_ble_eq_true rfl | omega) (by first | exact Nat.le_of_ble_eq_true rfl | omega) ?_
        refine f_X0_get g (by first | exact jl_d1 hd rfl | omega) hx1 hl2 (fun z18 e18 v18 => sg_K1 ?_)
        rw [fr1] at e18 v18
        have hv21 := v18 (by omega) (by omega)
        refine sg_cV1 (pc := 21) (d' := d - 1) (mc' := 0) (ms' := 0) g (dc_X0_become_0.2.2.1.2) cb_X0_add ml_X0_23 mn_X0_add mv_X0_add hA (Nat.le_of_ble_eq_true rfl) rfl (Nat.le_of_ble_eq_true rfl) (by first | exact jl_d0 hd rfl | omega) (by first | exact Nat.le_of_ble_eq_true rfl | omega) (by first | exact Nat.le_of_ble_eq_true rfl | omega) ?_
        refine f_X0_add g (by first | exact jl_d1 hd rfl | omega) (by assumption) (by assumption) (by first | exact ck_v0 | assumption | (simp only [ck_v1, ck_v2] at * <;> omega)) (by omega) (fun h21 x21 f21 n21 w21 => sg_K0 ?_)
        have l21 := cf_la (by assumption) (by assumption) (by omega) n21 w21
        have y21 := ck_Yt (h0 := h) (by assumption) x21 f21.1
        first | refine sg_iincB (pc := 24) (dc_X0_become_0.2.2.2.1) rfl (by decide) (by decide) (by omega) (by omega) ?_ | refine sg_iinc (pc := 24) (dc_X0_become_0.2.2.2.1) rfl (by decide) (by decide) ?_
        refine sg_goto (pc := 27) (tgt := 7) (dc_X0_become_0.2.2.2.2) (by decide) ?_
        refine sg_lsub (lv' := [(2, _), (0, _), (1, _)]) ⟨rfl, rfl, rfl, trivial⟩ ?_
        exact ih _ _ x21 (ck_Gt hf1 f21) (by omega) (by omega) (cf_bc (by omega) (by omega) hln9 e2 e18 l21) (by first | exact jl_m1 hm (by omega) | exact jl_m2 hm (by omega) | omega)
  refine sg_lsub (lv' := [(2, _), (0, _), (1, _)]) ⟨rfl, rfl, rfl, trivial⟩ ?_
  exact loop7 _ _ _ x2 f2 (by omega) (by omega) (by unfold cf_l; rw [n2]; rfl) (Nat.lt_succ_self _)

