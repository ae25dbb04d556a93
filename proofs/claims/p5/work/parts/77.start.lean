/-! THE START: the heap from before, as far as it is told of; what the statement gives -/
def jh_t : Cond → Bool
  | .stringRef .. | .laysStatic .. | .arrayOver .. | .arrayClass .. => true
  | c => c.onTables
theorem jh_args {A A' : Array Value} {s : State} : ∀ c : Cond, jh_t c = true → c.before A s = true → c.before A' s = true := by
  intro c hc h
  cases c <;> first | exact h | exact va_tabs hc rfl h | (simp [jh_t, Cond.onTables] at hc)
set_option maxRecDepth 100000 in
theorem jh_on : ∀ c ∈ lw_tbl, jh_t c = true := List.all_eq_true.mp (by decide +kernel)
theorem sg_v_u {v v' : sg_V} {c : Value} (h : sg_v v c) (h' : sg_v v' c) : v = v' := by
  match v, v', h, h' with
  | .inl z, .inl z', h, h' =>
    obtain ⟨x, rfl, rfl⟩ := h
    obtain ⟨x', e, rfl⟩ := h'
    cases e; rfl
  | .inl z, .inr (.inl z'), h, h' => obtain ⟨x, rfl, -⟩ := h; obtain ⟨x', e, -⟩ := h'; cases e
  | .inl z, .inr (.inr (some a)), h, h' => obtain ⟨x, rfl, -⟩ := h; cases (show Value.int x = .ref a from h')
  | .inl z, .inr (.inr none), h, h' => obtain ⟨x, rfl, -⟩ := h; cases (show Value.int x = .null from h')
  | .inr (.inl z), .inl z', h, h' => obtain ⟨x, rfl, -⟩ := h; obtain ⟨x', e, -⟩ := h'; cases e
  | .inr (.inl z), .inr (.inl z'), h, h' =>
    obtain ⟨x, rfl, rfl⟩ := h
    obtain ⟨x', e, rfl⟩ := h'
    cases e; rfl
  | .inr (.inl z), .inr (.inr (some a)), h, h' => obtain ⟨x, rfl, -⟩ := h; cases (show Value.long x = .ref a from h')
  | .inr (.inl z), .inr (.inr none), h, h' => obtain ⟨x, rfl, -⟩ := h; cases (show Value.long x = .null from h')
  | .inr (.inr (some a)), .inl z', h, h' => obtain ⟨x', e, -⟩ := h'; cases e.symm.trans (show c = .ref a from h)
  | .inr (.inr (some a)), .inr (.inl z'), h, h' => obtain ⟨x', e, -⟩ := h'; cases e.symm.trans (show c = .ref a from h)
  | .inr (.inr (some a)), .inr (.inr (some a')), h, h' => cases (show c = .ref a from h).symm.trans (show c = .ref a' from h'); rfl
  | .inr (.inr (some a)), .inr (.inr none), h, h' => cases (show c = .ref a from h).symm.trans (show c = .null from h')
  | .inr (.inr none), .inl z', h, h' => obtain ⟨x', e, -⟩ := h'; cases e.symm.trans (show c = .null from h)
  | .inr (.inr none), .inr (.inl z'), h, h' => obtain ⟨x', e, -⟩ := h'; cases e.symm.trans (show c = .null from h)
  | .inr (.inr none), .inr (.inr (some a')), h, h' => cases (show c = .null from h).symm.trans (show c = .ref a' from h')
  | .inr (.inr none), .inr (.inr none), h, h' => rfl
/-- a picture of a cell from before -/
def jh_P (w : sg_W) (cell : Cell) (e : sg_E) : Prop := sg_at w e cell ∧ ((e.1 = 200 ∧ e.2.length = 2) ∨ ((e.1 = 300 ∨ e.1 = 302 ∨ e.1 = 310 ∨ e.1 = 313) ∧ e.2.length < 2147483648))
theorem jh_u {w : sg_W} (hK : va_K w.2.2 vwCl [] w.2.1) {cell : Cell} {e e' : sg_E} (h : jh_P w cell e) (h' : jh_P w cell e') : e = e' := by
  obtain ⟨t, vs⟩ := e
  obtain ⟨t', vs'⟩ := e'
  obtain ⟨⟨-, h2, h3⟩, h4⟩ := h
  obtain ⟨⟨-, h2', h3'⟩, h4'⟩ := h'
  dsimp only at h2 h3 h4 h2' h3' h4'
  have key : t = t' ∧ vs.length = vs'.length := by
    rcases h4 with ⟨rfl, l1⟩ | ⟨q, l1⟩
    · rcases h4' with ⟨rfl, l2⟩ | ⟨q', l2⟩
      · exact ⟨rfl, l1.trans l2.symm⟩
      · exfalso
        rw [if_pos (by decide)] at h3
        have hk := (hK.1 0 _ rfl).2
        obtain ⟨-, k, hk1, hk2⟩ := hk
        have e0 : cell.cls = w.2.2.1 0 := h3.1
        rw [← e0] at hk1
        rw [if_neg (by omega)] at h3'
        obtain ⟨⟨k', comp, g1, g2⟩, -⟩ := h3'.2
        cases Option.some.inj (hk1.symm.trans g1)
        rw [hk2] at g2
        cases g2
    · rcases h4' with ⟨rfl, l2⟩ | ⟨q', l2⟩
      · exfalso
        rw [if_pos (by decide)] at h3'
        have hk := (hK.1 0 _ rfl).2
        obtain ⟨-, k, hk1, hk2⟩ := hk
        have e0 : cell.cls = w.2.2.1 0 := h3'.1
        rw [← e0] at hk1
        rw [if_neg (by omega)] at h3
        obtain ⟨⟨k', comp, g1, g2⟩, -⟩ := h3.2
        cases Option.some.inj (hk1.symm.trans g1)
        rw [hk2] at g2
        cases g2
      · rw [if_neg (by omega)] at h3 h3'
        obtain ⟨⟨k, comp, f1, f2⟩, -⟩ := h3.2
        obtain ⟨⟨k', comp', g1, g2⟩, -⟩ := h3'.2
        cases Option.some.inj (f1.symm.trans g1)
        rw [f2] at g2
        have ht : sg_ty (t % 200) = sg_ty (t' % 200) := by injection g2
        refine ⟨?_, ?_⟩
        · rcases q with rfl | rfl | rfl | rfl <;> rcases q' with rfl | rfl | rfl | rfl <;> first | rfl | (exfalso; revert ht; decide)
        · have e1 := h3.1.2.2.symm.trans h3'.1.2.2
          have e2 : (nI vs.length).toInt = (nI vs'.length).toInt := congrArg Int32.toInt e1
          rw [nI_toInt l1, nI_toInt l2] at e2
          omega
  obtain ⟨rfl, hl⟩ := key
  refine Prod.ext rfl (List.ext_getElem? fun i => ?_)
  show vs[i]? = vs'[i]?
  by_cases hi : i < vs.length
  · have e1 := List.getElem?_eq_getElem hi
    have e2 := List.getElem?_eq_getElem (show i < vs'.length by omega)
    obtain ⟨c1, p1, p2⟩ := h2 i _ e1
    obtain ⟨c2, p3, p4⟩ := h2' i _ e2
    cases Option.some.inj (p1.symm.trans p3)
    rw [e1, e2, sg_v_u p2 p4]
  · rw [List.getElem?_eq_none (by omega), List.getElem?_eq_none (by omega)]
noncomputable def jh_f (w : sg_W) : Nat → Option sg_E := fun q => match w.2.1.heap[q]? with
  | none => none
  | some ce => @dite _ (∃ e, jh_P w ce e) (Classical.propDecidable _) (fun h => some (Classical.choose h)) (fun _ => none)
theorem jh_some {w : sg_W} {q : Nat} {e : sg_E} (h : jh_f w q = some e) : ∃ cell, w.2.1.heap[q]? = some cell ∧ jh_P w cell e := by
  unfold jh_f at h
  split at h
  · cases h
  · rename_i ce hc
    by_cases hh : ∃ e, jh_P w ce e
    · have h2 := (dif_pos hh).symm.trans h
      cases Option.some.inj h2
      exact ⟨ce, hc, Classical.choose_spec hh⟩
    · have h2 := (dif_neg hh).symm.trans h
      cases h2
theorem jh_at {w : sg_W} (hK : va_K w.2.2 vwCl [] w.2.1) {q : Nat} {cell : Cell} {e : sg_E} (hc : w.2.1.heap[q]? = some cell) (h : jh_P w cell e) : jh_f w q = some e := by
  unfold jh_f
  rw [hc]
  have hh : ∃ e, jh_P w cell e := ⟨e, h⟩
  exact (dif_pos hh).trans (congrArg some (jh_u hK (Classical.choose_spec hh) h))
theorem jh_rel {w : sg_W} : sg_rel w (w.2.1.heap.size, jh_f w) w.2.1.heap := by
  refine ⟨rfl, Nat.le_refl _, fun _ _ => rfl, fun a e h => ?_⟩
  obtain ⟨cell, h1, h2, h3⟩ := jh_some h
  exact ⟨fun z => by rcases h3 with ⟨q, -⟩ | ⟨q, -⟩ <;> omega, cell, h1, h2⟩
theorem jh_lt {w : sg_W} {q : Nat} {e : sg_E} (h : jh_f w q = some e) : q < w.2.1.heap.size := by
  obtain ⟨cell, h1, -⟩ := jh_some h
  exact (Array.getElem?_eq_some_iff.mp h1).1
/-- an array from before -/
theorem jh_arr {w : sg_W} (hK : va_K w.2.2 vwCl [] w.2.1) {t0 a N : Nat} {ty : FieldType} {f : Nat → Value} {A : Nat → Prop} {vs : List sg_V} (ht : t0 = 300 ∨ t0 = 302 ∨ t0 = 310 ∨ t0 = 313) (hty : sg_ty (t0 % 200) = ty) (hT : va_T ty a N f A w.2.1 w.2.1.heap) (hl : vs.length = N) (hN : N < 2147483648) (hv : ∀ j v, vs[j]? = some v → sg_v v (f j)) : jh_f w a = some (t0, vs) := by
  obtain ⟨cell, h1, h2, h3, h4, h5, h6, -⟩ := hT
  obtain ⟨hns, k, hk, comp, hkind⟩ := h2
  have wk : sg_wk t0 = true := by rcases ht with rfl | rfl | rfl | rfl <;> rfl
  have hst : cell.vm.isStatics = false := by
    cases hc : cell.vm with
    | statics k => exact absurd hc (hns k)
    | _ => rfl
  refine jh_at hK h1 ⟨⟨⟨fun z => (by rw [show sg_wk (t0, vs).1 = true from wk] at z; cases z), hst, h3⟩, fun j v hj => ?_, ?_⟩, Or.inr ⟨ht, by show vs.length < _; omega⟩⟩
  · have hj2 : j < N := by rw [← hl]; exact (List.getElem?_eq_some_iff.mp hj).1
    refine ⟨f j, ?_, hv j v hj⟩
    unfold sg_ix
    rw [if_neg (by show ¬ t0 % 200 < 100; omega)]
    exact h6 j hj2
  · rw [if_neg (by show ¬ t0 % 200 < 100; omega)]
    refine ⟨⟨fun z => (by rw [show sg_wk (t0, vs).1 = true from wk] at z; cases z), by show vs.length ≤ _; omega, by show _ = Int32.ofNat vs.length; rw [hl]; exact h5⟩, ⟨k, comp, hk, ?_⟩, fun z => (by rw [show sg_wk (t0, vs).1 = true from wk] at z; cases z)⟩
    show k.kind = .array comp (sg_ty (t0 % 200))
    rw [hty]; exact hkind
/-- the script -/
theorem jh_scr {w : sg_W} (hK : va_K w.2.2 vwCl [] w.2.1) {b L : Nat} {xs : Nat → Int32} (hL : L ≤ 3072) (hX : va_X b L xs w.2.1 w.2.1.heap) : jh_f w b = some (300, ((List.range L).map fun j => (xs j).toInt).map sg_i) := by
  obtain ⟨scr, h1, h2, h3, h4, h5⟩ := hX
  refine jh_arr (A := fun _ => False) hK (Or.inl rfl) (ty := .int) rfl (N := L) (f := fun j => .int (xs j)) ⟨scr, h1, h2, h3, Nat.le_of_eq h4.symm, by rw [h4], h5, fun z => z⟩ (by simp) (by omega) (fun j v hj => ?_)
  rw [List.map_map] at hj
  have hj2 : j < L := by simpa using (List.getElem?_eq_some_iff.mp hj).1
  rw [List.getElem?_map, List.getElem?_range hj2] at hj
  cases Option.some.inj hj
  exact ⟨xs j, rfl, rfl⟩
/-- a text from before: its letters fit one byte each -/
theorem jh_txt {w : sg_W} (hK : va_K w.2.2 vwCl [] w.2.1) {a v n : Nat} {A : Nat → Prop} {f : Nat → Int32} (h1 : va_O "java/lang/String" a A w.2.1 w.2.1.heap) (h2 : va_OF "java/lang/String" "coder" "B" (.int 0) a A w.2.1 w.2.1.heap) (h3 : va_OF "java/lang/String" "value" "[B" (.ref v) a A w.2.1 w.2.1.heap) (h4 : va_T .byte v n (fun j => .int (f j)) A w.2.1 w.2.1.heap) (hn : n ≤ 100) (hf : ∀ j, j < n → -128 ≤ (f j).toInt ∧ (f j).toInt ≤ 127) : js_S (w.2.1.heap.size, jh_f w) a n := by
  obtain ⟨cell, c1, c2, c3, -⟩ := h1
  obtain ⟨cf2, k2, i2, f2, cell2, g1, g2, g3, g4, g5, -⟩ := h2
  obtain ⟨cf3, k3, i3, f3, cell3, p1, p2, p3, p4, p5, -⟩ := h3
  cases Option.some.inj (c1.symm.trans g3)
  cases Option.some.inj (c1.symm.trans p3)
  obtain ⟨hS, hfc, -⟩ := hK.1 0 _ rfl
  have hS0 := hS 0 (by decide)
  have hS1 := hS 1 (by decide)
  obtain ⟨cf4, k4, i4, f4, q1, q2⟩ := hS0
  obtain ⟨cf5, k5, i5, f5, q3, q4⟩ := hS1
  have e3 : f3 = f4 := by
    have := Option.some.inj (p1.symm.trans q1)
    simp only [Prod.mk.injEq] at this
    exact this.2.2.2
  have e2 : f2 = f5 := by
    have := Option.some.inj (g1.symm.trans q3)
    simp only [Prod.mk.injEq] at this
    exact this.2.2.2
  have hat : jh_f w a = some (200, [sg_r v, sg_i 0]) := by
    refine jh_at hK c1 ⟨⟨⟨fun z => (by cases z), c2, g4⟩, fun j x hj => ?_, ?_⟩, Or.inl ⟨rfl, rfl⟩⟩
    · match j, hj with
      | 0, hj =>
        cases Option.some.inj hj
        refine ⟨.ref v, ?_, rfl⟩
        have e0 : sg_ix w.2.2 (200 % 200) 0 = w.2.2.2 0 0 := if_pos (show (200 : Nat) % 200 < 100 by decide)
        show cell.slots[sg_ix w.2.2 (200 % 200) 0]? = _
        rw [e0]
        rw [← q2, ← e3]; exact p5
      | 1, hj =>
        cases Option.some.inj hj
        refine ⟨.int 0, ?_, 0, rfl, rfl⟩
        have e0 : sg_ix w.2.2 (200 % 200) 1 = w.2.2.2 0 1 := if_pos (show (200 : Nat) % 200 < 100 by decide)
        show cell.slots[sg_ix w.2.2 (200 % 200) 1]? = _
        rw [e0]
        rw [← q4, ← e2]; exact g5
      | j + 2, hj => cases hj
    · show if (200 : Nat) % 200 < 100 then cell.cls = w.2.2.1 (200 % 200) ∧ (∃ q, vwCl[(200 : Nat) % 200]? = some q ∧ (sg_wk 200 = false → 2 = q.2.2)) else _
      rw [if_pos (by decide), show (200 : Nat) % 200 = 0 from rfl]
      exact ⟨Option.some.inj (c3.symm.trans hfc), _, rfl, fun z => (by cases z)⟩
  have hby : jh_f w v = some (302, (List.range n).map fun j => sg_i (f j).toInt) := by
    refine jh_arr hK (Or.inr (Or.inl rfl)) rfl h4 (by simp) (by omega) (fun j x hj => ?_)
    have hj2 : j < n := by simpa using (List.getElem?_eq_some_iff.mp hj).1
    rw [List.getElem?_map, List.getElem?_range hj2] at hj
    cases Option.some.inj hj
    exact ⟨f j, rfl, rfl⟩
  refine ⟨jh_lt hat, 200, v, [], hat, rfl, jh_lt hby, 302, _, hby, rfl, by simp, fun x hx => ?_⟩
  obtain ⟨j, hj, rfl⟩ := List.mem_map.mp hx
  exact ⟨_, rfl, hf j (List.mem_range.mp hj)⟩

