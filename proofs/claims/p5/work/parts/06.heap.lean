/-! fields, arrays, making -/
theorem sg_asg (vm : Vm) (c : ClassId) : vm.assignable c c = true := by
  show vm.assignableAux (255 + 1) c c = true
  rw [Vm.assignableAux]
  simp only [beq_self_eq_true, Bool.true_or]
def sg_co (q : vw_C) (ty : Nat → FieldType) : Prop := (∀ x ∈ u_ws q.1 q.2.1 q.2.2, sg_ok x) ∧ (∀ a, a < q.2.2 → ∀ b, b < q.2.2 → a ≠ b → (q.2.1 a).2.1 ≠ (q.2.1 b).2.1) ∧ ∀ k, k < q.2.2 → parseFieldDescriptor (q.2.1 k).2.2.1 = some (ty k)
/-- the pool's entry idx of the class own is the field j of the objects of kind t; it is final or not -/
def sg_fk (own : String) (idx t j : Nat) (fin : Bool) (ft : FieldType) : Prop := t < 100 ∧ ∃ (q : vw_C) (ty : Nat → FieldType) (ref : String), vwCl[t]? = some q ∧ j < q.2.2 ∧ sg_co q ty ∧ (q.2.1 j).2.2.2 = fin ∧ ty j = ft ∧ (fin = true → (q.2.1 j).1 = own) ∧
  sg_ok (.fieldLink own idx ref (q.2.1 j).2.1 (q.2.1 j).2.2.1) ∧ (ref = (q.2.1 j).1 ∨ sg_ok (.sameField ref (q.2.1 j).1 (q.2.1 j).2.1 (q.2.1 j).2.2.1))
/-- likewise, a nest mate's -/
def sg_fkN (own : String) (idx t j : Nat) (fin : Bool) (ft : FieldType) : Prop := t < 100 ∧ ∃ (q : vw_C) (ty : Nat → FieldType) (host : String), vwCl[t]? = some q ∧ j < q.2.2 ∧ sg_co q ty ∧ (q.2.1 j).2.2.2 = fin ∧ ty j = ft ∧
  Cond.fieldLinkNest own idx (q.2.1 j).1 (q.2.1 j).2.1 (q.2.1 j).2.2.1 host ∈ lw_tbl
def sg_ft (ty : FieldType) (v : sg_V) : Prop := ∀ c, sg_v v c → narrow ty c = c ∧ fits ty c = true
theorem sg_ft_i {z : Int} : sg_ft .int (sg_i z) := fun c h => by obtain ⟨x, rfl, -⟩ := h; exact ⟨rfl, rfl⟩
theorem sg_ft_l {z : Int} : sg_ft .long (sg_l z) := fun c h => by obtain ⟨x, rfl, -⟩ := h; exact ⟨rfl, rfl⟩
theorem sg_ft_o {C : String} {a : Nat} : sg_ft (.object C) (sg_r a) := fun c h => by cases (show c = .ref a from h); exact ⟨rfl, rfl⟩
theorem sg_ft_a {t : FieldType} {a : Nat} : sg_ft (.array t) (sg_r a) := fun c h => by cases (show c = .ref a from h); exact ⟨rfl, rfl⟩
theorem sg_ft_z {z : Int} (hz : z = 0 ∨ z = 1) : sg_ft .boolean (sg_i z) := fun c h => by
  obtain ⟨x, rfl, hx⟩ := h
  rcases hz with rfl | rfl
  · rw [show x = 0 from Int32.toInt_inj.mp hx]; exact ⟨rfl, rfl⟩
  · rw [show x = 1 from Int32.toInt_inj.mp hx]; exact ⟨rfl, rfl⟩
theorem sg_ft_b0 : sg_ft .byte (sg_i 0) := fun c h => by
  obtain ⟨x, rfl, hx⟩ := h
  rw [show x = 0 from Int32.toInt_inj.mp hx]; exact ⟨rfl, rfl⟩
/-- what a new object of kind t holds, and its class -/
def sg_nk (own : String) (idx t : Nat) (vs : List sg_V) (N : Nat) : Prop := t < 100 ∧ ∃ (q : vw_C) (ty : Nat → FieldType), vwCl[t]? = some q ∧ sg_co q ty ∧ vs.length = q.2.2 ∧ N = q.2.2 ∧ (∀ k v, vs[k]? = some v → sg_v v (defaultValue (ty k))) ∧
  sg_ok (.classLink own idx q.1) ∧ sg_ok (.instantiable q.1 q.2.2) ∧ sg_ok (.initialized q.1)
/-- a stored field: the thing's new picture -/
theorem sg_at_put {w : sg_W} {e : sg_E} {cell : Cell} {q : vw_C} {j : Nat} {v : sg_V} {cv : Value} (hat : sg_at w e cell) (ht : e.1 % 200 < 100) (hq : vwCl[e.1 % 200]? = some q) (hj : j < q.2.2)
    (hap : ∀ x y, x < q.2.2 → y < q.2.2 → x ≠ y → w.2.2.2 (e.1 % 200) x ≠ w.2.2.2 (e.1 % 200) y) (hv : sg_v v cv) (hlt : w.2.2.2 (e.1 % 200) j < cell.slots.size) (hwk : sg_wk e.1 = false) : sg_at w (e.1, e.2.set j v) (cell.setSlot (w.2.2.2 (e.1 % 200) j) cv) := by
  obtain ⟨h1, h2, h3⟩ := hat
  rw [if_pos ht] at h3
  obtain ⟨h4, q', hq', hl⟩ := h3
  have hl := hl hwk
  cases Option.some.inj (hq.symm.trans hq')
  refine ⟨h1, fun x v' hx => ?_, ?_⟩
  · by_cases c : x = j
    · subst c
      rw [List.getElem?_set_self (by omega)] at hx
      cases hx
      refine ⟨cv, ?_, hv⟩
      unfold sg_ix
      rw [if_pos ht]
      exact Cell.slots_setSlot_self _ hlt
    · rw [List.getElem?_set_ne (Ne.symm c)] at hx
      have hxl : x < q.2.2 := by rw [← hl]; exact (List.getElem?_eq_some_iff.mp hx).1
      obtain ⟨c9, e1, e2⟩ := h2 x v' hx
      refine ⟨c9, ?_, e2⟩
      unfold sg_ix at e1 ⊢
      rw [if_pos ht] at e1 ⊢
      rw [slot_ne _ _ (hap j x hj hxl (Ne.symm c))]
      exact e1
  · show if e.1 % 200 < 100 then _ else _
    rw [if_pos ht]
    exact ⟨h4, q, hq, fun _ => by rw [List.length_set]; exact hl⟩
/-- a stored element -/
theorem sg_at_ast {w : sg_W} {e : sg_E} {cell : Cell} {j : Nat} {v : sg_V} {cv : Value} (hat : sg_at w e cell) (ht : ¬ e.1 % 200 < 100) (hv : sg_v v cv) (hlt : j < cell.slots.size) (hwk : sg_wk e.1 = false) : sg_at w (e.1, e.2.set j v) (cell.setSlot j cv) := by
  obtain ⟨h1, h2, h3⟩ := hat
  rw [if_neg ht] at h3
  obtain ⟨h4, h5⟩ := h3
  have h6 := h4.1 hwk
  refine ⟨h1, fun x v' hx => ?_, ?_⟩
  · by_cases c : x = j
    · subst c
      rw [List.getElem?_set_self (by omega)] at hx
      cases hx
      refine ⟨cv, ?_, hv⟩
      unfold sg_ix
      rw [if_neg ht]
      exact Cell.slots_setSlot_self _ hlt
    · rw [List.getElem?_set_ne (Ne.symm c)] at hx
      obtain ⟨c9, e1, e2⟩ := h2 x v' hx
      refine ⟨c9, ?_, e2⟩
      unfold sg_ix at e1 ⊢
      rw [if_neg ht] at e1 ⊢
      rw [slot_ne _ _ (Ne.symm c)]
      exact e1
  · show if e.1 % 200 < 100 then _ else _
    rw [if_neg ht]
    exact ⟨⟨fun z => by have := h4.1 z; simp [Cell.setSlot, this], by have := h4.2.1; simpa [Cell.setSlot] using this, by have := h4.2.2; simpa [Cell.setSlot] using this⟩, h5⟩
theorem sg_apart {w : sg_W} {s : State} {args : Array Value} {q : vw_C} {ty : Nat → FieldType} {t : Nat} (g : sg_G w) (hW : w.2.1.WarmedH s.vm) (hco : sg_co q ty) (hq : vwCl[t]? = some q) : ∀ x y, x < q.2.2 → y < q.2.2 → x ≠ y → w.2.2.2 t x ≠ w.2.2.2 t y := by
  have hts : ∀ x ∈ u_ws q.1 q.2.1 q.2.2, x.before args s = true := fun x hx => sg_wd g hW (hco.1 x hx)
  intro x y hx hy hne
  obtain ⟨hS, -⟩ := (va_K.moved hW.alike g.2.1).1 t q hq
  obtain ⟨_, _, _, fa, hia, ea⟩ := hS x hx
  obtain ⟨_, _, _, fb, hib, eb⟩ := hS y hy
  rw [← ea, ← eb]
  refine u_apart (u_lays (N := q.2.2) hts (fun _ h => h) hx) (u_lays (N := q.2.2) hts (fun _ h => h) hy) hia hib ?_
  rw [(State.fieldFound?_type hia (hco.2.2 x hx)).1, (State.fieldFound?_type hib (hco.2.2 y hy)).1]
  exact hco.2.1 x hx y hy hne
theorem sg_wdF {w : sg_W} {s : State} {args : Array Value} {a : String} {i : Nat} {b n d h : String} (g : sg_G w) (hW : w.2.1.WarmedH s.vm) (hx : Cond.fieldLinkNest a i b n d h ∈ lw_tbl) : (Cond.fieldLinkNest a i b n d h).before args s = true := va_Nw.use rfl (va_Nw.warmF hW (g.1.1 _ hx))
theorem sg_wdM {w : sg_W} {s : State} {args : Array Value} {a : String} {i : Nat} {x : MethodName} {h : String} (g : sg_G w) (hW : w.2.1.WarmedH s.vm) (hx : Cond.methodLinkNest a i x h ∈ lw_tbl) : (Cond.methodLinkNest a i x h).before args s = true := va_Nw.use rfl (va_Nw.warmM hW (g.1.1 _ hx))
section
variable {w : sg_W} {mi : sg_M} {d mc ms : Nat} {Q : sg_O → sg_H → Prop} {pc : Nat} {lv : List (Nat × sg_V)} {st : List sg_V} {h : sg_H} {k n : Nat}
theorem sg_getf {a t' t j idx : Nat} {fin : Bool} {ft : FieldType} {vs : List sg_V} {v : sg_V} (g : sg_G w) (hd : decode mi.2.1 pc = .ok (.getfield idx, 3)) (hf : sg_fk mi.1.cls idx t j fin ft) (ha : h.2 a = some (t', vs)) (ht : t' % 200 = t) (hv : vs[j]? = some v) (K : sg_R w mi d mc ms Q (pc + 3) lv (v :: st) h k n) : sg_R w mi d mc ms Q pc lv (sg_r a :: st) h k n := by
  intro p e s m args below meth c H locs ls sv l hF hW hlv hL hs hR hO
  obtain ⟨b, rfl, h1⟩ := sg_vs_r hs
  subst ht
  obtain ⟨htl, q, ty, ref, hq, hj, hco, -, -, -, hlk, hsm⟩ := hf
  obtain ⟨-, cell, hcell, hvm, hsl, -⟩ := hR.2.2.2 a _ ha
  obtain ⟨hS, hfc, kC, hkC, -⟩ := (va_K.moved hW.alike g.2.1).1 _ q hq
  obtain ⟨cf, kf, fi, f, hi, hsl2⟩ := hS j hj
  have hts : ∀ x ∈ u_ws q.1 q.2.1 q.2.2, x.before args s = true := fun x hx => sg_wd g hW (hco.1 x hx)
  obtain ⟨cv, hc1, hc2⟩ := hsl j v hv
  have hi' : s.fieldFound? ref (q.2.1 j).2.1 (q.2.1 j).2.2.1 = some (cf, kf, fi, f) := by
    rcases hsm with e1 | e1
    · rw [e1]; exact hi
    · exact u_same (sg_wd (args := args) g hW e1) _ hi
  refine W.getf hF.1 hF.2.1 hF.2.2.2.1 (sg_wd g hW hlk) hi' (u_facts hfc hkC (u_lays (N := q.2.2) hts (fun _ h => h) hj) hi).1 hcell hvm.2.2 (v := cv) ?_ rfl rfl hd (K p e s m args below meth c H locs ls _ l hF hW hlv hL ⟨hc2, h1⟩ hR hO)
  rw [hsl2]
  unfold sg_ix at hc1
  rw [if_pos htl] at hc1
  exact hc1
theorem sg_getN {a t' t j idx : Nat} {fin : Bool} {ft : FieldType} {vs : List sg_V} {v : sg_V} (g : sg_G w) (hd : decode mi.2.1 pc = .ok (.getfield idx, 3)) (hf : sg_fkN mi.1.cls idx t j fin ft) (ha : h.2 a = some (t', vs)) (ht : t' % 200 = t) (hv : vs[j]? = some v) (K : sg_R w mi d mc ms Q (pc + 3) lv (v :: st) h k n) : sg_R w mi d mc ms Q pc lv (sg_r a :: st) h k n := by
  intro p e s m args below meth c H locs ls sv l hF hW hlv hL hs hR hO
  obtain ⟨b, rfl, h1⟩ := sg_vs_r hs
  subst ht
  obtain ⟨htl, q, ty, host, hq, hj, hco, -, -, hlk⟩ := hf
  obtain ⟨-, cell, hcell, hvm, hsl, -⟩ := hR.2.2.2 a _ ha
  obtain ⟨hS, hfc, kC, hkC, -⟩ := (va_K.moved hW.alike g.2.1).1 _ q hq
  obtain ⟨cf, kf, fi, f, hi, hsl2⟩ := hS j hj
  have hts : ∀ x ∈ u_ws q.1 q.2.1 q.2.2, x.before args s = true := fun x hx => sg_wd g hW (hco.1 x hx)
  obtain ⟨cv, hc1, hc2⟩ := hsl j v hv
  refine va_Wgetf hF.1 hF.2.1 hF.2.2.2.1 (sg_wdF g hW hlk) hi (u_facts hfc hkC (u_lays (N := q.2.2) hts (fun _ h => h) hj) hi).1 hcell hvm.2.2 (v := cv) ?_ rfl rfl hd (K p e s m args below meth c H locs ls _ l hF hW hlv hL ⟨hc2, h1⟩ hR hO)
  rw [hsl2]
  unfold sg_ix at hc1
  rw [if_pos htl] at hc1
  exact hc1
theorem sg_loc {w : sg_W} {locs : List Loc} {a i : Nat} (hO : ∀ q ∈ locs, sg_b w ≤ q.base) (ha : sg_b w ≤ a) : ∀ q ∈ locs ++ [⟨a, i⟩], sg_b w ≤ q.base := by
  intro q hq
  rcases List.mem_append.mp hq with h1 | h1
  · exact hO q h1
  · rw [List.mem_singleton] at h1; subst h1; exact ha
theorem sg_putf {a t j idx : Nat} {ft : FieldType} {vs : List sg_V} {v : sg_V} (g : sg_G w) (hd : decode mi.2.1 pc = .ok (.putfield idx, 3)) (hf : sg_fk mi.1.cls idx t j false ft) (ha : h.2 a = some (t, vs)) (hft : sg_ft ft v) (K : sg_R w mi d mc ms Q (pc + 3) lv st (h.1, sg_up h.2 a (t, vs.set j v)) k n) : sg_R w mi d mc ms Q pc lv (v :: sg_r a :: st) h k n := by
  intro p e s m args below meth c H locs ls sv l hF hW hlv hL hs hR hO
  obtain ⟨cv, b1, rfl, hv, h1⟩ := sg_vs_c hs
  obtain ⟨b, rfl, h2⟩ := sg_vs_r h1
  obtain ⟨htl, q, ty, ref, hq, hj, hco, hfin, hty, -, hlk, hsm⟩ := hf
  have htm : t % 200 = t := Nat.mod_eq_of_lt (by omega)
  obtain ⟨hab, cell, hcell, hat⟩ := hR.2.2.2 a _ ha
  obtain ⟨hS, hfc, kC, hkC, hkind⟩ := (va_K.moved hW.alike g.2.1).1 _ q hq
  obtain ⟨cf, kf, fi, f, hi, hsl2⟩ := hS j hj
  have hts : ∀ x ∈ u_ws q.1 q.2.1 q.2.2, x.before args s = true := fun x hx => sg_wd g hW (hco.1 x hx)
  have hi' : s.fieldFound? ref (q.2.1 j).2.1 (q.2.1 j).2.2.1 = some (cf, kf, fi, f) := by
    rcases hsm with e1 | e1
    · rw [e1]; exact hi
    · exact u_same (sg_wd (args := args) g hW e1) _ hi
  have hlay := hts _ (u_in_lay hj)
  unfold u_lay at hlay
  rw [if_neg (by rw [hfin]; decide)] at hlay
  have hst := (u_facts hfc hkC (u_lays (N := q.2.2) hts (fun _ h => h) hj) hi).1
  obtain ⟨hn1, hn2⟩ := hft cv hv
  have h6 := u_store hfc hkC hkind hlay hi ((hco.2.2 j hj).trans (by rw [hty])) hn1 hn2
  have hcls : cell.cls = w.2.2.1 t := by
    have h9 := hat.2.2
    rw [show (t, vs).1 % 200 = t from htm, if_pos htl] at h9
    exact h9.1
  have hlen : vs.length = q.2.2 := by
    have h9 := hat.2.2
    rw [show (t, vs).1 % 200 = t from htm, if_pos htl] at h9
    obtain ⟨-, q', hq', hl⟩ := h9
    cases Option.some.inj (hq.symm.trans hq')
    exact hl (sg_wk_lt (by show t < 200; omega))
  obtain ⟨v0, hv0⟩ : ∃ v0, vs[j]? = some v0 := ⟨_, List.getElem?_eq_getElem (by omega)⟩
  obtain ⟨c0, hc0, -⟩ := hat.2.1 j v0 hv0
  rw [show sg_ix w.2.2 ((t, vs).1 % 200) j = w.2.2.2 t j by rw [show (t, vs).1 % 200 = t from htm]; exact if_pos htl] at hc0
  refine W.putK hF.1 hF.2.1 (f := f) ⟨hF.2.2.2.1, sg_wd g hW hlk, ⟨_, _, _, hi'⟩, hst⟩ (by rw [hcls]; exact h6) hcell (hat.1.1 (sg_wk_lt (by show t < 200; omega))) (by rw [hsl2]; exact k2_hasslot hc0) rfl rfl hd fun H' e1 e2 e3 => ?_
  have hput := sg_at_put (j := j) (v := v) (cv := cv) hat (by rw [show (t, vs).1 % 200 = t from htm]; exact htl) (by rw [show (t, vs).1 % 200 = t from htm]; exact hq) hj (by rw [show (t, vs).1 % 200 = t from htm]; exact sg_apart (args := args) g hW hco hq) hv (by rw [show (t, vs).1 % 200 = t from htm]; exact k2_hasslot hc0) (sg_wk_lt (by show t < 200; omega))
  rw [show (t, vs).1 % 200 = t from htm, ← hsl2] at hput
  exact K p e s m args below meth c H' _ ls _ l hF hW hlv hL h2 (sg_rel_put hR (hab (by show t < 200; omega)) e1 e2 e3 hput) ⟨sg_loc hO.1 (hab (by show t < 200; omega)), by rw [e2]; exact hO.2⟩
/-- a final field, in its class's constructor -/
theorem sg_putF {a t j idx : Nat} {ft : FieldType} {vs : List sg_V} {v : sg_V} (g : sg_G w) (hd : decode mi.2.1 pc = .ok (.putfield idx, 3)) (hf : sg_fk mi.1.cls idx t j true ft) (hin : mi.1.name = "<init>") (ha : h.2 a = some (t, vs)) (hft : sg_ft ft v) (K : sg_R w mi d mc ms Q (pc + 3) lv st (h.1, sg_up h.2 a (t, vs.set j v)) k n) : sg_R w mi d mc ms Q pc lv (v :: sg_r a :: st) h k n := by
  intro p e s m args below meth c H locs ls sv l hF hW hlv hL hs hR hO
  obtain ⟨cv, b1, rfl, hv, h1⟩ := sg_vs_c hs
  obtain ⟨b, rfl, h2⟩ := sg_vs_r h1
  obtain ⟨htl, q, ty, ref, hq, hj, hco, hfin, hty, hdecl, hlk, hsm⟩ := hf
  have htm : t % 200 = t := Nat.mod_eq_of_lt (by omega)
  obtain ⟨hab, cell, hcell, hat⟩ := hR.2.2.2 a _ ha
  obtain ⟨hS, hfc, kC, hkC, hkind⟩ := (va_K.moved hW.alike g.2.1).1 _ q hq
  obtain ⟨cf, kf, fi, f, hi, hsl2⟩ := hS j hj
  have hts : ∀ x ∈ u_ws q.1 q.2.1 q.2.2, x.before args s = true := fun x hx => sg_wd g hW (hco.1 x hx)
  have hi' : s.fieldFound? ref (q.2.1 j).2.1 (q.2.1 j).2.2.1 = some (cf, kf, fi, f) := by
    rcases hsm with e1 | e1
    · rw [e1]; exact hi
    · exact u_same (sg_wd (args := args) g hW e1) _ hi
  have hlay := hts _ (u_in_lay hj)
  unfold u_lay at hlay
  rw [if_pos hfin] at hlay
  have hst := (u_facts hfc hkC (u_lays (N := q.2.2) hts (fun _ h => h) hj) hi).1
  have hcf : m.cls = cf := by
    obtain ⟨_, _, c', _, _, _, -, -, hf', -, -, -, hown2, -⟩ := Cond.laysFinal_spec hlay
    have e1 : c' = cf := by have := hi.symm.trans hf'; simp at this; exact this.1.symm
    rw [hdecl rfl] at hown2
    rw [← e1]; exact Option.some.inj (hF.2.2.2.1.symm.trans hown2)
  obtain ⟨hn1, hn2⟩ := hft cv hv
  have h6 := u_fits hfc hkC hkind (Or.inr hlay) hi ((hco.2.2 j hj).trans (by rw [hty])) hn1 hn2
  have hcls : cell.cls = w.2.2.1 t := by
    have h9 := hat.2.2
    rw [show (t, vs).1 % 200 = t from htm, if_pos htl] at h9
    exact h9.1
  have hlen : vs.length = q.2.2 := by
    have h9 := hat.2.2
    rw [show (t, vs).1 % 200 = t from htm, if_pos htl] at h9
    obtain ⟨-, q', hq', hl⟩ := h9
    cases Option.some.inj (hq.symm.trans hq')
    exact hl (sg_wk_lt (by show t < 200; omega))
  obtain ⟨v0, hv0⟩ : ∃ v0, vs[j]? = some v0 := ⟨_, List.getElem?_eq_getElem (by omega)⟩
  obtain ⟨c0, hc0, -⟩ := hat.2.1 j v0 hv0
  rw [show sg_ix w.2.2 ((t, vs).1 % 200) j = w.2.2.2 t j by rw [show (t, vs).1 % 200 = t from htm]; exact if_pos htl] at hc0
  refine W.putFinK hF.1 hF.2.1 (f := f) hF.2.2.2.1 (sg_wd g hW hlk) hi' hst hcf ((hF.2.2.2.2.2.2.2.1 (by unfold sg_nl; rw [hin]; decide)).trans hin) (by rw [hcls]; exact h6) hcell (hat.1.1 (sg_wk_lt (by show t < 200; omega))) (by rw [hsl2]; exact k2_hasslot hc0) rfl rfl hd fun H' e1 e2 e3 => ?_
  have hput := sg_at_put (j := j) (v := v) (cv := cv) hat (by rw [show (t, vs).1 % 200 = t from htm]; exact htl) (by rw [show (t, vs).1 % 200 = t from htm]; exact hq) hj (by rw [show (t, vs).1 % 200 = t from htm]; exact sg_apart (args := args) g hW hco hq) hv (by rw [show (t, vs).1 % 200 = t from htm]; exact k2_hasslot hc0) (sg_wk_lt (by show t < 200; omega))
  rw [show (t, vs).1 % 200 = t from htm, ← hsl2] at hput
  exact K p e s m args below meth c H' _ ls _ l hF hW hlv hL h2 (sg_rel_put hR (hab (by show t < 200; omega)) e1 e2 e3 hput) ⟨sg_loc hO.1 (hab (by show t < 200; omega)), by rw [e2]; exact hO.2⟩
theorem sg_new {t idx N : Nat} {vs : List sg_V} (g : sg_G w) (hd : decode mi.2.1 pc = .ok (.new idx, 3)) (hf : sg_nk mi.1.cls idx t vs N) (hk : k + 1 ≤ mc) (hn : n + N ≤ ms) (K : sg_R w mi d mc ms Q (pc + 3) lv (sg_r h.1 :: st) (h.1 + 1, sg_up h.2 h.1 (t, vs)) (k + 1) (n + N)) : sg_R w mi d mc ms Q pc lv st h k n := by
  intro p e s m args below meth c H locs ls sv l hF hW hlv hL hs hR hO
  obtain ⟨htl, q, ty, hq, hco, hlen, rfl, hvs, hk1, hk2, hk3⟩ := hf
  have htm : t % 200 = t := Nat.mod_eq_of_lt (by omega)
  have hK := (va_K.moved hW.alike g.2.1).1 _ q hq
  have hts : ∀ x ∈ u_ws q.1 q.2.1 q.2.2, x.before args s = true := fun x hx => sg_wd g hW (hco.1 x hx)
  refine W.newcK hF.1 hF.2.1 hF.2.2.2.1 (sg_wd g hW hk1) (sg_wd g hW hk2) (sg_wd g hW hk3) rfl hd hk hn (cC := w.2.2.1 t) hK.2.1 rfl fun H' kC e0 e1 e2 e3 => ?_
  obtain ⟨cell, f1, f2, f3, f4⟩ := u_born (N := q.2.2) ty hts (fun _ h => h) hK e0 e1 hco.2.2
  rw [hR.1]
  refine K p e s m args below meth c H' locs ls _ l hF hW hlv hL ⟨rfl, hs⟩ (sg_rel_new hR (e := (t, vs)) f1 e2 e3 ⟨sg_vm_of f3, fun j v hv => ?_, ?_⟩) ⟨hO.1, by have := hO.2; omega⟩
  · have hj : j < q.2.2 := by rw [← hlen]; exact (List.getElem?_eq_some_iff.mp hv).1
    refine ⟨_, ?_, hvs j v hv⟩
    rw [show (t, vs).1 % 200 = t from htm]
    unfold sg_ix
    rw [if_pos htl]
    exact f4 j hj
  · rw [show (t, vs).1 % 200 = t from htm, if_pos htl]
    exact ⟨f2, q, hq, fun _ => hlen⟩
theorem sg_tn {x : Int32} {N : Nat} (h : x.toInt = (N : Int)) : x.toNatClampNeg = N := by
  show x.toInt.toNat = N
  rw [h]; rfl
theorem sg_newa {t N : Nat} {z : Int} {at_ : ArrayType} (g : sg_G w) (hd : decode mi.2.1 pc = .ok (.newarray at_, 2)) (hf : sg_ok (.arrayClass (newarray.typeOf at_))) (ht : sg_ty t = newarray.typeOf at_) (ht1 : 100 ≤ t) (ht2 : t < 200) (hdf : defaultValue (newarray.typeOf at_) = .int 0) (hpr : (newarray.typeOf at_).isReference = false) (hcb : componentBytes (newarray.typeOf at_) ≤ 8)
    (hz : z = (N : Int)) (hN : N ≤ 1000000) (hk : k + 1 ≤ mc) (hn : n + N ≤ ms) (K : sg_R w mi d mc ms Q (pc + 2) lv (sg_r h.1 :: st) (h.1 + 1, sg_up h.2 h.1 (t, List.replicate N (sg_i 0))) (k + 1) (n + N)) : sg_R w mi d mc ms Q pc lv (sg_i z :: st) h k n := by
  intro p e s m args below meth c H locs ls sv l hF hW hlv hL hs hR hO
  obtain ⟨x, b, rfl, hx, h1⟩ := sg_vs_i hs
  subst hz
  have hxN := sg_tn hx
  have htm : t % 200 = t := Nat.mod_eq_of_lt ht2
  have htn : ¬ t < 100 := by omega
  have hb1 : N * componentBytes (newarray.typeOf at_) ≤ 536870912 := Nat.le_trans (Nat.mul_le_mul hN hcb) (by decide)
  refine W.newa hF.1 hF.2.1 (sg_wd g hW hf) rfl hd rfl (fun q => by have h9 := Int32.lt_iff_toInt_lt.mp q; rw [hx] at h9; exact absurd h9 (by simp)) (by rw [hxN]; exact hb1) hk (by rw [hxN]; exact hn) fun cA kA comp f1 f2 f3 => ?_
  rw [hxN, hR.1]
  refine K p e s m args below meth c _ locs ls _ l hF hW hlv hL ⟨rfl, h1⟩ (sg_rel_new hR (e := (t, List.replicate N (sg_i 0))) (cell := { cls := cA, slots := Array.replicate N (defaultValue (newarray.typeOf at_)), vm := .none }) Array.getElem?_push_size (by rw [Array.size_push]) (fun q hq => by rw [Array.getElem?_push, if_neg (Nat.ne_of_lt hq)]) ⟨sg_vm_of rfl, fun j v hv => ?_, ?_⟩) ⟨hO.1, by rw [Array.size_push]; have := hO.2; omega⟩
  · obtain ⟨hj, e1⟩ := List.getElem?_eq_some_iff.mp hv
    rw [List.length_replicate] at hj
    rw [List.getElem_replicate] at e1
    subst e1
    refine ⟨.int 0, ?_, 0, rfl, rfl⟩
    rw [show (t, List.replicate N (sg_i 0)).1 % 200 = t from htm]
    unfold sg_ix
    rw [if_neg htn]
    simp [hj, hdf]
  · rw [show (t, List.replicate N (sg_i 0)).1 % 200 = t from htm, if_neg htn]
    refine ⟨sg_sz_of (by simp), ?_⟩
    obtain ⟨k', hk', he⟩ := (State.WarmedH.alike hW).symm.2.2 _ _ f2
    rw [ht]
    exact sg_aw_of ⟨by (have f9 := f1; rw [hW.alike.findClass] at f9; exact f9), k', comp, hk', by rw [he]; exact f3, fun h => by rw [hpr] at h; cases h⟩
theorem sg_alen {a t : Nat} {vs : List sg_V} (hd : decode mi.2.1 pc = .ok (.arraylength, 1)) (ha : h.2 a = some (t, vs)) (ht : 100 ≤ t % 200) (hl : vs.length < 2147483648) (K : sg_R w mi d mc ms Q (pc + 1) lv (sg_i (vs.length : Int) :: st) h k n) : sg_R w mi d mc ms Q pc lv (sg_r a :: st) h k n := by
  intro p e s m args below meth c H locs ls sv l hF hW hlv hL hs hR hO
  obtain ⟨b, rfl, h1⟩ := sg_vs_r hs
  obtain ⟨-, cell, hcell, hvm, hsl, h9⟩ := hR.2.2.2 a _ ha
  rw [if_neg (show ¬ (t, vs).1 % 200 < 100 from Nat.not_lt.mpr ht)] at h9
  refine W.alen hF.1 hF.2.1 hcell (sg_aw_arr (sg_aw_moved hW.alike h9.2) hvm) rfl rfl rfl hd (K p e s m args below meth c H locs ls _ l hF hW hlv hL ⟨⟨_, rfl, ?_⟩, h1⟩ hR hO)
  rw [h9.1.2.2]
  exact nI_toInt (n := vs.length) hl
theorem sg_inx {x : Int32} {z : Int} {N : Nat} (hx : x.toInt = z) (h0 : 0 ≤ z) (h1 : z.toNat < N) : ¬ (x < 0 ∨ N ≤ x.toNatClampNeg) := by
  rintro (q | q)
  · have h9 := Int32.lt_iff_toInt_lt.mp q
    rw [hx, Int32.toInt_zero] at h9
    omega
  · have h9 : x.toNatClampNeg = z.toNat := by rw [sg_clamp, hx]
    omega
theorem sg_iald {a t : Nat} {z : Int} {vs : List sg_V} {v : sg_V} (hd : decode mi.2.1 pc = .ok (.iaload, 1)) (ha : h.2 a = some (t, vs)) (ht : t % 200 = 100) (h0 : 0 ≤ z) (hv : vs[z.toNat]? = some v) (K : sg_R w mi d mc ms Q (pc + 1) lv (v :: st) h k n) : sg_R w mi d mc ms Q pc lv (sg_i z :: sg_r a :: st) h k n := by
  intro p e s m args below meth c H locs ls sv l hF hW hlv hL hs hR hO
  obtain ⟨x, b1, rfl, hx, h1⟩ := sg_vs_i hs
  obtain ⟨b, rfl, h2⟩ := sg_vs_r h1
  obtain ⟨-, cell, hcell, hvm, hsl, h9⟩ := hR.2.2.2 a _ ha
  rw [show (t, vs).1 % 200 = 100 from ht, if_neg (by omega)] at h9
  obtain ⟨cv, hc1, hc2⟩ := hsl _ v hv
  rw [show (t, vs).1 % 200 = 100 from ht] at hc1
  refine W.iald hF.1 hF.2.1 hcell (sg_aw_arr (ty := .int) (sg_aw_moved hW.alike h9.2) hvm) hvm.2.2 (sg_inx hx h0 (Nat.lt_of_lt_of_le (List.getElem?_eq_some_iff.mp hv).1 h9.1.2.1)) (v := cv) ?_ rfl rfl hd (K p e s m args below meth c H locs ls _ l hF hW hlv hL ⟨hc2, h2⟩ hR hO)
  rw [sg_clamp, hx]
  exact hc1
theorem sg_zald {a t : Nat} {z : Int} {vs : List sg_V} {v : sg_V} (hd : decode mi.2.1 pc = .ok (.baload, 1)) (ha : h.2 a = some (t, vs)) (ht : t % 200 = 101) (h0 : 0 ≤ z) (hv : vs[z.toNat]? = some v) (K : sg_R w mi d mc ms Q (pc + 1) lv (v :: st) h k n) : sg_R w mi d mc ms Q pc lv (sg_i z :: sg_r a :: st) h k n := by
  intro p e s m args below meth c H locs ls sv l hF hW hlv hL hs hR hO
  obtain ⟨x, b1, rfl, hx, h1⟩ := sg_vs_i hs
  obtain ⟨b, rfl, h2⟩ := sg_vs_r h1
  obtain ⟨-, cell, hcell, hvm, hsl, h9⟩ := hR.2.2.2 a _ ha
  rw [show (t, vs).1 % 200 = 101 from ht, if_neg (by omega)] at h9
  obtain ⟨cv, hc1, hc2⟩ := hsl _ v hv
  rw [show (t, vs).1 % 200 = 101 from ht] at hc1
  refine W.zald hF.1 hF.2.1 hcell (sg_aw_arr (ty := .boolean) (sg_aw_moved hW.alike h9.2) hvm) hvm.2.2 (sg_inx hx h0 (Nat.lt_of_lt_of_le (List.getElem?_eq_some_iff.mp hv).1 h9.1.2.1)) (v := cv) ?_ rfl rfl hd (K p e s m args below meth c H locs ls _ l hF hW hlv hL ⟨hc2, h2⟩ hR hO)
  rw [sg_clamp, hx]
  exact hc1
theorem sg_aald {a t : Nat} {z : Int} {vs : List sg_V} {v : sg_V} (hd : decode mi.2.1 pc = .ok (.aaload, 1)) (ha : h.2 a = some (t, vs)) (ht : 110 ≤ t % 200) (h0 : 0 ≤ z) (hv : vs[z.toNat]? = some v) (K : sg_R w mi d mc ms Q (pc + 1) lv (v :: st) h k n) : sg_R w mi d mc ms Q pc lv (sg_i z :: sg_r a :: st) h k n := by
  intro p e s m args below meth c H locs ls sv l hF hW hlv hL hs hR hO
  obtain ⟨x, b1, rfl, hx, h1⟩ := sg_vs_i hs
  obtain ⟨b, rfl, h2⟩ := sg_vs_r h1
  obtain ⟨-, cell, hcell, hvm, hsl, h9⟩ := hR.2.2.2 a _ ha
  rw [if_neg (show ¬ (t, vs).1 % 200 < 100 from Nat.not_lt.mpr (by show 100 ≤ t % 200; omega))] at h9
  obtain ⟨cv, hc1, hc2⟩ := hsl _ v hv
  have hr : (sg_ty (t % 200)).isReference = true := by
    unfold sg_ty
    split <;> first | rfl | omega
  refine W.aald hF.1 hF.2.1 hcell (sg_aw_arr (sg_aw_moved hW.alike h9.2) hvm) hr hvm.2.2 (sg_inx hx h0 (Nat.lt_of_lt_of_le (List.getElem?_eq_some_iff.mp hv).1 h9.1.2.1)) (v := cv) ?_ rfl rfl hd (K p e s m args below meth c H locs ls _ l hF hW hlv hL ⟨hc2, h2⟩ hR hO)
  rw [sg_clamp, hx]
  unfold sg_ix at hc1
  rw [if_neg (show ¬ (t, vs).1 % 200 < 100 from Nat.not_lt.mpr (by show 100 ≤ t % 200; omega))] at hc1
  exact hc1
theorem sg_iast {a : Nat} {z x : Int} {vs : List sg_V} (hd : decode mi.2.1 pc = .ok (.iastore, 1)) (ha : h.2 a = some (100, vs)) (h0 : 0 ≤ z) (hz : z.toNat < vs.length) (K : sg_R w mi d mc ms Q (pc + 1) lv st (h.1, sg_up h.2 a (100, vs.set z.toNat (sg_i x))) k n) : sg_R w mi d mc ms Q pc lv (sg_i x :: sg_i z :: sg_r a :: st) h k n := by
  intro p e s m args below meth c H locs ls sv l hF hW hlv hL hs hR hO
  obtain ⟨y, b0, rfl, hy, h3⟩ := sg_vs_i hs
  obtain ⟨x', b1, rfl, hx, h1⟩ := sg_vs_i h3
  obtain ⟨b, rfl, h2⟩ := sg_vs_r h1
  obtain ⟨hab, cell, hcell, hat⟩ := hR.2.2.2 a _ ha
  have h9 := hat.2.2
  rw [if_neg (show ¬ (100, vs).1 % 200 < 100 from (by decide : ¬ (100 : Nat) % 200 < 100))] at h9
  have hab' := hab (by show 100 < 200; omega)
  have hxz : x'.toNatClampNeg = z.toNat := by rw [sg_clamp, hx]
  refine W.iast hF.1 hF.2.1 hcell (sg_aw_arr (ty := .int) (sg_aw_moved hW.alike h9.2) hat.1) hat.1.2.2 (sg_inx hx h0 (Nat.lt_of_lt_of_le hz h9.1.2.1)) rfl rfl hd fun H' e1 e2 e3 => ?_
  rw [hxz] at e1 ⊢
  exact K p e s m args below meth c H' _ ls _ l hF hW hlv hL h2 (sg_rel_put hR hab' e1 e2 e3 (sg_at_ast hat (Nat.not_lt.mpr (Nat.le_of_ble_eq_true rfl)) ⟨y, rfl, hy⟩ (Nat.lt_of_lt_of_le hz h9.1.2.1) rfl)) ⟨sg_loc hO.1 hab', by rw [e2]; exact hO.2⟩
theorem sg_zast {a : Nat} {z x : Int} {vs : List sg_V} (hd : decode mi.2.1 pc = .ok (.bastore, 1)) (ha : h.2 a = some (101, vs)) (hx01 : x = 0 ∨ x = 1) (h0 : 0 ≤ z) (hz : z.toNat < vs.length) (K : sg_R w mi d mc ms Q (pc + 1) lv st (h.1, sg_up h.2 a (101, vs.set z.toNat (sg_i x))) k n) : sg_R w mi d mc ms Q pc lv (sg_i x :: sg_i z :: sg_r a :: st) h k n := by
  intro p e s m args below meth c H locs ls sv l hF hW hlv hL hs hR hO
  obtain ⟨y, b0, rfl, hy, h3⟩ := sg_vs_i hs
  obtain ⟨x', b1, rfl, hx, h1⟩ := sg_vs_i h3
  obtain ⟨b, rfl, h2⟩ := sg_vs_r h1
  obtain ⟨hab, cell, hcell, hat⟩ := hR.2.2.2 a _ ha
  have h9 := hat.2.2
  rw [if_neg (show ¬ (101, vs).1 % 200 < 100 from (by decide : ¬ (101 : Nat) % 200 < 100))] at h9
  have hab' := hab (by show 101 < 200; omega)
  have hxz : x'.toNatClampNeg = z.toNat := by rw [sg_clamp, hx]
  have hnr : narrow .boolean (.int y) = .int y := (sg_ft_z hx01 _ ⟨y, rfl, hy⟩).1
  refine W.zast hF.1 hF.2.1 hcell (sg_aw_arr (ty := .boolean) (sg_aw_moved hW.alike h9.2) hat.1) hat.1.2.2 (sg_inx hx h0 (Nat.lt_of_lt_of_le hz h9.1.2.1)) rfl rfl hd fun H' e1 e2 e3 => ?_
  rw [hxz, hnr] at e1
  rw [hxz]
  exact K p e s m args below meth c H' _ ls _ l hF hW hlv hL h2 (sg_rel_put hR hab' e1 e2 e3 (sg_at_ast hat (Nat.not_lt.mpr (Nat.le_of_ble_eq_true rfl)) ⟨y, rfl, hy⟩ (Nat.lt_of_lt_of_le hz h9.1.2.1) rfl)) ⟨sg_loc hO.1 hab', by rw [e2]; exact hO.2⟩
end

