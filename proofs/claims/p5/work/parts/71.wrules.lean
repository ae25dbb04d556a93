/-! methods with a table of handlers (the law's wrappers) -/
def st_F (w : sg_W) (mi : sg_M) (hh : List (Nat × Nat × Nat × Nat)) (p : Program) (s : State) (m : MethodId) (meth : Method) (c : Code) : Prop :=
  p.tables.exec = Jvm.exec ∧ c.code = mi.2.1 ∧ c.maxLocals = mi.2.2.1 ∧ s.vm.findClass mi.1.cls = some m.cls ∧ meth.sig.returnType = mi.2.2.2 ∧ meth.locks = false ∧ c.exceptionTable.toList = tableOf hh ∧ meth.name = mi.1.name ∧ sg_b w ≤ s.heap.size ∧ ∀ q, q < sg_b w → s.heap[q]? = w.2.1.heap[q]?
def sg_T (w : sg_W) (mi : sg_M) (hh : List (Nat × Nat × Nat × Nat)) (d mc ms : Nat) (Q : sg_O → sg_H → Prop) (pc : Nat) (lv : List (Nat × sg_V)) (st : List sg_V) (h : sg_H) (k n : Nat) : Prop :=
  ∀ (p : Program) (e : Env) (s : State) (m : MethodId) (args : Array Value) (below : List Frame) (meth : Method) (c : Code) (H : Heap) (locs : List Loc) (ls : Array Slot) (sv : List Value) (l : List (Nat × Value)),
    st_F w mi hh p s m meth c → w.2.1.WarmedH s.vm → lv_has ls mi.2.2.1 l → sg_L lv l → sg_vs st sv → sg_rel w h H → ((∀ q ∈ locs, sg_b w ≤ q.base) ∧ s.heap.size ≤ H.size) →
    W p w.1 e (sg_rm d mc ms) s m args below meth c H locs k n (vx_MQ below (sg_Qc w Q) (sg_XC w Q) args s mc ms (fun q => sg_b w ≤ q)) (F0 m pc ls sv)
def sg_D (w : sg_W) (mi : sg_M) (hh : List (Nat × Nat × Nat × Nat)) (d mc ms : Nat) (as : List sg_V) (h : sg_H) (Q : sg_O → sg_H → Prop) : Prop :=
  vx_Met w.1 mi.1 [.codeWith mi.1 mi.2.1 mi.2.2.1 mi.2.2.2 hh] (sg_rm d mc ms) (sg_Pc w as h) (sg_Qc w Q) (sg_XC w Q) mc ms (fun q => sg_b w ≤ q)
section
variable {w : sg_W} {mi : sg_M} {hh : List (Nat × Nat × Nat × Nat)} {d mc ms : Nat} {Q : sg_O → sg_H → Prop} {pc : Nat} {lv : List (Nat × sg_V)} {st : List sg_V} {h : sg_H} {k n : Nat}
theorem st_of {as : List sg_V} (hy : plainName mi.1.cls = true) (hcw : sg_ok (.codeWith mi.1 mi.2.1 mi.2.2.1 mi.2.2.2 hh)) (g : sg_G w) (hn : sg_cs as ≤ mi.2.2.1) (K : sg_T w mi hh d mc ms Q 0 (sg_ar 0 as) [] h 0 0) : sg_D w mi hh d mc ms as h Q := by
  refine vx_ofWH (cc := mi.2.1) (maxL := mi.2.2.1) (ret := mi.2.2.2) (hh := hh) hy rfl ?_
  intro p e s m args below meth c s₁ B hml hv
  obtain ⟨cs, rfl, hcs, hW, hR⟩ := hv
  have hl := lv_entry cs (n := mi.2.2.1) (by rw [sg_sl_len hcs]; exact hn)
  rw [lg_entry_eq]
  exact K p e s m cs.toArray below meth c s.heap [] _ [] _ ⟨B.exec, B.bytes, hml, findClass_of_methodNamed B.named, B.returns, B.notSynchronized, vx_table (x := mi.1) B (sg_wd g hW hcw), (name_of_methodNamed B.named B.method).1, hR.2.1, hR.2.2.1⟩ hW hl (sg_L_ar 0 hcs) trivial hR ⟨fun q hq => (nomatch hq), Nat.le_refl _⟩

theorem st_aload {j a : Nat} (hd : decode mi.2.1 pc = .ok (.aload j, 2)) (hl : sg_lk lv j = some (sg_r a)) (K : sg_T w mi hh d mc ms Q (pc + 2) lv (sg_r a :: st) h k n) : sg_T w mi hh d mc ms Q pc lv st h k n := by
  intro p e s m args below meth c H locs ls sv l hF hW hlv hL hs hR hO
  obtain ⟨cv, hm, hx⟩ := sg_lk_at hl hL
  cases (show cv = .ref a from hx)
  refine lv_aload hF.1 hF.2.1 hd (hlv.2.2 _ hm) ?_
  exact K p e s m args below meth c H locs ls _ l hF hW hlv hL ⟨rfl, hs⟩ hR hO

theorem st_aload_n {i : Fin 4} {j a : Nat} (hd : decode mi.2.1 pc = .ok (.aload_n i, 1)) (hj : (i : Nat) = j) (hl : sg_lk lv j = some (sg_r a)) (K : sg_T w mi hh d mc ms Q (pc + 1) lv (sg_r a :: st) h k n) : sg_T w mi hh d mc ms Q pc lv st h k n := by
  intro p e s m args below meth c H locs ls sv l hF hW hlv hL hs hR hO
  obtain ⟨cv, hm, hx⟩ := sg_lk_at hl hL
  cases (show cv = .ref a from hx)
  refine lv_aload_n hF.1 hF.2.1 hd hj (hlv.2.2 _ hm) ?_
  exact K p e s m args below meth c H locs ls _ l hF hW hlv hL ⟨rfl, hs⟩ hR hO

theorem st_iload {j : Nat} {z : Int} (hd : decode mi.2.1 pc = .ok (.iload j, 2)) (hl : sg_lk lv j = some (sg_i z)) (K : sg_T w mi hh d mc ms Q (pc + 2) lv (sg_i z :: st) h k n) : sg_T w mi hh d mc ms Q pc lv st h k n := by
  intro p e s m args below meth c H locs ls sv l hF hW hlv hL hs hR hO
  obtain ⟨cv, hm, x, rfl, hx⟩ := sg_lk_at hl hL
  refine lv_iload hF.1 hF.2.1 hd (hlv.2.2 _ hm) ?_
  exact K p e s m args below meth c H locs ls _ l hF hW hlv hL ⟨⟨x, rfl, hx⟩, hs⟩ hR hO

theorem st_iload_n {i : Fin 4} {j : Nat} {z : Int} (hd : decode mi.2.1 pc = .ok (.iload_n i, 1)) (hj : (i : Nat) = j) (hl : sg_lk lv j = some (sg_i z)) (K : sg_T w mi hh d mc ms Q (pc + 1) lv (sg_i z :: st) h k n) : sg_T w mi hh d mc ms Q pc lv st h k n := by
  intro p e s m args below meth c H locs ls sv l hF hW hlv hL hs hR hO
  obtain ⟨cv, hm, x, rfl, hx⟩ := sg_lk_at hl hL
  refine lv_iload_n hF.1 hF.2.1 hd hj (hlv.2.2 _ hm) ?_
  exact K p e s m args below meth c H locs ls _ l hF hW hlv hL ⟨⟨x, rfl, hx⟩, hs⟩ hR hO

theorem st_i2l {a : Int} (hd : decode mi.2.1 pc = .ok (.i2l, 1)) (K : sg_T w mi hh d mc ms Q (pc + 1) lv (sg_l a :: st) h k n) : sg_T w mi hh d mc ms Q pc lv (sg_i a :: st) h k n := by
  intro p e s m args below meth c H locs ls sv l hF hW hlv hL hs hR hO
  obtain ⟨x, t1, rfl, hx, h1⟩ := sg_vs_i hs
  refine lv_i2l hF.1 hF.2.1 hd rfl ?_
  exact K p e s m args below meth c H locs ls _ l hF hW hlv hL ⟨⟨_, rfl, by rw [Int32.toInt_toInt64, hx]⟩, h1⟩ hR hO

theorem st_putN {a t j idx : Nat} {ft : FieldType} {vs : List sg_V} {v : sg_V} (g : sg_G w) (hd : decode mi.2.1 pc = .ok (.putfield idx, 3)) (hf : sg_fkN mi.1.cls idx t j false ft) (ha : h.2 a = some (t, vs)) (hft : sg_ft ft v) (K : sg_T w mi hh d mc ms Q (pc + 3) lv st (h.1, sg_up h.2 a (t, vs.set j v)) k n) : sg_T w mi hh d mc ms Q pc lv (v :: sg_r a :: st) h k n := by
  intro p e s m args below meth c H locs ls sv l hF hW hlv hL hs hR hO
  obtain ⟨cv, b1, rfl, hv, h1⟩ := sg_vs_c hs
  obtain ⟨b, rfl, h2⟩ := sg_vs_r h1
  obtain ⟨htl, q, ty, host, hq, hj, hco, hfin, hty, hlk⟩ := hf
  have htm : t % 200 = t := Nat.mod_eq_of_lt (by omega)
  obtain ⟨hab, cell, hcell, hat⟩ := hR.2.2.2 a _ ha
  obtain ⟨hS, hfc, kC, hkC, hkind⟩ := (va_K.moved hW.alike g.2.1).1 _ q hq
  obtain ⟨cf, kf, fi, f, hi, hsl2⟩ := hS j hj
  have hts : ∀ x ∈ u_ws q.1 q.2.1 q.2.2, x.before args s = true := fun x hx => sg_wd g hW (hco.1 x hx)
  have hlay := hts _ (u_in_lay hj)
  unfold u_lay at hlay
  rw [if_neg (by rw [hfin]; decide)] at hlay
  have hst := (u_facts hfc hkC (u_lays (N := q.2.2) hts (fun _ h => h) hj) hi).1
  obtain ⟨hn1, hn2⟩ := hft cv hv
  have h6 := u_store hfc hkC hkind hlay hi ((hco.2.2 j hj).trans (by rw [hty])) hn1 hn2
  have hcls : cell.cls = w.2.2.1 t := by
    have h9 := hat.2.2
    rw [show (t, vs).1 % 200 = t from htm, if_pos htl] at h9
    exact h9.1
  have hlen : vs.length = q.2.2 := by
    have h9 := hat.2.2
    rw [show (t, vs).1 % 200 = t from htm, if_pos htl] at h9
    obtain ⟨-, q', hq', hl⟩ := h9
    cases Option.some.inj (hq.symm.trans hq')
    exact hl (sg_wk_lt (by show t < 200; omega))
  obtain ⟨v0, hv0⟩ : ∃ v0, vs[j]? = some v0 := ⟨_, List.getElem?_eq_getElem (by omega)⟩
  obtain ⟨c0, hc0, -⟩ := hat.2.1 j v0 hv0
  rw [show sg_ix w.2.2 ((t, vs).1 % 200) j = w.2.2.2 t j by rw [show (t, vs).1 % 200 = t from htm]; exact if_pos htl] at hc0
  refine va_WputK hF.1 hF.2.1 (f := f) hF.2.2.2.1 (sg_wdF g hW hlk) hi hst (by rw [hcls]; exact h6) hcell (hat.1.1 (sg_wk_lt (by show t < 200; omega))) (by rw [hsl2]; exact k2_hasslot hc0) rfl rfl hd fun H' e1 e2 e3 => ?_
  have hput := sg_at_put (j := j) (v := v) (cv := cv) hat (by rw [show (t, vs).1 % 200 = t from htm]; exact htl) (by rw [show (t, vs).1 % 200 = t from htm]; exact hq) hj (by rw [show (t, vs).1 % 200 = t from htm]; exact sg_apart (args := args) g hW hco hq) hv (by rw [show (t, vs).1 % 200 = t from htm]; exact k2_hasslot hc0) (sg_wk_lt (by show t < 200; omega))
  rw [show (t, vs).1 % 200 = t from htm, ← hsl2] at hput
  exact K p e s m args below meth c H' _ ls _ l hF hW hlv hL h2 (sg_rel_put hR (hab (by show t < 200; omega)) e1 e2 e3 hput) ⟨sg_loc hO.1 (hab (by show t < 200; omega)), by rw [e2]; exact hO.2⟩

theorem st_goto {off : Int} {tgt : Nat} (hd : decode mi.2.1 pc = .ok (.goto off, 3)) (ht : (pc : Int) + off = (tgt : Int)) (K : sg_T w mi hh d mc ms Q tgt lv st h k n) : sg_T w mi hh d mc ms Q pc lv st h k n := by
  intro p e s m args below meth c H locs ls sv l hF hW hlv hL hs hR hO
  refine lv_goto hF.1 hF.2.1 hd ht ?_
  exact K p e s m args below meth c H locs ls _ l hF hW hlv hL hs hR hO

theorem st_astore {j : Nat} {z : Nat} (hd : decode mi.2.1 pc = .ok (.astore j, 2)) (hn : j < mi.2.2.1) (K : sg_T w mi hh d mc ms Q (pc + 2) (sg_st j (sg_r z) lv) st h k n) : sg_T w mi hh d mc ms Q pc lv (sg_r z :: st) h k n := by
  intro p e s m args below meth c H locs ls sv l hF hW hlv hL hs hR hO
  obtain ⟨b, rfl, hb⟩ := sg_vs_r hs
  refine lv_astore hF.1 hF.2.1 hd hlv hn rfl (fun ls' hl' => ?_)
  exact K p e s m args below meth c H locs ls' _ _ hF hW hl' (sg_L_st (v := sg_r z) hL rfl) hb hR hO

theorem st_astore_n {i : Fin 4} {j : Nat} {z : Nat} (hd : decode mi.2.1 pc = .ok (.astore_n i, 1)) (hj : (i : Nat) = j) (hn : j < mi.2.2.1) (K : sg_T w mi hh d mc ms Q (pc + 1) (sg_st j (sg_r z) lv) st h k n) : sg_T w mi hh d mc ms Q pc lv (sg_r z :: st) h k n := by
  intro p e s m args below meth c H locs ls sv l hF hW hlv hL hs hR hO
  obtain ⟨b, rfl, hb⟩ := sg_vs_r hs
  refine lv_astore_n hF.1 hF.2.1 hd hj hlv hn rfl (fun ls' hl' => ?_)
  exact K p e s m args below meth c H locs ls' _ _ hF hW hl' (sg_L_st (v := sg_r z) hL rfl) hb hR hO

theorem st_iconst {a : Int} {z : Int} (hd : decode mi.2.1 pc = .ok (.iconst a, 1)) (hz : (Int32.ofInt a).toInt = z) (K : sg_T w mi hh d mc ms Q (pc + 1) lv (sg_i z :: st) h k n) : sg_T w mi hh d mc ms Q pc lv st h k n := by
  intro p e s m args below meth c H locs ls sv l hF hW hlv hL hs hR hO
  refine lv_iconst hF.1 hF.2.1 hd rfl ?_
  exact K p e s m args below meth c H locs ls _ l hF hW hlv hL ⟨⟨_, rfl, hz⟩, hs⟩ hR hO

theorem st_iret {z : Int} (hd : decode mi.2.1 pc = .ok (.ireturn, 1)) (hr : mi.2.2.2 = some .int) (hk : k ≤ mc) (hn : n ≤ ms) (K : Q (.inl (some (sg_i z))) h) : sg_T w mi hh d mc ms Q pc lv [sg_i z] h k n := by
  intro p e s m args below meth c H locs ls sv l hF hW hlv hL hs hR hO
  obtain ⟨x, b, rfl, hx, hb⟩ := sg_vs_i hs
  rw [sg_vs_nil hb]
  refine W.widen hk hn (vx_ret (W.iret hF.1 hF.2.1 (hF.2.2.2.2.1.trans hr) (fun t ht _ => ⟨some (sg_i z), some (.int x), h, rfl, ⟨⟨x, rfl, hx⟩, trivial⟩, by rw [ht]; exact hR, K⟩) hO.1 hd hF.2.2.2.2.2.1))

theorem st_if_eq {a : Int} {off : Int} {tgt : Nat} (hd : decode mi.2.1 pc = .ok (.ifCond .eq off, 3)) (ht : (pc : Int) + off = (tgt : Int)) (kt : a = 0 → sg_T w mi hh d mc ms Q tgt lv st h k n) (kf : ¬ a = 0 → sg_T w mi hh d mc ms Q (pc + 3) lv st h k n) : sg_T w mi hh d mc ms Q pc lv (sg_i a :: st) h k n := by
  intro p e s m args below meth c H locs ls sv l hF hW hlv hL hs hR hO
  obtain ⟨x, t1, rfl, hx, h1⟩ := sg_vs_i hs
  have e0 := sg_ceq hx (show (0 : Int32).toInt = 0 from rfl)
  exact lv_if_eq hF.1 hF.2.1 hd ht (fun z => kt (e0.mp z) p e s m args below meth c H locs ls _ l hF hW hlv hL h1 hR hO) (fun z => kf (fun y => z (e0.mpr y)) p e s m args below meth c H locs ls _ l hF hW hlv hL h1 hR hO)

theorem st_lconst {a : Fin 2} {z : Int} (hd : decode mi.2.1 pc = .ok (.lconst a, 1)) (hz : (Int64.ofNat (a : Nat)).toInt = z) (K : sg_T w mi hh d mc ms Q (pc + 1) lv (sg_l z :: st) h k n) : sg_T w mi hh d mc ms Q pc lv st h k n := by
  intro p e s m args below meth c H locs ls sv l hF hW hlv hL hs hR hO
  refine lv_lconst hF.1 hF.2.1 hd rfl ?_
  exact K p e s m args below meth c H locs ls _ l hF hW hlv hL ⟨⟨_, rfl, hz⟩, hs⟩ hR hO

/-- what a call owes: the run behind it, or the run of the handler that takes the throw -/
def st_H (mi : sg_M) (hh : List (Nat × Nat × Nat × Nat)) (w : sg_W) (pc : Nat) (E : String) (tgt : Nat) : Prop := ∃ (pre : List ExceptionTableEntry) (x : ExceptionTableEntry) (suf : List ExceptionTableEntry) (nm : String), tableOf hh = pre ++ x :: suf ∧
  (∀ z ∈ pre, covers z pc = false ∨ (z.catchType ≠ 0 ∧ ∃ nm : String, sg_ok (.classLink mi.1.cls z.catchType nm) ∧ va_Nc E nm w.2.1)) ∧ covers x pc = true ∧ x.catchType ≠ 0 ∧ sg_ok (.classLink mi.1.cls x.catchType nm) ∧ Cond.castable E nm ∈ lw_tbl ∧ x.handlerPc = tgt
def st_K (w : sg_W) (mi : sg_M) (hh : List (Nat × Nat × Nat × Nat)) (d mc ms : Nat) (Q : sg_O → sg_H → Prop) (pc : Nat) (lv : List (Nat × sg_V)) (rest : List sg_V) (k n : Nat) : sg_O → sg_H → Prop := fun o h' => match o with
  | .inl v => sg_T w mi hh d mc ms Q (pc + 3) lv (v.toList ++ rest) h' k n
  | .inr E => ∃ tgt, st_H mi hh w pc E tgt ∧ ∀ q, sg_T w mi hh d mc ms Q tgt lv [sg_r q] h' k n
theorem st_K1 {v : sg_V} (K : sg_T w mi hh d mc ms Q (pc + 3) lv (v :: st) h k n) : st_K w mi hh d mc ms Q pc lv st k n (.inl (some v)) h := K
theorem st_KX {E : String} (tgt : Nat) (H : st_H mi hh w pc E tgt) (K : ∀ q, sg_T w mi hh d mc ms Q tgt lv [sg_r q] h k n) : st_K w mi hh d mc ms Q pc lv st k n (.inr E) h := ⟨tgt, H, K⟩
theorem st_after (g : sg_G w) {mc' ms' : Nat} {rest : List sg_V} {p : Program} {e : Env} {s : State} {m : MethodId} {args : Array Value} {below : List Frame} {meth : Method} {c : Code} {H : Heap} {locs : List Loc} {ls : Array Slot} {sv rs : List Value} {l : List (Nat × Value)} {av : Array Value}
    (hF : st_F w mi hh p s m meth c) (hW : w.2.1.WarmedH s.vm) (hlv : lv_has ls mi.2.2.1 l) (hL : sg_L lv l) (hrs : sg_vs rest rs) (hO : (∀ q ∈ locs, sg_b w ≤ q.base) ∧ s.heap.size ≤ H.size)
    (hr : vx_Run p w.1 e (sg_rm d mc ms) s m args below meth c H locs k n mc' ms' (F0 m pc ls sv) rs (sg_Qc w (st_K w mi hh d mc ms Q pc lv rest (k + mc') (n + ms')) av) (sg_XC w (st_K w mi hh d mc ms Q pc lv rest (k + mc') (n + ms'))) (fun q => sg_b w ≤ q)) :
    W p w.1 e (sg_rm d mc ms) s m args below meth c H locs k n (vx_MQ below (sg_Qc w Q) (sg_XC w Q) args s mc ms (fun q => sg_b w ≤ q)) (F0 m pc ls sv) := by
  intro T hT X
  rcases hr T hT X with ⟨v, st₀, t, T', L, h0, X', hLc, e1, e2, hq, st⟩ | ⟨q, st₀, t, T', L, E, ce, h0, X', hLc, e1, e2, hx, hce, hcv, hcl, st⟩
  · obtain ⟨v', c', h', ho, hvs, hrel, hK⟩ := hq
    have hcv : v = c' := Outcome.returned.inj ho
    subst hcv
    have hsz : s.heap.size ≤ T'.heap.size := X'.same.2.1
    obtain ⟨t2, a1, b1⟩ := hK p e s m args below meth c T'.heap (locs ++ L) ls (v.toList ++ rs) l hF hW hlv hL (sg_vs_join hvs hrs) (by rw [e1]; exact hrel) ⟨fun z hz => (List.mem_append.mp hz).elim (hO.1 z) (hLc z), hsz⟩ T' rfl X'
    exact ⟨t2, st t2 a1, b1⟩
  · obtain ⟨h', hrel, tgt, ⟨pre, x, suf, nm, htab, hpass, hcov, hct, hlk, hcs, htg⟩, hK⟩ := hx
    have hsz : s.heap.size ≤ T'.heap.size := X'.same.2.1
    have hout := vx_catch (p := p) (l := w.1) (e := e) (R := sg_rm d mc ms) (s := s) (m := m) (args := args) (below := below) (meth := meth) (c := c) (H := T'.heap) (locs := locs ++ L) (cells := k + mc') (slots := n + ms') (ls := ls) (rest := rs) (pc := pc) (Q := vx_MQ below (sg_Qc w Q) (sg_XC w Q) args s mc ms (fun q => sg_b w ≤ q)) (E := E) (ce := ce) (q := q) hF.2.2.2.1 pre x suf (hF.2.2.2.2.2.2.1.trans htab)
      (fun z hz => (hpass z hz).imp id (fun y => ⟨y.1, y.2.elim fun nm r => ⟨nm, sg_wd g hW r.1, r.2.moved hW.alike⟩⟩)) hcov hct (sg_wd g hW hlk) (sg_wdc g hW hcs) (by rw [e1]; exact hce) hcv hcl
      (by rw [htg]; exact hK q p e s m args below meth c T'.heap (locs ++ L) ls [.ref q] l hF hW hlv hL ⟨rfl, trivial⟩ (by rw [e1]; exact hrel) ⟨fun z hz => (List.mem_append.mp hz).elim (hO.1 z) (hLc z), hsz⟩)
    obtain ⟨t2, a1, b1⟩ := hout T' rfl X'
    exact ⟨t2, st.trans a1, b1⟩
theorem st_callV {mi' : sg_M} {np d' mc' ms' idx t b : Nat} {as rest vs : List sg_V} {q : vw_C} (g : sg_G w) (hd : decode mi.2.1 pc = .ok (.invokevirtual idx, 3)) (hc : sg_cb mi' np) (hl : sg_ok (.methodLink mi.1.cls idx mi'.1)) (hin : sg_ok (.instanceMethod mi'.1)) (hsel : sg_ok (.selects q.1 mi'.1 mi'.1)) (hq : vwCl[t % 200]? = some q) (ht : t % 200 < 100) (hst : st = as.reverse ++ sg_r b :: rest) (hb : h.2 b = some (t, vs)) (hnp : as.length = np) (hr : sg_cs rest ≤ 8) (hd' : d' + 1 ≤ d) (hk : k + mc' ≤ mc) (hn : n + ms' ≤ ms)
    (hm : sg_C w mi' d' mc' ms' (sg_r b :: as) h (st_K w mi hh d mc ms Q pc lv rest (k + mc') (n + ms'))) : sg_T w mi hh d mc ms Q pc lv st h k n := by
  intro p e s m args below meth c H locs ls sv l hF hW hlv hL hs hR hO
  subst hst
  obtain ⟨xs, rs0, rfl, h1, h20⟩ := sg_vs_app hs
  obtain ⟨rs, rfl, h2⟩ := sg_vs_r h20
  have h3 := sg_vs_rev h1
  rw [List.reverse_reverse] at h3
  obtain ⟨-, cell, hcell, hvm, -, h9⟩ := hR.2.2.2 b _ hb
  rw [if_pos (show (t, vs).1 % 200 < 100 from ht)] at h9
  have hcl := ((va_K.moved hW.alike g.2.1).1 _ q hq).2.1
  refine st_after g hF hW hlv hL h2 hO (vx_runV (Ts := []) (As := xs.reverse) (rest := rs) (C := q.1) ⟨hF.1, hF.2.1, hF.2.2.1, hF.2.2.2.1, fun x hx => by cases hx⟩ hm ⟨sg_callB g hW hc hl hd', sg_wd g hW hin, sg_wd g hW hsel⟩ ⟨sg_blind, ⟨cell, hcell, hvm.2.1, by rw [h9.1]; exact hcl⟩, fun U hU hWU => ⟨.ref b :: xs.reverse, rfl, ⟨rfl, h3⟩, State.WarmedH.trans hW hWU, by rw [hU]; exact hR⟩⟩ rfl (by rw [sg_vs_len h3]; exact hnp) hlv.1 (by rw [List.reverse_reverse]) (lv_room (by rw [sg_vs_cat h2]; exact hr)) hd ⟨hk, hn⟩)
/-- a static call of such a method -/
theorem st_callS {mi' : sg_M} {np d' mc' ms' idx : Nat} {as rest : List sg_V} (g : sg_G w) (hd : decode mi.2.1 pc = .ok (.invokestatic idx, 3)) (hcw : sg_ok (.codeWith mi'.1 mi'.2.1 mi'.2.2.1 mi'.2.2.2 hh)) (hcl : sg_ok (.initialized mi'.1.cls) ∧ (mi'.1.cls ≠ "java/lang/invoke/MethodHandle" ∧ mi'.1.cls ≠ "java/lang/invoke/VarHandle") ∧ (parseMethodDescriptor mi'.1.desc).map (fun d => d.parameters.length) = some np ∧ mi'.2.2.1 ≤ 61) (hl : sg_ok (.methodLink mi.1.cls idx mi'.1)) (hsta : sg_ok (.static mi'.1)) (hst : st = as.reverse ++ rest) (hnp : as.length = np) (hr : sg_cs rest ≤ 8) (hd' : d' + 1 ≤ d) (hk : k + mc' ≤ mc) (hn : n + ms' ≤ ms)
    (hm : sg_D w mi' hh d' mc' ms' as h (sg_K w mi d mc ms Q pc lv rest (k + mc') (n + ms'))) : sg_R w mi d mc ms Q pc lv st h k n := by
  intro p e s m args below meth c H locs ls sv l hF hW hlv hL hs hR hO
  subst hst
  obtain ⟨xs, rs, rfl, h1, h2⟩ := sg_vs_app hs
  have h3 := sg_vs_rev h1
  rw [List.reverse_reverse] at h3
  obtain ⟨c2, c3, c4, c5⟩ := hcl
  refine sg_after hF hW hlv hL h2 hO (vx_runSX (hh := hh) (bytes := mi'.2.1) (maxL := mi'.2.2.1) (ret := mi'.2.2.2) (own := mi.1.cls) (index := idx) (n := np) (Ts := []) (As := xs.reverse) (rest := rs) ⟨hF.1, hF.2.1, hF.2.2.1, hF.2.2.2.1, fun x hx => by cases hx⟩ hm
    ⟨⟨rfl, rfl, hd', by show 8 + (mi'.2.2.1 + 11) + 80 * d' ≤ 80 * d; omega, fun x hx a' U hU => ?_, List.mem_cons_self⟩, sg_wd g hW hcw, sg_wd g hW c2, c3, fun sig h => ?_, sg_wd g hW hl, sg_wd g hW hsta⟩ ⟨sg_blind, fun U hU hWU => ⟨xs.reverse, rfl, h3, State.WarmedH.trans hW hWU, by rw [hU]; exact hR⟩⟩ rfl (by rw [sg_vs_len h3]; exact hnp) hlv.1 (by rw [List.reverse_reverse]) (lv_room (by rw [sg_vs_cat h2]; exact hr)) hd ⟨hk, hn⟩)
  · rw [List.mem_singleton] at hx
    subst hx
    exact sg_wd g (State.WarmedH.trans hW hU) hcw
  · rw [h] at c4
    exact (Option.some.inj c4).symm
/-- the same heap, told of otherwise -/
theorem st_as {h2 : sg_H} (hR : ∀ H, sg_rel w h H → sg_rel w h2 H) (K : sg_R w mi d mc ms Q pc lv st h2 k n) : sg_R w mi d mc ms Q pc lv st h k n := fun p e s m args below meth c H locs ls sv l hF hW hlv hL hs hH hO => K p e s m args below meth c H locs ls sv l hF hW hlv hL hs (hR H hH) hO
theorem st_frs (K : (∀ q e, h.2 q = some e → q < h.1) → sg_T w mi hh d mc ms Q pc lv st h k n) : sg_T w mi hh d mc ms Q pc lv st h k n := by
  intro p e s m args below meth c H locs ls sv l hF hW hlv hL hs hR hO
  exact K (fun q e9 he => by
    obtain ⟨-, cell, hcell, -⟩ := hR.2.2.2 q e9 he
    rw [← hR.1]
    exact (Array.getElem?_eq_some_iff.mp hcell).1) p e s m args below meth c H locs ls sv l hF hW hlv hL hs hR hO
end

