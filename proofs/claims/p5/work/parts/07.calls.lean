/-! arrays of references, statics, calls, throws -/
def sg_gw (x : Cond) : Bool := goodWord x || (match x with
  | .castable _ _ => true
  | .declares _ => true
  | _ => false)
theorem sg_wdc {w : sg_W} {s : State} {args : Array Value} {C T : String} (g : sg_G w) (hW : w.2.1.WarmedH s.vm) (hx : Cond.castable C T ∈ lw_tbl) : (Cond.castable C T).before args s = true := va_Nw.warmC hW (g.1.1 _ hx)
theorem sg_wdo {w : sg_W} {s : State} {args : Array Value} {C : String} (g : sg_G w) (hW : w.2.1.WarmedH s.vm) (hx : Cond.arrayOver (.object C) ∈ lw_tbl) : (Cond.arrayOver (.object C)).before args s = true := (va_AO.moved hW.alike (va_AO.of (g.1.1 _ hx))).use
theorem sg_idx_bare (vm : Vm) (comp : ClassId) : (vm.bare.classes.findIdx? fun (x : Class) => match x.kind with | .array component _ => component == comp | _ => false) = (vm.classes.findIdx? fun (x : Class) => match x.kind with | .array component _ => component == comp | _ => false) := by
  simp only [Vm.bare, Array.findIdx?_map]
  rfl
theorem sg_AOA {t : FieldType} {A : Array Value} {u U : State} (hvm : u.vm.Alike U.vm) (h : (Cond.arrayOver (.array t)).before #[] u = true) : (Cond.arrayOver (.array t)).before A U = true := by
  simp only [Cond.before, Cond.holds, Cond.value, beq_iff_eq] at h
  cases hc : u.vm.findClass (FieldType.array t).toString with
  | none => simp [hc] at h
  | some comp =>
    simp only [hc, Option.bind_some, Option.bind_eq_some_iff, Option.map_eq_some_iff] at h
    obtain ⟨c, h2, k, h3, hb⟩ := h
    obtain ⟨k', hk', he⟩ := hvm.2.2 _ _ h3
    have hi : (U.vm.classes.findIdx? fun (x : Class) => match x.kind with | .array component _ => component == comp | _ => false) = some c := by
      rw [← sg_idx_bare]
      first | rw [hvm.bare_eq] | rw [← hvm.bare_eq]
      rw [sg_idx_bare]
      exact h2
    have f1 : U.vm.findClass (FieldType.array t).toString = some comp := by rw [hvm.findClass]; exact hc
    unfold Cond.before Cond.holds
    simp only [Cond.value]
    rw [f1, Option.bind_some]
    refine (congrArg (fun o : Option Nat => (o.bind (fun c => (U.vm.classes[c]?).map fun (k : Class) => match k.kind with | .array _ ty => decide (ty = FieldType.array t) && decide (U.vm.findClass ("[" ++ (FieldType.array t).toString) = some c) | _ => false) == some true)) hi).trans ?_
    rw [Option.bind_some, hk', Option.map_some, he, hvm.findClass]
    cases hk9 : k.kind with
    | array c9 ty => rw [hk9] at hb; simpa using hb
    | _ => rw [hk9] at hb; simp at hb
section
variable {w : sg_W} {mi : sg_M} {d mc ms : Nat} {Q : sg_O → sg_H → Prop} {pc : Nat} {lv : List (Nat × sg_V)} {st : List sg_V} {h : sg_H} {k n : Nat}
/-- the calls -/
theorem sg_blind {w : sg_W} {as : List sg_V} {h : sg_H} : FrameBlind (sg_Pc w as h) := fun a U g mk q => by
  obtain ⟨cs, q1, q2, q3, q4⟩ := q
  exact ⟨cs, q1, q2, q3, q4⟩
def sg_K (w : sg_W) (mi : sg_M) (d mc ms : Nat) (Q : sg_O → sg_H → Prop) (pc : Nat) (lv : List (Nat × sg_V)) (rest : List sg_V) (k n : Nat) : sg_O → sg_H → Prop := fun o h' => match o with
  | .inl v => sg_R w mi d mc ms Q (pc + 3) lv (v.toList ++ rest) h' k n
  | .inr E => sg_nl mi = true ∧ k ≤ mc ∧ n ≤ ms ∧ Q (.inr E) h'
theorem sg_after {mc' ms' : Nat} {rest : List sg_V} {p : Program} {e : Env} {s : State} {m : MethodId} {args : Array Value} {below : List Frame} {meth : Method} {c : Code} {H : Heap} {locs : List Loc} {ls : Array Slot} {sv rs : List Value} {l : List (Nat × Value)} {av : Array Value}
    (hF : sg_F w mi p s m meth c) (hW : w.2.1.WarmedH s.vm) (hlv : lv_has ls mi.2.2.1 l) (hL : sg_L lv l) (hrs : sg_vs rest rs) (hO : (∀ q ∈ locs, sg_b w ≤ q.base) ∧ s.heap.size ≤ H.size)
    (hr : vx_Run p w.1 e (sg_rm d mc ms) s m args below meth c H locs k n mc' ms' (F0 m pc ls sv) rs (sg_Qc w (sg_K w mi d mc ms Q pc lv rest (k + mc') (n + ms')) av) (sg_XC w (sg_K w mi d mc ms Q pc lv rest (k + mc') (n + ms'))) (fun q => sg_b w ≤ q)) :
    W p w.1 e (sg_rm d mc ms) s m args below meth c H locs k n (vx_MQ below (sg_Qc w Q) (sg_XC w Q) args s mc ms (fun q => sg_b w ≤ q)) (F0 m pc ls sv) := by
  intro T hT X
  rcases hr T hT X with ⟨v, st₀, t, T', L, h0, X', hLc, e1, e2, hq, st⟩ | ⟨q, st₀, t, T', L, E, ce, h0, X', hLc, e1, e2, hx, hce, hcv, hcl, st⟩
  · obtain ⟨v', c', h', ho, hvs, hrel, hK⟩ := hq
    have hcv : v = c' := Outcome.returned.inj ho
    subst hcv
    have hsz : s.heap.size ≤ T'.heap.size := X'.same.2.1
    obtain ⟨t2, a1, b1⟩ := hK p e s m args below meth c T'.heap (locs ++ L) ls (v.toList ++ rs) l hF hW hlv hL (sg_vs_join hvs hrs) (by rw [e1]; exact hrel) ⟨fun z hz => (List.mem_append.mp hz).elim (hO.1 z) (hLc z), hsz⟩ T' rfl X'
    exact ⟨t2, st t2 a1, b1⟩
  · obtain ⟨h', hrel, hnl, hk, hn, hQ⟩ := hx
    have hout := vx_out (p := p) (l := w.1) (e := e) (R := sg_rm d mc ms) (s := s) (m := m) (args := args) (below := below) (meth := meth) (c := c) (H := T'.heap) (locs := locs ++ L) (cells := k + mc') (slots := n + ms') (ls := ls) (rest := rs) (Qc := sg_Qc w Q) (XC := sg_XC w Q) (free := fun q => sg_b w ≤ q) (pc := pc) (mc := mc) (ms := ms)
      (fun x hx => (hF.2.2.2.2.2.2.1 hnl x hx).elim) hF.2.2.2.2.2.1 (q := q) (E := E) (by rw [e1]; exact hce) hcv hcl (fun t9 ht _ => ⟨h', by rw [ht, e1]; exact hrel, hQ⟩) (fun z hz => (List.mem_append.mp hz).elim (hO.1 z) (hLc z)) hk hn
    obtain ⟨t2, a1, b1⟩ := hout T' rfl X'
    exact ⟨t2, st.trans a1, b1⟩
def sg_cb (mi' : sg_M) (np : Nat) : Prop := sg_ok (.code mi'.1 mi'.2.1 mi'.2.2.1 mi'.2.2.2) ∧ sg_ok (.initialized mi'.1.cls) ∧ (mi'.1.cls ≠ "java/lang/invoke/MethodHandle" ∧ mi'.1.cls ≠ "java/lang/invoke/VarHandle") ∧ (parseMethodDescriptor mi'.1.desc).map (fun d => d.parameters.length) = some np ∧ mi'.2.2.1 ≤ 61
theorem sg_callB {mi' : sg_M} {np d' mc' ms' idx : Nat} {own : String} {s : State} {args : Array Value} (g : sg_G w) (hW : w.2.1.WarmedH s.vm) (hc : sg_cb mi' np) (hl : sg_ok (.methodLink own idx mi'.1)) (hd' : d' + 1 ≤ d) :
    CallB (sg_rm d mc ms) s args own idx mi'.1 mi'.2.1 mi'.2.2.1 mi'.2.2.2 [.code mi'.1 mi'.2.1 mi'.2.2.1 mi'.2.2.2] (sg_rm d' mc' ms') mc' ms' np := by
  obtain ⟨h1, h2, h3, h4, h5⟩ := hc
  refine ⟨rfl, rfl, hd', by show 8 + (mi'.2.2.1 + 11) + 80 * d' ≤ 80 * d; omega, fun x hx a' U hU => ?_, List.mem_cons_self, sg_wd g hW h1, sg_wd g hW h2, h3, fun sig h => ?_, sg_wd g hW hl⟩
  · rw [List.mem_singleton] at hx
    subst hx
    exact sg_wd g (State.WarmedH.trans hW hU) h1
  · rw [h] at h4
    exact (Option.some.inj h4).symm
theorem sg_callS {mi' : sg_M} {np d' mc' ms' idx : Nat} {as rest : List sg_V} (g : sg_G w) (hd : decode mi.2.1 pc = .ok (.invokestatic idx, 3)) (hc : sg_cb mi' np) (hl : sg_ok (.methodLink mi.1.cls idx mi'.1)) (hsta : sg_ok (.static mi'.1)) (hst : st = as.reverse ++ rest) (hnp : as.length = np) (hr : sg_cs rest ≤ 8) (hd' : d' + 1 ≤ d) (hk : k + mc' ≤ mc) (hn : n + ms' ≤ ms)
    (hm : sg_C w mi' d' mc' ms' as h (sg_K w mi d mc ms Q pc lv rest (k + mc') (n + ms'))) : sg_R w mi d mc ms Q pc lv st h k n := by
  intro p e s m args below meth c H locs ls sv l hF hW hlv hL hs hR hO
  subst hst
  obtain ⟨xs, rs, rfl, h1, h2⟩ := sg_vs_app hs
  have h3 := sg_vs_rev h1
  rw [List.reverse_reverse] at h3
  refine sg_after hF hW hlv hL h2 hO (vx_runS (Ts := []) (As := xs.reverse) (rest := rs) ⟨hF.1, hF.2.1, hF.2.2.1, hF.2.2.2.1, fun x hx => by cases hx⟩ hm ⟨sg_callB g hW hc hl hd', sg_wd g hW hsta⟩ ⟨sg_blind, fun U hU hWU => ⟨xs.reverse, rfl, h3, State.WarmedH.trans hW hWU, by rw [hU]; exact hR⟩⟩ rfl (by rw [sg_vs_len h3]; exact hnp) hlv.1 (by rw [List.reverse_reverse]) (lv_room (by rw [sg_vs_cat h2]; exact hr)) hd ⟨hk, hn⟩)
theorem sg_callV {mi' : sg_M} {np d' mc' ms' idx t b : Nat} {as rest vs : List sg_V} {q : vw_C} (g : sg_G w) (hd : decode mi.2.1 pc = .ok (.invokevirtual idx, 3)) (hc : sg_cb mi' np) (hl : sg_ok (.methodLink mi.1.cls idx mi'.1)) (hin : sg_ok (.instanceMethod mi'.1)) (hsel : sg_ok (.selects q.1 mi'.1 mi'.1)) (hq : vwCl[t % 200]? = some q) (ht : t % 200 < 100) (hst : st = as.reverse ++ sg_r b :: rest) (hb : h.2 b = some (t, vs)) (hnp : as.length = np) (hr : sg_cs rest ≤ 8) (hd' : d' + 1 ≤ d) (hk : k + mc' ≤ mc) (hn : n + ms' ≤ ms)
    (hm : sg_C w mi' d' mc' ms' (sg_r b :: as) h (sg_K w mi d mc ms Q pc lv rest (k + mc') (n + ms'))) : sg_R w mi d mc ms Q pc lv st h k n := by
  intro p e s m args below meth c H locs ls sv l hF hW hlv hL hs hR hO
  subst hst
  obtain ⟨xs, rs0, rfl, h1, h20⟩ := sg_vs_app hs
  obtain ⟨rs, rfl, h2⟩ := sg_vs_r h20
  have h3 := sg_vs_rev h1
  rw [List.reverse_reverse] at h3
  obtain ⟨-, cell, hcell, hvm, -, h9⟩ := hR.2.2.2 b _ hb
  rw [if_pos (show (t, vs).1 % 200 < 100 from ht)] at h9
  have hcl := ((va_K.moved hW.alike g.2.1).1 _ q hq).2.1
  refine sg_after hF hW hlv hL h2 hO (vx_runV (Ts := []) (As := xs.reverse) (rest := rs) (C := q.1) ⟨hF.1, hF.2.1, hF.2.2.1, hF.2.2.2.1, fun x hx => by cases hx⟩ hm ⟨sg_callB g hW hc hl hd', sg_wd g hW hin, sg_wd g hW hsel⟩ ⟨sg_blind, ⟨cell, hcell, hvm.2.1, by rw [h9.1]; exact hcl⟩, fun U hU hWU => ⟨.ref b :: xs.reverse, rfl, ⟨rfl, h3⟩, State.WarmedH.trans hW hWU, by rw [hU]; exact hR⟩⟩ rfl (by rw [sg_vs_len h3]; exact hnp) hlv.1 (by rw [List.reverse_reverse]) (lv_room (by rw [sg_vs_cat h2]; exact hr)) hd ⟨hk, hn⟩)
theorem sg_callI {mi' : sg_M} {np d' mc' ms' idx b : Nat} {as rest : List sg_V} (g : sg_G w) (hd : decode mi.2.1 pc = .ok (.invokespecial idx, 3)) (hc : sg_cb mi' np) (hrt : mi'.2.2.2 = none) (hnm : mi'.1.name = "<init>") (hl : sg_ok (.methodLink mi.1.cls idx mi'.1)) (hin : sg_ok (.instanceMethod mi'.1)) (hst : st = as.reverse ++ sg_r b :: rest) (hnp : as.length = np) (hr : sg_cs rest ≤ 8) (hd' : d' + 1 ≤ d) (hk : k + mc' ≤ mc) (hn : n + ms' ≤ ms)
    (hm : sg_C w mi' d' mc' ms' (sg_r b :: as) h (sg_K w mi d mc ms Q pc lv rest (k + mc') (n + ms'))) : sg_R w mi d mc ms Q pc lv st h k n := by
  intro p e s m args below meth c H locs ls sv l hF hW hlv hL hs hR hO
  subst hst
  obtain ⟨xs, rs0, rfl, h1, h20⟩ := sg_vs_app hs
  obtain ⟨rs, rfl, h2⟩ := sg_vs_r h20
  have h3 := sg_vs_rev h1
  rw [List.reverse_reverse] at h3
  have hB := sg_callB (mc := mc) (ms := ms) (mc' := mc') (ms' := ms') (args := args) g hW hc hl hd'
  rw [hrt] at hB
  refine sg_after hF hW hlv hL h2 hO (vx_runI (Ts := []) (As := xs.reverse) (rest := rs) ⟨hF.1, hF.2.1, hF.2.2.1, hF.2.2.2.1, fun x hx => by cases hx⟩ (by have h7 := hm; unfold sg_C at h7; rw [hrt] at h7; exact h7) ⟨hB, hnm, sg_wd g hW hin⟩ ⟨sg_blind, fun U hU hWU => ⟨.ref b :: xs.reverse, rfl, (show sg_vs (sg_r b :: as) (.ref b :: xs.reverse) from ⟨rfl, h3⟩), State.WarmedH.trans hW hWU, by rw [hU]; exact hR⟩⟩ rfl (by rw [sg_vs_len h3]; exact hnp) hlv.1 (by rw [List.reverse_reverse]) (lv_room (by rw [sg_vs_cat h2]; exact hr)) hd ⟨hk, hn⟩)
theorem sg_objInit {idx b : Nat} (g : sg_G w) (hd : decode mi.2.1 pc = .ok (.invokespecial idx, 3)) (hl : sg_ok (.methodLink mi.1.cls idx Lib.objectInit)) (hin : sg_ok (.instanceMethod Lib.objectInit)) (hco : sg_ok (.code Lib.objectInit ⟨#[0xb1]⟩ 1 none)) (hr : sg_cs st ≤ 8) (hd' : 1 ≤ d) (K : sg_R w mi d mc ms Q (pc + 3) lv st h k n) : sg_R w mi d mc ms Q pc lv (sg_r b :: st) h k n := by
  intro p e s m args below meth c H locs ls sv l hF hW hlv hL hs hR hO
  obtain ⟨rs, rfl, h2⟩ := sg_vs_r hs
  refine W.objInit hF.1 hF.2.1 hF.2.2.2.1 (sg_wd g hW hl) (sg_wd g hW hin) (sg_wd g hW hco) rfl (hlv.1.trans hF.2.2.1.symm) rfl hd hd' ?_ (K p e s m args below meth c H locs ls _ l hF hW hlv hL h2 hR hO)
  have h9 := lv_room (m := m) (pc := pc) (ls := ls) (rest := .ref b :: rs) (st := rs) (by rw [sg_vs_cat h2]; exact hr)
  show _ ≤ 80 * d
  omega
/-- a throw of a new exception with a text -/
def sg_th (own : String) (ik is ic : Nat) (cls text : String) (names : List String) : Prop := Bundle.fit cls = true ∧ (∀ n ∈ names, Bundle.fit n = true) ∧ names.length ≤ 6 ∧
  (∀ x ∈ Cond.classLink own ik cls :: Cond.initialized cls :: vx_atS own ic cls names, x ∈ lw_tbl ∧ sg_gw x = true ∧ vx_ot x = true) ∧ Cond.stringRef own is text ∈ lw_tbl
theorem sg_wdt {s : State} {args : Array Value} {x : Cond} (g : sg_G w) (hW : w.2.1.WarmedH s.vm) (hx : x ∈ lw_tbl) (hg : sg_gw x = true) (ho : vx_ot x = true) : x.before args s = true := by
  by_cases c : goodWord x = true
  · exact sg_wd g hW ⟨hx, c⟩
  · unfold sg_gw at hg
    rw [Bool.not_eq_true] at c
    rw [c, Bool.false_or] at hg
    split at hg
    · exact sg_wdc g hW hx
    · exact va_Nw.use rfl (va_Nw.warmD hW (g.1.1 _ hx))
    · cases hg
theorem sg_statics {C n' d' : String} {p : Program} {s : State} {m : MethodId} {meth : Method} {c : Code} (hF : sg_F w mi p s m meth c) (hW : w.2.1.WarmedH s.vm) (hZ : vx_Zq C n' d' (fun q => sg_b w ≤ q) w.2.1 w.2.1.heap) : vx_Zq C n' d' (fun q => sg_b w ≤ q) s s.heap :=
  vx_Zq.moved hW.alike (hZ.kept (fun a ha _ => hF.2.2.2.2.2.2.2.2.2 a ha))
theorem sg_throw {ik is ic : Nat} {cls text : String} {names : List String} (g : sg_G w) (hth : sg_th mi.1.cls ik is ic cls text names)
    (d0 : decode mi.2.1 pc = .ok (.new ik, 3)) (d3 : decode mi.2.1 (pc + 3) = .ok (.dup, 1)) (d4 : decode mi.2.1 (pc + 4) = .ok (.ldc is, 2)) (d6 : decode mi.2.1 (pc + 6) = .ok (.invokespecial ic, 3)) (d9 : decode mi.2.1 (pc + 9) = .ok (.athrow, 1))
    (hd : 10 ≤ d) (hr : sg_cs st ≤ 100) (hk : k + 1 ≤ mc) (hn : n + 6 ≤ ms) (K : ∀ z, h.1 ≤ z → Q (.inr cls) (z, h.2)) (hnl : sg_nl mi = true := by decide +kernel) : sg_R w mi d mc ms Q pc lv st h k n := by
  intro p e s m args below meth c H locs ls sv l hF hW hlv hL hs hR hO
  obtain ⟨t1, t2, t3, t4, t5⟩ := hth
  obtain ⟨sa, hsa⟩ := g.1.2 _ _ _ t5
  exact vx_throwS hF.1 hF.2.1 g.2.2.1 hF.2.2.2.1 t1 t2 (sg_wdt g hW (t4 _ List.mem_cons_self).1 (t4 _ List.mem_cons_self).2.1 (t4 _ List.mem_cons_self).2.2) (sg_wdt g hW (t4 _ (List.mem_cons_of_mem _ List.mem_cons_self)).1 (t4 _ (List.mem_cons_of_mem _ List.mem_cons_self)).2.1 (t4 _ (List.mem_cons_of_mem _ List.mem_cons_self)).2.2) (vk_R.warm hW hsa)
    (fun x hx => sg_wdt g hW (t4 x (List.mem_cons_of_mem _ (List.mem_cons_of_mem _ hx))).1 (t4 x (List.mem_cons_of_mem _ (List.mem_cons_of_mem _ hx))).2.1 (t4 x (List.mem_cons_of_mem _ (List.mem_cons_of_mem _ hx))).2.2) (fun x hx => (t4 x hx).2.2)
    (sg_statics hF hW g.2.2.2.1) (sg_statics hF hW g.2.2.2.2) (A := fun q => sg_b w ≤ q) ⟨hO.2, fun q hq hA => by rw [hR.2.2.1 q (by omega), hF.2.2.2.2.2.2.2.2.2 q (by omega)], hO.1⟩ (hlv.1.trans hF.2.2.1.symm) d0 d3 d4 d6 d9
    (fun x hx => (hF.2.2.2.2.2.2.1 hnl x hx).elim) (by show names.length + 3 < d; omega) (by rw [sg_vs_cat hs]; show _ ≤ 80 * d; omega) hk hn hF.2.2.2.2.2.1
    (fun t _ h1 h2 => ⟨(t.heap.size, h.2), sg_rel_more hR h1 h2, K _ (by rw [← hR.1]; exact h1)⟩) hO.1 hk hn
theorem sg_throwW {ik is ic : Nat} {cls text : String} {names : List String} (g : sg_G w) (hth : sg_th mi.1.cls ik is ic cls text names)
    (d0 : decode mi.2.1 pc = .ok (.new ik, 3)) (d3 : decode mi.2.1 (pc + 3) = .ok (.dup, 1)) (d4 : decode mi.2.1 (pc + 4) = .ok (.ldc_w is, 3)) (d7 : decode mi.2.1 (pc + 7) = .ok (.invokespecial ic, 3)) (d10 : decode mi.2.1 (pc + 10) = .ok (.athrow, 1))
    (hd : 10 ≤ d) (hr : sg_cs st ≤ 100) (hk : k + 1 ≤ mc) (hn : n + 6 ≤ ms) (K : ∀ z, h.1 ≤ z → Q (.inr cls) (z, h.2)) (hnl : sg_nl mi = true := by decide +kernel) : sg_R w mi d mc ms Q pc lv st h k n := by
  intro p e s m args below meth c H locs ls sv l hF hW hlv hL hs hR hO
  obtain ⟨t1, t2, t3, t4, t5⟩ := hth
  obtain ⟨sa, hsa⟩ := g.1.2 _ _ _ t5
  exact vx_throwSW hF.1 hF.2.1 g.2.2.1 hF.2.2.2.1 t1 t2 (sg_wdt g hW (t4 _ List.mem_cons_self).1 (t4 _ List.mem_cons_self).2.1 (t4 _ List.mem_cons_self).2.2) (sg_wdt g hW (t4 _ (List.mem_cons_of_mem _ List.mem_cons_self)).1 (t4 _ (List.mem_cons_of_mem _ List.mem_cons_self)).2.1 (t4 _ (List.mem_cons_of_mem _ List.mem_cons_self)).2.2) (vk_R.warm hW hsa)
    (fun x hx => sg_wdt g hW (t4 x (List.mem_cons_of_mem _ (List.mem_cons_of_mem _ hx))).1 (t4 x (List.mem_cons_of_mem _ (List.mem_cons_of_mem _ hx))).2.1 (t4 x (List.mem_cons_of_mem _ (List.mem_cons_of_mem _ hx))).2.2) (fun x hx => (t4 x hx).2.2)
    (sg_statics hF hW g.2.2.2.1) (sg_statics hF hW g.2.2.2.2) (A := fun q => sg_b w ≤ q) ⟨hO.2, fun q hq hA => by rw [hR.2.2.1 q (by omega), hF.2.2.2.2.2.2.2.2.2 q (by omega)], hO.1⟩ (hlv.1.trans hF.2.2.1.symm) d0 d3 d4 d7 d10
    (fun x hx => (hF.2.2.2.2.2.2.1 hnl x hx).elim) (by show names.length + 3 < d; omega) (by rw [sg_vs_cat hs]; show _ ≤ 80 * d; omega) hk hn hF.2.2.2.2.2.1
    (fun t _ h1 h2 => ⟨(t.heap.size, h.2), sg_rel_more hR h1 h2, K _ (by rw [← hR.1]; exact h1)⟩) hO.1 hk hn
/-- a static field that holds v since the start -/
theorem sg_gets {C n' d' : String} {v : sg_V} {cv : Value} {idx : Nat} (g : sg_G w) (hd : decode mi.2.1 pc = .ok (.getstatic idx, 3)) (hZ : va_Z C n' d' cv (fun q => sg_b w ≤ q) w.2.1 w.2.1.heap) (hv : sg_v v cv) (hlk : sg_ok (.fieldLink mi.1.cls idx C n' d')) (K : sg_R w mi d mc ms Q (pc + 3) lv (v :: st) h k n) : sg_R w mi d mc ms Q pc lv st h k n := by
  intro p e s m args below meth c H locs ls sv l hF hW hlv hL hs hR hO
  obtain ⟨cf, kf, fi, f, a, cell, h1, h2, h3, h4, h5, h6, h7, h8⟩ := va_Z.moved hW.alike hZ
  exact W.gets hF.1 hF.2.1 hF.2.2.2.1 (sg_wd g hW hlk) h1 h2 h3 h4 (by rw [hR.2.2.1 a (by omega)]; exact h5) (fun e => by rw [e] at h6; cases h6) h7 rfl hd (K p e s m args below meth c H locs ls _ l hF hW hlv hL ⟨hv, hs⟩ hR hO)
theorem sg_at_new {cA : ClassId} {N t : Nat} (ht1 : 100 ≤ t) (ht2 : t < 200) (hak : sg_ak w.2.1 (sg_ty t) cA) : sg_at w (t, List.replicate N sg_n) { cls := cA, slots := Array.replicate N .null, vm := .none } := by
  have htm : t % 200 = t := Nat.mod_eq_of_lt ht2
  have htn : ¬ t < 100 := by omega
  refine ⟨sg_vm_of rfl, fun j v hv => ?_, ?_⟩
  · obtain ⟨hj, e1⟩ := List.getElem?_eq_some_iff.mp hv
    rw [List.length_replicate] at hj
    rw [List.getElem_replicate] at e1
    subst e1
    refine ⟨.null, ?_, rfl⟩
    rw [show (t, List.replicate N sg_n).1 % 200 = t from htm]
    unfold sg_ix
    rw [if_neg htn]
    simp [hj]
  · rw [show (t, List.replicate N sg_n).1 % 200 = t from htm, if_neg htn]
    exact ⟨sg_sz_of (by simp), sg_aw_of hak⟩
theorem sg_anew {t N idx : Nat} {z : Int} {C : String} (g : sg_G w) (hd : decode mi.2.1 pc = .ok (.anewarray idx, 3)) (hlk : sg_ok (.classLink mi.1.cls idx C)) (hov : Cond.arrayOver (.object C) ∈ lw_tbl) (ht : sg_ty t = .object C) (ht1 : 100 ≤ t) (ht2 : t < 200)
    (hz : z = (N : Int)) (hN : N ≤ 1000000) (hk : k + 1 ≤ mc) (hn : n + N ≤ ms) (K : sg_R w mi d mc ms Q (pc + 3) lv (sg_r h.1 :: st) (h.1 + 1, sg_up h.2 h.1 (t, List.replicate N sg_n)) (k + 1) (n + N)) : sg_R w mi d mc ms Q pc lv (sg_i z :: st) h k n := by
  intro p e s m args below meth c H locs ls sv l hF hW hlv hL hs hR hO
  obtain ⟨x, b, rfl, hx, h1⟩ := sg_vs_i hs
  subst hz
  have hxN := sg_tn hx
  refine W.anew hF.1 hF.2.1 hF.2.2.2.1 (sg_wd g hW hlk) (sg_wdo g hW hov) rfl hd rfl (fun q => by have h9 := Int32.lt_iff_toInt_lt.mp q; rw [hx] at h9; exact absurd h9 (by simp)) (by rw [hxN]; omega) hk (by rw [hxN]; exact hn) fun cA kA comp f1 f2 f3 f4 => ?_
  rw [hxN, hR.1]
  refine K p e s m args below meth c _ locs ls _ l hF hW hlv hL ⟨rfl, h1⟩ (sg_rel_new hR (e := (t, List.replicate N sg_n)) (cell := { cls := cA, slots := Array.replicate N .null, vm := .none }) Array.getElem?_push_size (by rw [Array.size_push]) (fun q hq => by rw [Array.getElem?_push, if_neg (Nat.ne_of_lt hq)]) (sg_at_new ht1 ht2 ?_)) ⟨hO.1, by rw [Array.size_push]; have := hO.2; omega⟩
  obtain ⟨k', hk', he⟩ := (State.WarmedH.alike hW).symm.2.2 _ _ f2
  rw [ht]
  exact ⟨by (have f9 := f1; rw [hW.alike.findClass] at f9; exact f9), k', comp, hk', by rw [he]; exact f3, fun _ => by (have f9 := f4; rw [hW.alike.findClass] at f9; exact f9)⟩
theorem sg_anewA {t N idx : Nat} {z : Int} {T : FieldType} (g : sg_G w) (hd : decode mi.2.1 pc = .ok (.anewarray idx, 3)) (hlk : sg_ok (.classLink mi.1.cls idx (FieldType.array T).toString)) (hov : Cond.arrayOver (.array T) ∈ lw_tbl) (ht : sg_ty t = .array T) (ht1 : 100 ≤ t) (ht2 : t < 200)
    (hz : z = (N : Int)) (hN : N ≤ 1000000) (hk : k + 1 ≤ mc) (hn : n + N ≤ ms) (K : sg_R w mi d mc ms Q (pc + 3) lv (sg_r h.1 :: st) (h.1 + 1, sg_up h.2 h.1 (t, List.replicate N sg_n)) (k + 1) (n + N)) : sg_R w mi d mc ms Q pc lv (sg_i z :: st) h k n := by
  intro p e s m args below meth c H locs ls sv l hF hW hlv hL hs hR hO
  obtain ⟨x, b, rfl, hx, h1⟩ := sg_vs_i hs
  subst hz
  have hxN := sg_tn hx
  refine W.anewA hF.1 hF.2.1 hF.2.2.2.1 (sg_wd g hW hlk) (sg_AOA hW.alike (g.1.1 _ hov)) rfl hd rfl (fun q => by have h9 := Int32.lt_iff_toInt_lt.mp q; rw [hx] at h9; exact absurd h9 (by simp)) (by rw [hxN]; omega) hk (by rw [hxN]; exact hn) fun cA kA comp f1 f2 f3 f4 => ?_
  rw [hxN, hR.1]
  refine K p e s m args below meth c _ locs ls _ l hF hW hlv hL ⟨rfl, h1⟩ (sg_rel_new hR (e := (t, List.replicate N sg_n)) (cell := { cls := cA, slots := Array.replicate N .null, vm := .none }) Array.getElem?_push_size (by rw [Array.size_push]) (fun q hq => by rw [Array.getElem?_push, if_neg (Nat.ne_of_lt hq)]) (sg_at_new ht1 ht2 ?_)) ⟨hO.1, by rw [Array.size_push]; have := hO.2; omega⟩
  obtain ⟨k', hk', he⟩ := (State.WarmedH.alike hW).symm.2.2 _ _ f2
  rw [ht]
  exact ⟨by (have f9 := f1; rw [hW.alike.findClass] at f9; exact f9), k', comp, hk', by rw [he]; exact f3, fun _ => by (have f9 := f4; rw [hW.alike.findClass] at f9; exact f9)⟩
/-- what may be stored in an array of references of kind t: a thing of kind u -/
def sg_as (t u : Nat) : Prop := (u < 100 ∧ ∃ q, vwCl[u]? = some q ∧ (sg_ty t = .object q.1 ∨ (sg_ty t = .object "java/lang/Object" ∧ Cond.castable q.1 "java/lang/Object" ∈ lw_tbl))) ∨
  (100 ≤ u ∧ (sg_cn (sg_ty t) = "[" ++ (sg_ty u).toString ∨ (sg_ty t = .object "java/lang/Object" ∧ Cond.castable ("[" ++ (sg_ty u).toString) "java/lang/Object" ∈ lw_tbl)))
theorem sg_aast {a t b u : Nat} {z : Int} {vs us : List sg_V} (g : sg_G w) (hd : decode mi.2.1 pc = .ok (.aastore, 1)) (ha : h.2 a = some (t, vs)) (hb : h.2 b = some (u, us)) (ht1 : 110 ≤ t) (ht2 : t < 200) (has : sg_as t (u % 200)) (h0 : 0 ≤ z) (hz : z.toNat < vs.length) (K : sg_R w mi d mc ms Q (pc + 1) lv st (h.1, sg_up h.2 a (t, vs.set z.toNat (sg_r b))) k n) (hwk : sg_wk u = false := by first | rfl | assumption) : sg_R w mi d mc ms Q pc lv (sg_r b :: sg_i z :: sg_r a :: st) h k n := by
  intro p e s m args below meth c H locs ls sv l hF hW hlv hL hs hR hO
  obtain ⟨b0, rfl, h3⟩ := sg_vs_r hs
  obtain ⟨x', b1, rfl, hx, h1⟩ := sg_vs_i h3
  obtain ⟨b2, rfl, h2⟩ := sg_vs_r h1
  obtain ⟨hab, cell, hcell, hat⟩ := hR.2.2.2 a _ ha
  obtain ⟨-, cb, hcb, hatb⟩ := hR.2.2.2 b _ hb
  have htm : t % 200 = t := Nat.mod_eq_of_lt ht2
  have h9 := hat.2.2
  rw [show (t, vs).1 % 200 = t from htm, if_neg (show ¬ t < 100 by omega)] at h9
  have hab' := hab ht2
  have hxz : x'.toNatClampNeg = z.toNat := by rw [sg_clamp, hx]
  have hr : (sg_ty t).isReference = true := by
    unfold sg_ty
    split <;> first | rfl | omega
  obtain ⟨-, kA, comp, hkA, hkind, hcomp⟩ := sg_ak_moved hW.alike (h9.2.2 (sg_wk_lt ht2))
  have hcomp := hcomp hr
  have hin := sg_inx (N := cell.slots.size) hx h0 (Nat.lt_of_lt_of_le hz h9.1.2.1)
  obtain ⟨kv, hkv, hasg⟩ : ∃ kv, s.vm.classes[cb.cls]? = some kv ∧ s.vm.assignable cb.cls comp = true := by
    have h8 := hatb.2.2
    rcases has with ⟨hu, q, hq, hc⟩ | ⟨hu, hc⟩
    · rw [if_pos (show (u, us).1 % 200 < 100 from hu)] at h8
      have hK := ((va_K.moved hW.alike g.2.1).1 _ q hq).2
      obtain ⟨hf, kC, hkC, -⟩ := hK
      refine ⟨kC, by rw [h8.1]; exact hkC, ?_⟩
      rcases hc with hc | ⟨hc, hw⟩
      · rw [hc] at hcomp
        have : comp = w.2.2.1 (u % 200) := Option.some.inj (hcomp.symm.trans hf)
        rw [h8.1, this]
        exact sg_asg _ _
      · rw [hc] at hcomp
        obtain ⟨c1, c2, e1, e2, e3⟩ := Cond.castable_spec (sg_wdc (args := args) g hW hw)
        cases Option.some.inj (e1.symm.trans hf)
        cases Option.some.inj (e2.symm.trans hcomp)
        rw [h8.1]
        exact e3
    · rw [if_neg (show ¬ (u, us).1 % 200 < 100 from Nat.not_lt.mpr hu)] at h8
      obtain ⟨hf, kB, cB, hkB, -, -⟩ := sg_ak_moved hW.alike (h8.2.2 hwk)
      refine ⟨kB, hkB, ?_⟩
      rcases hc with hc | ⟨hc, hw⟩
      · rw [hc] at hcomp
        have : comp = cb.cls := Option.some.inj (hcomp.symm.trans hf)
        rw [this]
        exact sg_asg _ _
      · rw [hc] at hcomp
        obtain ⟨c1, c2, e1, e2, e3⟩ := Cond.castable_spec (sg_wdc (args := args) g hW hw)
        cases Option.some.inj (e1.symm.trans hf)
        cases Option.some.inj (e2.symm.trans hcomp)
        exact e3
  obtain ⟨kc, hkc⟩ : ∃ kc, s.vm.classes[comp]? = some kc := by obtain ⟨k9, h9, -⟩ := Vm.findClass_spec hcomp; exact ⟨k9, h9⟩
  refine W.aast hF.1 hF.2.1 hcell (fun q h => by have h4 := hat.1.2.1; rw [h] at h4; cases h4) hat.1.2.2 hkA hkind hr hkc ⟨fun q => hin (Or.inl q), Nat.not_le.mp (fun q => hin (Or.inr q))⟩ hcb (fun q h => by have h4 := hatb.1.2.1; rw [h] at h4; cases h4) hkv hasg rfl rfl hd fun H' e1 e2 e3 => ?_
  rw [hxz] at e1 ⊢
  exact K p e s m args below meth c H' _ ls _ l hF hW hlv hL h2 (sg_rel_put hR hab' e1 e2 e3 (sg_at_ast hat (by show ¬ t % 200 < 100; omega) rfl (Nat.lt_of_lt_of_le hz h9.1.2.1) (sg_wk_lt ht2))) ⟨sg_loc hO.1 hab', by rw [e2]; exact hO.2⟩
end

