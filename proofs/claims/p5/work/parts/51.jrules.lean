/-! ===== BEGIN a method of a class above, found by the receiver, that may throw (follows va_callVU, va_runU of this kit) ===== -/
section
variable {p : Program} {l : Launch} {e : Env} {R : Room} {s : State} {m : MethodId} {args : Array Value} {below : List Frame} {meth : Method} {c : Code} {H : Heap} {locs : List Loc} {cells slots : Nat}
theorem vx_callVU {T : State} {locs : List Loc} {cells slots : Nat} (X : Stand p l e R s m args below meth c T locs cells slots) (hexec : p.tables.exec = Jvm.exec) {own C owner : String} {index : Nat} {x y : MethodName} {bytes : ByteArray} {maxL : Nat} {ret : Option FieldType}
    (hown : s.vm.findClass own = some m.cls) (hlink : (Cond.methodLink own index x).before args s = true) (hsame : (Cond.sameMethod x.cls owner x.name x.desc).before args s = true)
    (hd0 : va_Decl s ⟨owner, x.name, x.desc⟩) (howner : owner ≠ "java/lang/invoke/MethodHandle" ∧ owner ≠ "java/lang/invoke/VarHandle")
    (hsel : (Cond.selects C x y).before args s = true) (hinst : (Cond.instanceMethod y).before args s = true) (hcode : (Cond.code y bytes maxL ret).before args s = true)
    {W : Nat} {Pre : Pt → Array Value → Prop} {Post : Pt → Array Value → Option Value → Pt → Prop} {PostX : Pt → Array Value → Addr → Pt → Prop} (hK : vx_Back l R p e below s args y 3 W Pre Post PostX)
    {b : Addr} {cellB : Cell} (hcell : T.heap[b]? = some cellB) (hobj : cellB.vm.isStatics = false) (hcls : s.vm.findClass C = some cellB.cls)
    {g : JFrame} (hg : g.method = m) (hsize : g.locals.size = c.maxLocals) {argsL rest : List Value} (hlen : ∀ sig, parseMethodDescriptor x.desc = some sig → argsL.length = sig.parameters.length)
    (hstack : g.stack = argsL.reverse ++ .ref b :: rest) (hW : 2 * g.monitorRoom + (rest.map fun v => v.category).sum ≤ W) (hdg : decode c.code g.pc = .ok (.invokevirtual index, 3))
    (hpre : ∀ vm₁, s.WarmedH vm₁ → Pre ⟨T.setVm vm₁, locs, cells, slots⟩ (Value.ref b :: argsL).toArray) :
    (∃ (v : Option Value) (vm₁ : Vm) (B : Pt), s.WarmedH vm₁ ∧ Stand p l e R s m args below meth c B.U B.locs B.cells B.slots ∧ Post ⟨T.setVm vm₁, locs, cells, slots⟩ (Value.ref b :: argsL).toArray v B ∧
      ∀ target, Steps p.tables e below (B.U.setTop { g with pc := g.pc + 3, stack := v.toList ++ rest }) target → Steps p.tables e below (T.setTop g) target) ∨
    (∃ (q : Addr) (vm₁ : Vm) (B : Pt), s.WarmedH vm₁ ∧ Stand p l e R s m args below meth c B.U B.locs B.cells B.slots ∧ PostX ⟨T.setVm vm₁, locs, cells, slots⟩ (Value.ref b :: argsL).toArray q B ∧
      Steps p.tables e below (T.setTop g) ((B.U.setTop { g with stack := rest }).pushFrame (.throwing q))) := by
  obtain ⟨r0, r, hn, hrm, hstR, hsigR⟩ := hd0
  obtain ⟨cn, ck, r1, hcn, hck, hni, hf, hn1⟩ := Cond.sameMethod_found hsame
  cases hn.symm.trans hn1
  obtain ⟨mk, methM, hnamed, hmethM, -, habM⟩ := Cond.instanceMethod_spec hinst
  obtain ⟨c2, r2, m2, q1, q2, q3, q4, kP, hkP, hkPi⟩ := Cond.selects_spec hsel
  cases hcls.symm.trans q1
  cases hf.symm.trans q2
  cases hnamed.symm.trans q3
  have hselP : selectMethod e.platform s.vm cellB.cls r0 = .method mk := by rw [Launch.admits_selectMethod X.admits]; exact q4
  obtain ⟨vm₁, X₁, hstep₁⟩ := X.invokevirtualUp hexec hown hlink hsame howner hn hrm hstR (a := b) (cell := cellB) hcell
    (fun z h => by rw [h] at hobj; cases hobj) hselP hmethM habM hkP hkPi (g := g) hg (argsL := argsL) (rest := rest) (hlen _ hsigR) hstack hdg
  rcases hK m meth c ⟨T.setVm vm₁, locs, cells, slots⟩ { g with stack := rest } (.invokevirtual index) mk (Value.ref b :: argsL).toArray X₁ hg hsize hdg hW (X₁.named hnamed) (hpre vm₁ X₁.warmed) with ⟨v, B, X', hpost, hsteps⟩ | ⟨q, B, X', hpost, hsteps⟩
  · exact Or.inl ⟨v, vm₁, B, X₁.warmed, X', hpost, fun target h => hstep₁ _ fun acts => by rw [doInvoke_state]; exact hsteps.trans h⟩
  · exact Or.inr ⟨q, vm₁, B, X₁.warmed, X', hpost, hstep₁ _ fun acts => by rw [doInvoke_state]; exact hsteps⟩
theorem vx_runU {x y : MethodName} {bytes cc : ByteArray} {maxL nL mc ms n index : Nat} {ret : Option FieldType} {ws : List Cond} {rm : Room} {Pc : Array Value → State → Prop} {Qc : Array Value → State → Outcome → State → Prop} {XC : String → State → State → Prop} {free : Addr → Prop} {Ts : List Cond} {own C owner : String} {b : Addr} {As rest : List Value} {g : JFrame}
    (S : CallFix p m c cc nL s args Ts own) (hM : vx_Met l y ws rm Pc Qc XC mc ms free) (cw : va_CU R s args own C owner index x y bytes maxL ret ws rm mc ms n) (hp : PreV s H C b Pc As)
    (hg : g.method = m) (hn : As.length = n) (hsize : g.locals.size = nL) (hstack : g.stack = As.reverse ++ .ref b :: rest) (hW : 2 * g.monitorRoom + (rest.map fun v => v.category).sum ≤ 8) (hdg : decode cc g.pc = .ok (.invokevirtual index, 3)) (hf : cells + mc ≤ R.cells ∧ slots + ms ≤ R.slots) :
    vx_Run p l e R s m args below meth c H locs cells slots mc ms g rest (Qc (Value.ref b :: As).toArray) XC free := by
  obtain ⟨hrc, hrs, hfr, hlo, hws, hcw⟩ := cw.back
  have hini := cw.init
  have hK : vx_Back l R p e below s args y 3 8 (PreOf R mc ms Pc) (PostOf Qc mc ms free) (vx_Post XC mc ms free) := vx_back (bytes := bytes) (maxL := maxL) (ret := ret) hM hp.1 hrc hrs hfr hlo hws hcw (fun a' U hW => word_at hW (Or.inl (by first | rfl | simp [Cond.onTables, Cond.keeps, Cond.steady])) hini)
  obtain ⟨hx, hb, hml, ho, -⟩ := S
  obtain ⟨-, ⟨cellB, hcB, hoB, hclB⟩, hPc⟩ := hp
  intro T hT X
  rcases vx_callVU X hx (C := C) (owner := owner) (bytes := bytes) (maxL := maxL) (ret := ret) ho cw.link cw.same cw.decl cw.notMH cw.sel cw.inst cw.code hK (by rw [hT]; exact hcB) hoB hclB hg (hsize.trans hml.symm) (argsL := As) (rest := rest) (fun sig h => hn.trans (cw.len sig h)) hstack hW (by rw [hb]; exact hdg)
    (fun vm₁ hW₁ => ⟨hf.1, hf.2, hPc (T.setVm vm₁) hT hW₁⟩) with ⟨v, vm₁, ⟨U', l2, c2, s2⟩, hW₁, X', ⟨g', mk, t, L, e1, e2, hq, h1, hL, h2, h3⟩, st⟩ | ⟨q, vm₁, ⟨U', l2, c2, s2⟩, hW₁, X', ⟨g', mk, t, L, E, ce, e1, e2, hq, hce, hcv, hcl, h1, hL, h2, h3⟩, st⟩
  · dsimp only [Pt.U, Pt.locs, Pt.cells, Pt.slots] at X' e1 e2 h1 h2 h3 st
    subst h1; subst h2; subst h3
    exact Or.inl ⟨v, (T.setVm vm₁).calling g' mk (Value.ref b :: As).toArray, t, U', L, hT, X', hL, e1, e2, hq, st⟩
  · dsimp only [Pt.U, Pt.locs, Pt.cells, Pt.slots] at X' e1 e2 h1 h2 h3 st hcl
    subst h1; subst h2; subst h3
    exact Or.inr ⟨q, (T.setVm vm₁).calling g' mk (Value.ref b :: As).toArray, t, U', L, E, ce, hT, X', hL, e1, e2, hq, hce, hcv, vx_cls hW₁ hcl, st⟩
end
/-! ===== END ===== -/
/-! ===== BEGIN super.m(..) that may throw (follows va_callSU, va_runSU) ===== -/
section
variable {p : Program} {l : Launch} {e : Env} {R : Room} {s : State} {m : MethodId} {args : Array Value} {below : List Frame} {meth : Method} {c : Code} {H : Heap} {locs : List Loc} {cells slots : Nat}
theorem vx_callSU {T : State} {locs : List Loc} {cells slots : Nat} (X : Stand p l e R s m args below meth c T locs cells slots) (hexec : p.tables.exec = Jvm.exec) {own : String} {index : Nat} {y : MethodName} {bytes : ByteArray} {maxL : Nat} {ret : Option FieldType}
    (hown : s.vm.findClass own = some m.cls) (hlink : (Cond.methodLink own index y).before args s = true) (hsame : (Cond.sameMethod y.cls y.cls y.name y.desc).before args s = true) (hsup : (Cond.superclass own y.cls).before args s = true)
    (hinst : (Cond.instanceMethod y).before args s = true) (hcode : (Cond.code y bytes maxL ret).before args s = true) (hno : y.name ≠ "<init>")
    {W : Nat} {Pre : Pt → Array Value → Prop} {Post : Pt → Array Value → Option Value → Pt → Prop} {PostX : Pt → Array Value → Addr → Pt → Prop} (hK : vx_Back l R p e below s args y 3 W Pre Post PostX)
    {b : Addr} {cellB : Cell} {kB : Class} (hcell : T.heap[b]? = some cellB) (hobj : cellB.vm.isStatics = false) (hkB : s.vm.classes[cellB.cls]? = some kB)
    {g : JFrame} (hg : g.method = m) (hsize : g.locals.size = c.maxLocals) {argsL rest : List Value} (hlen : ∀ sig, parseMethodDescriptor y.desc = some sig → argsL.length = sig.parameters.length)
    (hstack : g.stack = argsL.reverse ++ .ref b :: rest) (hW : 2 * g.monitorRoom + (rest.map fun v => v.category).sum ≤ W) (hdg : decode c.code g.pc = .ok (.invokespecial index, 3))
    (hpre : ∀ vm₁, s.WarmedH vm₁ → Pre ⟨T.setVm vm₁, locs, cells, slots⟩ (Value.ref b :: argsL).toArray) :
    (∃ (v : Option Value) (vm₁ : Vm) (B : Pt), s.WarmedH vm₁ ∧ Stand p l e R s m args below meth c B.U B.locs B.cells B.slots ∧ Post ⟨T.setVm vm₁, locs, cells, slots⟩ (Value.ref b :: argsL).toArray v B ∧
      ∀ target, Steps p.tables e below (B.U.setTop { g with pc := g.pc + 3, stack := v.toList ++ rest }) target → Steps p.tables e below (T.setTop g) target) ∨
    (∃ (q : Addr) (vm₁ : Vm) (B : Pt), s.WarmedH vm₁ ∧ Stand p l e R s m args below meth c B.U B.locs B.cells B.slots ∧ PostX ⟨T.setVm vm₁, locs, cells, slots⟩ (Value.ref b :: argsL).toArray q B ∧
      Steps p.tables e below (T.setTop g) ((B.U.setTop { g with stack := rest }).pushFrame (.throwing q))) := by
  obtain ⟨mk, methM, hnamed, hmethM, hstM, habM⟩ := Cond.instanceMethod_spec hinst
  obtain ⟨methM', cM, hmethM', -, -, -, -, -, -, hsigM⟩ := Cond.code_spec hnamed hcode
  cases hmethM.symm.trans hmethM'
  obtain ⟨ps, dk, kp, hps, hdk, hkp, hsuper, -, -, hnid⟩ := Cond.superclass_spec hown hsup
  have hn : s.methodNamed? ⟨y.cls, y.name, y.desc⟩ = some mk := hnamed
  have hpm : ps = mk.cls := Option.some.inj (hps.symm.trans (findClass_of_methodNamed hnamed))
  have hsub : s.vm.isSubclass ps mk.cls = true := by rw [hpm]; simp [Vm.isSubclass, Vm.isSubclassAux]
  obtain ⟨vm₁, X₁, hstep₁⟩ := X.invokespecialUp hexec hown hlink hsame hn hmethM hstM habM hno hdk hnid hps hsuper hsub (a := b) (cell := cellB) hcell
    (fun z h => by rw [h] at hobj; cases hobj) hkB (g := g) hg (argsL := argsL) (rest := rest) (hlen _ hsigM) hstack hdg
  rcases hK m meth c ⟨T.setVm vm₁, locs, cells, slots⟩ { g with stack := rest } (.invokespecial index) mk (Value.ref b :: argsL).toArray X₁ hg hsize hdg hW (X₁.named hnamed) (hpre vm₁ X₁.warmed) with ⟨v, B, X', hpost, hsteps⟩ | ⟨q, B, X', hpost, hsteps⟩
  · exact Or.inl ⟨v, vm₁, B, X₁.warmed, X', hpost, fun target h => hstep₁ _ (by rw [doInvoke_state]; exact hsteps.trans h)⟩
  · exact Or.inr ⟨q, vm₁, B, X₁.warmed, X', hpost, hstep₁ _ (by rw [doInvoke_state]; exact hsteps)⟩
theorem vx_runSU {y : MethodName} {bytes cc : ByteArray} {maxL nL mc ms n index : Nat} {ret : Option FieldType} {ws : List Cond} {rm : Room} {Pc : Array Value → State → Prop} {Qc : Array Value → State → Outcome → State → Prop} {XC : String → State → State → Prop} {free : Addr → Prop} {Ts : List Cond} {own C : String} {cC : ClassId} {b : Addr} {As rest : List Value} {g : JFrame}
    (hat : ClassAt s C cC) (S : CallFix p m c cc nL s args Ts own) (hM : vx_Met l y ws rm Pc Qc XC mc ms free) (cw : va_CS R s args own index y bytes maxL ret ws rm mc ms n) (hp : PreV s H C b Pc As)
    (hg : g.method = m) (hn : As.length = n) (hsize : g.locals.size = nL) (hstack : g.stack = As.reverse ++ .ref b :: rest) (hW : 2 * g.monitorRoom + (rest.map fun v => v.category).sum ≤ 8) (hdg : decode cc g.pc = .ok (.invokespecial index, 3)) (hf : cells + mc ≤ R.cells ∧ slots + ms ≤ R.slots) :
    vx_Run p l e R s m args below meth c H locs cells slots mc ms g rest (Qc (Value.ref b :: As).toArray) XC free := by
  obtain ⟨⟨hrc, hrs, hfr, hlo, hws, hcw⟩, hl1, hl2, hl3, hl4, hini, hcode, hno, hlen⟩ := cw
  have hK : vx_Back l R p e below s args y 3 8 (PreOf R mc ms Pc) (PostOf Qc mc ms free) (vx_Post XC mc ms free) := vx_back (bytes := bytes) (maxL := maxL) (ret := ret) hM hp.1 hrc hrs hfr hlo hws hcw (fun a' U hW => word_at hW (Or.inl (by first | rfl | simp [Cond.onTables, Cond.keeps, Cond.steady])) hini)
  obtain ⟨hx, hb, hml, ho, -⟩ := S
  obtain ⟨-, ⟨cellB, hcB, hoB, hclB⟩, hPc⟩ := hp
  obtain ⟨hfc, kB, hkB, -⟩ := hat
  cases hfc.symm.trans hclB
  intro T hT X
  rcases vx_callSU X hx (bytes := bytes) (maxL := maxL) (ret := ret) ho hl1 hl2 hl3 hl4 hcode hno hK (by rw [hT]; exact hcB) hoB hkB hg (hsize.trans hml.symm) (argsL := As) (rest := rest) (fun sig h => hn.trans (hlen sig h)) hstack hW (by rw [hb]; exact hdg)
    (fun vm₁ hW₁ => ⟨hf.1, hf.2, hPc (T.setVm vm₁) hT hW₁⟩) with ⟨v, vm₁, ⟨U', l2, c2, s2⟩, hW₁, X', ⟨g', mk, t, L, e1, e2, hq, h1, hL, h2, h3⟩, st⟩ | ⟨q, vm₁, ⟨U', l2, c2, s2⟩, hW₁, X', ⟨g', mk, t, L, E, ce, e1, e2, hq, hce, hcv, hcl, h1, hL, h2, h3⟩, st⟩
  · dsimp only [Pt.U, Pt.locs, Pt.cells, Pt.slots] at X' e1 e2 h1 h2 h3 st
    subst h1; subst h2; subst h3
    exact Or.inl ⟨v, (T.setVm vm₁).calling g' mk (Value.ref b :: As).toArray, t, U', L, hT, X', hL, e1, e2, hq, st⟩
  · dsimp only [Pt.U, Pt.locs, Pt.cells, Pt.slots] at X' e1 e2 h1 h2 h3 st hcl
    subst h1; subst h2; subst h3
    exact Or.inr ⟨q, (T.setVm vm₁).calling g' mk (Value.ref b :: As).toArray, t, U', L, E, ce, hT, X', hL, e1, e2, hq, hce, hcv, vx_cls hW₁ hcl, st⟩
end
/-! ===== END ===== -/
/-! more instructions: what the library's own methods use -/
theorem sg_shr0 {a : Int} (h1 : -2147483648 ≤ a) (h2 : a ≤ 2147483647) : sg_shr a 0 = a := by
  unfold sg_shr
  rw [show (Int32.ofInt 0 &&& 31) = (0 : Int32) by decide]
  rw [show Int32.ofInt a >>> (0 : Int32) = Int32.ofInt a from Int32.toInt_inj.mp (by simp)]
  rw [Int32.toInt_ofInt]
  exact sg_w_id h1 h2
theorem sg_shl0 {a : Int} (h1 : -2147483648 ≤ a) (h2 : a ≤ 2147483647) : sg_shl a 0 = a := by
  unfold sg_shl
  rw [show (Int32.ofInt 0 &&& 31) = (0 : Int32) by decide]
  rw [show Int32.ofInt a <<< (0 : Int32) = Int32.ofInt a from Int32.toInt_inj.mp (by simp)]
  rw [Int32.toInt_ofInt]
  exact sg_w_id h1 h2
theorem sg_shr1 {a : Int} (h1 : 0 ≤ a) (h2 : a ≤ 2147483647) : sg_shr a 1 = a / 2 := by
  unfold sg_shr
  have e : Int32.ofInt a = nI a.toNat := Int32.toInt_inj.mp (by rw [nI_toInt (by omega), Int32.toInt_ofInt]; exact (sg_w_id (by omega) h2).trans (by omega))
  rw [e]
  have k := pk_shrN (n := a.toNat) (by omega) ((1 : Int32) &&& 31) 1 (by decide)
  rw [Nat.pow_one] at k
  rw [show (Int32.ofInt 1 &&& 31) = ((1 : Int32) &&& 31) by decide, k, nI_toInt (by omega)]
  omega
theorem sg_bytr (x : Int) : -128 ≤ sg_byt x ∧ sg_byt x ≤ 127 := by
  unfold sg_byt
  rw [Int8.toInt_toInt32]
  exact ⟨Int8.le_toInt _, Int8.toInt_le _⟩
/-- may be copied into an array of kind t -/
def sg_el (h : sg_H) (t : Nat) (v : sg_V) : Prop := (t = 102 ∧ ∃ z : Int, v = sg_i z ∧ -128 ≤ z ∧ z ≤ 127) ∨ (t = 113 ∧ (v = sg_n ∨ ∃ (y u : Nat) (us : List sg_V), v = sg_r y ∧ h.2 y = some (u, us) ∧ sg_as 113 (u % 200) ∧ sg_wk u = false))
/-- ys with n of xs, from sp on, from dp on -/
def sg_cp (xs ys : List sg_V) (sp dp n : Nat) : List sg_V := (List.range ys.length).map fun k => if dp ≤ k ∧ k < dp + n then xs.getD (sp + (k - dp)) sg_n else ys.getD k sg_n
theorem sg_cp_len {xs ys : List sg_V} {sp dp n : Nat} : (sg_cp xs ys sp dp n).length = ys.length := by simp [sg_cp]
theorem sg_cp_at {xs ys : List sg_V} {sp dp n k : Nat} (hk : k < ys.length) : (sg_cp xs ys sp dp n)[k]? = some (if dp ≤ k ∧ k < dp + n then xs.getD (sp + (k - dp)) sg_n else ys.getD k sg_n) := by
  simp [sg_cp, List.getElem?_map, List.getElem?_range hk]
def sg_sl (w : sg_W) (C : String) (y : MethodName) : Prop := ∀ (s : State) (args : Array Value), w.2.1.WarmedH s.vm → (Cond.selects C y y).before args s = true
theorem sg_slP {w : sg_W} {C : String} {y y0 : MethodName} (g : sg_G w) (h0 : sg_ok (.selects C y0 y0)) (hc : y0.cls = y.cls) (hy : y.cls ≠ "java/lang/invoke/MethodHandle" ∧ y.cls ≠ "java/lang/invoke/VarHandle") (hp : Cond.privateMethod y ∈ lw_tbl) (hi : sg_ok (.instanceMethod y)) (h0i : sg_ok (.instanceMethod y0)) : sg_sl w C y := by
  have key : (Cond.selects C y y).before #[] w.2.1 = true := by
    obtain ⟨c2, r2, m2, q1, q2, q3, q4, kP, hkP, hkPi⟩ := Cond.selects_spec (g.1.1 _ h0.1)
    obtain ⟨mk, methM, hnamed, hmethM, -, -⟩ := Cond.instanceMethod_spec (g.1.1 _ hi.1)
    obtain ⟨mk0, methM0, hnamed0, hmethM0, -, -⟩ := Cond.instanceMethod_spec (g.1.1 _ h0i.1)
    have hfound : w.2.1.methodFound? y.cls y.name y.desc = some mk := State.methodFound?_of_named hnamed hy
    have hf0 : w.2.1.methodFound? y0.cls y0.name y0.desc = some mk0 := State.methodFound?_of_named hnamed0 (by rw [hc]; exact hy)
    have e1 : m2 = mk0 := Option.some.inj (q3.symm.trans hnamed0)
    have e2 : r2 = mk0 := Option.some.inj (q2.symm.trans hf0)
    have hcls : mk.cls = mk0.cls := Option.some.inj ((findClass_of_methodNamed hnamed).symm.trans ((congrArg (fun c => w.2.1.vm.findClass c) hc.symm).trans (findClass_of_methodNamed hnamed0)))
    subst e1
    subst e2
    rw [← hcls] at hkP
    have hsel : selectMethod {} w.2.1.vm c2 mk = .method mk := selectMethod_private hmethM (Cond.privateMethod_at (g.1.1 _ hp) mk methM hnamed hmethM)
    simp only [Cond.before, Cond.holds, Cond.value, q1, hfound, hnamed, hsel, hkP]
    simp; exact hkPi
  intro s args hW
  exact word_at hW (good_of_word (w := Cond.selects C y y) rfl) key
section
variable {w : sg_W} {mi : sg_M} {d mc ms : Nat} {Q : sg_O → sg_H → Prop} {pc : Nat} {lv : List (Nat × sg_V)} {st : List sg_V} {h : sg_H} {k n : Nat}
/-- what is told of lies within the heap -/
theorem sg_frs (K : (∀ y e, h.2 y = some e → y < h.1) → sg_R w mi d mc ms Q pc lv st h k n) : sg_R w mi d mc ms Q pc lv st h k n := by
  intro p e s m args below meth c H locs ls sv l hF hW hlv hL hs hR hO
  refine K (fun y e9 he => ?_) p e s m args below meth c H locs ls sv l hF hW hlv hL hs hR hO
  obtain ⟨-, cell, hc, -⟩ := hR.2.2.2 y e9 he
  rw [← hR.1]
  exact (Array.getElem?_eq_some_iff.mp hc).1
theorem sg_ishr0 {a : Int} (hd : decode mi.2.1 pc = .ok (.ishr, 1)) (h1 : -2147483648 ≤ a) (h2 : a ≤ 2147483647) (K : sg_R w mi d mc ms Q (pc + 1) lv (sg_i a :: st) h k n) : sg_R w mi d mc ms Q pc lv (sg_i 0 :: sg_i a :: st) h k n := sg_ishr hd (by rw [sg_shr0 h1 h2]; exact K)
theorem sg_ishl0 {a : Int} (hd : decode mi.2.1 pc = .ok (.ishl, 1)) (h1 : -2147483648 ≤ a) (h2 : a ≤ 2147483647) (K : sg_R w mi d mc ms Q (pc + 1) lv (sg_i a :: st) h k n) : sg_R w mi d mc ms Q pc lv (sg_i 0 :: sg_i a :: st) h k n := sg_ishl hd (by rw [sg_shl0 h1 h2]; exact K)
theorem sg_ishr1 {a : Int} (hd : decode mi.2.1 pc = .ok (.ishr, 1)) (h1 : 0 ≤ a) (h2 : a ≤ 2147483647) (K : sg_R w mi d mc ms Q (pc + 1) lv (sg_i (a / 2) :: st) h k n) : sg_R w mi d mc ms Q pc lv (sg_i 1 :: sg_i a :: st) h k n := sg_ishr hd (by rw [sg_shr1 h1 h2]; exact K)
theorem sg_ifnonnull {a : Nat} {off : Int} {tgt : Nat} (hd : decode mi.2.1 pc = .ok (.ifnonnull off, 3)) (ht : (pc : Int) + off = (tgt : Int)) (K : sg_R w mi d mc ms Q tgt lv st h k n) : sg_R w mi d mc ms Q pc lv (sg_r a :: st) h k n := by
  intro p e s m args below meth c H locs ls sv l hF hW hlv hL hs hR hO
  obtain ⟨b, rfl, h1⟩ := sg_vs_r hs
  exact lv_ifnonnull hF.1 hF.2.1 hd ht (K p e s m args below meth c H locs ls _ l hF hW hlv hL h1 hR hO)
theorem sg_acmp_ne {a b : Nat} {off : Int} {tgt : Nat} (hd : decode mi.2.1 pc = .ok (.if_acmp .ne off, 3)) (ht : (pc : Int) + off = (tgt : Int)) (kt : a ≠ b → sg_R w mi d mc ms Q tgt lv st h k n) (kf : a = b → sg_R w mi d mc ms Q (pc + 3) lv st h k n) : sg_R w mi d mc ms Q pc lv (sg_r b :: sg_r a :: st) h k n := by
  intro p e s m args below meth c H locs ls sv l hF hW hlv hL hs hR hO
  obtain ⟨t1, rfl, h1⟩ := sg_vs_r hs
  obtain ⟨t2, rfl, h2⟩ := sg_vs_r h1
  exact lv_acmp_ne (rx := some a) (ry := some b) hF.1 hF.2.1 hd ht (fun z => kt (fun q => z (congrArg some q)) p e s m args below meth c H locs ls _ l hF hW hlv hL h2 hR hO) (fun z => kf (Option.some.inj z) p e s m args below meth c H locs ls _ l hF hW hlv hL h2 hR hO)
theorem sg_acmp_eq {a b : Nat} {off : Int} {tgt : Nat} (hd : decode mi.2.1 pc = .ok (.if_acmp .eq off, 3)) (ht : (pc : Int) + off = (tgt : Int)) (kt : a = b → sg_R w mi d mc ms Q tgt lv st h k n) (kf : a ≠ b → sg_R w mi d mc ms Q (pc + 3) lv st h k n) : sg_R w mi d mc ms Q pc lv (sg_r b :: sg_r a :: st) h k n := by
  intro p e s m args below meth c H locs ls sv l hF hW hlv hL hs hR hO
  obtain ⟨t1, rfl, h1⟩ := sg_vs_r hs
  obtain ⟨t2, rfl, h2⟩ := sg_vs_r h1
  exact lv_acmp_eq (rx := some a) (ry := some b) hF.1 hF.2.1 hd ht (fun z => kt (Option.some.inj z) p e s m args below meth c H locs ls _ l hF hW hlv hL h2 hR hO) (fun z => kf (fun q => z (congrArg some q)) p e s m args below meth c H locs ls _ l hF hW hlv hL h2 hR hO)
/-- a text constant -/
theorem sg_ldcS {idx a : Nat} {tx : String} (hd : decode mi.2.1 pc = .ok (.ldc idx, 2)) (hZ : vk_R mi.1.cls idx tx a w.2.1) (K : sg_R w mi d mc ms Q (pc + 2) lv (sg_r a :: st) h k n) : sg_R w mi d mc ms Q pc lv st h k n := by
  intro p e s m args below meth c H locs ls sv l hF hW hlv hL hs hR hO
  exact va_ldcS hF.1 hF.2.1 hF.2.2.2.1 (vk_R.warm hW hZ) hd (K p e s m args below meth c H locs ls _ l hF hW hlv hL ⟨rfl, hs⟩ hR hO)
/-- a class object -/
theorem sg_ldcM {idx q : Nat} {C : String} (g : sg_G w) (hd : decode mi.2.1 pc = .ok (.ldc idx, 2)) (hlk : sg_ok (.classLink mi.1.cls idx C)) (hM : va_Mi C q w.2.1) (K : sg_R w mi d mc ms Q (pc + 2) lv (sg_r q :: st) h k n) : sg_R w mi d mc ms Q pc lv st h k n := by
  intro p e s m args below meth c H locs ls sv l hF hW hlv hL hs hR hO
  exact va_ldcM hF.1 hF.2.1 hF.2.2.2.1 (sg_wd g hW hlk) (va_Mi.moved hW.alike hM) hd (K p e s m args below meth c H locs ls _ l hF hW hlv hL ⟨rfl, hs⟩ hR hO)
abbrev sg_gc : MethodName := ⟨"java/lang/Object", "getClass", "()Ljava/lang/Class;"⟩
theorem sg_getC {a q idx t : Nat} {C : String} {vs : List sg_V} (g : sg_G w) (hd : decode mi.2.1 pc = .ok (.invokevirtual idx, 3)) (hlk : sg_ok (.methodLink mi.1.cls idx sg_gc)) (hde : Cond.declares sg_gc ∈ lw_tbl) (hsel : sg_ok (.selects C sg_gc sg_gc)) (hin : sg_ok (.instanceMethod sg_gc)) (hna : sg_ok (.native sg_gc)) (hM : va_Mi C q w.2.1)
    (ha : h.2 a = some (t, vs)) (ht : 100 ≤ t % 200) (hC : "[" ++ (sg_ty (t % 200)).toString = C) (hr : sg_cs st ≤ 8) (hd' : 1 ≤ d) (K : sg_R w mi d mc ms Q (pc + 3) lv (sg_r q :: st) h k n) (hwk : sg_wk t = false := by first | rfl | assumption) : sg_R w mi d mc ms Q pc lv (sg_r a :: st) h k n := by
  intro p e s m args below meth c H locs ls sv l hF hW hlv hL hs hR hO
  obtain ⟨b, rfl, h1⟩ := sg_vs_r hs
  obtain ⟨-, cell, hcell, hvm, hsl, h9⟩ := hR.2.2.2 a _ ha
  rw [if_neg (show ¬ (t, vs).1 % 200 < 100 from Nat.not_lt.mpr ht)] at h9
  have h8 := (sg_ak_moved hW.alike (h9.2.2 hwk)).1
  have e7 : "[" ++ (sg_ty ((t, vs).1 % 200)).toString = C := hC
  rw [e7] at h8
  refine va_getC hF.1 hF.2.1 (hF.2.2.1.trans hlv.1.symm) hF.2.2.2.1 (sg_wd g hW hlk) (va_Nw.use rfl (va_Nw.warmD hW (g.1.1 _ hde))) (sg_wd g hW hsel) (sg_wd g hW hin) (sg_wd g hW hna) (va_Mi.moved hW.alike hM) ⟨cell, hcell, hvm.2.1, h8⟩ hd' ?_ hd (K p e s m args below meth c H locs ls _ l hF hW hlv hL ⟨rfl, h1⟩ hR hO)
  rw [sg_vs_cat h1]
  show _ ≤ 80 * d
  omega
theorem sg_castA {a idx t : Nat} {C : String} {vs : List sg_V} (g : sg_G w) (hd : decode mi.2.1 pc = .ok (.checkcast idx, 3)) (hlk : sg_ok (.classLink mi.1.cls idx C)) (ha : h.2 a = some (t, vs)) (ht : 100 ≤ t % 200) (hC : "[" ++ (sg_ty (t % 200)).toString = C) (K : sg_R w mi d mc ms Q (pc + 3) lv (sg_r a :: st) h k n) (hwk : sg_wk t = false := by first | rfl | assumption) : sg_R w mi d mc ms Q pc lv (sg_r a :: st) h k n := by
  intro p e s m args below meth c H locs ls sv l hF hW hlv hL hs hR hO
  obtain ⟨b, rfl, h1⟩ := sg_vs_r hs
  obtain ⟨-, cell, hcell, hvm, hsl, h9⟩ := hR.2.2.2 a _ ha
  rw [if_neg (show ¬ (t, vs).1 % 200 < 100 from Nat.not_lt.mpr ht)] at h9
  have h8 := (sg_ak_moved hW.alike (h9.2.2 hwk)).1
  have e7 : "[" ++ (sg_ty ((t, vs).1 % 200)).toString = C := hC
  rw [e7] at h8
  intro T hT X
  obtain ⟨vm', X', st'⟩ := X.checkcastYes hF.1 hF.2.2.2.1 (sg_wd g hW hlk) (by rw [hT]; exact hcell) (hvm.2.1) h8 (va_asg _ _) (g := F0 m pc ls (.ref a :: b)) rfl rfl (by rw [hF.2.1]; exact hd)
  obtain ⟨t9, a1, b1⟩ := K p e s m args below meth c H locs ls (.ref a :: b) l hF hW hlv hL ⟨rfl, h1⟩ hR hO (T.setVm vm') hT X'
  exact ⟨t9, st' t9 a1, b1⟩
theorem sg_bast {a : Nat} {z x : Int} {vs : List sg_V} (hd : decode mi.2.1 pc = .ok (.bastore, 1)) (ha : h.2 a = some (102, vs)) (h0 : 0 ≤ z) (hz : z.toNat < vs.length) (K : sg_R w mi d mc ms Q (pc + 1) lv st (h.1, sg_up h.2 a (102, vs.set z.toNat (sg_i (sg_byt x)))) k n) : sg_R w mi d mc ms Q pc lv (sg_i x :: sg_i z :: sg_r a :: st) h k n := by
  intro p e s m args below meth c H locs ls sv l hF hW hlv hL hs hR hO
  obtain ⟨y, b0, rfl, hy, h3⟩ := sg_vs_i hs
  obtain ⟨x', b1, rfl, hx, h1⟩ := sg_vs_i h3
  obtain ⟨b, rfl, h2⟩ := sg_vs_r h1
  obtain ⟨hab, cell, hcell, hat⟩ := hR.2.2.2 a _ ha
  have h9 := hat.2.2
  rw [if_neg (show ¬ (102, vs).1 % 200 < 100 from (by decide : ¬ (102 : Nat) % 200 < 100))] at h9
  have hab' := hab (by show 102 < 200; omega)
  have hxz : x'.toNatClampNeg = z.toNat := by rw [sg_clamp, hx]
  refine W.bast hF.1 hF.2.1 hcell (sg_aw_arr (ty := .byte) (sg_aw_moved hW.alike h9.2) hat.1) hat.1.2.2 (sg_inx hx h0 (Nat.lt_of_lt_of_le hz h9.1.2.1)) rfl rfl hd fun H' e1 e2 e3 => ?_
  rw [hxz] at e1 ⊢
  exact K p e s m args below meth c H' _ ls _ l hF hW hlv hL h2 (sg_rel_put hR hab' e1 e2 e3 (sg_at_ast hat (Nat.not_lt.mpr (Nat.le_of_ble_eq_true rfl)) ⟨_, rfl, by rw [← hy]; exact sg_byt_of y⟩ (Nat.lt_of_lt_of_le hz h9.1.2.1) rfl)) ⟨sg_loc hO.1 hab', by rw [e2]; exact hO.2⟩
theorem sg_kin {s : State} {args : Array Value} {b u : Nat} {us : List sg_V} {H : Heap} {comp : ClassId} (g : sg_G w) (hW : w.2.1.WarmedH s.vm) (hR : sg_rel w h H) (hb : h.2 b = some (u, us)) (has : sg_as 113 (u % 200)) (hwk : sg_wk u = false) (hcomp : s.vm.findClass (sg_cn (sg_ty 113)) = some comp) : ∃ (cb : Cell) (kv : Class), H[b]? = some cb ∧ cb.vm = .none ∧ s.vm.classes[cb.cls]? = some kv ∧ s.vm.assignable cb.cls comp = true := by
  obtain ⟨-, cb, hcb, hatb⟩ := hR.2.2.2 b _ hb
  refine ⟨cb, ?_⟩
  have h8 := hatb.2.2
  rcases has with ⟨hu, q, hq, hc⟩ | ⟨hu, hc⟩
  · rw [if_pos (show (u, us).1 % 200 < 100 from hu)] at h8
    have hK := ((va_K.moved hW.alike g.2.1).1 _ q hq).2
    obtain ⟨hf, kC, hkC, -⟩ := hK
    refine ⟨kC, hcb, hatb.1.1 hwk, by rw [h8.1]; exact hkC, ?_⟩
    rcases hc with hc | ⟨hc, hw⟩
    · rw [hc] at hcomp
      have : comp = w.2.2.1 (u % 200) := Option.some.inj (hcomp.symm.trans hf)
      rw [h8.1, this]
      exact sg_asg _ _
    · rw [hc] at hcomp
      obtain ⟨c1, c2, e1, e2, e3⟩ := Cond.castable_spec (sg_wdc (args := args) g hW hw)
      cases Option.some.inj (e1.symm.trans hf)
      cases Option.some.inj (e2.symm.trans hcomp)
      rw [h8.1]
      exact e3
  · rw [if_neg (show ¬ (u, us).1 % 200 < 100 from Nat.not_lt.mpr hu)] at h8
    obtain ⟨hf, kB, cB, hkB, -, -⟩ := sg_ak_moved hW.alike (h8.2.2 hwk)
    refine ⟨kB, hcb, hatb.1.1 hwk, hkB, ?_⟩
    rcases hc with hc | ⟨hc, hw⟩
    · rw [hc] at hcomp
      have : comp = cb.cls := Option.some.inj (hcomp.symm.trans hf)
      rw [this]
      exact sg_asg _ _
    · rw [hc] at hcomp
      obtain ⟨c1, c2, e1, e2, e3⟩ := Cond.castable_spec (sg_wdc (args := args) g hW hw)
      cases Option.some.inj (e1.symm.trans hf)
      cases Option.some.inj (e2.symm.trans hcomp)
      exact e3
theorem sg_fitb {x : Int32} (h1 : -128 ≤ x.toInt) (h2 : x.toInt ≤ 127) : fits .byte (.int x) = true := by
  show (decide (-128 ≤ x) && decide (x ≤ 127)) = true
  rw [Bool.and_eq_true, decide_eq_true_eq, decide_eq_true_eq, Int32.le_iff_toInt_le, Int32.le_iff_toInt_le]
  exact ⟨h1, h2⟩
theorem sg_copy {a0 a t0 t idx : Nat} {sp dp nn : Int} {xs ys : List sg_V} (g : sg_G w) (hd : decode mi.2.1 pc = .ok (.invokestatic idx, 3)) (hlk : sg_ok (.methodLink mi.1.cls idx arraycopyName)) (hst : sg_ok (.static arraycopyName)) (hna : sg_ok (.native arraycopyName)) (hin : sg_ok (.initialized "java/lang/System"))
    (h0 : h.2 a0 = some (t0, xs)) (h1 : h.2 a = some (t, ys)) (ht : t0 % 200 = t) (ht1 : 100 ≤ t) (ht2 : t < 200) (s0 : 0 ≤ sp) (d0 : 0 ≤ dp) (n0 : 0 ≤ nn) (b1 : sp + nn ≤ (xs.length : Int)) (b2 : dp + nn ≤ (ys.length : Int))
    (hel : ∀ i : Nat, (i : Int) < nn → sg_el h t (xs.getD (sp.toNat + i) sg_n)) (hr : sg_cs st ≤ 8) (hd' : 1 ≤ d)
    (K : sg_R w mi d mc ms Q (pc + 3) lv st (h.1, sg_up h.2 a (t, sg_cp xs ys sp.toNat dp.toNat nn.toNat)) k n) : sg_R w mi d mc ms Q pc lv (sg_i nn :: sg_i dp :: sg_r a :: sg_i sp :: sg_r a0 :: st) h k n := by
  intro p e s m args below meth c H locs ls sv l hF hW hlv hL hs hR hO
  obtain ⟨xn, t1, rfl, hxn, hs1⟩ := sg_vs_i hs
  obtain ⟨xd, t2, rfl, hxd, hs2⟩ := sg_vs_i hs1
  obtain ⟨t3, rfl, hs3⟩ := sg_vs_r hs2
  obtain ⟨xs', t4, rfl, hxs, hs4⟩ := sg_vs_i hs3
  obtain ⟨t5, rfl, hs5⟩ := sg_vs_r hs4
  obtain ⟨-, c0, hc0, hat0⟩ := hR.2.2.2 a0 _ h0
  obtain ⟨hab, c1, hc1, hat1⟩ := hR.2.2.2 a _ h1
  have htm : t % 200 = t := Nat.mod_eq_of_lt ht2
  have htn : ¬ t < 100 := by omega
  have g0 := hat0.2.2
  rw [show (t0, xs).1 % 200 = t from ht, if_neg htn] at g0
  have g1 := hat1.2.2
  rw [show (t, ys).1 % 200 = t from htm, if_neg htn] at g1
  obtain ⟨k0, cm0, hk0, hkk0⟩ := (sg_aw_moved hW.alike g0.2).1
  obtain ⟨-, k1, cm1, hk1, hkk1, hcmp⟩ := sg_ak_moved hW.alike (g1.2.2 (sg_wk_lt ht2))
  have hab' := hab ht2
  have en : xn.toNatClampNeg = nn.toNat := by rw [sg_clamp, hxn]
  have es : xs'.toNatClampNeg = sp.toNat := by rw [sg_clamp, hxs]
  have ed : xd.toNatClampNeg = dp.toNat := by rw [sg_clamp, hxd]
  have ng : ∀ (x : Int32) (z : Int), x.toInt = z → 0 ≤ z → ¬ x < 0 := fun x z e1 e2 q => by
    have h9 := Int32.lt_iff_toInt_lt.mp q
    rw [e1, Int32.toInt_zero] at h9
    omega
  have hsl0 : ∀ i : Nat, (i : Int) < nn → ∃ cv, c0.slots.getD (xs'.toNatClampNeg + i) .null = cv ∧ sg_v (xs.getD (sp.toNat + i) sg_n) cv := fun i hi => by
    have hl : sp.toNat + i < xs.length := by omega
    have e1 : xs[sp.toNat + i]? = some (xs.getD (sp.toNat + i) sg_n) := by
      rw [List.getD_eq_getElem?_getD, List.getElem?_eq_getElem hl]
      rfl
    obtain ⟨cv, f1, f2⟩ := hat0.2.1 _ _ e1
    refine ⟨cv, ?_, f2⟩
    rw [show (t0, xs).1 % 200 = t from ht] at f1
    unfold sg_ix at f1
    rw [if_neg htn] at f1
    rw [es, Array.getD_eq_getD_getElem?, f1]
    rfl
  intro T hT X
  obtain ⟨vm', X', step⟩ := X.arraycopy hF.1 hF.2.2.2.1 (sg_wd g hW hlk) (sg_wd g hW hna) (sg_wd g hW hst) (sg_wd g hW hin) (src := a0) (dst := a) (cs := c0) (cd := c1) (srcPos := xs') (destPos := xd) (n := xn) (by rw [hT]; exact hc0) (by rw [hT]; exact hc1)
    (fun _ q => by have h4 := hat0.1.2.1; rw [q] at h4; cases h4) (fun _ q => by have h4 := hat1.1.2.1; rw [q] at h4; cases h4) hat0.1.2.2 hat1.1.2.2 hk0 hk1 hkk0 hkk1 (by simp)
    (ng _ _ hxs s0) (ng _ _ hxd d0) (ng _ _ hxn n0) (by rw [hxs, hxn]; have h4 : xs.length ≤ c0.slots.size := g0.1.2.1; omega) (by rw [hxd, hxn]; have h4 : ys.length ≤ c1.slots.size := g1.1.2.1; omega)
    (fun vm₁ hal i hi => by
      have hi' : (i : Int) < nn := by omega
      obtain ⟨cv, f1, f2⟩ := hsl0 i hi'
      rw [f1]
      rcases hel i hi' with ⟨rfl, z, e1, z1, z2⟩ | ⟨rfl, e1 | ⟨y, u, us, e1, e2, e3, e5⟩⟩
      · rw [e1] at f2
        obtain ⟨x, rfl, hx⟩ := f2
        exact ⟨sg_fitb (by omega) (by omega), trivial⟩
      · rw [e1] at f2
        cases (show cv = .null from f2)
        exact ⟨rfl, trivial⟩
      · rw [e1] at f2
        cases (show cv = .ref y from f2)
        have hcc := hcmp rfl
        obtain ⟨cb, kv, q1, q2, q3, q4⟩ := sg_kin (args := args) g hW hR e2 e3 e5 hcc
        obtain ⟨kC', hkC', -⟩ := hal.2.2 _ _ q3
        obtain ⟨kE, hkE, -⟩ := Vm.findClass_spec hcc
        obtain ⟨kE', hkE', -⟩ := hal.2.2 _ _ hkE
        refine ⟨rfl, cb, (show T.heap[y]? = some cb by rw [hT]; exact q1), (fun q h => by rw [q2] at h; cases h), ⟨kC', hkC'⟩, ⟨kE', hkE'⟩, ?_⟩
        show vm₁.assignable _ _ = true
        rw [hal.assignable]
        exact q4)
    (g := F0 m pc ls (.int xn :: .int xd :: .ref a :: .int xs' :: .ref a0 :: t5)) rfl (hlv.1.trans hF.2.2.1.symm) (rest := t5) rfl (by rw [hF.2.1]; exact hd) hd' (by
      show 2 * 0 + _ + _ ≤ 80 * d
      rw [sg_vs_cat hs5]
      have hw : nativeFrameWords "java/lang/System" "arraycopy" 5 ≤ 40 := (by decide)
      omega)
  have hfit : dp.toNat + (c0.stretch sp.toNat nn.toNat).length ≤ c1.slots.size := by
    rw [Cell.stretch_length]
    have h4 : ys.length ≤ c1.slots.size := g1.1.2.1
    omega
  obtain ⟨p1, p2, p3, -, -⟩ := Cell.storeRun_facts c1 dp.toNat (c0.stretch sp.toNat nn.toNat)
  have hcp : copied c0 c1 xs' xd xn = c1.storeRun dp.toNat (c0.stretch sp.toNat nn.toNat) := by
    rw [← en, ← es, ← ed]
  rw [hcp] at X' step
  have hl : a < H.size := (Array.getElem?_eq_some_iff.mp hc1).1
  have hheap : ((T.setVm vm').setCell a (c1.storeRun dp.toNat (c0.stretch sp.toNat nn.toNat))).heap = H.setIfInBounds a (c1.storeRun dp.toNat (c0.stretch sp.toNat nn.toNat)) := by rw [← hT]; rfl
  have hat' : sg_at w (t, sg_cp xs ys sp.toNat dp.toNat nn.toNat) (c1.storeRun dp.toNat (c0.stretch sp.toNat nn.toNat)) := by
    refine ⟨sg_vm_of (p2.trans (hat1.1.1 (sg_wk_lt ht2))), fun j v hv => ?_, ?_⟩
    · rw [show (t, sg_cp xs ys sp.toNat dp.toNat nn.toNat).1 % 200 = t from htm]
      unfold sg_ix
      rw [if_neg htn]
      have hj : j < ys.length := by
        have := (List.getElem?_eq_some_iff.mp hv).1
        rw [show (t, sg_cp xs ys sp.toNat dp.toNat nn.toNat).2.length = ys.length from sg_cp_len] at this
        exact this
      have hv' : v = (if dp.toNat ≤ j ∧ j < dp.toNat + nn.toNat then xs.getD (sp.toNat + (j - dp.toNat)) sg_n else ys.getD j sg_n) := (Option.some.inj ((sg_cp_at hj).symm.trans hv)).symm
      rw [Cell.storeRun_get _ _ _ _ hfit, Cell.stretch_length]
      by_cases c : dp.toNat ≤ j ∧ j < dp.toNat + nn.toNat
      · rw [if_pos c] at hv' ⊢
        obtain ⟨cv, f1, f2⟩ := hsl0 (j - dp.toNat) (by omega)
        refine ⟨cv, ?_, by rw [hv']; exact f2⟩
        unfold Cell.stretch
        rw [List.getElem?_map, List.getElem?_range (by omega), ← f1, es]
        rfl
      · rw [if_neg c] at hv' ⊢
        have e1 : ys[j]? = some (ys.getD j sg_n) := by
          rw [List.getD_eq_getElem?_getD, List.getElem?_eq_getElem hj]
          rfl
        obtain ⟨cv, f1, f2⟩ := hat1.2.1 _ _ e1
        rw [show (t, ys).1 % 200 = t from htm] at f1
        unfold sg_ix at f1
        rw [if_neg htn] at f1
        exact ⟨cv, f1, by rw [hv']; exact f2⟩
    · rw [show (t, sg_cp xs ys sp.toNat dp.toNat nn.toNat).1 % 200 = t from htm, if_neg htn]
      refine ⟨?_, by rw [p1]; exact g1.2⟩
      refine sg_sz_of ?_
      rw [p3, g1.1.1 (sg_wk_lt ht2)]
      exact sg_cp_len.symm
  obtain ⟨t9, a1, b1'⟩ := K p e s m args below meth c (H.setIfInBounds a (c1.storeRun dp.toNat (c0.stretch sp.toNat nn.toNat))) _ ls _ l hF hW hlv hL hs5
    (sg_rel_put hR hab' (by simp [Array.getElem?_setIfInBounds, hl]) (by simp) (fun q hq => by simp [Array.getElem?_setIfInBounds, Ne.symm hq]) hat')
    ⟨fun q hq => by
      rcases List.mem_append.mp hq with h | h
      · exact hO.1 q h
      · obtain ⟨z, -, hz⟩ := List.mem_map.mp h
        rw [← hz]
        exact hab', by simp; exact hO.2⟩ _ hheap X'
  exact ⟨t9, step t9 a1, b1'⟩
abbrev sg_cl (ad : String) : MethodName := ⟨ad, "clone", "()Ljava/lang/Object;"⟩
theorem sg_clone {a t idx : Nat} {xs : List sg_V} (g : sg_G w) (hd : decode mi.2.1 pc = .ok (.invokevirtual idx, 3)) (hlk : sg_ok (.methodLink mi.1.cls idx (sg_cl "[B"))) (hsame : sg_ok (.sameMethod "[B" "java/lang/Object" "clone" "()Ljava/lang/Object;")) (hna : sg_ok (.native (sg_cl "java/lang/Object"))) (hin : sg_ok (.instanceMethod (sg_cl "java/lang/Object"))) (hsel : sg_ok (.selects "[B" (sg_cl "[B") (sg_cl "java/lang/Object"))) (hcl : Cond.castable "[B" "java/lang/Cloneable" ∈ lw_tbl)
    (ha : h.2 a = some (t, xs)) (ht : t % 200 = 102) (hel : ∀ v ∈ xs, ∃ z : Int, v = sg_i z ∧ -128 ≤ z ∧ z ≤ 127) (hr : sg_cs st ≤ 8) (hd' : 1 ≤ d) (hk : k + 1 ≤ mc) (hn : n + xs.length ≤ ms)
    (K : sg_R w mi d mc ms Q (pc + 3) lv (sg_r h.1 :: st) (h.1 + 1, sg_up h.2 h.1 (102, xs)) (k + 1) (n + xs.length)) (hwk : sg_wk t = false := by first | rfl | assumption) : sg_R w mi d mc ms Q pc lv (sg_r a :: st) h k n := by
  intro p e s m args below meth c H locs ls sv l hF hW hlv hL hs hR hO
  obtain ⟨b, rfl, h1⟩ := sg_vs_r hs
  obtain ⟨-, cell, hcell, hat⟩ := hR.2.2.2 a _ ha
  have h9 := hat.2.2
  rw [show (t, xs).1 % 200 = 102 from ht, if_neg (by decide)] at h9
  obtain ⟨hnm, kS, compS, hkS, hkindS, -⟩ := sg_ak_moved hW.alike (h9.2.2 hwk)
  obtain ⟨c0, t0', f1, f2, f3⟩ := Cond.castable_spec (sg_wdc (args := args) g hW hcl)
  cases (show s.vm.findClass "[B" = some cell.cls from hnm).symm.trans f1
  have hsz : cell.slots.size = xs.length := h9.1.1 hwk
  intro T hT X
  obtain ⟨kA, hkA, he⟩ := X.warmed.alike.2.2 _ _ hkS
  obtain ⟨vm', X', st'⟩ := X.cloneArray hF.1 hF.2.2.2.1 (sg_wd g hW hlk) (sg_wd g hW hsame) (sg_wd g hW hna) (sg_wd g hW hin) (sg_wd g hW hsel) (a := a) (cell := cell) (by rw [hT]; exact hcell) (fun k q => by have h4 := hat.1.2.1; rw [q] at h4; cases h4) hat.1.2.2 hnm f2 f3
    (fun i v hv => by
      have hi : i < xs.length := by rw [← hsz]; exact (Array.getElem?_eq_some_iff.mp hv).1
      obtain ⟨z, e1, z1, z2⟩ := hel _ (List.getElem_mem hi)
      obtain ⟨cv, g1, g2⟩ := hat.2.1 i _ (List.getElem?_eq_getElem hi)
      rw [show (t, xs).1 % 200 = 102 from ht] at g1
      have : cv = v := Option.some.inj (g1.symm.trans hv)
      subst this
      rw [e1] at g2
      obtain ⟨x, rfl, hx⟩ := g2
      have hk' : T.vm.classes[cell.cls]? = some kA := hkA
      have hkd : kA.kind = .array compS .byte := by rw [he]; exact hkindS
      simpa [State.fitsSlot, State.slotType?, hk', hkd] using sg_fitb (x := x) (by omega) (by omega))
    (g := F0 m pc ls (.ref a :: b)) rfl (hlv.1.trans hF.2.2.1.symm) (rest := b) rfl (by rw [hF.2.1]; exact hd) hd' (by
      show 2 * 0 + _ + 14 ≤ 80 * d
      rw [sg_vs_cat h1]
      omega) hk (by rw [hsz]; exact hn) (hloader := Vm.clonesLoader_of_array hkS hkindS)
  rw [hsz] at X'
  have hat2 : sg_at w (102, xs) { cls := cell.cls, slots := cell.slots } := by
    refine ⟨sg_vm_of rfl, fun j v hv => ?_, ?_⟩
    · obtain ⟨cv, g1, g2⟩ := hat.2.1 j v hv
      rw [show (t, xs).1 % 200 = 102 from ht] at g1
      exact ⟨cv, g1, g2⟩
    · rw [if_neg (show ¬ (102, xs).1 % 200 < 100 from (by decide : ¬ (102 : Nat) % 200 < 100))]
      exact ⟨sg_sz_of hsz, h9.2.1, fun _ => h9.2.2 hwk⟩
  obtain ⟨t9, a1, b1⟩ := K p e s m args below meth c (H.push { cls := cell.cls, slots := cell.slots }) locs ls (.ref h.1 :: b) l hF hW hlv hL ⟨rfl, h1⟩
    (sg_rel_new hR (e := (102, xs)) Array.getElem?_push_size (by rw [Array.size_push]) (fun q hq => by rw [Array.getElem?_push, if_neg (Nat.ne_of_lt hq)]) hat2) ⟨hO.1, by rw [Array.size_push]; have := hO.2; omega⟩
    ((T.setVm vm').pushCell { cls := cell.cls, slots := cell.slots }) (by rw [← hT]; rfl) X'
  refine ⟨t9, st' t9 ?_, b1⟩
  rw [hT, hR.1]
  exact a1
theorem sg_aastN {a : Nat} {z : Int} {vs : List sg_V} (hd : decode mi.2.1 pc = .ok (.aastore, 1)) (ha : h.2 a = some (113, vs)) (h0 : 0 ≤ z) (hz : z.toNat < vs.length) (K : sg_R w mi d mc ms Q (pc + 1) lv st (h.1, sg_up h.2 a (113, vs.set z.toNat sg_n)) k n) : sg_R w mi d mc ms Q pc lv (sg_n :: sg_i z :: sg_r a :: st) h k n := by
  intro p e s m args below meth c H locs ls sv l hF hW hlv hL hs hR hO
  obtain ⟨t0, rfl, h3⟩ := sg_vs_n hs
  obtain ⟨x', b1, rfl, hx, h1⟩ := sg_vs_i h3
  obtain ⟨b, rfl, h2⟩ := sg_vs_r h1
  obtain ⟨hab, cell, hcell, hat⟩ := hR.2.2.2 a _ ha
  have h9 := hat.2.2
  rw [if_neg (show ¬ (113, vs).1 % 200 < 100 from (by decide : ¬ (113 : Nat) % 200 < 100))] at h9
  have hab' := hab (by show 113 < 200; omega)
  have hxz : x'.toNatClampNeg = z.toNat := by rw [sg_clamp, hx]
  refine va_WaastN (C := "java/lang/Object") hF.1 hF.2.1 hcell (sg_aw_arr (ty := .object "java/lang/Object") (sg_aw_moved hW.alike h9.2) hat.1) hat.1.2.2 (sg_inx hx h0 (Nat.lt_of_lt_of_le hz h9.1.2.1)) rfl rfl hd fun H' e1 e2 e3 => ?_
  rw [hxz] at e1 ⊢
  exact K p e s m args below meth c H' _ ls _ l hF hW hlv hL h2 (sg_rel_put hR hab' e1 e2 e3 (sg_at_ast hat (Nat.not_lt.mpr (Nat.le_of_ble_eq_true rfl)) rfl (Nat.lt_of_lt_of_le hz h9.1.2.1) rfl)) ⟨sg_loc hO.1 hab', by rw [e2]; exact hO.2⟩
theorem sg_mmax {idx : Nat} {a b : Int} (g : sg_G w) (hd : decode mi.2.1 pc = .ok (.invokestatic idx, 3)) (hl : sg_ok (.methodLink mi.1.cls idx Lib.Math.max.name)) (hst : sg_ok (.static Lib.Math.max.name)) (hin : sg_ok (.initialized "java/lang/Math")) (hco : sg_ok (.code Lib.Math.max.name Lib.Math.max.code 2 (some .int))) (hr : sg_cs st ≤ 8) (hd' : 1 ≤ d) (hk : k ≤ mc) (hn : n ≤ ms) (K : ∀ z : Int, z = (if b ≤ a then a else b) → sg_R w mi d mc ms Q (pc + 3) lv (sg_i z :: st) h k n) : sg_R w mi d mc ms Q pc lv (sg_i b :: sg_i a :: st) h k n := by
  intro p e s m args below meth c H locs ls sv l hF hW hlv hL hs hR hO
  obtain ⟨y, t1, rfl, hy, h1⟩ := sg_vs_i hs
  obtain ⟨x, t2, rfl, hx, h2⟩ := sg_vs_i h1
  refine va_mmax hF.1 hF.2.1 (hF.2.2.1.trans hlv.1.symm) hF.2.2.2.1 (sg_wd g hW hl) (sg_wd g hW hst) (sg_wd g hW hin) (sg_wd g hW hco) hd' ?_ hk hn hd (K (if b ≤ a then a else b) rfl p e s m args below meth c H locs ls _ l hF hW hlv hL ⟨⟨_, rfl, ?_⟩, h2⟩ hR hO)
  · rw [sg_vs_cat h2]
    show _ ≤ 80 * d
    omega
  · by_cases q : x < y
    · rw [if_pos q, hy, if_neg (by have := (sg_clt hx hy).mp q; omega)]
    · rw [if_neg q, hx, if_pos (by have := mt (sg_clt hx hy).mpr q; omega)]
theorem sg_mmin {idx : Nat} {a b : Int} (g : sg_G w) (hd : decode mi.2.1 pc = .ok (.invokestatic idx, 3)) (hl : sg_ok (.methodLink mi.1.cls idx Lib.Math.min.name)) (hst : sg_ok (.static Lib.Math.min.name)) (hin : sg_ok (.initialized "java/lang/Math")) (hco : sg_ok (.code Lib.Math.min.name Lib.Math.min.code 2 (some .int))) (hr : sg_cs st ≤ 8) (hd' : 1 ≤ d) (hk : k ≤ mc) (hn : n ≤ ms) (K : ∀ z : Int, z = (if a ≤ b then a else b) → sg_R w mi d mc ms Q (pc + 3) lv (sg_i z :: st) h k n) : sg_R w mi d mc ms Q pc lv (sg_i b :: sg_i a :: st) h k n := by
  intro p e s m args below meth c H locs ls sv l hF hW hlv hL hs hR hO
  obtain ⟨y, t1, rfl, hy, h1⟩ := sg_vs_i hs
  obtain ⟨x, t2, rfl, hx, h2⟩ := sg_vs_i h1
  refine va_mmin hF.1 hF.2.1 (hF.2.2.1.trans hlv.1.symm) hF.2.2.2.1 (sg_wd g hW hl) (sg_wd g hW hst) (sg_wd g hW hin) (sg_wd g hW hco) hd' ?_ hk hn hd (K (if a ≤ b then a else b) rfl p e s m args below meth c H locs ls _ l hF hW hlv hL ⟨⟨_, rfl, ?_⟩, h2⟩ hR hO)
  · rw [sg_vs_cat h2]
    show _ ≤ 80 * d
    omega
  · by_cases q : y < x
    · rw [if_pos q, hy, if_neg (by have := (sg_clt hy hx).mp q; omega)]
    · rw [if_neg q, hx, if_pos (by have := mt (sg_clt hy hx).mpr q; omega)]
theorem sg_callVP {mi' : sg_M} {np d' mc' ms' idx t b : Nat} {as rest vs : List sg_V} {q : vw_C} (g : sg_G w) (hd : decode mi.2.1 pc = .ok (.invokevirtual idx, 3)) (hc : sg_cb mi' np) (hl : sg_ok (.methodLink mi.1.cls idx mi'.1)) (hin : sg_ok (.instanceMethod mi'.1)) (hsel : sg_sl w q.1 mi'.1) (hq : vwCl[t % 200]? = some q) (ht : t % 200 < 100) (hst : st = as.reverse ++ sg_r b :: rest) (hb : h.2 b = some (t, vs)) (hnp : as.length = np) (hr : sg_cs rest ≤ 8) (hd' : d' + 1 ≤ d) (hk : k + mc' ≤ mc) (hn : n + ms' ≤ ms)
    (hm : sg_C w mi' d' mc' ms' (sg_r b :: as) h (sg_K w mi d mc ms Q pc lv rest (k + mc') (n + ms'))) : sg_R w mi d mc ms Q pc lv st h k n := by
  intro p e s m args below meth c H locs ls sv l hF hW hlv hL hs hR hO
  subst hst
  obtain ⟨xs, rs0, rfl, h1, h20⟩ := sg_vs_app hs
  obtain ⟨rs, rfl, h2⟩ := sg_vs_r h20
  have h3 := sg_vs_rev h1
  rw [List.reverse_reverse] at h3
  obtain ⟨-, cell, hcell, hvm, -, h9⟩ := hR.2.2.2 b _ hb
  rw [if_pos (show (t, vs).1 % 200 < 100 from ht)] at h9
  have hcl := ((va_K.moved hW.alike g.2.1).1 _ q hq).2.1
  refine sg_after hF hW hlv hL h2 hO (vx_runV (Ts := []) (As := xs.reverse) (rest := rs) (C := q.1) ⟨hF.1, hF.2.1, hF.2.2.1, hF.2.2.2.1, fun x hx => by cases hx⟩ hm ⟨sg_callB g hW hc hl hd', sg_wd g hW hin, hsel s args hW⟩ ⟨sg_blind, ⟨cell, hcell, hvm.2.1, by rw [h9.1]; exact hcl⟩, fun U hU hWU => ⟨.ref b :: xs.reverse, rfl, ⟨rfl, h3⟩, State.WarmedH.trans hW hWU, by rw [hU]; exact hR⟩⟩ rfl (by rw [sg_vs_len h3]; exact hnp) hlv.1 (by rw [List.reverse_reverse]) (lv_room (by rw [sg_vs_cat h2]; exact hr)) hd ⟨hk, hn⟩)
theorem sg_callSU {mi' : sg_M} {np d' mc' ms' idx t b : Nat} {as rest vs : List sg_V} {q : vw_C} (g : sg_G w) (hd : decode mi.2.1 pc = .ok (.invokespecial idx, 3)) (hc : sg_cb mi' np) (hl : sg_ok (.methodLink mi.1.cls idx mi'.1)) (hin : sg_ok (.instanceMethod mi'.1)) (hsm : sg_ok (.sameMethod mi'.1.cls mi'.1.cls mi'.1.name mi'.1.desc)) (hsu : sg_ok (.superclass mi.1.cls mi'.1.cls)) (hno : mi'.1.name ≠ "<init>") (hq : vwCl[t % 200]? = some q) (ht : t % 200 < 100) (hst : st = as.reverse ++ sg_r b :: rest) (hb : h.2 b = some (t, vs)) (hnp : as.length = np) (hr : sg_cs rest ≤ 8) (hd' : d' + 1 ≤ d) (hk : k + mc' ≤ mc) (hn : n + ms' ≤ ms)
    (hm : sg_C w mi' d' mc' ms' (sg_r b :: as) h (sg_K w mi d mc ms Q pc lv rest (k + mc') (n + ms'))) : sg_R w mi d mc ms Q pc lv st h k n := by
  intro p e s m args below meth c H locs ls sv l hF hW hlv hL hs hR hO
  subst hst
  obtain ⟨xs, rs0, rfl, h1, h20⟩ := sg_vs_app hs
  obtain ⟨rs, rfl, h2⟩ := sg_vs_r h20
  have h3 := sg_vs_rev h1
  rw [List.reverse_reverse] at h3
  obtain ⟨-, cell, hcell, hvm, -, h9⟩ := hR.2.2.2 b _ hb
  rw [if_pos (show (t, vs).1 % 200 < 100 from ht)] at h9
  have hK := (va_K.moved hW.alike g.2.1).1 _ q hq
  obtain ⟨c1, c2, c3, c4, c5, c6, c7, c8, c9, c10, c11⟩ := sg_callB (mc := mc) (ms := ms) (mc' := mc') (ms' := ms') (args := args) g hW hc hl hd'
  refine sg_after hF hW hlv hL h2 hO (vx_runSU (Ts := []) (As := xs.reverse) (rest := rs) (C := q.1) hK.2 ⟨hF.1, hF.2.1, hF.2.2.1, hF.2.2.2.1, fun x hx => by cases hx⟩ hm ⟨⟨c1, c2, c3, c4, c5, c6⟩, c11, sg_wd g hW hsm, sg_wd g hW hsu, sg_wd g hW hin, c8, c7, hno, c10⟩ ⟨sg_blind, ⟨cell, hcell, hvm.2.1, by rw [h9.1]; exact hK.2.1⟩, fun U hU hWU => ⟨.ref b :: xs.reverse, rfl, ⟨rfl, h3⟩, State.WarmedH.trans hW hWU, by rw [hU]; exact hR⟩⟩ rfl (by rw [sg_vs_len h3]; exact hnp) hlv.1 (by rw [List.reverse_reverse]) (lv_room (by rw [sg_vs_cat h2]; exact hr)) hd ⟨hk, hn⟩)
/-- a method of a class above is named, another one is chosen -/
theorem sg_callU {x : MethodName} {bx : ByteArray} {mx : Nat} {rx : Option FieldType} {mi' : sg_M} {np d' mc' ms' idx t b : Nat} {as rest vs : List sg_V} {q : vw_C} (g : sg_G w) (hd : decode mi.2.1 pc = .ok (.invokevirtual idx, 3)) (hc : sg_cb mi' np) (hl : sg_ok (.methodLink mi.1.cls idx x)) (hsm : sg_ok (.sameMethod x.cls x.cls x.name x.desc)) (hix : sg_ok (.instanceMethod x)) (hcx : sg_ok (.code x bx mx rx)) (hxn : (x.cls ≠ "java/lang/invoke/MethodHandle" ∧ x.cls ≠ "java/lang/invoke/VarHandle") ∧ (parseMethodDescriptor x.desc).map (fun d => d.parameters.length) = some np) (hin : sg_ok (.instanceMethod mi'.1)) (hsel : sg_ok (.selects q.1 x mi'.1)) (hq : vwCl[t % 200]? = some q) (ht : t % 200 < 100) (hst : st = as.reverse ++ sg_r b :: rest) (hb : h.2 b = some (t, vs)) (hnp : as.length = np) (hr : sg_cs rest ≤ 8) (hd' : d' + 1 ≤ d) (hk : k + mc' ≤ mc) (hn : n + ms' ≤ ms)
    (hm : sg_C w mi' d' mc' ms' (sg_r b :: as) h (sg_K w mi d mc ms Q pc lv rest (k + mc') (n + ms'))) : sg_R w mi d mc ms Q pc lv st h k n := by
  intro p e s m args below meth c H locs ls sv l hF hW hlv hL hs hR hO
  subst hst
  obtain ⟨xs, rs0, rfl, h1, h20⟩ := sg_vs_app hs
  obtain ⟨rs, rfl, h2⟩ := sg_vs_r h20
  have h3 := sg_vs_rev h1
  rw [List.reverse_reverse] at h3
  obtain ⟨-, cell, hcell, hvm, -, h9⟩ := hR.2.2.2 b _ hb
  rw [if_pos (show (t, vs).1 % 200 < 100 from ht)] at h9
  have hK := (va_K.moved hW.alike g.2.1).1 _ q hq
  obtain ⟨g1, g2, g3, g4, g5⟩ := hc
  refine sg_after hF hW hlv hL h2 hO (vx_runU (Ts := []) (As := xs.reverse) (rest := rs) (C := q.1) (owner := x.cls) (x := x) (n := np) ⟨hF.1, hF.2.1, hF.2.2.1, hF.2.2.2.1, fun x hx => by cases hx⟩ hm ⟨⟨rfl, rfl, hd', by show 8 + (mi'.2.2.1 + 11) + 80 * d' ≤ 80 * d; omega, fun x hx a' U hU => by
      rw [List.mem_singleton] at hx
      subst hx
      exact sg_wd g (State.WarmedH.trans hW hU) g1, List.mem_cons_self⟩, sg_wd g hW g1, sg_wd g hW g2, hxn.1, fun sig h => by
      have h4 := hxn.2
      rw [h] at h4
      exact (Option.some.inj h4).symm, sg_wd g hW hl, sg_wd g hW hsm, va_Decl.of (args := args) (sg_wd g hW hix) (sg_wd g hW hcx), sg_wd g hW hsel, sg_wd g hW hin⟩ ⟨sg_blind, ⟨cell, hcell, hvm.2.1, by rw [h9.1]; exact hK.2.1⟩, fun U hU hWU => ⟨.ref b :: xs.reverse, rfl, ⟨rfl, h3⟩, State.WarmedH.trans hW hWU, by rw [hU]; exact hR⟩⟩ rfl (by rw [sg_vs_len h3]; exact hnp) hlv.1 (by rw [List.reverse_reverse]) (lv_room (by rw [sg_vs_cat h2]; exact hr)) hd ⟨hk, hn⟩)
theorem sg_cU0 {mi' : sg_M} {d' mc' ms' idx t b : Nat} {us : List sg_V} {q : vw_C} (g : sg_G w) (hd : decode mi.2.1 pc = .ok (.invokespecial idx, 3)) (hc : sg_cb mi' 0) (hl : sg_ok (.methodLink mi.1.cls idx mi'.1)) (hin : sg_ok (.instanceMethod mi'.1)) (hsm : sg_ok (.sameMethod mi'.1.cls mi'.1.cls mi'.1.name mi'.1.desc)) (hsu : sg_ok (.superclass mi.1.cls mi'.1.cls)) (hno : mi'.1.name ≠ "<init>") (hb : h.2 b = some (t, us)) (ht : t % 200 < 100) (hq : vwCl[t % 200]? = some q) (hr : sg_cs st ≤ 8) (hd' : d' + 1 ≤ d) (hk : k + mc' ≤ mc) (hn : n + ms' ≤ ms) (hm : sg_C w mi' d' mc' ms' (sg_r b :: []) h (sg_K w mi d mc ms Q pc lv st (k + mc') (n + ms'))) : sg_R w mi d mc ms Q pc lv (sg_r b :: st) h k n := sg_callSU (as := []) (rest := st) g hd hc hl hin hsm hsu hno hq ht rfl hb rfl hr hd' hk hn hm
theorem sg_cP1 {mi' : sg_M} {d' mc' ms' idx t b : Nat} {us : List sg_V} {q : vw_C} {a0 : sg_V} (g : sg_G w) (hd : decode mi.2.1 pc = .ok (.invokevirtual idx, 3)) (hc : sg_cb mi' 1) (hl : sg_ok (.methodLink mi.1.cls idx mi'.1)) (hin : sg_ok (.instanceMethod mi'.1)) (hsel : sg_sl w q.1 mi'.1) (hb : h.2 b = some (t, us)) (ht : t % 200 < 100) (hq : vwCl[t % 200]? = some q) (hr : sg_cs st ≤ 8) (hd' : d' + 1 ≤ d) (hk : k + mc' ≤ mc) (hn : n + ms' ≤ ms) (hm : sg_C w mi' d' mc' ms' (sg_r b :: [a0]) h (sg_K w mi d mc ms Q pc lv st (k + mc') (n + ms'))) : sg_R w mi d mc ms Q pc lv (a0 :: sg_r b :: st) h k n := sg_callVP (as := [a0]) (rest := st) g hd hc hl hin hsel hq ht rfl hb rfl hr hd' hk hn hm
theorem sg_cU1 {mi' : sg_M} {d' mc' ms' idx t b : Nat} {us : List sg_V} {q : vw_C} {a0 : sg_V} (g : sg_G w) (hd : decode mi.2.1 pc = .ok (.invokespecial idx, 3)) (hc : sg_cb mi' 1) (hl : sg_ok (.methodLink mi.1.cls idx mi'.1)) (hin : sg_ok (.instanceMethod mi'.1)) (hsm : sg_ok (.sameMethod mi'.1.cls mi'.1.cls mi'.1.name mi'.1.desc)) (hsu : sg_ok (.superclass mi.1.cls mi'.1.cls)) (hno : mi'.1.name ≠ "<init>") (hb : h.2 b = some (t, us)) (ht : t % 200 < 100) (hq : vwCl[t % 200]? = some q) (hr : sg_cs st ≤ 8) (hd' : d' + 1 ≤ d) (hk : k + mc' ≤ mc) (hn : n + ms' ≤ ms) (hm : sg_C w mi' d' mc' ms' (sg_r b :: [a0]) h (sg_K w mi d mc ms Q pc lv st (k + mc') (n + ms'))) : sg_R w mi d mc ms Q pc lv (a0 :: sg_r b :: st) h k n := sg_callSU (as := [a0]) (rest := st) g hd hc hl hin hsm hsu hno hq ht rfl hb rfl hr hd' hk hn hm
theorem sg_cP2 {mi' : sg_M} {d' mc' ms' idx t b : Nat} {us : List sg_V} {q : vw_C} {a0 a1 : sg_V} (g : sg_G w) (hd : decode mi.2.1 pc = .ok (.invokevirtual idx, 3)) (hc : sg_cb mi' 2) (hl : sg_ok (.methodLink mi.1.cls idx mi'.1)) (hin : sg_ok (.instanceMethod mi'.1)) (hsel : sg_sl w q.1 mi'.1) (hb : h.2 b = some (t, us)) (ht : t % 200 < 100) (hq : vwCl[t % 200]? = some q) (hr : sg_cs st ≤ 8) (hd' : d' + 1 ≤ d) (hk : k + mc' ≤ mc) (hn : n + ms' ≤ ms) (hm : sg_C w mi' d' mc' ms' (sg_r b :: [a0, a1]) h (sg_K w mi d mc ms Q pc lv st (k + mc') (n + ms'))) : sg_R w mi d mc ms Q pc lv (a1 :: a0 :: sg_r b :: st) h k n := sg_callVP (as := [a0, a1]) (rest := st) g hd hc hl hin hsel hq ht rfl hb rfl hr hd' hk hn hm
end

