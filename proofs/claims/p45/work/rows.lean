section
-- ===== PART A: goes FIRST, ahead of the names: the tables' words, and 'selects' of the private methods out of them =====
/-- a private method of a class that the tables say can be made, by its rows of tables_1 -/
def lw_okq (q : MethodName × Nat) : Prop := (q.1.cls ≠ "java/lang/invoke/MethodHandle" ∧ q.1.cls ≠ "java/lang/invoke/VarHandle") ∧ Cond.instantiable q.1.cls q.2 ∈ tables_1 ∧ Cond.privateMethod q.1 ∈ tables_1 ∧ Cond.instanceMethod q.1 ∈ tables_1
theorem lw_p0 : lw_okq (⟨"Signkinds", "rowOf", "(I)LSignkinds$Line;"⟩, 4) := ⟨⟨by decide +kernel, by decide +kernel⟩, List.mem_of_getElem? (i := 32) (by decide +kernel), List.mem_of_getElem? (i := 152) (by decide +kernel), List.mem_of_getElem? (i := 153) (by decide +kernel)⟩
theorem lw_p1 : lw_okq (⟨"java/lang/Throwable", "fillInStackTrace", "(I)Ljava/lang/Throwable;"⟩, 6) := ⟨⟨by decide +kernel, by decide +kernel⟩, List.mem_of_getElem? (i := 194) (by decide +kernel), List.mem_of_getElem? (i := 192) (by decide +kernel), List.mem_of_getElem? (i := 193) (by decide +kernel)⟩
theorem lw_p2 : lw_okq (⟨"Signkinds", "trackOf", "(I)LSignkinds$Line;"⟩, 4) := ⟨⟨by decide +kernel, by decide +kernel⟩, List.mem_of_getElem? (i := 32) (by decide +kernel), List.mem_of_getElem? (i := 273) (by decide +kernel), List.mem_of_getElem? (i := 274) (by decide +kernel)⟩
theorem lw_p3 : lw_okq (⟨"Signkinds", "withRow", "(JI)J"⟩, 4) := ⟨⟨by decide +kernel, by decide +kernel⟩, List.mem_of_getElem? (i := 32) (by decide +kernel), List.mem_of_getElem? (i := 320) (by decide +kernel), List.mem_of_getElem? (i := 321) (by decide +kernel)⟩
theorem lw_p4 : lw_okq (⟨"Signkinds", "withTrack", "(JI)J"⟩, 4) := ⟨⟨by decide +kernel, by decide +kernel⟩, List.mem_of_getElem? (i := 32) (by decide +kernel), List.mem_of_getElem? (i := 393) (by decide +kernel), List.mem_of_getElem? (i := 394) (by decide +kernel)⟩
theorem lw_p5 : lw_okq (⟨"Signkinds", "shorten", "(LSignkinds$Line;I)I"⟩, 4) := ⟨⟨by decide +kernel, by decide +kernel⟩, List.mem_of_getElem? (i := 32) (by decide +kernel), List.mem_of_getElem? (i := 521) (by decide +kernel), List.mem_of_getElem? (i := 522) (by decide +kernel)⟩
theorem lw_p6 : lw_okq (⟨"SignkindsModel", "start", "(ZI)Z"⟩, 4) := ⟨⟨by decide +kernel, by decide +kernel⟩, List.mem_of_getElem? (i := 1183) (by decide +kernel), List.mem_of_getElem? (i := 1243) (by decide +kernel), List.mem_of_getElem? (i := 1244) (by decide +kernel)⟩
theorem lw_p7 : lw_okq (⟨"SignkindsModel", "refuse", "(ZI)Z"⟩, 4) := ⟨⟨by decide +kernel, by decide +kernel⟩, List.mem_of_getElem? (i := 1183) (by decide +kernel), List.mem_of_getElem? (i := 1247) (by decide +kernel), List.mem_of_getElem? (i := 1248) (by decide +kernel)⟩
theorem lw_p8 : lw_okq (⟨"SignkindsModel", "set", "(I[I)I"⟩, 4) := ⟨⟨by decide +kernel, by decide +kernel⟩, List.mem_of_getElem? (i := 1183) (by decide +kernel), List.mem_of_getElem? (i := 1257) (by decide +kernel), List.mem_of_getElem? (i := 1258) (by decide +kernel)⟩
theorem lw_p9 : lw_okq (⟨"java/util/ArrayList", "add", "(Ljava/lang/Object;[Ljava/lang/Object;I)V"⟩, 3) := ⟨⟨by decide +kernel, by decide +kernel⟩, List.mem_of_getElem? (i := 1191) (by decide +kernel), List.mem_of_getElem? (i := 1265) (by decide +kernel), List.mem_of_getElem? (i := 1266) (by decide +kernel)⟩
theorem lw_p10 : lw_okq (⟨"java/util/ArrayList", "grow", "()[Ljava/lang/Object;"⟩, 3) := ⟨⟨by decide +kernel, by decide +kernel⟩, List.mem_of_getElem? (i := 1191) (by decide +kernel), List.mem_of_getElem? (i := 1269) (by decide +kernel), List.mem_of_getElem? (i := 1270) (by decide +kernel)⟩
theorem lw_p11 : lw_okq (⟨"java/util/ArrayList", "grow", "(I)[Ljava/lang/Object;"⟩, 3) := ⟨⟨by decide +kernel, by decide +kernel⟩, List.mem_of_getElem? (i := 1191) (by decide +kernel), List.mem_of_getElem? (i := 1273) (by decide +kernel), List.mem_of_getElem? (i := 1274) (by decide +kernel)⟩
theorem lw_p12 : lw_okq (⟨"java/util/ArrayList", "fastRemove", "([Ljava/lang/Object;I)V"⟩, 3) := ⟨⟨by decide +kernel, by decide +kernel⟩, List.mem_of_getElem? (i := 1191) (by decide +kernel), List.mem_of_getElem? (i := 1317) (by decide +kernel), List.mem_of_getElem? (i := 1318) (by decide +kernel)⟩
theorem lw_p13 : lw_okq (⟨"SignkindsModel", "cased", "(IZ)I"⟩, 4) := ⟨⟨by decide +kernel, by decide +kernel⟩, List.mem_of_getElem? (i := 1183) (by decide +kernel), List.mem_of_getElem? (i := 1338) (by decide +kernel), List.mem_of_getElem? (i := 1339) (by decide +kernel)⟩
theorem lw_p14 : lw_okq (⟨"SignkindsModel", "behind", "(I[I)I"⟩, 4) := ⟨⟨by decide +kernel, by decide +kernel⟩, List.mem_of_getElem? (i := 1183) (by decide +kernel), List.mem_of_getElem? (i := 1420) (by decide +kernel), List.mem_of_getElem? (i := 1421) (by decide +kernel)⟩
theorem lw_p15 : lw_okq (⟨"SignkindsModel", "codes", "(I)[I"⟩, 4) := ⟨⟨by decide +kernel, by decide +kernel⟩, List.mem_of_getElem? (i := 1183) (by decide +kernel), List.mem_of_getElem? (i := 1455) (by decide +kernel), List.mem_of_getElem? (i := 1456) (by decide +kernel)⟩
def lw_privs_1 : List (MethodName × Nat) := [(⟨"Signkinds", "rowOf", "(I)LSignkinds$Line;"⟩, 4), (⟨"java/lang/Throwable", "fillInStackTrace", "(I)Ljava/lang/Throwable;"⟩, 6), (⟨"Signkinds", "trackOf", "(I)LSignkinds$Line;"⟩, 4), (⟨"Signkinds", "withRow", "(JI)J"⟩, 4), (⟨"Signkinds", "withTrack", "(JI)J"⟩, 4), (⟨"Signkinds", "shorten", "(LSignkinds$Line;I)I"⟩, 4), (⟨"SignkindsModel", "start", "(ZI)Z"⟩, 4), (⟨"SignkindsModel", "refuse", "(ZI)Z"⟩, 4), (⟨"SignkindsModel", "set", "(I[I)I"⟩, 4), (⟨"java/util/ArrayList", "add", "(Ljava/lang/Object;[Ljava/lang/Object;I)V"⟩, 3), (⟨"java/util/ArrayList", "grow", "()[Ljava/lang/Object;"⟩, 3), (⟨"java/util/ArrayList", "grow", "(I)[Ljava/lang/Object;"⟩, 3), (⟨"java/util/ArrayList", "fastRemove", "([Ljava/lang/Object;I)V"⟩, 3), (⟨"SignkindsModel", "cased", "(IZ)I"⟩, 4), (⟨"SignkindsModel", "behind", "(I[I)I"⟩, 4), (⟨"SignkindsModel", "codes", "(I)[I"⟩, 4)]
theorem lw_r1 : ∀ q ∈ lw_privs_1, lw_okq q := List.forall_mem_cons.mpr ⟨lw_p0, List.forall_mem_cons.mpr ⟨lw_p1, List.forall_mem_cons.mpr ⟨lw_p2, List.forall_mem_cons.mpr ⟨lw_p3, List.forall_mem_cons.mpr ⟨lw_p4, List.forall_mem_cons.mpr ⟨lw_p5, List.forall_mem_cons.mpr ⟨lw_p6, List.forall_mem_cons.mpr ⟨lw_p7, List.forall_mem_cons.mpr ⟨lw_p8, List.forall_mem_cons.mpr ⟨lw_p9, List.forall_mem_cons.mpr ⟨lw_p10, List.forall_mem_cons.mpr ⟨lw_p11, List.forall_mem_cons.mpr ⟨lw_p12, List.forall_mem_cons.mpr ⟨lw_p13, List.forall_mem_cons.mpr ⟨lw_p14, List.forall_mem_cons.mpr ⟨lw_p15, fun _ h => absurd h List.not_mem_nil⟩⟩⟩⟩⟩⟩⟩⟩⟩⟩⟩⟩⟩⟩⟩⟩
theorem lw_p16 : lw_okq (⟨"SignkindsModel", "codeOf", "(II)I"⟩, 4) := ⟨⟨by decide +kernel, by decide +kernel⟩, List.mem_of_getElem? (i := 1183) (by decide +kernel), List.mem_of_getElem? (i := 1459) (by decide +kernel), List.mem_of_getElem? (i := 1460) (by decide +kernel)⟩
theorem lw_p17 : lw_okq (⟨"SignkindsModel", "kindTold", "(II)Z"⟩, 4) := ⟨⟨by decide +kernel, by decide +kernel⟩, List.mem_of_getElem? (i := 1183) (by decide +kernel), List.mem_of_getElem? (i := 1483) (by decide +kernel), List.mem_of_getElem? (i := 1484) (by decide +kernel)⟩
theorem lw_p18 : lw_okq (⟨"SignkindsModel", "countOf", "(II)I"⟩, 4) := ⟨⟨by decide +kernel, by decide +kernel⟩, List.mem_of_getElem? (i := 1183) (by decide +kernel), List.mem_of_getElem? (i := 1542) (by decide +kernel), List.mem_of_getElem? (i := 1543) (by decide +kernel)⟩
theorem lw_p19 : lw_okq (⟨"SignkindsModel", "toldOf", "(II)I"⟩, 4) := ⟨⟨by decide +kernel, by decide +kernel⟩, List.mem_of_getElem? (i := 1183) (by decide +kernel), List.mem_of_getElem? (i := 1577) (by decide +kernel), List.mem_of_getElem? (i := 1578) (by decide +kernel)⟩
theorem lw_p20 : lw_okq (⟨"SignkindsModel", "valuesOf", "(I)I"⟩, 4) := ⟨⟨by decide +kernel, by decide +kernel⟩, List.mem_of_getElem? (i := 1183) (by decide +kernel), List.mem_of_getElem? (i := 1591) (by decide +kernel), List.mem_of_getElem? (i := 1592) (by decide +kernel)⟩
theorem lw_p21 : lw_okq (⟨"SignkindsModel", "wordsOf", "(I)Ljava/util/ArrayList;"⟩, 4) := ⟨⟨by decide +kernel, by decide +kernel⟩, List.mem_of_getElem? (i := 1183) (by decide +kernel), List.mem_of_getElem? (i := 1599) (by decide +kernel), List.mem_of_getElem? (i := 1600) (by decide +kernel)⟩
theorem lw_p22 : lw_okq (⟨"SignkindsModel", "areAlike", "(II)Z"⟩, 4) := ⟨⟨by decide +kernel, by decide +kernel⟩, List.mem_of_getElem? (i := 1183) (by decide +kernel), List.mem_of_getElem? (i := 1619) (by decide +kernel), List.mem_of_getElem? (i := 1620) (by decide +kernel)⟩
theorem lw_p23 : lw_okq (⟨"SignkindsModel", "orderOf", "([I[I)I"⟩, 4) := ⟨⟨by decide +kernel, by decide +kernel⟩, List.mem_of_getElem? (i := 1183) (by decide +kernel), List.mem_of_getElem? (i := 1627) (by decide +kernel), List.mem_of_getElem? (i := 1628) (by decide +kernel)⟩
theorem lw_p24 : lw_okq (⟨"SignkindsModel", "trackTold", "(II)I"⟩, 4) := ⟨⟨by decide +kernel, by decide +kernel⟩, List.mem_of_getElem? (i := 1183) (by decide +kernel), List.mem_of_getElem? (i := 1670) (by decide +kernel), List.mem_of_getElem? (i := 1671) (by decide +kernel)⟩
theorem lw_p25 : lw_okq (⟨"SignkindsModel", "isNoPlace", "(II)Z"⟩, 4) := ⟨⟨by decide +kernel, by decide +kernel⟩, List.mem_of_getElem? (i := 1183) (by decide +kernel), List.mem_of_getElem? (i := 1678) (by decide +kernel), List.mem_of_getElem? (i := 1679) (by decide +kernel)⟩
theorem lw_p26 : lw_okq (⟨"SignkindsModel", "houseOf", "(I)I"⟩, 4) := ⟨⟨by decide +kernel, by decide +kernel⟩, List.mem_of_getElem? (i := 1183) (by decide +kernel), List.mem_of_getElem? (i := 1694) (by decide +kernel), List.mem_of_getElem? (i := 1695) (by decide +kernel)⟩
def lw_privs_2 : List (MethodName × Nat) := [(⟨"SignkindsModel", "codeOf", "(II)I"⟩, 4), (⟨"SignkindsModel", "kindTold", "(II)Z"⟩, 4), (⟨"SignkindsModel", "countOf", "(II)I"⟩, 4), (⟨"SignkindsModel", "toldOf", "(II)I"⟩, 4), (⟨"SignkindsModel", "valuesOf", "(I)I"⟩, 4), (⟨"SignkindsModel", "wordsOf", "(I)Ljava/util/ArrayList;"⟩, 4), (⟨"SignkindsModel", "areAlike", "(II)Z"⟩, 4), (⟨"SignkindsModel", "orderOf", "([I[I)I"⟩, 4), (⟨"SignkindsModel", "trackTold", "(II)I"⟩, 4), (⟨"SignkindsModel", "isNoPlace", "(II)Z"⟩, 4), (⟨"SignkindsModel", "houseOf", "(I)I"⟩, 4)]
theorem lw_r2 : ∀ q ∈ lw_privs_2, lw_okq q := List.forall_mem_cons.mpr ⟨lw_p16, List.forall_mem_cons.mpr ⟨lw_p17, List.forall_mem_cons.mpr ⟨lw_p18, List.forall_mem_cons.mpr ⟨lw_p19, List.forall_mem_cons.mpr ⟨lw_p20, List.forall_mem_cons.mpr ⟨lw_p21, List.forall_mem_cons.mpr ⟨lw_p22, List.forall_mem_cons.mpr ⟨lw_p23, List.forall_mem_cons.mpr ⟨lw_p24, List.forall_mem_cons.mpr ⟨lw_p25, List.forall_mem_cons.mpr ⟨lw_p26, fun _ h => absurd h List.not_mem_nil⟩⟩⟩⟩⟩⟩⟩⟩⟩⟩⟩
def lw_privs : List (MethodName × Nat) := lw_privs_1 ++ (lw_privs_2)
def lw_tbl : List Cond := k2_sels lw_privs ++ tables_1
theorem lw_privs_ok : ∀ q ∈ lw_privs, lw_okq q := by
  show ∀ q ∈ lw_privs_1 ++ (lw_privs_2), lw_okq q
  exact List.forall_mem_append.mpr ⟨lw_r1, lw_r2⟩
end
section
/-! ===== BEGIN words of one list among another's, by their places ===== -/
theorem goodIn_r {big : List Cond} (ws : List Cond) (ps : List Nat) (hp : ws = ps.filterMap (fun i => big[i]?)) (h : ws.all goodWord = true) : GoodIn big ws := by
  intro w hw
  have h1 := List.all_eq_true.mp h w hw
  rw [hp] at hw
  obtain ⟨i, -, hi⟩ := List.mem_filterMap.mp hw
  have hm : w ∈ big := by first | exact List.mem_of_getElem? hi | exact List.getElem?_mem hi
  exact ⟨hm, good_of_word h1⟩
theorem goodIn_app {big a b : List Cond} (ha : GoodIn big a) (hb : GoodIn big b) : GoodIn big (a ++ b) := fun w h => (List.mem_append.mp h).elim (ha w) (hb w)
theorem goodIn_ca {big a b : List Cond} {c : Cond} (ha : GoodIn big (c :: a)) (hb : GoodIn big b) : GoodIn big (c :: (a ++ b)) := fun w h => (List.mem_cons.mp h).elim (fun e => ha w (List.mem_cons.mpr (Or.inl e))) (fun h => (List.mem_append.mp h).elim (fun h => ha w (List.mem_cons.mpr (Or.inr h))) (hb w))
theorem goodIn_sub {big ws : List Cond} (hm : ∀ w ∈ ws, w ∈ big) (h : ws.all goodWord = true) : GoodIn big ws := fun w hw => ⟨hm w hw, good_of_word (List.all_eq_true.mp h w hw)⟩
/-! ===== END ===== -/

/-! ===== BEGIN exceptions that leave a method, and their catching by the caller (launches without stack traces) ===== -/
section VXA
/-! The laws vx_back, vx_callV, vx_callS, vx_callSW, vx_throw0, vx_throwS follow proofs of the library, with one case more: JvmDerived/Free/Laws.lean (Back.of_free), Shelf42/LK1.lean (callV, callS), Shelf/KitTraced.lean (throwNew0V, throwNewS). -/
/-- where a method has thrown q: the class by its name, the cell, what was written, the world -/
def vx_T (XC : String → State → State → Prop) (st : State) (q : Addr) (t : State) (mc ms : Nat) (free : Addr → Prop) : Prop :=
  ∃ (E : String) (ce : Cell) (L : List Loc), XC E st t ∧ t.heap[q]? = some ce ∧ ce.vm = .none ∧ st.vm.findClass E = some ce.cls ∧ st.WarmedH t.vm ∧ st.sameButNew ({ t with vm := st.vm } : State) L mc ms ∧ ∀ z ∈ L, free z.base
def vx_Q (Qc : Array Value → State → Outcome → State → Prop) (XC : String → State → State → Prop) (mc ms : Nat) (free : Addr → Prop) : Array Value → State → Outcome → State → Prop := fun a st o t =>
  (Qc a st o t ∧ ∃ L, FrameEnd st o t L mc ms ∧ ∀ q ∈ L, free q.base) ∨ ∃ q, o = .threw q ∧ vx_T XC st q t mc ms free
/-- a callee that returns or throws -/
def vx_Met (l : Launch) (y : MethodName) (ws : List Cond) (rm : Room) (Pc : Array Value → State → Prop) (Qc : Array Value → State → Outcome → State → Prop) (XC : String → State → State → Prop) (mc ms : Nat) (free : Addr → Prop) : Prop :=
  MetFree l y (headSpec ws rm) Pc (fun _ _ _ _ _ => True) (vx_Q Qc XC mc ms free)
def vx_Post (XC : String → State → State → Prop) (mc ms : Nat) (free : Addr → Prop) : Pt → Array Value → Addr → Pt → Prop := fun A a q B =>
  ∃ (g : JFrame) (mk : MethodId) (t : State) (L : List Loc) (E : String) (ce : Cell), B.U.heap = t.heap ∧ B.U.vm = t.vm ∧ XC E (A.U.calling g mk a) t ∧ t.heap[q]? = some ce ∧ ce.vm = .none ∧ A.U.vm.findClass E = some ce.cls ∧ B.locs = A.locs ++ L ∧ (∀ z ∈ L, free z.base) ∧ B.cells = A.cells + mc ∧ B.slots = A.slots + ms
def vx_Back (l : Launch) (R : Room) (p : Program) (e : Env) (below : List Frame) (s : State) (sargs : Array Value) (y : MethodName) (len W9 : Nat)
    (Pre : Pt → Array Value → Prop) (Post : Pt → Array Value → Option Value → Pt → Prop) (PostX : Pt → Array Value → Addr → Pt → Prop) : Prop :=
  ∀ (m : MethodId) (meth : Method) (c : Code) (A : Pt) (g : JFrame) (ig : Instr) (mk : MethodId) (a : Array Value),
    Stand p l e R s m sargs below meth c A.U A.locs A.cells A.slots → g.method = m → g.locals.size = c.maxLocals → decode c.code g.pc = .ok (ig, len) →
    2 * g.monitorRoom + (g.stack.map fun v => v.category).sum ≤ W9 → A.U.methodNamed? y = some mk → Pre A a →
    (∃ (v : Option Value) (B : Pt), Stand p l e R s m sargs below meth c B.U B.locs B.cells B.slots ∧ Post A a v B ∧
      Steps p.tables e below (doInvoke e (A.U.setTop g) [] mk a).1 (B.U.setTop { g with pc := g.pc + len, stack := v.toList ++ g.stack })) ∨
    (∃ (q : Addr) (B : Pt), Stand p l e R s m sargs below meth c B.U B.locs B.cells B.slots ∧ PostX A a q B ∧
      Steps p.tables e below (doInvoke e (A.U.setTop g) [] mk a).1 ((B.U.setTop g).pushFrame (.throwing q)))
section Payer
variable {l : Launch} {R : Room} {p : Program} {e : Env} {below : List Frame} {s : State} {sargs : Array Value} {y : MethodName} {len W9 : Nat}
theorem vx_back {ws : List Cond} {rm : Room} {Pc : Array Value → State → Prop} {Qc : Array Value → State → Outcome → State → Prop} {XC : String → State → State → Prop} {mc ms : Nat} {free : Addr → Prop} {bytes : ByteArray} {maxL : Nat} {ret : Option FieldType}
    (hM : vx_Met l y ws rm Pc Qc XC mc ms free) (hblind : FrameBlind Pc) (hrc : rm.cells = mc) (hrs : rm.slots = ms)
    (hframes : rm.frames + 1 ≤ R.frames) (hlocals : W9 + (maxL + 11) + rm.locals ≤ R.locals)
    (hws : ∀ w ∈ ws, ∀ a' U, s.WarmedH U.vm → w.before a' U = true) (hcode : Cond.code y bytes maxL ret ∈ ws) (hinit : ∀ a' U, s.WarmedH U.vm → (Cond.initialized y.cls).before a' U = true) :
    vx_Back l R p e below s sargs y len W9 (PreOf R mc ms Pc) (PostOf Qc mc ms free) (vx_Post XC mc ms free) := by
  intro m meth c A g ig mk a X hg hsize hdg hW hn hp
  have h1 : (headSpec ws rm).pre.before a A.U = true := atoms_intro fun w hw => hws w hw _ _ X.warmed
  have h2 : (Cond.code y bytes maxL ret).before a A.U = true := hws _ hcode _ _ X.warmed
  have h3 : (Cond.initialized y.cls).before a A.U = true := hinit _ _ X.warmed
  have h4 : A.cells + (headSpec ws rm).room.cells ≤ R.cells := by rw [show (headSpec ws rm).room.cells = mc from hrc]; exact hp.1
  have h5 : A.slots + (headSpec ws rm).room.slots ≤ R.slots := by rw [show (headSpec ws rm).room.slots = ms from hrs]; exact hp.2.1
  have hPc : Pc a (A.U.calling g mk a) := hblind _ _ _ _ hp.2.2
  obtain ⟨U, Ls, c0, s0⟩ := A
  dsimp only [Pt.U, Pt.locs, Pt.cells, Pt.slots] at h1 h2 h3 h4 h5 X hn hPc ⊢
  obtain ⟨methY, cY, hmY, hcY, -, hlY, -, -, -, -⟩ := Cond.code_spec hn h2
  obtain ⟨kY, hkY, -⟩ := className_of_methodNamed hn
  have hinitY : kY.init = .initialized := Cond.initialized_spec (findClass_of_methodNamed hn) hkY h3
  have h : At U g.method c below := by rw [hg]; exact X.here
  have hlocals9 : W9 + (maxL + 11) + (headSpec ws rm).room.locals ≤ R.locals := hlocals
  have happ : (headSpec ws rm).appliesLoose y e.platform (U.calling g mk a) = true :=
    Spec.appliesLoose_calling (g := g) h hdg hn hkY hinitY
      (X.room_calling (g := g) (R' := (headSpec ws rm).room) hsize hmY hcY hframes (by rw [hlY]; omega) h4 h5) h1
  obtain ⟨mid, hmid⟩ := h.above
  have hfr : (U.setTop g).frames = (.java g :: mid) ++ below := by rw [State.frames_setTop' g h.top, hmid]; rfl
  obtain ⟨o, s₂, hsteps, -, hend, hq⟩ := Steps.callFree hM p X.admits X.cas X.clock (acts := []) hfr happ hPc trivial
  have hq' : vx_Q Qc XC mc ms free a (U.calling g mk a) o s₂ := hq
  rw [State.frames_setTop' g h.top] at hend
  obtain ⟨g₀, hg0⟩ := Option.isSome_iff_exists.mp h.top
  obtain ⟨r, hr⟩ := State.topJava?_eq_some.mp hg0
  have hr' : (({ U with heap := s₂.heap, slotsUsed := s₂.slotsUsed } : State).setVm s₂.vm).frames = .java g₀ :: r := hr
  rcases hq' with ⟨hqc, L, hfe, hL⟩ | ⟨q, rfl, E, ce, L, hx, hce, hcv, hcl, hW₂, hsm, hL⟩
  · obtain ⟨⟨v, rfl⟩, hW₂, e2, q2, q3, q4, q5, q6⟩ := id hfe
    have e3 : s₂ = ({ (U.calling g mk a).setFrames s₂.frames with heap := s₂.heap, slotsUsed := s₂.slotsUsed } : State).setVm s₂.vm := by
      have : s₂ = ({ s₂ with vm := (U.calling g mk a).vm } : State).setVm s₂.vm := rfl
      rw [e2] at this
      exact this
    obtain ⟨c₂, i₂, len₂, hc₂, hd₂, hf₂⟩ := hend
    have hW' : U.WarmedH s₂.vm := hW₂
    have hcc : c₂ = c := by
      have h1 : s₂.code? g.method = U.code? g.method := by
        rw [State.code?_eq, State.code?_eq, hW'.alike.method?]
      exact Option.some.inj (hc₂.symm.trans (h1.trans h.code))
    subst hcc
    have hlen : len₂ = len := by rw [hdg] at hd₂; cases hd₂; rfl
    subst hlen
    have hs₂ : s₂ = (({ U with heap := s₂.heap, slotsUsed := s₂.slotsUsed } : State).setVm s₂.vm).setTop { g with pc := g.pc + len₂, stack := v.toList ++ g.stack } := by
      refine e3.trans ?_
      rw [hf₂, State.calling_eq h.top, State.setFrames_setFrames, State.setTop_of_frames _ hr', hr]
      rfl
    have hsame : U.sameButNew ({ U with heap := s₂.heap, slotsUsed := s₂.slotsUsed } : State) L mc ms := by
      refine ⟨?_, q2, q3, q4, q5, q6⟩
      obtain ⟨t, ht, -⟩ := State.frames_cons hr
      show ({ U with heap := s₂.heap, slotsUsed := s₂.slotsUsed } : State) = { U.setFrames U.frames with heap := s₂.heap, slotsUsed := s₂.slotsUsed }
      rw [State.setFrames_self ht]
    subst hg
    refine Or.inl ⟨v, ⟨(({ U with heap := s₂.heap, slotsUsed := s₂.slotsUsed } : State).setVm s₂.vm), Ls ++ L, c0 + mc, s0 + ms⟩,
      ⟨X.admits, X.cas, X.clock, X.frames, X.room, X.hears, X.method, X.code, (X.here.setHeapUsed s₂.heap s₂.slotsUsed).setVm hW'.alike, X.tail, State.WarmedH.trans X.warmed hW', X.limits, X.bytes, X.same.trans (hsame.setVm s.vm)⟩,
      ⟨g, mk, s₂, L, rfl, rfl, hqc, rfl, hL, rfl, rfl⟩, ?_⟩
    show Steps p.tables e below _ ((({ U with heap := s₂.heap, slotsUsed := s₂.slotsUsed } : State).setVm s₂.vm).setTop { g with pc := g.pc + len₂, stack := v.toList ++ g.stack })
    rw [← hs₂]
    exact hsteps
  · obtain ⟨e2, q2, q3, q4, q5, q6⟩ := id hsm
    have e3 : s₂ = ({ (U.calling g mk a).setFrames s₂.frames with heap := s₂.heap, slotsUsed := s₂.slotsUsed } : State).setVm s₂.vm := by
      have : s₂ = ({ s₂ with vm := (U.calling g mk a).vm } : State).setVm s₂.vm := rfl
      rw [e2] at this
      exact this
    have hf₂ : s₂.frames = .throwing q :: .java g :: U.frames.tail := hend
    have hW' : U.WarmedH s₂.vm := hW₂
    have hs₂ : s₂ = ((({ U with heap := s₂.heap, slotsUsed := s₂.slotsUsed } : State).setVm s₂.vm).setTop g).pushFrame (.throwing q) := by
      refine e3.trans ?_
      rw [hf₂, State.calling_eq h.top, State.setFrames_setFrames, State.pushFrame, State.frames_setTop _ hr', State.setTop_of_frames _ hr', State.setFrames_setFrames, hr]
      rfl
    have hsame : U.sameButNew ({ U with heap := s₂.heap, slotsUsed := s₂.slotsUsed } : State) L mc ms := by
      refine ⟨?_, q2, q3, q4, q5, q6⟩
      obtain ⟨t, ht, -⟩ := State.frames_cons hr
      show ({ U with heap := s₂.heap, slotsUsed := s₂.slotsUsed } : State) = { U.setFrames U.frames with heap := s₂.heap, slotsUsed := s₂.slotsUsed }
      rw [State.setFrames_self ht]
    subst hg
    refine Or.inr ⟨q, ⟨(({ U with heap := s₂.heap, slotsUsed := s₂.slotsUsed } : State).setVm s₂.vm), Ls ++ L, c0 + mc, s0 + ms⟩,
      ⟨X.admits, X.cas, X.clock, X.frames, X.room, X.hears, X.method, X.code, (X.here.setHeapUsed s₂.heap s₂.slotsUsed).setVm hW'.alike, X.tail, State.WarmedH.trans X.warmed hW', X.limits, X.bytes, X.same.trans (hsame.setVm s.vm)⟩,
      ⟨g, mk, s₂, L, E, ce, rfl, rfl, hx, hce, hcv, hcl, rfl, hL, rfl, rfl⟩, ?_⟩
    show Steps p.tables e below _ (((({ U with heap := s₂.heap, slotsUsed := s₂.slotsUsed } : State).setVm s₂.vm).setTop g).pushFrame (.throwing q))
    rw [← hs₂]
    exact hsteps
end Payer
section Calls
variable {p : Program} {l : Launch} {e : Env} {R : Room} {s : State} {m : MethodId} {args : Array Value} {below : List Frame} {meth : Method} {c : Code} {T : State} {locs : List Loc} {cells slots : Nat}
theorem vx_callV (X : Stand p l e R s m args below meth c T locs cells slots) (hexec : p.tables.exec = Jvm.exec) {own C : String} {index : Nat} {y : MethodName} {bytes : ByteArray} {maxL : Nat} {ret : Option FieldType}
    (hown : s.vm.findClass own = some m.cls) (hlink : (Cond.methodLink own index y).before args s = true) (hinst : (Cond.instanceMethod y).before args s = true) (hsel : (Cond.selects C y y).before args s = true)
    (hcode : (Cond.code y bytes maxL ret).before args s = true) (hy : y.cls ≠ "java/lang/invoke/MethodHandle" ∧ y.cls ≠ "java/lang/invoke/VarHandle")
    {W9 : Nat} {Pre : Pt → Array Value → Prop} {Post : Pt → Array Value → Option Value → Pt → Prop} {PostX : Pt → Array Value → Addr → Pt → Prop} (hK : vx_Back l R p e below s args y 3 W9 Pre Post PostX)
    {b : Addr} {cellB : Cell} (hcell : T.heap[b]? = some cellB) (hobj : cellB.vm.isStatics = false) (hcls : s.vm.findClass C = some cellB.cls)
    {g : JFrame} (hg : g.method = m) (hsize : g.locals.size = c.maxLocals) {argsL rest : List Value} (hlen : ∀ sig, parseMethodDescriptor y.desc = some sig → argsL.length = sig.parameters.length)
    (hstack : g.stack = argsL.reverse ++ .ref b :: rest) (hW : 2 * g.monitorRoom + (rest.map fun v => v.category).sum ≤ W9) (hdg : decode c.code g.pc = .ok (.invokevirtual index, 3))
    (hpre : ∀ vm₁, s.WarmedH vm₁ → Pre ⟨T.setVm vm₁, locs, cells, slots⟩ (Value.ref b :: argsL).toArray) :
    (∃ (v : Option Value) (vm₁ : Vm) (B : Pt), s.WarmedH vm₁ ∧ Stand p l e R s m args below meth c B.U B.locs B.cells B.slots ∧ Post ⟨T.setVm vm₁, locs, cells, slots⟩ (Value.ref b :: argsL).toArray v B ∧
      ∀ target, Steps p.tables e below (B.U.setTop { g with pc := g.pc + 3, stack := v.toList ++ rest }) target → Steps p.tables e below (T.setTop g) target) ∨
    (∃ (q : Addr) (vm₁ : Vm) (B : Pt), s.WarmedH vm₁ ∧ Stand p l e R s m args below meth c B.U B.locs B.cells B.slots ∧ PostX ⟨T.setVm vm₁, locs, cells, slots⟩ (Value.ref b :: argsL).toArray q B ∧
      Steps p.tables e below (T.setTop g) ((B.U.setTop { g with stack := rest }).pushFrame (.throwing q))) := by
  obtain ⟨mk, methM, hnamed, hmethM, hstM, habM⟩ := Cond.instanceMethod_spec hinst
  obtain ⟨methM', cM, hmethM', -, -, -, -, -, -, hsigM⟩ := Cond.code_spec hnamed hcode
  cases hmethM.symm.trans hmethM'
  obtain ⟨c2, r2, m2, q1, q2, q3, q4, kP, hkP, hkPi⟩ := Cond.selects_spec hsel
  cases hcls.symm.trans q1
  cases (State.methodFound?_of_named hnamed hy).symm.trans q2
  cases hnamed.symm.trans q3
  have hselP : selectMethod e.platform s.vm cellB.cls mk = .method mk := by rw [Launch.admits_selectMethod X.admits]; exact q4
  obtain ⟨vm₁, X₁, hstep₁⟩ := X.invokevirtual hexec hown hlink hnamed hmethM hstM hkP hkPi hy (a := b) (cell := cellB) hcell
    (fun z h => by rw [h] at hobj; cases hobj) hselP hmethM habM hkP hkPi (g := g) hg (argsL := argsL) (rest := rest) (hlen _ hsigM) hstack hdg
  rcases hK m meth c ⟨T.setVm vm₁, locs, cells, slots⟩ { g with stack := rest } (.invokevirtual index) mk (Value.ref b :: argsL).toArray X₁ hg hsize hdg hW (X₁.named hnamed) (hpre vm₁ X₁.warmed) with ⟨v, B, X', hpost, hsteps⟩ | ⟨q, B, X', hpost, hsteps⟩
  · exact Or.inl ⟨v, vm₁, B, X₁.warmed, X', hpost, fun target h => hstep₁ _ fun acts => by rw [doInvoke_state]; exact hsteps.trans h⟩
  · exact Or.inr ⟨q, vm₁, B, X₁.warmed, X', hpost, hstep₁ _ fun acts => by rw [doInvoke_state]; exact hsteps⟩
theorem vx_callS (X : Stand p l e R s m args below meth c T locs cells slots) (hexec : p.tables.exec = Jvm.exec) {own : String} {index : Nat} {y : MethodName} {bytes : ByteArray} {maxL : Nat} {ret : Option FieldType}
    (hown : s.vm.findClass own = some m.cls) (hlink : (Cond.methodLink own index y).before args s = true) (hstat : (Cond.static y).before args s = true) (hinit : (Cond.initialized y.cls).before args s = true)
    (hcode : (Cond.code y bytes maxL ret).before args s = true) (hy : y.cls ≠ "java/lang/invoke/MethodHandle" ∧ y.cls ≠ "java/lang/invoke/VarHandle")
    {W9 : Nat} {Pre : Pt → Array Value → Prop} {Post : Pt → Array Value → Option Value → Pt → Prop} {PostX : Pt → Array Value → Addr → Pt → Prop} (hK : vx_Back l R p e below s args y 3 W9 Pre Post PostX)
    {g : JFrame} (hg : g.method = m) (hsize : g.locals.size = c.maxLocals) {argsL rest : List Value} (hlen : ∀ sig, parseMethodDescriptor y.desc = some sig → argsL.length = sig.parameters.length)
    (hstack : g.stack = argsL.reverse ++ rest) (hW : 2 * g.monitorRoom + (rest.map fun v => v.category).sum ≤ W9) (hdg : decode c.code g.pc = .ok (.invokestatic index, 3))
    (hpre : ∀ vm₁, s.WarmedH vm₁ → Pre ⟨T.setVm vm₁, locs, cells, slots⟩ argsL.toArray) :
    (∃ (v : Option Value) (vm₁ : Vm) (B : Pt), s.WarmedH vm₁ ∧ Stand p l e R s m args below meth c B.U B.locs B.cells B.slots ∧ Post ⟨T.setVm vm₁, locs, cells, slots⟩ argsL.toArray v B ∧
      ∀ target, Steps p.tables e below (B.U.setTop { g with pc := g.pc + 3, stack := v.toList ++ rest }) target → Steps p.tables e below (T.setTop g) target) ∨
    (∃ (q : Addr) (vm₁ : Vm) (B : Pt), s.WarmedH vm₁ ∧ Stand p l e R s m args below meth c B.U B.locs B.cells B.slots ∧ PostX ⟨T.setVm vm₁, locs, cells, slots⟩ argsL.toArray q B ∧
      Steps p.tables e below (T.setTop g) ((B.U.setTop { g with stack := rest }).pushFrame (.throwing q))) := by
  obtain ⟨mk, hnamed⟩ := Cond.code_named hcode
  obtain ⟨methM, cM, hmethM, -, -, -, -, -, -, hsigM⟩ := Cond.code_spec hnamed hcode
  have hstatic : methM.isStatic = true := Cond.static_spec hnamed hmethM hstat
  obtain ⟨kP, hkP, -⟩ := className_of_methodNamed hnamed
  have hinitP : kP.init = .initialized := Cond.initialized_spec (findClass_of_methodNamed hnamed) hkP hinit
  obtain ⟨vm₁, X₁, hstep₁⟩ := X.invokestatic hexec hown hlink hnamed hmethM hstatic hkP hinitP hy (g := g) hg (argsL := argsL) (rest := rest) (hlen _ hsigM) hstack hdg
  rcases hK m meth c ⟨T.setVm vm₁, locs, cells, slots⟩ { g with stack := rest } (.invokestatic index) mk argsL.toArray X₁ hg hsize hdg hW (X₁.named hnamed) (hpre vm₁ X₁.warmed) with ⟨v, B, X', hpost, hsteps⟩ | ⟨q, B, X', hpost, hsteps⟩
  · exact Or.inl ⟨v, vm₁, B, X₁.warmed, X', hpost, fun target h => hstep₁ _ fun acts => by rw [doInvoke_state]; exact hsteps.trans h⟩
  · exact Or.inr ⟨q, vm₁, B, X₁.warmed, X', hpost, hstep₁ _ fun acts => by rw [doInvoke_state]; exact hsteps⟩
end Calls
theorem vx_cls {s : State} {T : State} {vm₁ : Vm} {E : String} {k : ClassId} (hW : s.WarmedH vm₁) (h : (T.setVm vm₁).vm.findClass E = some k) : s.vm.findClass E = some k := by
  have h1 : vm₁.findClass E = some k := h
  rw [hW.alike.findClass] at h1
  exact h1
/-- the method's frame g, with q thrown over it -/
def vx_W (p : Program) (l : Launch) (e : Env) (R : Room) (s : State) (m : MethodId) (args : Array Value) (below : List Frame) (meth : Method) (c : Code) (H : Heap) (locs : List Loc) (cells slots : Nat) (Q : State → Prop) (g : JFrame) (q : Addr) : Prop :=
  ∀ T : State, T.heap = H → Stand p l e R s m args below meth c T locs cells slots → ∃ t, Steps p.tables e below ((T.setTop g).pushFrame (.throwing q)) t ∧ Q t
def vx_Run (p : Program) (l : Launch) (e : Env) (R : Room) (s : State) (m : MethodId) (args : Array Value) (below : List Frame) (meth : Method) (c : Code) (H : Heap) (locs : List Loc) (cells slots mc ms : Nat) (g : JFrame) (rest : List Value) (Qa : State → Outcome → State → Prop) (XC : String → State → State → Prop) (free : Addr → Prop) : Prop :=
  ∀ T : State, T.heap = H → Stand p l e R s m args below meth c T locs cells slots →
    (∃ (v : Option Value) (st₀ t T' : State) (L : List Loc), st₀.heap = H ∧ Stand p l e R s m args below meth c T' (locs ++ L) (cells + mc) (slots + ms) ∧ (∀ q ∈ L, free q.base) ∧ T'.heap = t.heap ∧ T'.vm = t.vm ∧ Qa st₀ (.returned v) t ∧
      Goes p e below T g T' { g with pc := g.pc + 3, stack := v.toList ++ rest }) ∨
    (∃ (q : Addr) (st₀ t T' : State) (L : List Loc) (E : String) (ce : Cell), st₀.heap = H ∧ Stand p l e R s m args below meth c T' (locs ++ L) (cells + mc) (slots + ms) ∧ (∀ z ∈ L, free z.base) ∧ T'.heap = t.heap ∧ T'.vm = t.vm ∧ XC E st₀ t ∧ t.heap[q]? = some ce ∧ ce.vm = .none ∧ s.vm.findClass E = some ce.cls ∧
      Steps p.tables e below (T.setTop g) ((T'.setTop { g with stack := rest }).pushFrame (.throwing q)))
def vx_X {S : Type} (px : S → Prop) (B : String → S → State → Prop) (A : Nat → Prop) : String → State → State → Prop := fun E st t => ∃ u : S, px u ∧ B E u t ∧ va_F A st t
section Runs
variable {p : Program} {l : Launch} {e : Env} {R : Room} {s : State} {m : MethodId} {args : Array Value} {below : List Frame} {meth : Method} {c : Code} {H : Heap} {locs : List Loc} {cells slots : Nat}
variable {y : MethodName} {bytes cc : ByteArray} {maxL nL mc ms n index : Nat} {ret : Option FieldType} {ws : List Cond} {rm : Room} {Pc : Array Value → State → Prop} {Qc : Array Value → State → Outcome → State → Prop} {XC : String → State → State → Prop} {free : Addr → Prop} {Ts : List Cond} {own C : String} {b : Addr} {As rest : List Value} {g : JFrame}
theorem vx_callBack (cb : CallB R s args own index y bytes maxL ret ws rm mc ms n) (hM : vx_Met l y ws rm Pc Qc XC mc ms free) (hbl : FrameBlind Pc) : vx_Back l R p e below s args y 3 8 (PreOf R mc ms Pc) (PostOf Qc mc ms free) (vx_Post XC mc ms free) := by
  obtain ⟨hrc, hrs, hfr, hlo, hws, hcw, -, hini, -⟩ := cb
  exact vx_back (bytes := bytes) (maxL := maxL) (ret := ret) hM hbl hrc hrs hfr hlo hws hcw (fun a' U hW => word_at hW (Or.inl (by first | rfl | simp [Cond.onTables, Cond.keeps, Cond.steady])) hini)
theorem vx_runV (S : CallFix p m c cc nL s args Ts own) (hM : vx_Met l y ws rm Pc Qc XC mc ms free) (cw : CallW R s args own C index y bytes maxL ret ws rm mc ms n) (hp : PreV s H C b Pc As)
    (hg : g.method = m) (hn : As.length = n) (hsize : g.locals.size = nL) (hstack : g.stack = As.reverse ++ .ref b :: rest) (hW : 2 * g.monitorRoom + (rest.map fun v => v.category).sum ≤ 8) (hdg : decode cc g.pc = .ok (.invokevirtual index, 3)) (hf : cells + mc ≤ R.cells ∧ slots + ms ≤ R.slots) :
    vx_Run p l e R s m args below meth c H locs cells slots mc ms g rest (Qc (Value.ref b :: As).toArray) XC free := by
  have hK : vx_Back l R p e below s args y 3 8 (PreOf R mc ms Pc) (PostOf Qc mc ms free) (vx_Post XC mc ms free) := vx_callBack cw.1 hM hp.1
  obtain ⟨⟨-, -, -, -, -, -, hcode, -, hy, hlen, hl⟩, hin, hse⟩ := cw
  obtain ⟨hx, hb, hml, ho, -⟩ := S
  obtain ⟨-, ⟨cellB, hcB, hoB, hclB⟩, hPc⟩ := hp
  intro T hT X
  rcases vx_callV X hx (C := C) (bytes := bytes) (maxL := maxL) (ret := ret) ho hl hin hse hcode hy hK (by rw [hT]; exact hcB) hoB hclB hg (hsize.trans hml.symm) (argsL := As) (rest := rest) (fun sig h => hn.trans (hlen sig h)) hstack hW (by rw [hb]; exact hdg)
    (fun vm₁ hW₁ => ⟨hf.1, hf.2, hPc (T.setVm vm₁) hT hW₁⟩) with ⟨v, vm₁, ⟨U', l2, c2, s2⟩, hW₁, X', ⟨g', mk, t, L, e1, e2, hq, h1, hL, h2, h3⟩, st⟩ | ⟨q, vm₁, ⟨U', l2, c2, s2⟩, hW₁, X', ⟨g', mk, t, L, E, ce, e1, e2, hq, hce, hcv, hcl, h1, hL, h2, h3⟩, st⟩
  · dsimp only [Pt.U, Pt.locs, Pt.cells, Pt.slots] at X' e1 e2 h1 h2 h3 st
    subst h1; subst h2; subst h3
    exact Or.inl ⟨v, (T.setVm vm₁).calling g' mk (Value.ref b :: As).toArray, t, U', L, hT, X', hL, e1, e2, hq, st⟩
  · dsimp only [Pt.U, Pt.locs, Pt.cells, Pt.slots] at X' e1 e2 h1 h2 h3 st hcl
    subst h1; subst h2; subst h3
    exact Or.inr ⟨q, (T.setVm vm₁).calling g' mk (Value.ref b :: As).toArray, t, U', L, E, ce, hT, X', hL, e1, e2, hq, hce, hcv, vx_cls hW₁ hcl, st⟩
theorem vx_runS (S : CallFix p m c cc nL s args Ts own) (hM : vx_Met l y ws rm Pc Qc XC mc ms free) (cw : CallB R s args own index y bytes maxL ret ws rm mc ms n ∧ (Cond.static y).before args s = true) (hp : PreS s H Pc As)
    (hg : g.method = m) (hn : As.length = n) (hsize : g.locals.size = nL) (hstack : g.stack = As.reverse ++ rest) (hW : 2 * g.monitorRoom + (rest.map fun v => v.category).sum ≤ 8) (hdg : decode cc g.pc = .ok (.invokestatic index, 3)) (hf : cells + mc ≤ R.cells ∧ slots + ms ≤ R.slots) :
    vx_Run p l e R s m args below meth c H locs cells slots mc ms g rest (Qc As.toArray) XC free := by
  have hK : vx_Back l R p e below s args y 3 8 (PreOf R mc ms Pc) (PostOf Qc mc ms free) (vx_Post XC mc ms free) := vx_callBack cw.1 hM hp.1
  obtain ⟨⟨-, -, -, -, -, -, hcode, hini, hy, hlen, hl⟩, hstt⟩ := cw
  obtain ⟨hx, hb, hml, ho, -⟩ := S
  intro T hT X
  rcases vx_callS X hx (bytes := bytes) (maxL := maxL) (ret := ret) ho hl hstt hini hcode hy hK hg (hsize.trans hml.symm) (argsL := As) (rest := rest) (fun sig h => hn.trans (hlen sig h)) hstack hW (by rw [hb]; exact hdg)
    (fun vm₁ hW₁ => ⟨hf.1, hf.2, hp.2 (T.setVm vm₁) hT hW₁⟩) with ⟨v, vm₁, ⟨U', l2, c2, s2⟩, hW₁, X', ⟨g', mk, t, L, e1, e2, hq, h1, hL, h2, h3⟩, st⟩ | ⟨q, vm₁, ⟨U', l2, c2, s2⟩, hW₁, X', ⟨g', mk, t, L, E, ce, e1, e2, hq, hce, hcv, hcl, h1, hL, h2, h3⟩, st⟩
  · dsimp only [Pt.U, Pt.locs, Pt.cells, Pt.slots] at X' e1 e2 h1 h2 h3 st
    subst h1; subst h2; subst h3
    exact Or.inl ⟨v, (T.setVm vm₁).calling g' mk As.toArray, t, U', L, hT, X', hL, e1, e2, hq, st⟩
  · dsimp only [Pt.U, Pt.locs, Pt.cells, Pt.slots] at X' e1 e2 h1 h2 h3 st hcl
    subst h1; subst h2; subst h3
    exact Or.inr ⟨q, (T.setVm vm₁).calling g' mk As.toArray, t, U', L, E, ce, hT, X', hL, e1, e2, hq, hce, hcv, vx_cls hW₁ hcl, st⟩
end Runs
section Rows
variable {p : Program} {l : Launch} {e : Env} {R : Room} {s : State} {m : MethodId} {args : Array Value} {below : List Frame} {meth : Method} {c : Code} {H : Heap} {locs : List Loc} {cells slots : Nat} {Q : State → Prop}
variable {mc ms : Nat} {free : Addr → Prop} {A0 A1 : Nat → Prop} {H0 : Heap} {a : Array Value} {pc : Nat} {ls : Array Slot} {st0 rest : List Value}
theorem vx_keep {st₀ t T' : State} {L : List Loc} (h0 : st₀.heap = H) (e1 : T'.heap = t.heap) (hS : va_S A0 H0 H locs) (hA : ∀ q, q < H.size → A1 q → A0 q) (hf : ∀ q, free q → A0 q) (hL : ∀ q ∈ L, free q.base) (hF : va_F A1 st₀ t) :
    H.size ≤ T'.heap.size ∧ (∀ q : Nat, q < H.size → ¬ A1 q → T'.heap[q]? = H[q]?) ∧ va_S A0 H0 T'.heap (locs ++ L) := by
  obtain ⟨hz, hk⟩ := hF
  rw [h0] at hz hk
  exact ⟨by rw [e1]; exact hz, fun q h1 h2 => by rw [e1]; exact hk q h1 h2,
    ⟨Nat.le_trans hS.1 (by rw [e1]; exact hz), fun q h1 h2 => by rw [e1, hk q (Nat.lt_of_lt_of_le h1 hS.1) (fun z => h2 (hA q (Nat.lt_of_lt_of_le h1 hS.1) z))]; exact hS.2.1 q h1 h2, fun q hq => by
      rcases List.mem_append.mp hq with h | h
      · exact hS.2.2 q h
      · exact hf _ (hL q h)⟩⟩
theorem vx_calli {S SX : Type} {post : Int32 → S → Prop} {px : SX → Prop} {B : S → State → Prop} {BX : String → SX → State → Prop} {AX : Nat → Prop} (hr : vx_Run p l e R s m args below meth c H locs cells slots mc ms (F0 m pc ls st0) rest (va_Qi post B A1 a) (vx_X px BX AX) free) (hS : va_S A0 H0 H locs) (hA : ∀ q, q < H.size → A1 q → A0 q) (hf : ∀ q, free q → A0 q) (hAX : ∀ q, q < H.size → AX q → A0 q)
    (kx : ∀ (E : String) (ce : Cell) (q9 : Addr) (u : SX) (t : State) (H1 : Heap) (locs1 : List Loc), t.heap = H1 → s.vm.Alike t.vm → px u → BX E u t → H.size ≤ H1.size → (∀ q : Nat, q < H.size → ¬ AX q → H1[q]? = H[q]?) → va_S A0 H0 H1 locs1 → H1[q9]? = some ce → ce.vm = .none → s.vm.findClass E = some ce.cls → vx_W p l e R s m args below meth c H1 locs1 (cells + mc) (slots + ms) Q (F0 m pc ls rest) q9)
    (kk : ∀ (r : Int32) (u : S) (t : State) (H1 : Heap) (locs1 : List Loc), t.heap = H1 → s.vm.Alike t.vm → post r u → B u t → H.size ≤ H1.size → (∀ q : Nat, q < H.size → ¬ A1 q → H1[q]? = H[q]?) → va_S A0 H0 H1 locs1 → W p l e R s m args below meth c H1 locs1 (cells + mc) (slots + ms) Q (F0 m (pc + 3) ls (.int r :: rest))) : W p l e R s m args below meth c H locs cells slots Q (F0 m pc ls st0) := by
  intro T hT X
  rcases hr T hT X with ⟨v, st₀, t, T', L, h0, X', hL, e1, e2, ⟨⟨r, u, hv, hp, hb⟩, hF⟩, st⟩ | ⟨q, st₀, t, T', L, E, ce, h0, X', hL, e1, e2, ⟨u, hp, hb, hF⟩, hce, hcv, hcl, st⟩
  · cases hv
    obtain ⟨k1, k2, k3⟩ := vx_keep h0 e1 hS hA hf hL hF
    obtain ⟨t2, a1, b1⟩ := kk r u t T'.heap (locs ++ L) e1.symm (by rw [← e2]; exact X'.warmed.alike) hp hb k1 k2 k3 T' rfl X'
    exact ⟨t2, st t2 a1, b1⟩
  · obtain ⟨k1, k2, k3⟩ := vx_keep h0 e1 hS hAX hf hL hF
    obtain ⟨t2, a1, b1⟩ := kx E ce q u t T'.heap (locs ++ L) e1.symm (by rw [← e2]; exact X'.warmed.alike) hp hb k1 k2 k3 (by rw [e1]; exact hce) hcv hcl T' rfl X'
    exact ⟨t2, st.trans a1, b1⟩
theorem vx_calll {S SX : Type} {post : Int64 → S → Prop} {px : SX → Prop} {B : S → State → Prop} {BX : String → SX → State → Prop} {AX : Nat → Prop} (hr : vx_Run p l e R s m args below meth c H locs cells slots mc ms (F0 m pc ls st0) rest (va_Ql post B A1 a) (vx_X px BX AX) free) (hS : va_S A0 H0 H locs) (hA : ∀ q, q < H.size → A1 q → A0 q) (hf : ∀ q, free q → A0 q) (hAX : ∀ q, q < H.size → AX q → A0 q)
    (kx : ∀ (E : String) (ce : Cell) (q9 : Addr) (u : SX) (t : State) (H1 : Heap) (locs1 : List Loc), t.heap = H1 → s.vm.Alike t.vm → px u → BX E u t → H.size ≤ H1.size → (∀ q : Nat, q < H.size → ¬ AX q → H1[q]? = H[q]?) → va_S A0 H0 H1 locs1 → H1[q9]? = some ce → ce.vm = .none → s.vm.findClass E = some ce.cls → vx_W p l e R s m args below meth c H1 locs1 (cells + mc) (slots + ms) Q (F0 m pc ls rest) q9)
    (kk : ∀ (r : Int64) (u : S) (t : State) (H1 : Heap) (locs1 : List Loc), t.heap = H1 → s.vm.Alike t.vm → post r u → B u t → H.size ≤ H1.size → (∀ q : Nat, q < H.size → ¬ A1 q → H1[q]? = H[q]?) → va_S A0 H0 H1 locs1 → W p l e R s m args below meth c H1 locs1 (cells + mc) (slots + ms) Q (F0 m (pc + 3) ls (.long r :: rest))) : W p l e R s m args below meth c H locs cells slots Q (F0 m pc ls st0) := by
  intro T hT X
  rcases hr T hT X with ⟨v, st₀, t, T', L, h0, X', hL, e1, e2, ⟨⟨r, u, hv, hp, hb⟩, hF⟩, st⟩ | ⟨q, st₀, t, T', L, E, ce, h0, X', hL, e1, e2, ⟨u, hp, hb, hF⟩, hce, hcv, hcl, st⟩
  · cases hv
    obtain ⟨k1, k2, k3⟩ := vx_keep h0 e1 hS hA hf hL hF
    obtain ⟨t2, a1, b1⟩ := kk r u t T'.heap (locs ++ L) e1.symm (by rw [← e2]; exact X'.warmed.alike) hp hb k1 k2 k3 T' rfl X'
    exact ⟨t2, st t2 a1, b1⟩
  · obtain ⟨k1, k2, k3⟩ := vx_keep h0 e1 hS hAX hf hL hF
    obtain ⟨t2, a1, b1⟩ := kx E ce q u t T'.heap (locs ++ L) e1.symm (by rw [← e2]; exact X'.warmed.alike) hp hb k1 k2 k3 (by rw [e1]; exact hce) hcv hcl T' rfl X'
    exact ⟨t2, st.trans a1, b1⟩
theorem vx_callf {S SX : Type} {post : UInt32 → S → Prop} {px : SX → Prop} {B : S → State → Prop} {BX : String → SX → State → Prop} {AX : Nat → Prop} (hr : vx_Run p l e R s m args below meth c H locs cells slots mc ms (F0 m pc ls st0) rest (va_Qf post B A1 a) (vx_X px BX AX) free) (hS : va_S A0 H0 H locs) (hA : ∀ q, q < H.size → A1 q → A0 q) (hf : ∀ q, free q → A0 q) (hAX : ∀ q, q < H.size → AX q → A0 q)
    (kx : ∀ (E : String) (ce : Cell) (q9 : Addr) (u : SX) (t : State) (H1 : Heap) (locs1 : List Loc), t.heap = H1 → s.vm.Alike t.vm → px u → BX E u t → H.size ≤ H1.size → (∀ q : Nat, q < H.size → ¬ AX q → H1[q]? = H[q]?) → va_S A0 H0 H1 locs1 → H1[q9]? = some ce → ce.vm = .none → s.vm.findClass E = some ce.cls → vx_W p l e R s m args below meth c H1 locs1 (cells + mc) (slots + ms) Q (F0 m pc ls rest) q9)
    (kk : ∀ (r : UInt32) (u : S) (t : State) (H1 : Heap) (locs1 : List Loc), t.heap = H1 → s.vm.Alike t.vm → post r u → B u t → H.size ≤ H1.size → (∀ q : Nat, q < H.size → ¬ A1 q → H1[q]? = H[q]?) → va_S A0 H0 H1 locs1 → W p l e R s m args below meth c H1 locs1 (cells + mc) (slots + ms) Q (F0 m (pc + 3) ls (.float r :: rest))) : W p l e R s m args below meth c H locs cells slots Q (F0 m pc ls st0) := by
  intro T hT X
  rcases hr T hT X with ⟨v, st₀, t, T', L, h0, X', hL, e1, e2, ⟨⟨r, u, hv, hp, hb⟩, hF⟩, st⟩ | ⟨q, st₀, t, T', L, E, ce, h0, X', hL, e1, e2, ⟨u, hp, hb, hF⟩, hce, hcv, hcl, st⟩
  · cases hv
    obtain ⟨k1, k2, k3⟩ := vx_keep h0 e1 hS hA hf hL hF
    obtain ⟨t2, a1, b1⟩ := kk r u t T'.heap (locs ++ L) e1.symm (by rw [← e2]; exact X'.warmed.alike) hp hb k1 k2 k3 T' rfl X'
    exact ⟨t2, st t2 a1, b1⟩
  · obtain ⟨k1, k2, k3⟩ := vx_keep h0 e1 hS hAX hf hL hF
    obtain ⟨t2, a1, b1⟩ := kx E ce q u t T'.heap (locs ++ L) e1.symm (by rw [← e2]; exact X'.warmed.alike) hp hb k1 k2 k3 (by rw [e1]; exact hce) hcv hcl T' rfl X'
    exact ⟨t2, st.trans a1, b1⟩
theorem vx_calld {S SX : Type} {post : UInt64 → S → Prop} {px : SX → Prop} {B : S → State → Prop} {BX : String → SX → State → Prop} {AX : Nat → Prop} (hr : vx_Run p l e R s m args below meth c H locs cells slots mc ms (F0 m pc ls st0) rest (va_Qd post B A1 a) (vx_X px BX AX) free) (hS : va_S A0 H0 H locs) (hA : ∀ q, q < H.size → A1 q → A0 q) (hf : ∀ q, free q → A0 q) (hAX : ∀ q, q < H.size → AX q → A0 q)
    (kx : ∀ (E : String) (ce : Cell) (q9 : Addr) (u : SX) (t : State) (H1 : Heap) (locs1 : List Loc), t.heap = H1 → s.vm.Alike t.vm → px u → BX E u t → H.size ≤ H1.size → (∀ q : Nat, q < H.size → ¬ AX q → H1[q]? = H[q]?) → va_S A0 H0 H1 locs1 → H1[q9]? = some ce → ce.vm = .none → s.vm.findClass E = some ce.cls → vx_W p l e R s m args below meth c H1 locs1 (cells + mc) (slots + ms) Q (F0 m pc ls rest) q9)
    (kk : ∀ (r : UInt64) (u : S) (t : State) (H1 : Heap) (locs1 : List Loc), t.heap = H1 → s.vm.Alike t.vm → post r u → B u t → H.size ≤ H1.size → (∀ q : Nat, q < H.size → ¬ A1 q → H1[q]? = H[q]?) → va_S A0 H0 H1 locs1 → W p l e R s m args below meth c H1 locs1 (cells + mc) (slots + ms) Q (F0 m (pc + 3) ls (.double r :: rest))) : W p l e R s m args below meth c H locs cells slots Q (F0 m pc ls st0) := by
  intro T hT X
  rcases hr T hT X with ⟨v, st₀, t, T', L, h0, X', hL, e1, e2, ⟨⟨r, u, hv, hp, hb⟩, hF⟩, st⟩ | ⟨q, st₀, t, T', L, E, ce, h0, X', hL, e1, e2, ⟨u, hp, hb, hF⟩, hce, hcv, hcl, st⟩
  · cases hv
    obtain ⟨k1, k2, k3⟩ := vx_keep h0 e1 hS hA hf hL hF
    obtain ⟨t2, a1, b1⟩ := kk r u t T'.heap (locs ++ L) e1.symm (by rw [← e2]; exact X'.warmed.alike) hp hb k1 k2 k3 T' rfl X'
    exact ⟨t2, st t2 a1, b1⟩
  · obtain ⟨k1, k2, k3⟩ := vx_keep h0 e1 hS hAX hf hL hF
    obtain ⟨t2, a1, b1⟩ := kx E ce q u t T'.heap (locs ++ L) e1.symm (by rw [← e2]; exact X'.warmed.alike) hp hb k1 k2 k3 (by rw [e1]; exact hce) hcv hcl T' rfl X'
    exact ⟨t2, st.trans a1, b1⟩
theorem vx_callv {S SX : Type} {post : S → Prop} {px : SX → Prop} {B : S → State → Prop} {BX : String → SX → State → Prop} {AX : Nat → Prop} (hr : vx_Run p l e R s m args below meth c H locs cells slots mc ms (F0 m pc ls st0) rest (va_Qv post B A1 a) (vx_X px BX AX) free) (hS : va_S A0 H0 H locs) (hA : ∀ q, q < H.size → A1 q → A0 q) (hf : ∀ q, free q → A0 q) (hAX : ∀ q, q < H.size → AX q → A0 q)
    (kx : ∀ (E : String) (ce : Cell) (q9 : Addr) (u : SX) (t : State) (H1 : Heap) (locs1 : List Loc), t.heap = H1 → s.vm.Alike t.vm → px u → BX E u t → H.size ≤ H1.size → (∀ q : Nat, q < H.size → ¬ AX q → H1[q]? = H[q]?) → va_S A0 H0 H1 locs1 → H1[q9]? = some ce → ce.vm = .none → s.vm.findClass E = some ce.cls → vx_W p l e R s m args below meth c H1 locs1 (cells + mc) (slots + ms) Q (F0 m pc ls rest) q9)
    (kk : ∀ (u : S) (t : State) (H1 : Heap) (locs1 : List Loc), t.heap = H1 → s.vm.Alike t.vm → post u → B u t → H.size ≤ H1.size → (∀ q : Nat, q < H.size → ¬ A1 q → H1[q]? = H[q]?) → va_S A0 H0 H1 locs1 → W p l e R s m args below meth c H1 locs1 (cells + mc) (slots + ms) Q (F0 m (pc + 3) ls (rest))) : W p l e R s m args below meth c H locs cells slots Q (F0 m pc ls st0) := by
  intro T hT X
  rcases hr T hT X with ⟨v, st₀, t, T', L, h0, X', hL, e1, e2, ⟨⟨u, hv, hp, hb⟩, hF⟩, st⟩ | ⟨q, st₀, t, T', L, E, ce, h0, X', hL, e1, e2, ⟨u, hp, hb, hF⟩, hce, hcv, hcl, st⟩
  · cases hv
    obtain ⟨k1, k2, k3⟩ := vx_keep h0 e1 hS hA hf hL hF
    obtain ⟨t2, a1, b1⟩ := kk u t T'.heap (locs ++ L) e1.symm (by rw [← e2]; exact X'.warmed.alike) hp hb k1 k2 k3 T' rfl X'
    exact ⟨t2, st t2 a1, b1⟩
  · obtain ⟨k1, k2, k3⟩ := vx_keep h0 e1 hS hAX hf hL hF
    obtain ⟨t2, a1, b1⟩ := kx E ce q u t T'.heap (locs ++ L) e1.symm (by rw [← e2]; exact X'.warmed.alike) hp hb k1 k2 k3 (by rw [e1]; exact hce) hcv hcl T' rfl X'
    exact ⟨t2, st.trans a1, b1⟩
/-- caught by the row x of this method's table; the rows ahead don't take it -/
theorem vx_catch {own name : String} {E : String} {ce : Cell} {q : Addr} (hown : s.vm.findClass own = some m.cls) (pre : List ExceptionTableEntry) (x : ExceptionTableEntry) (suf : List ExceptionTableEntry) (hsplit : c.exceptionTable.toList = pre ++ x :: suf)
    (hpass : ∀ z ∈ pre, covers z pc = false ∨ (z.catchType ≠ 0 ∧ ∃ nm : String, (Cond.classLink own z.catchType nm).before args s = true ∧ va_Nc E nm s)) (hx : covers x pc = true) (h0 : x.catchType ≠ 0)
    (hlink : (Cond.classLink own x.catchType name).before args s = true) (hcast : (Cond.castable E name).before args s = true) (hcell : H[q]? = some ce) (hv : ce.vm = .none) (hcl : s.vm.findClass E = some ce.cls)
    (kk : W p l e R s m args below meth c H locs cells slots Q (F0 m x.handlerPc ls [.ref q])) : vx_W p l e R s m args below meth c H locs cells slots Q (F0 m pc ls rest) q := by
  intro T hT X
  have hpl : e.platform.magicAccessors = ({} : Platform).magicAccessors := by rw [X.admits.platform]
  obtain ⟨c3, c4, hc3, hc4, hasg⟩ := Cond.castable_spec hcast
  cases Option.some.inj (hc3.symm.trans hcl)
  obtain ⟨c5, hc5, hcl5⟩ := Cond.classLink_spec hown hlink e.platform hpl
  cases Option.some.inj (hc4.symm.trans hc5)
  obtain ⟨vm', X', st⟩ := X.thenCaughtThrough q (g := F0 m pc ls rest) rfl (Steps.refl _) (by rw [hT]; exact hcell) (by rw [hv]; rfl) (by obtain ⟨k9, h9, -⟩ := Vm.findClass_spec hcl; exact ⟨k9, h9⟩) pre x suf hsplit
    (fun z hz => by
      rcases hpass z hz with h | ⟨hz0, nm, hl1, hn1⟩
      · exact Or.inl h
      · obtain ⟨c6, hc6, hcl6⟩ := Cond.classLink_spec hown hl1 e.platform hpl
        obtain ⟨a8, b8, h1, h2, h3⟩ := hn1
        cases Option.some.inj (h1.symm.trans hcl)
        cases Option.some.inj (h2.symm.trans hc6)
        exact Or.inr ⟨hz0, _, hcl6, h3⟩) hx (Or.inr ⟨h0, c4, hcl5, hasg⟩)
  obtain ⟨t, a1, b1⟩ := kk (T.setVm vm') hT X'
  exact ⟨t, st.trans a1, b1⟩
end Rows
section Ends
variable {p : Program} {l : Launch} {e : Env} {R : Room} {s : State} {m : MethodId} {args : Array Value} {below : List Frame} {meth : Method} {c : Code} {H : Heap} {locs : List Loc} {cells slots : Nat} {Q : State → Prop}
variable {mc ms : Nat} {free : Addr → Prop} {A0 A1 : Nat → Prop} {H0 : Heap} {a : Array Value} {ls : Array Slot} {st0 rest : List Value}
variable {Qc : Array Value → State → Outcome → State → Prop} {XC : String → State → State → Prop}
/-- what a body that may throw owes at its end -/
def vx_MQ (below : List Frame) (Qc : Array Value → State → Outcome → State → Prop) (XC : String → State → State → Prop) (a : Array Value) (s : State) (mc ms : Nat) (free : Addr → Prop) : State → Prop := fun t =>
  ∃ o, t.status = .running ∧ Ended t below o ∧ vx_Q Qc XC mc ms free a s o t
theorem vx_ret {g : JFrame} {mc ms : Nat} (k : W p l e R s m args below meth c H locs cells slots (MQ below Qc args s mc ms free) g) : W p l e R s m args below meth c H locs cells slots (vx_MQ below Qc XC args s mc ms free) g := by
  intro T hT X
  obtain ⟨t, a1, o, b1, b2, b3, b4⟩ := k T hT X
  exact ⟨t, a1, o, b1, b2, Or.inl ⟨b3, b4⟩⟩
/-- not caught here: it goes on to the caller -/
theorem vx_widen {g : JFrame} {q : Addr} {k n : Nat} (h1 : cells ≤ k) (h2 : slots ≤ n) (kk : vx_W p l e R s m args below meth c H locs k n Q g q) : vx_W p l e R s m args below meth c H locs cells slots Q g q := fun T hT X => kk T hT (stand_widen X h1 h2)
theorem vx_out {pc : Nat} {E : String} {ce : Cell} {q : Addr} {mc ms : Nat} (hout : ∀ x ∈ c.exceptionTable.toList, covers x pc = false) (hlocks : meth.locks = false) (hcell : H[q]? = some ce) (hv : ce.vm = .none) (hcl : s.vm.findClass E = some ce.cls)
    (hx : ∀ t : State, t.heap = H → s.vm.Alike t.vm → XC E s t) (hf : ∀ z ∈ locs, free z.base) (hc : cells ≤ mc) (hs : slots ≤ ms) :
    vx_W p l e R s m args below meth c H locs cells slots (vx_MQ below Qc XC args s mc ms free) (F0 m pc ls rest) q := by
  intro T hT X
  obtain ⟨st1, hrun, hend, hW, hsm⟩ := X.leaveThrown q (g := F0 m pc ls rest) rfl rfl rfl hout hlocks
  have hcell9 : (T.setFrames (.throwing q :: below)).heap[q]? = some ce := by
    show T.heap[q]? = some ce
    rw [hT]; exact hcell
  exact ⟨_, st1, .threw q, hrun, hend, Or.inr ⟨q, rfl, E, ce, locs, hx _ hT hW.alike, hcell9, hv, hcl, hW, hsm.mono hc hs, hf⟩⟩
theorem vx_frame {U : State} {k n : Nat} (h : s.sameButNew ({ U with vm := s.vm } : State) locs k n) : s.heap.size ≤ U.heap.size ∧ ∀ q : Nat, q < s.heap.size → (∀ z ∈ locs, z.base ≠ q) → U.heap[q]? = s.heap[q]? := by
  obtain ⟨-, h2, -, -, -, h6⟩ := h
  refine ⟨h2, fun q hq hz => ?_⟩
  obtain ⟨c9, e1, e2, e3, e4⟩ := h6 q _ (Array.getElem?_eq_getElem hq)
  have hs : c9.slots = (s.heap[q]).slots := Array.ext_getElem? fun i => e4 i fun hm => hz _ hm rfl
  have h9 : c9 = s.heap[q] := by
    rw [hs] at e2
    exact e2
  have e5 : U.heap[q]? = some c9 := e1
  rw [e5, h9, Array.getElem?_eq_getElem hq]
/-- the words of a throw but the four that speak of the heap -/
def vx_no (w : Cond) : Bool := decide (w ≠ .isRef (.static Bundle.tN "UNASSIGNED_STACK" Bundle.steD)) && decide (w ≠ .isRef (.static Bundle.tN "SUPPRESSED_SENTINEL" Bundle.listD)) && decide (w ≠ .laysStatic Bundle.tN "UNASSIGNED_STACK" Bundle.steD) && decide (w ≠ .laysStatic Bundle.tN "SUPPRESSED_SENTINEL" Bundle.listD)
def vx_at0 (own : String) (ic : Nat) (X : String) (names : List String) : List Cond := (Bundle.ownAtoms0 own ic X names).filter vx_no
def vx_atS (own : String) (ic : Nat) (X : String) (names : List String) : List Cond := (Bundle.ownAtoms own ic X names).filter vx_no
/-- a word that the tables alone decide, or a good one -/
def vx_ot (w : Cond) : Bool := w.onTables || goodWord w
theorem vx_ot_at {args a' : Array Value} {s U : State} {w : Cond} (hW : s.WarmedH U.vm) (hvm : s.vm = U.vm) (hg : vx_ot w = true) (h : w.before args s = true) : w.before a' U = true := by
  simp only [vx_ot, Bool.or_eq_true] at hg
  rcases hg with hg | hg
  · exact va_tabs hg hvm h
  · exact word_at hW (good_of_word hg) h
/-- a list's words: the good ones out of the method's own list, the others by premises of their own -/
theorem vx_hat {args : Array Value} {s : State} {L B : List Cond} (h1 : ∀ w ∈ L.filter goodWord, w.before args s = true) (h2 : ∀ w ∈ L.filter (fun w => !goodWord w), w ∈ B) (h3 : ∀ w ∈ B, w.before args s = true) : ∀ w ∈ L, w.before args s = true := by
  intro w hw
  by_cases g : goodWord w = true
  · exact h1 w (List.mem_filter.mpr ⟨hw, g⟩)
  · refine h3 w (h2 w (List.mem_filter.mpr ⟨hw, ?_⟩))
    show (!goodWord w) = true
    cases hgw : goodWord w
    · rfl
    · exact absurd hgw g
theorem vx_c {args : Array Value} {s : State} {w : Cond} {B : List Cond} (h : w.before args s = true) (t : ∀ w ∈ B, w.before args s = true) : ∀ w' ∈ w :: B, w'.before args s = true := fun w' h' => (List.mem_cons.mp h').elim (fun e => by rw [e]; exact h) (t w')
theorem vx_n {args : Array Value} {s : State} : ∀ w ∈ ([] : List Cond), w.before args s = true := fun _ h => nomatch h
theorem vx_own {args : Array Value} {s : State} {L : List Cond} (h1 : ∀ w ∈ L.filter vx_no, w.before args s = true)
    (hU : (Cond.isRef (.static Bundle.tN "UNASSIGNED_STACK" Bundle.steD)).before args s = true) (hN : (Cond.isRef (.static Bundle.tN "SUPPRESSED_SENTINEL" Bundle.listD)).before args s = true)
    (lU : (Cond.laysStatic Bundle.tN "UNASSIGNED_STACK" Bundle.steD).before args s = true) (lN : (Cond.laysStatic Bundle.tN "SUPPRESSED_SENTINEL" Bundle.listD).before args s = true) : ∀ w ∈ L, w.before args s = true := by
  intro w hw
  by_cases e1 : w = .isRef (.static Bundle.tN "UNASSIGNED_STACK" Bundle.steD)
  · rw [e1]; exact hU
  · by_cases e2 : w = .isRef (.static Bundle.tN "SUPPRESSED_SENTINEL" Bundle.listD)
    · rw [e2]; exact hN
    · by_cases e3 : w = .laysStatic Bundle.tN "UNASSIGNED_STACK" Bundle.steD
      · rw [e3]; exact lU
      · by_cases e4 : w = .laysStatic Bundle.tN "SUPPRESSED_SENTINEL" Bundle.listD
        · rw [e4]; exact lN
        · exact h1 w (List.mem_filter.mpr ⟨hw, by unfold vx_no; rw [decide_eq_true e1, decide_eq_true e2, decide_eq_true e3, decide_eq_true e4]; rfl⟩)
/-- where a static field lies, its class's statics cell in H -/
def vx_L (C n d : String) (A : Nat → Prop) (U : State) (H : Heap) : Prop := ∃ (c : ClassId) (k : Class) (i : Nat) (f : Field) (a : Nat) (cell : Cell), U.vm.findClass C = some c ∧ U.fieldFound? C n d = some (c, k, i, f) ∧ f.isStatic = true ∧ k.statics = some a ∧ H[a]? = some cell ∧ cell.vm.isStatics = true ∧ cell.cls = c ∧ f.slot < cell.slots.size ∧ k.staticTypes[f.slot]? = some f.type ∧ ¬ A a
theorem vx_L.moved {C n d : String} {A : Nat → Prop} {u U : State} {H : Heap} (hvm : u.vm.Alike U.vm) (h : vx_L C n d A u H) : vx_L C n d A U H := by
  obtain ⟨c, k, i, f, a, cell, h1, h2, h3, h4, h5, h6, h7, h8, h9, h10⟩ := h
  obtain ⟨k', hi', he⟩ := State.fieldFound?_setVm hvm h2
  exact ⟨c, k', i, f, a, cell, by rw [hvm.findClass]; exact h1, hi', h3, by rw [he]; exact h4, h5, h6, h7, h8, by rw [he]; exact h9, h10⟩
theorem vx_L.kept {C n d : String} {A : Nat → Prop} {U : State} {H H1 : Heap} (h : vx_L C n d A U H) (hq : ∀ a : Nat, a < H.size → ¬ A a → H1[a]? = H[a]?) : vx_L C n d A U H1 := by
  obtain ⟨c, k, i, f, a, cell, h1, h2, h3, h4, h5, h6, h7, h8, h9, h10⟩ := h
  exact ⟨c, k, i, f, a, cell, h1, h2, h3, h4, by rw [hq a (Array.getElem?_eq_some_iff.mp h5).1 h10]; exact h5, h6, h7, h8, h9, h10⟩
theorem vx_L.narrow {C n d : String} {A B : Nat → Prop} {U : State} {H : Heap} (h : vx_L C n d A U H) (hAB : ∀ q, B q → A q) : vx_L C n d B U H := by
  obtain ⟨c, k, i, f, a, cell, h1, h2, h3, h4, h5, h6, h7, h8, h9, h10⟩ := h
  exact ⟨c, k, i, f, a, cell, h1, h2, h3, h4, h5, h6, h7, h8, h9, fun z => h10 (hAB _ z)⟩
theorem vx_L.word {C n d : String} {A : Nat → Prop} {s : State} {args : Array Value} (h : vx_L C n d A s s.heap) : (Cond.laysStatic C n d).before args s = true := by
  obtain ⟨c, k, i, f, a, cell, h1, h2, h3, h4, h5, h6, h7, h8, h9, -⟩ := h
  show (Cond.laysStatic C n d).holds args s none s [] = true
  exact Cond.laysStatic_of h1 h2 h3 h4 h5 h6 h7 h8 h9
/-- .. and what it holds: null or some reference -/
def vx_Zq (C n d : String) (A : Nat → Prop) (U : State) (H : Heap) : Prop := va_Zq C n d A U H ∧ vx_L C n d A U H
theorem vx_Zq.moved {C n d : String} {A : Nat → Prop} {u U : State} {H : Heap} (hvm : u.vm.Alike U.vm) (h : vx_Zq C n d A u H) : vx_Zq C n d A U H := ⟨va_Zq.moved hvm h.1, vx_L.moved hvm h.2⟩
theorem vx_Zq.kept {C n d : String} {A : Nat → Prop} {U : State} {H H1 : Heap} (h : vx_Zq C n d A U H) (hq : ∀ a : Nat, a < H.size → ¬ A a → H1[a]? = H[a]?) : vx_Zq C n d A U H1 := ⟨va_Zq.kept h.1 hq, vx_L.kept h.2 hq⟩
theorem vx_Zq.narrow {C n d : String} {A B : Nat → Prop} {U : State} {H : Heap} (h : vx_Zq C n d A U H) (hAB : ∀ q, B q → A q) : vx_Zq C n d B U H := ⟨va_Zq.narrow h.1 hAB, vx_L.narrow h.2 hAB⟩
theorem vx_Zqof {args : Array Value} {s : State} {C n d : String} {A : Nat → Prop} (hl : (Cond.laysStatic C n d).before args s = true) (hini : (Cond.initialized C).before args s = true) (h : (Cond.isRef (.static C n d)).before args s = true) (hA : ∀ a : Nat, a < s.heap.size → ¬ A a) : vx_Zq C n d A s s.heap := by
  refine ⟨va_Zqof hl hini h hA, ?_⟩
  obtain ⟨c, k, i, f, a, cell, h1, h2, h3, h4, h5, h6, h7, h8, h9⟩ := Cond.laysStatic_spec hl
  exact ⟨c, k, i, f, a, cell, h1, h2, h3, h4, h5, h6, h7, h8, h9, hA a (Array.getElem?_eq_some_iff.mp h5).1⟩
theorem vx_isRef {C n d : String} {v : Value} {A : Nat → Prop} {s : State} {args : Array Value} (h : va_Z C n d v A s s.heap) (hv : v.isRef = true) : (Cond.isRef (.static C n d)).before args s = true := by
  obtain ⟨cf, kf, fi, f, a, cell, h1, h2, h3, h4, h5, h6, h7, -⟩ := h
  have he : (Term.static C n d).eval args s none [] s = some v := by
    simp [Term.eval, State.fieldNamed?, h1, h2, h4, h5, h6, h7]
  simp only [Cond.before, Cond.holds, Cond.value, he]
  cases v <;> simp_all [Value.isRef]
theorem vx_isRefq {C n d : String} {A : Nat → Prop} {s : State} {args : Array Value} (h : va_Zq C n d A s s.heap) : (Cond.isRef (.static C n d)).before args s = true := by
  rcases h with h | ⟨t, h⟩
  · exact vx_isRef h rfl
  · exact vx_isRef h rfl
/-- the same frame, seen from here: as if the method were called anew in this heap -/
theorem vx_rebase {T : State} (X : Stand p l e R s m args below meth c T locs cells slots) {R' : Room} (hf : R'.frames ≤ R.frames) (hl : R'.locals ≤ R.locals) (hc : cells + R'.cells ≤ R.cells) (hs : slots + R'.slots ≤ R.slots) :
    Stand p l e R' ((T.setVm s.vm).setFrames (.invoking m args :: below)) m args below meth c T [] 0 0 := by
  have htop : (T.setVm s.vm).topJava?.isSome := X.here.top
  have hF : ((T.setVm s.vm).setFrames (.invoking m args :: below)).frames = .invoking m args :: below := State.frames_setFrames _ (State.cur_lt_of_top htop)
  obtain ⟨g₀, hg0⟩ := Option.isSome_iff_exists.mp htop
  obtain ⟨r, hr⟩ := State.topJava?_eq_some.mp hg0
  have hl9 : e.platform.stackLimits (T.setVm s.vm).me = e.platform.stackLimits s.me := X.limits
  have hb9 : (T.setVm s.vm).me.stackBytes = s.me.stackBytes := X.bytes
  refine ⟨X.admits, X.cas, X.clock, hF, ?_, X.hears, X.method, X.code, X.here, X.tail, X.warmed, ?_, ?_, ?_⟩
  · have h := X.room
    have hU : ((T.setVm s.vm).setFrames (.invoking m args :: below)).localsInUse = s.localsInUse := by
      rw [State.localsInUse_invoking hF (meth := meth) (c := c) X.method X.code, State.localsInUse_invoking X.frames X.method X.code]
    simp only [State.hasRoom, Bool.and_eq_true, decide_eq_true_eq] at h ⊢
    obtain ⟨⟨⟨⟨h1, h2, h3, h4, h5, h6⟩, h7⟩, h8⟩, h9⟩ := h
    rw [X.frames, List.length_cons] at h2 h3
    have q1 := X.heapSize
    have q2 := X.used
    simp only [hF, hU, List.length_cons, State.stackLimits_setFrames, State.stackBytes_setFrames, hl9, hb9]
    refine ⟨⟨⟨⟨by omega, by omega, by omega, by omega, by omega, h6⟩, ?_⟩, ?_⟩, X.book⟩
    · show T.heap.size + R'.cells ≤ e.platform.maxCells
      omega
    · show T.slotsUsed + R'.slots ≤ e.platform.maxSlots
      omega
  · rw [State.stackLimits_setFrames]; rfl
  · rw [State.stackBytes_setFrames]; rfl
  · refine ⟨?_, Nat.le_refl _, Nat.le_refl _, ?_, ?_, fun a c9 h9 => ⟨c9, h9, rfl, rfl, fun _ _ => rfl⟩⟩
    · obtain ⟨t, ht, -⟩ := State.frames_cons hr
      show T.setVm s.vm = { ((T.setVm s.vm).setFrames (.invoking m args :: below)).setFrames (T.setVm s.vm).frames with heap := T.heap, slotsUsed := T.slotsUsed }
      rw [State.setFrames_setFrames, State.setFrames_self ht]
      rfl
    · show T.slotsUsed = T.slotsUsed + ((T.heap.toList.drop T.heap.size).map (·.slots.size)).sum
      rw [List.drop_eq_nil_of_le (Nat.le_of_eq Array.length_toList)]
      rfl
    · show ((T.heap.toList.drop T.heap.size).map (·.slots.size)).sum ≤ 0
      rw [List.drop_eq_nil_of_le (Nat.le_of_eq Array.length_toList)]
      exact Nat.le_refl _
/-- 'throw new E()': new; dup; invokespecial; athrow -/
theorem vx_throw0 {cc : ByteArray} {pc : Nat} (hexec : p.tables.exec = Jvm.exec) (hb : c.code = cc) (hl : l.stackTraces = false) {own cls : String} {names : List String} {ik ic mc ms : Nat} {A : Nat → Prop}
    (hown : s.vm.findClass own = some m.cls) (hcls : Bundle.fit cls = true) (hnames : ∀ n ∈ names, Bundle.fit n = true)
    (hk : (Cond.classLink own ik cls).before args s = true) (hini : (Cond.initialized cls).before args s = true) (hat : ∀ w ∈ vx_at0 own ic cls names, w.before args s = true)
    (hgood : ∀ w ∈ Cond.classLink own ik cls :: Cond.initialized cls :: vx_at0 own ic cls names, vx_ot w = true)
    (hU : vx_Zq Bundle.tN "UNASSIGNED_STACK" Bundle.steD A s s.heap) (hN : vx_Zq Bundle.tN "SUPPRESSED_SENTINEL" Bundle.listD A s s.heap) (hS : va_S A s.heap H locs) (hsize : ls.size = c.maxLocals)
    (d0 : decode cc pc = .ok (.new ik, 3)) (d3 : decode cc (pc + 3) = .ok (.dup, 1)) (d4 : decode cc (pc + 4) = .ok (.invokespecial ic, 3)) (d7 : decode cc (pc + 7) = .ok (.athrow, 1))
    (hout : ∀ x ∈ c.exceptionTable.toList, covers x (pc + 7) = false)
    (hRframes : names.length + 3 < R.frames) (hRlocals : (rest.map fun v => v.category).sum + (13 * (names.length + 1) + 42) ≤ R.locals) (hRcells : cells + 1 ≤ R.cells) (hRslots : slots + 6 ≤ R.slots) (hlocks : meth.locks = false)
    (hx : ∀ t : State, s.vm.Alike t.vm → H.size ≤ t.heap.size → (∀ q : Nat, q < H.size → t.heap[q]? = H[q]?) → XC cls s t)
    (hf : ∀ z ∈ locs, free z.base) (hc : cells + 1 ≤ mc) (hs : slots + 6 ≤ ms) :
    W p l e R s m args below meth c H locs cells slots (vx_MQ below Qc XC args s mc ms free) (F0 m pc ls rest) := by
  intro T hT X
  have htr : e.platform.stackTraces = false := (show e.platform.stackTraces = l.stackTraces by rw [X.admits.platform]).trans hl
  have Y := vx_rebase X (R' := { frames := R.frames, locals := R.locals, cells := 1, slots := 6 }) (Nat.le_refl _) (Nat.le_refl _) hRcells hRslots
  obtain ⟨s', hA⟩ : ∃ z, z = (T.setVm s.vm).setFrames (.invoking m args :: below) := ⟨_, rfl⟩
  rw [← hA] at Y
  have hvm : s'.vm = s.vm := by rw [hA]; rfl
  have hhp : s'.heap = H := by rw [hA]; exact hT
  have hW0 : s.WarmedH s'.vm := by rw [hvm]; exact State.WarmedH.refl s
  have hat' : ∀ w ∈ vx_at0 own ic cls names, w.before args s' = true := fun w hw => vx_ot_at hW0 hvm.symm (hgood w (List.mem_cons_of_mem _ (List.mem_cons_of_mem _ hw))) (hat w hw)
  have hk' : (Cond.classLink own ik cls).before args s' = true := vx_ot_at hW0 hvm.symm (hgood _ List.mem_cons_self) hk
  have hini' : (Cond.initialized cls).before args s' = true := vx_ot_at hW0 hvm.symm (hgood _ (List.mem_cons_of_mem _ List.mem_cons_self)) hini
  have hU' : vx_Zq Bundle.tN "UNASSIGNED_STACK" Bundle.steD A s' s'.heap := by rw [hhp]; exact vx_Zq.moved hW0.alike (hU.kept hS.2.1)
  have hN' : vx_Zq Bundle.tN "SUPPRESSED_SENTINEL" Bundle.listD A s' s'.heap := by rw [hhp]; exact vx_Zq.moved hW0.alike (hN.kept hS.2.1)
  have h : ∀ w ∈ Bundle.ownAtoms0 own ic cls names, w.before args s' = true := vx_own hat' (vx_isRefq hU'.1) (vx_isRefq hN'.1) hU'.2.word hN'.2.word
  have hown' : s'.vm.findClass own = some m.cls := by rw [hvm]; exact hown
  have hins : (Cond.instantiable cls 6).before args s' = true := h _ (by simp [Bundle.ownAtoms0])
  obtain ⟨vm₁, cX, kX, hfX, hkX, -, -, X₁, st1⟩ := Y.newCold hexec (own := own) (C := cls) (index := ik) (n := 6) hown' hk' hins hini'
    (g := F0 m pc ls rest) rfl (by rw [hb]; exact d0) (Nat.le_refl _) (Nat.le_refl _)
  generalize hT1 : (T.setVm vm₁).pushCell { cls := cX, slots := kX.instanceTypes.map defaultValue, vm := .none } = T1 at X₁ st1
  have hcat : (Value.ref T.heap.size).category = 1 := rfl
  have hcellA : T1.heap[T.heap.size]? = some (freshCell cX kX) := by rw [← hT1]; exact State.heap_pushCell_size _ _
  have d3' : decode c.code (pc + 3) = .ok (.dup, 1) := by rw [hb]; exact d3
  obtain ⟨U, hsteps, hrun, hend, hW, hsame, ce, hce, hO⟩ := X₁.ctorThrow0 hexec htr (own := own) (cls := cls) (names := names) (ic := ic) hown' hcls hnames h (fun x hx => nomatch hx) hfX hkX hcellA (by rw [hhp, hT]; exact Nat.le_refl _)
    (g := { method := m, pc := pc + 4, locals := ls, stack := .ref T.heap.size :: .ref T.heap.size :: rest, locked := none }) rfl hsize rfl rfl (rest := rest) rfl
    (by rw [hb]; exact d4) (by rw [hb]; exact d7) hout hRframes (by simp only [List.map_cons, List.sum_cons, hcat]; omega) hlocks
  obtain ⟨f1, f2⟩ := vx_frame hsame
  rw [hhp] at f1 f2
  have hWs : s.WarmedH U.vm := State.WarmedH.trans hW0 hW
  have hcl : s.vm.findClass cls = some ce.cls := by
    have h9 := hO.cls
    rw [hvm] at h9
    exact h9
  have hall : s.sameButNew ({ U with vm := s.vm } : State) locs mc ms := by
    subst hA
    obtain ⟨e1, e2⟩ := hsame
    rw [State.setFrames_setFrames] at e1
    have h2 : (T.setVm s.vm).sameButNew ({ U with vm := s.vm } : State) [] (0 + 1) (0 + 6) := ⟨e1, e2⟩
    have h3 := X.same.trans h2
    rw [List.append_nil] at h3
    exact h3.mono hc hs
  refine ⟨U, ?_, .threw T.heap.size, hrun, hend, Or.inr ⟨T.heap.size, rfl, cls, ce, locs, hx U hWs.alike f1 (fun q hq => f2 q hq (fun z hz => nomatch hz)), hce, hO.vm, hcl, hWs, hall, hf⟩⟩
  refine st1 _ ?_
  show Steps p.tables e below (T1.setTop { method := m, pc := pc + 3, locals := ls, stack := .ref T.heap.size :: rest, locked := none }) _
  jvm_step X₁.here [X₁.here.top, hexec, d3', Value.category]
  exact hsteps
/-- 'throw new E("text")': new; dup; ldc; invokespecial; athrow -/
theorem vx_throwS {cc : ByteArray} {pc : Nat} (hexec : p.tables.exec = Jvm.exec) (hb : c.code = cc) (hl : l.stackTraces = false) {own cls text : String} {names : List String} {ik is ic mc ms sa : Nat} {A : Nat → Prop}
    (hown : s.vm.findClass own = some m.cls) (hcls : Bundle.fit cls = true) (hnames : ∀ n ∈ names, Bundle.fit n = true)
    (hk : (Cond.classLink own ik cls).before args s = true) (hini : (Cond.initialized cls).before args s = true) (hstr : vk_R own is text sa s) (hat : ∀ w ∈ vx_atS own ic cls names, w.before args s = true)
    (hgood : ∀ w ∈ Cond.classLink own ik cls :: Cond.initialized cls :: vx_atS own ic cls names, vx_ot w = true)
    (hU : vx_Zq Bundle.tN "UNASSIGNED_STACK" Bundle.steD A s s.heap) (hN : vx_Zq Bundle.tN "SUPPRESSED_SENTINEL" Bundle.listD A s s.heap) (hS : va_S A s.heap H locs) (hsize : ls.size = c.maxLocals)
    (d0 : decode cc pc = .ok (.new ik, 3)) (d3 : decode cc (pc + 3) = .ok (.dup, 1)) (d4 : decode cc (pc + 4) = .ok (.ldc is, 2)) (d6 : decode cc (pc + 6) = .ok (.invokespecial ic, 3)) (d9 : decode cc (pc + 9) = .ok (.athrow, 1))
    (hout : ∀ x ∈ c.exceptionTable.toList, covers x (pc + 9) = false)
    (hRframes : names.length + 3 < R.frames) (hRlocals : (rest.map fun v => v.category).sum + (13 * (names.length + 1) + 43) ≤ R.locals) (hRcells : cells + 1 ≤ R.cells) (hRslots : slots + 6 ≤ R.slots) (hlocks : meth.locks = false)
    (hx : ∀ t : State, s.vm.Alike t.vm → H.size ≤ t.heap.size → (∀ q : Nat, q < H.size → t.heap[q]? = H[q]?) → XC cls s t)
    (hf : ∀ z ∈ locs, free z.base) (hc : cells + 1 ≤ mc) (hs : slots + 6 ≤ ms) :
    W p l e R s m args below meth c H locs cells slots (vx_MQ below Qc XC args s mc ms free) (F0 m pc ls rest) := by
  intro T hT X
  have htr : e.platform.stackTraces = false := (show e.platform.stackTraces = l.stackTraces by rw [X.admits.platform]).trans hl
  have Y := vx_rebase X (R' := { frames := R.frames, locals := R.locals, cells := 1, slots := 6 }) (Nat.le_refl _) (Nat.le_refl _) hRcells hRslots
  obtain ⟨s', hA⟩ : ∃ z, z = (T.setVm s.vm).setFrames (.invoking m args :: below) := ⟨_, rfl⟩
  rw [← hA] at Y
  have hvm : s'.vm = s.vm := by rw [hA]; rfl
  have hhp : s'.heap = H := by rw [hA]; exact hT
  have hW0 : s.WarmedH s'.vm := by rw [hvm]; exact State.WarmedH.refl s
  have hat' : ∀ w ∈ vx_atS own ic cls names, w.before args s' = true := fun w hw => vx_ot_at hW0 hvm.symm (hgood w (List.mem_cons_of_mem _ (List.mem_cons_of_mem _ hw))) (hat w hw)
  have hk' : (Cond.classLink own ik cls).before args s' = true := vx_ot_at hW0 hvm.symm (hgood _ List.mem_cons_self) hk
  have hini' : (Cond.initialized cls).before args s' = true := vx_ot_at hW0 hvm.symm (hgood _ (List.mem_cons_of_mem _ List.mem_cons_self)) hini
  have hU' : vx_Zq Bundle.tN "UNASSIGNED_STACK" Bundle.steD A s' s'.heap := by rw [hhp]; exact vx_Zq.moved hW0.alike (hU.kept hS.2.1)
  have hN' : vx_Zq Bundle.tN "SUPPRESSED_SENTINEL" Bundle.listD A s' s'.heap := by rw [hhp]; exact vx_Zq.moved hW0.alike (hN.kept hS.2.1)
  have h : ∀ w ∈ Bundle.ownAtoms own ic cls names, w.before args s' = true := vx_own hat' (vx_isRefq hU'.1) (vx_isRefq hN'.1) hU'.2.word hN'.2.word
  have hown' : s'.vm.findClass own = some m.cls := by rw [hvm]; exact hown
  have hins : (Cond.instantiable cls 6).before args s' = true := h _ (by simp [Bundle.ownAtoms])
  obtain ⟨vm₁, cX, kX, hfX, hkX, -, -, X₁, st1⟩ := Y.newCold hexec (own := own) (C := cls) (index := ik) (n := 6) hown' hk' hins hini'
    (g := F0 m pc ls rest) rfl (by rw [hb]; exact d0) (Nat.le_refl _) (Nat.le_refl _)
  generalize hT1 : (T.setVm vm₁).pushCell { cls := cX, slots := kX.instanceTypes.map defaultValue, vm := .none } = T1 at X₁ st1
  have hcat : (Value.ref T.heap.size).category = 1 := rfl
  have hcellA : T1.heap[T.heap.size]? = some (freshCell cX kX) := by rw [← hT1]; exact State.heap_pushCell_size _ _
  have d3' : decode c.code (pc + 3) = .ok (.dup, 1) := by rw [hb]; exact d3
  have d4' : decode c.code (pc + 4) = .ok (.ldc is, 2) := by rw [hb]; exact d4
  have hstr' : vk_R own is text sa s' := vk_R.warm hW0 hstr
  obtain ⟨U, hsteps, hrun, hend, hW, hsame, ce, hce, hO⟩ := X₁.ctorThrowS hexec htr (own := own) (cls := cls) (names := names) (ic := ic) hown' hcls hnames h (fun x hx => nomatch hx) hfX hkX hcellA (by rw [hhp, hT]; exact Nat.le_refl _) (msg := .ref sa) rfl
    (g := { method := m, pc := pc + 6, locals := ls, stack := .ref sa :: .ref T.heap.size :: .ref T.heap.size :: rest, locked := none }) rfl hsize rfl rfl (rest := rest) rfl
    (by rw [hb]; exact d6) (by rw [hb]; exact d9) hout hRframes (by simp only [List.map_cons, List.sum_cons, hcat]; omega) hlocks
  obtain ⟨f1, f2⟩ := vx_frame hsame
  rw [hhp] at f1 f2
  have hWs : s.WarmedH U.vm := State.WarmedH.trans hW0 hW
  have hcl : s.vm.findClass cls = some ce.cls := by
    have h9 := hO.cls
    rw [hvm] at h9
    exact h9
  have hall : s.sameButNew ({ U with vm := s.vm } : State) locs mc ms := by
    subst hA
    obtain ⟨e1, e2⟩ := hsame
    rw [State.setFrames_setFrames] at e1
    have h2 : (T.setVm s.vm).sameButNew ({ U with vm := s.vm } : State) [] (0 + 1) (0 + 6) := ⟨e1, e2⟩
    have h3 := X.same.trans h2
    rw [List.append_nil] at h3
    exact h3.mono hc hs
  refine ⟨U, ?_, .threw T.heap.size, hrun, hend, Or.inr ⟨T.heap.size, rfl, cls, ce, locs, hx U hWs.alike f1 (fun q hq => f2 q hq (fun z hz => nomatch hz)), hce, hO.vm, hcl, hWs, hall, hf⟩⟩
  refine st1 _ ?_
  show Steps p.tables e below (T1.setTop { method := m, pc := pc + 3, locals := ls, stack := .ref T.heap.size :: rest, locked := none }) _
  jvm_step X₁.here [X₁.here.top, hexec, d3', Value.category]
  exact X₁.ldcString hexec (own := own) (text := text) (index := is) (a := sa) hown' hstr'.1 hstr'.2
    (g := { method := m, pc := pc + 4, locals := ls, stack := .ref T.heap.size :: .ref T.heap.size :: rest, locked := none }) rfl d4' _ hsteps
/-- 'throw new E("text")', the text by a wide index -/
theorem vx_throwSW {cc : ByteArray} {pc : Nat} (hexec : p.tables.exec = Jvm.exec) (hb : c.code = cc) (hl : l.stackTraces = false) {own cls text : String} {names : List String} {ik is ic mc ms sa : Nat} {A : Nat → Prop}
    (hown : s.vm.findClass own = some m.cls) (hcls : Bundle.fit cls = true) (hnames : ∀ n ∈ names, Bundle.fit n = true)
    (hk : (Cond.classLink own ik cls).before args s = true) (hini : (Cond.initialized cls).before args s = true) (hstr : vk_R own is text sa s) (hat : ∀ w ∈ vx_atS own ic cls names, w.before args s = true)
    (hgood : ∀ w ∈ Cond.classLink own ik cls :: Cond.initialized cls :: vx_atS own ic cls names, vx_ot w = true)
    (hU : vx_Zq Bundle.tN "UNASSIGNED_STACK" Bundle.steD A s s.heap) (hN : vx_Zq Bundle.tN "SUPPRESSED_SENTINEL" Bundle.listD A s s.heap) (hS : va_S A s.heap H locs) (hsize : ls.size = c.maxLocals)
    (d0 : decode cc pc = .ok (.new ik, 3)) (d3 : decode cc (pc + 3) = .ok (.dup, 1)) (d4 : decode cc (pc + 4) = .ok (.ldc_w is, 3)) (d7 : decode cc (pc + 7) = .ok (.invokespecial ic, 3)) (d10 : decode cc (pc + 10) = .ok (.athrow, 1))
    (hout : ∀ x ∈ c.exceptionTable.toList, covers x (pc + 10) = false)
    (hRframes : names.length + 3 < R.frames) (hRlocals : (rest.map fun v => v.category).sum + (13 * (names.length + 1) + 43) ≤ R.locals) (hRcells : cells + 1 ≤ R.cells) (hRslots : slots + 6 ≤ R.slots) (hlocks : meth.locks = false)
    (hx : ∀ t : State, s.vm.Alike t.vm → H.size ≤ t.heap.size → (∀ q : Nat, q < H.size → t.heap[q]? = H[q]?) → XC cls s t)
    (hf : ∀ z ∈ locs, free z.base) (hc : cells + 1 ≤ mc) (hs : slots + 6 ≤ ms) :
    W p l e R s m args below meth c H locs cells slots (vx_MQ below Qc XC args s mc ms free) (F0 m pc ls rest) := by
  intro T hT X
  have htr : e.platform.stackTraces = false := (show e.platform.stackTraces = l.stackTraces by rw [X.admits.platform]).trans hl
  have Y := vx_rebase X (R' := { frames := R.frames, locals := R.locals, cells := 1, slots := 6 }) (Nat.le_refl _) (Nat.le_refl _) hRcells hRslots
  obtain ⟨s', hA⟩ : ∃ z, z = (T.setVm s.vm).setFrames (.invoking m args :: below) := ⟨_, rfl⟩
  rw [← hA] at Y
  have hvm : s'.vm = s.vm := by rw [hA]; rfl
  have hhp : s'.heap = H := by rw [hA]; exact hT
  have hW0 : s.WarmedH s'.vm := by rw [hvm]; exact State.WarmedH.refl s
  have hat' : ∀ w ∈ vx_atS own ic cls names, w.before args s' = true := fun w hw => vx_ot_at hW0 hvm.symm (hgood w (List.mem_cons_of_mem _ (List.mem_cons_of_mem _ hw))) (hat w hw)
  have hk' : (Cond.classLink own ik cls).before args s' = true := vx_ot_at hW0 hvm.symm (hgood _ List.mem_cons_self) hk
  have hini' : (Cond.initialized cls).before args s' = true := vx_ot_at hW0 hvm.symm (hgood _ (List.mem_cons_of_mem _ List.mem_cons_self)) hini
  have hU' : vx_Zq Bundle.tN "UNASSIGNED_STACK" Bundle.steD A s' s'.heap := by rw [hhp]; exact vx_Zq.moved hW0.alike (hU.kept hS.2.1)
  have hN' : vx_Zq Bundle.tN "SUPPRESSED_SENTINEL" Bundle.listD A s' s'.heap := by rw [hhp]; exact vx_Zq.moved hW0.alike (hN.kept hS.2.1)
  have h : ∀ w ∈ Bundle.ownAtoms own ic cls names, w.before args s' = true := vx_own hat' (vx_isRefq hU'.1) (vx_isRefq hN'.1) hU'.2.word hN'.2.word
  have hown' : s'.vm.findClass own = some m.cls := by rw [hvm]; exact hown
  have hins : (Cond.instantiable cls 6).before args s' = true := h _ (by simp [Bundle.ownAtoms])
  obtain ⟨vm₁, cX, kX, hfX, hkX, -, -, X₁, st1⟩ := Y.newCold hexec (own := own) (C := cls) (index := ik) (n := 6) hown' hk' hins hini'
    (g := F0 m pc ls rest) rfl (by rw [hb]; exact d0) (Nat.le_refl _) (Nat.le_refl _)
  generalize hT1 : (T.setVm vm₁).pushCell { cls := cX, slots := kX.instanceTypes.map defaultValue, vm := .none } = T1 at X₁ st1
  have hcat : (Value.ref T.heap.size).category = 1 := rfl
  have hcellA : T1.heap[T.heap.size]? = some (freshCell cX kX) := by rw [← hT1]; exact State.heap_pushCell_size _ _
  have d3' : decode c.code (pc + 3) = .ok (.dup, 1) := by rw [hb]; exact d3
  have d4' : decode c.code (pc + 4) = .ok (.ldc_w is, 3) := by rw [hb]; exact d4
  have hstr' : vk_R own is text sa s' := vk_R.warm hW0 hstr
  obtain ⟨U, hsteps, hrun, hend, hW, hsame, ce, hce, hO⟩ := X₁.ctorThrowS hexec htr (own := own) (cls := cls) (names := names) (ic := ic) hown' hcls hnames h (fun x hx => nomatch hx) hfX hkX hcellA (by rw [hhp, hT]; exact Nat.le_refl _) (msg := .ref sa) rfl
    (g := { method := m, pc := pc + 7, locals := ls, stack := .ref sa :: .ref T.heap.size :: .ref T.heap.size :: rest, locked := none }) rfl hsize rfl rfl (rest := rest) rfl
    (by rw [hb]; exact d7) (by rw [hb]; exact d10) hout hRframes (by simp only [List.map_cons, List.sum_cons, hcat]; omega) hlocks
  obtain ⟨f1, f2⟩ := vx_frame hsame
  rw [hhp] at f1 f2
  have hWs : s.WarmedH U.vm := State.WarmedH.trans hW0 hW
  have hcl : s.vm.findClass cls = some ce.cls := by
    have h9 := hO.cls
    rw [hvm] at h9
    exact h9
  have hall : s.sameButNew ({ U with vm := s.vm } : State) locs mc ms := by
    subst hA
    obtain ⟨e1, e2⟩ := hsame
    rw [State.setFrames_setFrames] at e1
    have h2 : (T.setVm s.vm).sameButNew ({ U with vm := s.vm } : State) [] (0 + 1) (0 + 6) := ⟨e1, e2⟩
    have h3 := X.same.trans h2
    rw [List.append_nil] at h3
    exact h3.mono hc hs
  refine ⟨U, ?_, .threw T.heap.size, hrun, hend, Or.inr ⟨T.heap.size, rfl, cls, ce, locs, hx U hWs.alike f1 (fun q hq => f2 q hq (fun z hz => nomatch hz)), hce, hO.vm, hcl, hWs, hall, hf⟩⟩
  refine st1 _ ?_
  show Steps p.tables e below (T1.setTop { method := m, pc := pc + 3, locals := ls, stack := .ref T.heap.size :: rest, locked := none }) _
  jvm_step X₁.here [X₁.here.top, hexec, d3', Value.category]
  exact X₁.ldcStringW hexec (own := own) (text := text) (index := is) (a := sa) hown' hstr'.1 hstr'.2
    (g := { method := m, pc := pc + 4, locals := ls, stack := .ref T.heap.size :: .ref T.heap.size :: rest, locked := none }) rfl d4' _ hsteps
end Ends
section Bodies
variable {l : Launch}
theorem vx_ofW {y : MethodName} {ws ws' : List Cond} {rm : Room} {Pc : Array Value → State → Prop} {Qc : Array Value → State → Outcome → State → Prop} {XC : String → State → State → Prop} {mc ms : Nat} {free : Addr → Prop} {cc : ByteArray} {maxL : Nat} {ret : Option FieldType}
    (hy : plainName y.cls = true) (hw : ws = Cond.code y cc maxL ret :: ws')
    (body : ∀ p e s m args below meth c s₁, BodyLoose p l y (headSpec ws rm) cc maxL ret e s m args below meth c s₁ → c.maxLocals = maxL → (∀ x ∈ c.exceptionTable.toList, False) → Pc args s →
      W p l e (headSpec ws rm).room s m args below meth c s.heap [] 0 0 (vx_MQ below Qc XC args s mc ms free) (entryFrame m args maxL)) : vx_Met l y ws rm Pc Qc XC mc ms free := by
  refine MetFree.of_bodyS (code := cc) (maxLocals := maxL) (ret := ret) hy ?_ ?_
  · intro args s m h hn
    obtain ⟨meth, c, h1, h2, h3, h4, h5, h6, -, -⟩ := Cond.code_spec hn (atoms_spec (ws := ws) h _ (by rw [hw]; exact List.mem_cons_self))
    exact ⟨meth, c, h1, h2, h3, h4, h5, h6⟩
  · intro p e s m args below meth c s₁ B hml hP _
    have hh0 : s₁.heap = s.heap := by rw [B.state]; rfl
    have ht : ∀ x ∈ c.exceptionTable.toList, False := by
      obtain ⟨meth9, c9, h1, h2, -, -, -, -, h7, -⟩ := Cond.code_spec B.named (atoms_spec (ws := ws) B.pre _ (by rw [hw]; exact List.mem_cons_self))
      cases Option.some.inj (h1.symm.trans B.method)
      cases Option.some.inj (h2.symm.trans (Stand.of_body B).code)
      intro x hx
      rw [Array.isEmpty_iff.mp h7] at hx
      cases hx
    obtain ⟨t, a1, o, b1, b2, b3⟩ := body p e s m args below meth c s₁ B hml ht hP s₁ hh0 (Stand.of_body B)
    exact ⟨t, o, a1, b1, b2, b3⟩
/-- the table of a body with handlers -/
theorem vx_table {p : Program} {x y : MethodName} {S : Spec} {cc bytes : ByteArray} {maxL maxL' : Nat} {ret ret' : Option FieldType} {e : Env} {s s₁ : State} {m : MethodId} {args : Array Value} {below : List Frame} {meth : Method} {c : Code} {hh : List (Nat × Nat × Nat × Nat)}
    (B : BodyLoose p l y S cc maxL ret e s m args below meth c s₁) (h : (Cond.codeWith y bytes maxL' ret' hh).before args s = true) : c.exceptionTable.toList = tableOf hh := by
  obtain ⟨m9, meth9, c9, hn9, h1, h2, -, -, h6, -⟩ := Cond.codeWith_spec h
  cases Option.some.inj (hn9.symm.trans B.named)
  cases Option.some.inj (h1.symm.trans B.method)
  cases Option.some.inj (h2.symm.trans (Stand.of_body B).code)
  rw [← h6, table_eq]
end Bodies
end VXA
/-! ===== END ===== -/
/-! ===== BEGIN a static call of a method with an exception table ===== -/
section VXS
variable {p : Program} {l : Launch} {e : Env} {R : Room} {s : State} {m : MethodId} {args : Array Value} {below : List Frame} {meth : Method} {c : Code} {T : State} {H : Heap} {locs : List Loc} {cells slots : Nat}
abbrev vx_CSW (R : Room) (s : State) (args : Array Value) (own : String) (index : Nat) (y : MethodName) (bytes : ByteArray) (maxL : Nat) (ret : Option FieldType) (hh : List (Nat × Nat × Nat × Nat)) (ws : List Cond) (rm : Room) (mc ms n : Nat) : Prop :=
  (rm.cells = mc ∧ rm.slots = ms ∧ rm.frames + 1 ≤ R.frames ∧ 8 + (maxL + 11) + rm.locals ≤ R.locals ∧ (∀ w ∈ ws, ∀ (a' : Array Value) (U : State), s.WarmedH U.vm → w.before a' U = true) ∧ Cond.codeWith y bytes maxL ret hh ∈ ws) ∧
  (Cond.codeWith y bytes maxL ret hh).before args s = true ∧ (Cond.initialized y.cls).before args s = true ∧ (y.cls ≠ "java/lang/invoke/MethodHandle" ∧ y.cls ≠ "java/lang/invoke/VarHandle") ∧
  (∀ sig, parseMethodDescriptor y.desc = some sig → n = sig.parameters.length) ∧ (Cond.methodLink own index y).before args s = true ∧ (Cond.static y).before args s = true
theorem vx_cwSW {own : String} {index maxL mc ms : Nat} {y : MethodName} {bytes : ByteArray} {ret : Option FieldType} {hh : List (Nat × Nat × Nat × Nat)} {Ts ws ws' : List Cond} {rm : Room} (n : Nat) (ht : ∀ w ∈ Ts, w.before args s = true) (hT : GoodIn Ts (va_wsS own index y ws)) (hw : ws = Cond.codeWith y bytes maxL ret hh :: ws') (hrc : rm.cells = mc) (hrs : rm.slots = ms)
    (hd : y.cls ≠ "java/lang/invoke/MethodHandle" ∧ y.cls ≠ "java/lang/invoke/VarHandle" ∧ (parseMethodDescriptor y.desc).map (fun d => d.parameters.length) = some n) (hR : rm.frames + 1 ≤ R.frames ∧ 8 + (maxL + 11) + rm.locals ≤ R.locals) :
    vx_CSW R s args own index y bytes maxL ret hh ws rm mc ms n := by
  have ok : ∀ w ∈ va_wsS own index y ws, w.before args s = true := fun w h => ht w (hT w h).1
  have hG : GoodIn Ts ws := fun w h => hT w (by unfold va_wsS; exact List.mem_append_right _ h)
  have hc : Cond.codeWith y bytes maxL ret hh ∈ ws := by rw [hw]; exact List.mem_cons_self
  refine ⟨⟨hrc, hrs, hR.1, hR.2, pay_in ht hG, hc⟩, ht _ (hG _ hc).1, ok _ (by simp [va_wsS]), ⟨hd.1, hd.2.1⟩, fun sig h => ?_, ok _ (by simp [va_wsS]), ok _ (by simp [va_wsS])⟩
  have h2 := hd.2.2
  rw [h] at h2
  exact (Option.some.inj h2).symm
theorem vx_callSW (X : Stand p l e R s m args below meth c T locs cells slots) (hexec : p.tables.exec = Jvm.exec) {own : String} {index : Nat} {y : MethodName} {bytes : ByteArray} {maxL : Nat} {ret : Option FieldType} {hh : List (Nat × Nat × Nat × Nat)}
    (hown : s.vm.findClass own = some m.cls) (hlink : (Cond.methodLink own index y).before args s = true) (hstat : (Cond.static y).before args s = true) (hinit : (Cond.initialized y.cls).before args s = true)
    (hcode : (Cond.codeWith y bytes maxL ret hh).before args s = true) (hy : y.cls ≠ "java/lang/invoke/MethodHandle" ∧ y.cls ≠ "java/lang/invoke/VarHandle")
    {W9 : Nat} {Pre : Pt → Array Value → Prop} {Post : Pt → Array Value → Option Value → Pt → Prop} (hK : Back l R p e below s args y 3 W9 Pre Post)
    {g : JFrame} (hg : g.method = m) (hsize : g.locals.size = c.maxLocals) {argsL rest : List Value} (hlen : ∀ sig, parseMethodDescriptor y.desc = some sig → argsL.length = sig.parameters.length)
    (hstack : g.stack = argsL.reverse ++ rest) (hW : 2 * g.monitorRoom + (rest.map fun v => v.category).sum ≤ W9) (hdg : decode c.code g.pc = .ok (.invokestatic index, 3))
    (hpre : ∀ vm₁, s.WarmedH vm₁ → Pre ⟨T.setVm vm₁, locs, cells, slots⟩ argsL.toArray) :
    ∃ (v : Option Value) (vm₁ : Vm) (B : Pt), s.WarmedH vm₁ ∧ Stand p l e R s m args below meth c B.U B.locs B.cells B.slots ∧ Post ⟨T.setVm vm₁, locs, cells, slots⟩ argsL.toArray v B ∧
      ∀ target, Steps p.tables e below (B.U.setTop { g with pc := g.pc + 3, stack := v.toList ++ rest }) target → Steps p.tables e below (T.setTop g) target := by
  obtain ⟨mk, methM, cM, hnamed, hmethM, -, -, -, -, -, -, hsigM⟩ := Cond.codeWith_spec hcode
  have hstatic : methM.isStatic = true := Cond.static_spec hnamed hmethM hstat
  obtain ⟨kP, hkP, -⟩ := className_of_methodNamed hnamed
  have hinitP : kP.init = .initialized := Cond.initialized_spec (findClass_of_methodNamed hnamed) hkP hinit
  obtain ⟨vm₁, X₁, hstep₁⟩ := X.invokestatic hexec hown hlink hnamed hmethM hstatic hkP hinitP hy (g := g) hg (argsL := argsL) (rest := rest) (hlen _ hsigM) hstack hdg
  obtain ⟨v, B, X', hpost, hsteps⟩ := hK m meth c ⟨T.setVm vm₁, locs, cells, slots⟩ { g with stack := rest } (.invokestatic index) mk argsL.toArray X₁ hg hsize hdg hW (X₁.named hnamed) (hpre vm₁ X₁.warmed)
  exact ⟨v, vm₁, B, X₁.warmed, X', hpost, fun target h => hstep₁ _ fun acts => by rw [doInvoke_state]; exact hsteps.trans h⟩
theorem vx_runSW {y : MethodName} {bytes cc : ByteArray} {maxL nL mc ms n index : Nat} {ret : Option FieldType} {hh : List (Nat × Nat × Nat × Nat)} {ws : List Cond} {rm : Room} {Pc : Array Value → State → Prop} {Qc : Array Value → State → Outcome → State → Prop} {free : Addr → Prop} {Ts : List Cond} {own : String} {As rest : List Value} {g : JFrame}
    (S : CallFix p m c cc nL s args Ts own) (hM : Met l y ws rm Pc Qc mc ms free) (cw : vx_CSW R s args own index y bytes maxL ret hh ws rm mc ms n) (hp : PreS s H Pc As)
    (hg : g.method = m) (hn : As.length = n) (hsize : g.locals.size = nL) (hstack : g.stack = As.reverse ++ rest) (hW : 2 * g.monitorRoom + (rest.map fun v => v.category).sum ≤ 8) (hdg : decode cc g.pc = .ok (.invokestatic index, 3)) (hf : cells + mc ≤ R.cells ∧ slots + ms ≤ R.slots) :
    va_Run p l e R s m args below meth c H locs cells slots mc ms g rest (Qc As.toArray) (free) := by
  obtain ⟨⟨hrc, hrs, hfr, hlo, hws, hcw⟩, hcode, hini, hy, hlen, hl, hstt⟩ := cw
  have hK : Back l R p e below s args y 3 8 (PreOf R mc ms Pc) (PostOf Qc mc ms free) := va_backW (hh := hh) (bytes := bytes) (maxL := maxL) (ret := ret) hM hp.1 hrc hrs hfr hlo hws hcw (fun a' U hW => word_at hW (Or.inl (by first | rfl | simp [Cond.onTables, Cond.keeps, Cond.steady])) hini)
  obtain ⟨hx, hb, hml, ho, -⟩ := S
  intro T hT X
  obtain ⟨v, vm₁, ⟨U', l2, c2, s2⟩, hW₁, X', ⟨g', mk, t, L, e1, e2, hq, h1, hL, h2, h3⟩, st⟩ := vx_callSW X hx (hh := hh) (bytes := bytes) (maxL := maxL) (ret := ret) ho hl hstt hini hcode hy hK hg (hsize.trans hml.symm) (argsL := As) (rest := rest) (fun sig h => hn.trans (hlen sig h)) hstack hW (by rw [hb]; exact hdg)
    (fun vm₁ hW₁ => ⟨hf.1, hf.2, hp.2 (T.setVm vm₁) hT hW₁⟩)
  dsimp only [Pt.U, Pt.locs, Pt.cells, Pt.slots] at X' e1 e2 h1 h2 h3 st
  subst h1; subst h2; subst h3
  exact ⟨v, (T.setVm vm₁).calling g' mk As.toArray, t, U', L, hT, X', hL, e1, e2, hq, st⟩
/-- not caught here, past rows that name other classes: it goes on to the caller -/
theorem vx_outP {p : Program} {l : Launch} {e : Env} {R : Room} {s : State} {m : MethodId} {args : Array Value} {below : List Frame} {meth : Method} {c : Code} {H : Heap} {locs : List Loc} {cells slots : Nat} {free : Addr → Prop} {ls : Array Slot} {rest : List Value} {Qc : Array Value → State → Outcome → State → Prop} {XC : String → State → State → Prop}
    {pc : Nat} {own E : String} {ce : Cell} {q : Addr} {mc ms : Nat} (hown : s.vm.findClass own = some m.cls) (hlocks : meth.locks = false)
    (hpass : ∀ z ∈ c.exceptionTable.toList, covers z pc = false ∨ (z.catchType ≠ 0 ∧ ∃ nm : String, (Cond.classLink own z.catchType nm).before args s = true ∧ va_Nc E nm s)) (hcell : H[q]? = some ce) (hv : ce.vm = .none) (hcl : s.vm.findClass E = some ce.cls)
    (hx : ∀ t : State, t.heap = H → s.vm.Alike t.vm → XC E s t) (hf : ∀ z ∈ locs, free z.base) (hc : cells ≤ mc) (hs : slots ≤ ms) :
    vx_W p l e R s m args below meth c H locs cells slots (vx_MQ below Qc XC args s mc ms free) (F0 m pc ls rest) q := by
  intro T hT X
  have hpl : e.platform.magicAccessors = ({} : Platform).magicAccessors := by rw [X.admits.platform]
  obtain ⟨vm', hW', X', st⟩ := X.outThrough hlocks q (g := F0 m pc ls rest) rfl rfl rfl (cell := ce) (by rw [hT]; exact hcell) (by rw [hv]; rfl)
    (by obtain ⟨k9, h9, -⟩ := Vm.findClass_spec hcl; exact ⟨k9, h9⟩) (fun z hz => by
      rcases hpass z hz with h | ⟨hz0, nm, hl1, hn1⟩
      · exact Or.inl h
      · obtain ⟨c6, hc6, hcl6⟩ := Cond.classLink_spec hown hl1 e.platform hpl
        obtain ⟨a8, b8, h1, h2, h3⟩ := hn1
        cases Option.some.inj (h1.symm.trans hcl)
        cases Option.some.inj (h2.symm.trans hc6)
        exact Or.inr ⟨hz0, _, hcl6, h3⟩)
  obtain ⟨g₀, hfr⟩ := X'.frames_eq
  have hcell9 : ((T.setVm vm').setFrames (.throwing q :: below)).heap[q]? = some ce := by
    show T.heap[q]? = some ce
    rw [hT]; exact hcell
  have hend : Ended ((T.setVm vm').setFrames (.throwing q :: below)) below (.threw q) := State.frames_setFrames _ (State.cur_lt_of_frames hfr)
  refine ⟨(T.setVm vm').setFrames (.throwing q :: below), ?_, .threw q, X'.here.running, hend, Or.inr ⟨q, rfl, E, ce, locs, hx _ hT (X'.ends _).1.alike, hcell9, hv, hcl, (X'.ends _).1, (X'.ends _).2.mono hc hs, hf⟩⟩
  rw [X.pushThrowing_eq]
  exact st
/-- a thing of a world lies in the heap -/
theorem vx_lt {D : va_G} {cl : List vw_C} {ws : va_W} {H1 : Heap} (h : va_P D cl ws H1) {k : Nat} {q : Nat × va_E} (hk : ws[k]? = some q) : q.1 < H1.size := (h k q hk).lt
end VXS
/-! ===== END ===== -/
/-! ===== BEGIN methods with a table of their own: called by a name, returning or throwing ===== -/
section VXH
/-! vx_backW, vx_callVX, vx_callSX, vx_callVW, vx_runVW, vx_runVX, vx_runSX, vx_ofWH follow the same proofs as their sisters above (Free/Laws.lean, Shelf42/LK1.lean); vx_outP calls Shelf42/NT130.lean (outThrough). -/
section
variable {l : Launch} {R : Room} {p : Program} {e : Env} {below : List Frame} {s : State} {sargs : Array Value} {y : MethodName} {len W9 : Nat}
theorem vx_backW {ws : List Cond} {rm : Room} {Pc : Array Value → State → Prop} {Qc : Array Value → State → Outcome → State → Prop} {XC : String → State → State → Prop} {mc ms : Nat} {free : Addr → Prop} {bytes : ByteArray} {maxL : Nat} {ret : Option FieldType} {hh : List (Nat × Nat × Nat × Nat)}
    (hM : vx_Met l y ws rm Pc Qc XC mc ms free) (hblind : FrameBlind Pc) (hrc : rm.cells = mc) (hrs : rm.slots = ms)
    (hframes : rm.frames + 1 ≤ R.frames) (hlocals : W9 + (maxL + 11) + rm.locals ≤ R.locals)
    (hws : ∀ w ∈ ws, ∀ a' U, s.WarmedH U.vm → w.before a' U = true) (hcode : Cond.codeWith y bytes maxL ret hh ∈ ws) (hinit : ∀ a' U, s.WarmedH U.vm → (Cond.initialized y.cls).before a' U = true) :
    vx_Back l R p e below s sargs y len W9 (PreOf R mc ms Pc) (PostOf Qc mc ms free) (vx_Post XC mc ms free) := by
  intro m meth c A g ig mk a X hg hsize hdg hW hn hp
  have h1 : (headSpec ws rm).pre.before a A.U = true := atoms_intro fun w hw => hws w hw _ _ X.warmed
  have h2 : (Cond.codeWith y bytes maxL ret hh).before a A.U = true := hws _ hcode _ _ X.warmed
  have h3 : (Cond.initialized y.cls).before a A.U = true := hinit _ _ X.warmed
  have h4 : A.cells + (headSpec ws rm).room.cells ≤ R.cells := by rw [show (headSpec ws rm).room.cells = mc from hrc]; exact hp.1
  have h5 : A.slots + (headSpec ws rm).room.slots ≤ R.slots := by rw [show (headSpec ws rm).room.slots = ms from hrs]; exact hp.2.1
  have hPc : Pc a (A.U.calling g mk a) := hblind _ _ _ _ hp.2.2
  obtain ⟨U, Ls, c0, s0⟩ := A
  dsimp only [Pt.U, Pt.locs, Pt.cells, Pt.slots] at h1 h2 h3 h4 h5 X hn hPc ⊢
  obtain ⟨m9, methY, cY, hn9, hmY, hcY, -, hlY, -⟩ := Cond.codeWith_spec h2
  cases Option.some.inj (hn9.symm.trans hn)
  obtain ⟨kY, hkY, -⟩ := className_of_methodNamed hn
  have hinitY : kY.init = .initialized := Cond.initialized_spec (findClass_of_methodNamed hn) hkY h3
  have h : At U g.method c below := by rw [hg]; exact X.here
  have hlocals9 : W9 + (maxL + 11) + (headSpec ws rm).room.locals ≤ R.locals := hlocals
  have happ : (headSpec ws rm).appliesLoose y e.platform (U.calling g mk a) = true :=
    Spec.appliesLoose_calling (g := g) h hdg hn hkY hinitY
      (X.room_calling (g := g) (R' := (headSpec ws rm).room) hsize hmY hcY hframes (by rw [hlY]; omega) h4 h5) h1
  obtain ⟨mid, hmid⟩ := h.above
  have hfr : (U.setTop g).frames = (.java g :: mid) ++ below := by rw [State.frames_setTop' g h.top, hmid]; rfl
  obtain ⟨o, s₂, hsteps, -, hend, hq⟩ := Steps.callFree hM p X.admits X.cas X.clock (acts := []) hfr happ hPc trivial
  have hq' : vx_Q Qc XC mc ms free a (U.calling g mk a) o s₂ := hq
  rw [State.frames_setTop' g h.top] at hend
  obtain ⟨g₀, hg0⟩ := Option.isSome_iff_exists.mp h.top
  obtain ⟨r, hr⟩ := State.topJava?_eq_some.mp hg0
  have hr' : (({ U with heap := s₂.heap, slotsUsed := s₂.slotsUsed } : State).setVm s₂.vm).frames = .java g₀ :: r := hr
  rcases hq' with ⟨hqc, L, hfe, hL⟩ | ⟨q, rfl, E, ce, L, hx, hce, hcv, hcl, hW₂, hsm, hL⟩
  · obtain ⟨⟨v, rfl⟩, hW₂, e2, q2, q3, q4, q5, q6⟩ := id hfe
    have e3 : s₂ = ({ (U.calling g mk a).setFrames s₂.frames with heap := s₂.heap, slotsUsed := s₂.slotsUsed } : State).setVm s₂.vm := by
      have : s₂ = ({ s₂ with vm := (U.calling g mk a).vm } : State).setVm s₂.vm := rfl
      rw [e2] at this
      exact this
    obtain ⟨c₂, i₂, len₂, hc₂, hd₂, hf₂⟩ := hend
    have hW' : U.WarmedH s₂.vm := hW₂
    have hcc : c₂ = c := by
      have h1 : s₂.code? g.method = U.code? g.method := by
        rw [State.code?_eq, State.code?_eq, hW'.alike.method?]
      exact Option.some.inj (hc₂.symm.trans (h1.trans h.code))
    subst hcc
    have hlen : len₂ = len := by rw [hdg] at hd₂; cases hd₂; rfl
    subst hlen
    have hs₂ : s₂ = (({ U with heap := s₂.heap, slotsUsed := s₂.slotsUsed } : State).setVm s₂.vm).setTop { g with pc := g.pc + len₂, stack := v.toList ++ g.stack } := by
      refine e3.trans ?_
      rw [hf₂, State.calling_eq h.top, State.setFrames_setFrames, State.setTop_of_frames _ hr', hr]
      rfl
    have hsame : U.sameButNew ({ U with heap := s₂.heap, slotsUsed := s₂.slotsUsed } : State) L mc ms := by
      refine ⟨?_, q2, q3, q4, q5, q6⟩
      obtain ⟨t, ht, -⟩ := State.frames_cons hr
      show ({ U with heap := s₂.heap, slotsUsed := s₂.slotsUsed } : State) = { U.setFrames U.frames with heap := s₂.heap, slotsUsed := s₂.slotsUsed }
      rw [State.setFrames_self ht]
    subst hg
    refine Or.inl ⟨v, ⟨(({ U with heap := s₂.heap, slotsUsed := s₂.slotsUsed } : State).setVm s₂.vm), Ls ++ L, c0 + mc, s0 + ms⟩,
      ⟨X.admits, X.cas, X.clock, X.frames, X.room, X.hears, X.method, X.code, (X.here.setHeapUsed s₂.heap s₂.slotsUsed).setVm hW'.alike, X.tail, State.WarmedH.trans X.warmed hW', X.limits, X.bytes, X.same.trans (hsame.setVm s.vm)⟩,
      ⟨g, mk, s₂, L, rfl, rfl, hqc, rfl, hL, rfl, rfl⟩, ?_⟩
    show Steps p.tables e below _ ((({ U with heap := s₂.heap, slotsUsed := s₂.slotsUsed } : State).setVm s₂.vm).setTop { g with pc := g.pc + len₂, stack := v.toList ++ g.stack })
    rw [← hs₂]
    exact hsteps
  · obtain ⟨e2, q2, q3, q4, q5, q6⟩ := id hsm
    have e3 : s₂ = ({ (U.calling g mk a).setFrames s₂.frames with heap := s₂.heap, slotsUsed := s₂.slotsUsed } : State).setVm s₂.vm := by
      have : s₂ = ({ s₂ with vm := (U.calling g mk a).vm } : State).setVm s₂.vm := rfl
      rw [e2] at this
      exact this
    have hf₂ : s₂.frames = .throwing q :: .java g :: U.frames.tail := hend
    have hW' : U.WarmedH s₂.vm := hW₂
    have hs₂ : s₂ = ((({ U with heap := s₂.heap, slotsUsed := s₂.slotsUsed } : State).setVm s₂.vm).setTop g).pushFrame (.throwing q) := by
      refine e3.trans ?_
      rw [hf₂, State.calling_eq h.top, State.setFrames_setFrames, State.pushFrame, State.frames_setTop _ hr', State.setTop_of_frames _ hr', State.setFrames_setFrames, hr]
      rfl
    have hsame : U.sameButNew ({ U with heap := s₂.heap, slotsUsed := s₂.slotsUsed } : State) L mc ms := by
      refine ⟨?_, q2, q3, q4, q5, q6⟩
      obtain ⟨t, ht, -⟩ := State.frames_cons hr
      show ({ U with heap := s₂.heap, slotsUsed := s₂.slotsUsed } : State) = { U.setFrames U.frames with heap := s₂.heap, slotsUsed := s₂.slotsUsed }
      rw [State.setFrames_self ht]
    subst hg
    refine Or.inr ⟨q, ⟨(({ U with heap := s₂.heap, slotsUsed := s₂.slotsUsed } : State).setVm s₂.vm), Ls ++ L, c0 + mc, s0 + ms⟩,
      ⟨X.admits, X.cas, X.clock, X.frames, X.room, X.hears, X.method, X.code, (X.here.setHeapUsed s₂.heap s₂.slotsUsed).setVm hW'.alike, X.tail, State.WarmedH.trans X.warmed hW', X.limits, X.bytes, X.same.trans (hsame.setVm s.vm)⟩,
      ⟨g, mk, s₂, L, E, ce, rfl, rfl, hx, hce, hcv, hcl, rfl, hL, rfl, rfl⟩, ?_⟩
    show Steps p.tables e below _ (((({ U with heap := s₂.heap, slotsUsed := s₂.slotsUsed } : State).setVm s₂.vm).setTop g).pushFrame (.throwing q))
    rw [← hs₂]
    exact hsteps
end
variable {p : Program} {l : Launch} {e : Env} {R : Room} {s : State} {m : MethodId} {args : Array Value} {below : List Frame} {meth : Method} {c : Code} {T : State} {H : Heap} {locs : List Loc} {cells slots : Nat}
theorem vx_callVX (X : Stand p l e R s m args below meth c T locs cells slots) (hexec : p.tables.exec = Jvm.exec) {own C : String} {index : Nat} {y : MethodName} {bytes : ByteArray} {maxL : Nat} {ret : Option FieldType} {hh : List (Nat × Nat × Nat × Nat)}
    (hown : s.vm.findClass own = some m.cls) (hlink : (Cond.methodLink own index y).before args s = true) (hinst : (Cond.instanceMethod y).before args s = true) (hsel : (Cond.selects C y y).before args s = true)
    (hcode : (Cond.codeWith y bytes maxL ret hh).before args s = true) (hy : y.cls ≠ "java/lang/invoke/MethodHandle" ∧ y.cls ≠ "java/lang/invoke/VarHandle")
    {W9 : Nat} {Pre : Pt → Array Value → Prop} {Post : Pt → Array Value → Option Value → Pt → Prop} {PostX : Pt → Array Value → Addr → Pt → Prop} (hK : vx_Back l R p e below s args y 3 W9 Pre Post PostX)
    {b : Addr} {cellB : Cell} (hcell : T.heap[b]? = some cellB) (hobj : cellB.vm.isStatics = false) (hcls : s.vm.findClass C = some cellB.cls)
    {g : JFrame} (hg : g.method = m) (hsize : g.locals.size = c.maxLocals) {argsL rest : List Value} (hlen : ∀ sig, parseMethodDescriptor y.desc = some sig → argsL.length = sig.parameters.length)
    (hstack : g.stack = argsL.reverse ++ .ref b :: rest) (hW : 2 * g.monitorRoom + (rest.map fun v => v.category).sum ≤ W9) (hdg : decode c.code g.pc = .ok (.invokevirtual index, 3))
    (hpre : ∀ vm₁, s.WarmedH vm₁ → Pre ⟨T.setVm vm₁, locs, cells, slots⟩ (Value.ref b :: argsL).toArray) :
    (∃ (v : Option Value) (vm₁ : Vm) (B : Pt), s.WarmedH vm₁ ∧ Stand p l e R s m args below meth c B.U B.locs B.cells B.slots ∧ Post ⟨T.setVm vm₁, locs, cells, slots⟩ (Value.ref b :: argsL).toArray v B ∧
      ∀ target, Steps p.tables e below (B.U.setTop { g with pc := g.pc + 3, stack := v.toList ++ rest }) target → Steps p.tables e below (T.setTop g) target) ∨
    (∃ (q : Addr) (vm₁ : Vm) (B : Pt), s.WarmedH vm₁ ∧ Stand p l e R s m args below meth c B.U B.locs B.cells B.slots ∧ PostX ⟨T.setVm vm₁, locs, cells, slots⟩ (Value.ref b :: argsL).toArray q B ∧
      Steps p.tables e below (T.setTop g) ((B.U.setTop { g with stack := rest }).pushFrame (.throwing q))) := by
  obtain ⟨mk, methM, hnamed, hmethM, hstM, habM⟩ := Cond.instanceMethod_spec hinst
  obtain ⟨m8, methM', cM, hn8, hmethM', -, -, -, -, -, -, hsigM⟩ := Cond.codeWith_spec hcode
  cases Option.some.inj (hn8.symm.trans hnamed)
  cases hmethM.symm.trans hmethM'
  obtain ⟨c2, r2, m2, q1, q2, q3, q4, kP, hkP, hkPi⟩ := Cond.selects_spec hsel
  cases hcls.symm.trans q1
  cases (State.methodFound?_of_named hnamed hy).symm.trans q2
  cases hnamed.symm.trans q3
  have hselP : selectMethod e.platform s.vm cellB.cls mk = .method mk := by rw [Launch.admits_selectMethod X.admits]; exact q4
  obtain ⟨vm₁, X₁, hstep₁⟩ := X.invokevirtual hexec hown hlink hnamed hmethM hstM hkP hkPi hy (a := b) (cell := cellB) hcell
    (fun z h => by rw [h] at hobj; cases hobj) hselP hmethM habM hkP hkPi (g := g) hg (argsL := argsL) (rest := rest) (hlen _ hsigM) hstack hdg
  rcases hK m meth c ⟨T.setVm vm₁, locs, cells, slots⟩ { g with stack := rest } (.invokevirtual index) mk (Value.ref b :: argsL).toArray X₁ hg hsize hdg hW (X₁.named hnamed) (hpre vm₁ X₁.warmed) with ⟨v, B, X', hpost, hsteps⟩ | ⟨q, B, X', hpost, hsteps⟩
  · exact Or.inl ⟨v, vm₁, B, X₁.warmed, X', hpost, fun target h => hstep₁ _ fun acts => by rw [doInvoke_state]; exact hsteps.trans h⟩
  · exact Or.inr ⟨q, vm₁, B, X₁.warmed, X', hpost, hstep₁ _ fun acts => by rw [doInvoke_state]; exact hsteps⟩
theorem vx_callSX (X : Stand p l e R s m args below meth c T locs cells slots) (hexec : p.tables.exec = Jvm.exec) {own : String} {index : Nat} {y : MethodName} {bytes : ByteArray} {maxL : Nat} {ret : Option FieldType} {hh : List (Nat × Nat × Nat × Nat)}
    (hown : s.vm.findClass own = some m.cls) (hlink : (Cond.methodLink own index y).before args s = true) (hstat : (Cond.static y).before args s = true) (hinit : (Cond.initialized y.cls).before args s = true)
    (hcode : (Cond.codeWith y bytes maxL ret hh).before args s = true) (hy : y.cls ≠ "java/lang/invoke/MethodHandle" ∧ y.cls ≠ "java/lang/invoke/VarHandle")
    {W9 : Nat} {Pre : Pt → Array Value → Prop} {Post : Pt → Array Value → Option Value → Pt → Prop} {PostX : Pt → Array Value → Addr → Pt → Prop} (hK : vx_Back l R p e below s args y 3 W9 Pre Post PostX)
    {g : JFrame} (hg : g.method = m) (hsize : g.locals.size = c.maxLocals) {argsL rest : List Value} (hlen : ∀ sig, parseMethodDescriptor y.desc = some sig → argsL.length = sig.parameters.length)
    (hstack : g.stack = argsL.reverse ++ rest) (hW : 2 * g.monitorRoom + (rest.map fun v => v.category).sum ≤ W9) (hdg : decode c.code g.pc = .ok (.invokestatic index, 3))
    (hpre : ∀ vm₁, s.WarmedH vm₁ → Pre ⟨T.setVm vm₁, locs, cells, slots⟩ argsL.toArray) :
    (∃ (v : Option Value) (vm₁ : Vm) (B : Pt), s.WarmedH vm₁ ∧ Stand p l e R s m args below meth c B.U B.locs B.cells B.slots ∧ Post ⟨T.setVm vm₁, locs, cells, slots⟩ argsL.toArray v B ∧
      ∀ target, Steps p.tables e below (B.U.setTop { g with pc := g.pc + 3, stack := v.toList ++ rest }) target → Steps p.tables e below (T.setTop g) target) ∨
    (∃ (q : Addr) (vm₁ : Vm) (B : Pt), s.WarmedH vm₁ ∧ Stand p l e R s m args below meth c B.U B.locs B.cells B.slots ∧ PostX ⟨T.setVm vm₁, locs, cells, slots⟩ argsL.toArray q B ∧
      Steps p.tables e below (T.setTop g) ((B.U.setTop { g with stack := rest }).pushFrame (.throwing q))) := by
  obtain ⟨mk, methM, cM, hnamed, hmethM, -, -, -, -, -, -, hsigM⟩ := Cond.codeWith_spec hcode
  have hstatic : methM.isStatic = true := Cond.static_spec hnamed hmethM hstat
  obtain ⟨kP, hkP, -⟩ := className_of_methodNamed hnamed
  have hinitP : kP.init = .initialized := Cond.initialized_spec (findClass_of_methodNamed hnamed) hkP hinit
  obtain ⟨vm₁, X₁, hstep₁⟩ := X.invokestatic hexec hown hlink hnamed hmethM hstatic hkP hinitP hy (g := g) hg (argsL := argsL) (rest := rest) (hlen _ hsigM) hstack hdg
  rcases hK m meth c ⟨T.setVm vm₁, locs, cells, slots⟩ { g with stack := rest } (.invokestatic index) mk argsL.toArray X₁ hg hsize hdg hW (X₁.named hnamed) (hpre vm₁ X₁.warmed) with ⟨v, B, X', hpost, hsteps⟩ | ⟨q, B, X', hpost, hsteps⟩
  · exact Or.inl ⟨v, vm₁, B, X₁.warmed, X', hpost, fun target h => hstep₁ _ fun acts => by rw [doInvoke_state]; exact hsteps.trans h⟩
  · exact Or.inr ⟨q, vm₁, B, X₁.warmed, X', hpost, hstep₁ _ fun acts => by rw [doInvoke_state]; exact hsteps⟩
theorem vx_callVW (X : Stand p l e R s m args below meth c T locs cells slots) (hexec : p.tables.exec = Jvm.exec) {own C : String} {index : Nat} {y : MethodName} {bytes : ByteArray} {maxL : Nat} {ret : Option FieldType} {hh : List (Nat × Nat × Nat × Nat)}
    (hown : s.vm.findClass own = some m.cls) (hlink : (Cond.methodLink own index y).before args s = true) (hinst : (Cond.instanceMethod y).before args s = true) (hsel : (Cond.selects C y y).before args s = true)
    (hcode : (Cond.codeWith y bytes maxL ret hh).before args s = true) (hy : y.cls ≠ "java/lang/invoke/MethodHandle" ∧ y.cls ≠ "java/lang/invoke/VarHandle")
    {W9 : Nat} {Pre : Pt → Array Value → Prop} {Post : Pt → Array Value → Option Value → Pt → Prop} (hK : Back l R p e below s args y 3 W9 Pre Post)
    {b : Addr} {cellB : Cell} (hcell : T.heap[b]? = some cellB) (hobj : cellB.vm.isStatics = false) (hcls : s.vm.findClass C = some cellB.cls)
    {g : JFrame} (hg : g.method = m) (hsize : g.locals.size = c.maxLocals) {argsL rest : List Value} (hlen : ∀ sig, parseMethodDescriptor y.desc = some sig → argsL.length = sig.parameters.length)
    (hstack : g.stack = argsL.reverse ++ .ref b :: rest) (hW : 2 * g.monitorRoom + (rest.map fun v => v.category).sum ≤ W9) (hdg : decode c.code g.pc = .ok (.invokevirtual index, 3))
    (hpre : ∀ vm₁, s.WarmedH vm₁ → Pre ⟨T.setVm vm₁, locs, cells, slots⟩ (Value.ref b :: argsL).toArray) :
    ∃ (v : Option Value) (vm₁ : Vm) (B : Pt), s.WarmedH vm₁ ∧ Stand p l e R s m args below meth c B.U B.locs B.cells B.slots ∧ Post ⟨T.setVm vm₁, locs, cells, slots⟩ (Value.ref b :: argsL).toArray v B ∧
      ∀ target, Steps p.tables e below (B.U.setTop { g with pc := g.pc + 3, stack := v.toList ++ rest }) target → Steps p.tables e below (T.setTop g) target := by
  obtain ⟨mk, methM, hnamed, hmethM, hstM, habM⟩ := Cond.instanceMethod_spec hinst
  obtain ⟨m8, methM', cM, hn8, hmethM', -, -, -, -, -, -, hsigM⟩ := Cond.codeWith_spec hcode
  cases Option.some.inj (hn8.symm.trans hnamed)
  cases hmethM.symm.trans hmethM'
  obtain ⟨c2, r2, m2, q1, q2, q3, q4, kP, hkP, hkPi⟩ := Cond.selects_spec hsel
  cases hcls.symm.trans q1
  cases (State.methodFound?_of_named hnamed hy).symm.trans q2
  cases hnamed.symm.trans q3
  have hselP : selectMethod e.platform s.vm cellB.cls mk = .method mk := by rw [Launch.admits_selectMethod X.admits]; exact q4
  obtain ⟨vm₁, X₁, hstep₁⟩ := X.invokevirtual hexec hown hlink hnamed hmethM hstM hkP hkPi hy (a := b) (cell := cellB) hcell
    (fun z h => by rw [h] at hobj; cases hobj) hselP hmethM habM hkP hkPi (g := g) hg (argsL := argsL) (rest := rest) (hlen _ hsigM) hstack hdg
  obtain ⟨v, B, X', hpost, hsteps⟩ := hK m meth c ⟨T.setVm vm₁, locs, cells, slots⟩ { g with stack := rest } (.invokevirtual index) mk (Value.ref b :: argsL).toArray X₁ hg hsize hdg hW (X₁.named hnamed) (hpre vm₁ X₁.warmed)
  exact ⟨v, vm₁, B, X₁.warmed, X', hpost, fun target h => hstep₁ _ fun acts => by rw [doInvoke_state]; exact hsteps.trans h⟩
abbrev vx_CVW (R : Room) (s : State) (args : Array Value) (own C : String) (index : Nat) (y : MethodName) (bytes : ByteArray) (maxL : Nat) (ret : Option FieldType) (hh : List (Nat × Nat × Nat × Nat)) (ws : List Cond) (rm : Room) (mc ms n : Nat) : Prop :=
  (rm.cells = mc ∧ rm.slots = ms ∧ rm.frames + 1 ≤ R.frames ∧ 8 + (maxL + 11) + rm.locals ≤ R.locals ∧ (∀ w ∈ ws, ∀ (a' : Array Value) (U : State), s.WarmedH U.vm → w.before a' U = true) ∧ Cond.codeWith y bytes maxL ret hh ∈ ws) ∧
  (Cond.codeWith y bytes maxL ret hh).before args s = true ∧ (Cond.initialized y.cls).before args s = true ∧ (y.cls ≠ "java/lang/invoke/MethodHandle" ∧ y.cls ≠ "java/lang/invoke/VarHandle") ∧
  (∀ sig, parseMethodDescriptor y.desc = some sig → n = sig.parameters.length) ∧ (Cond.methodLink own index y).before args s = true ∧ (Cond.instanceMethod y).before args s = true ∧ (Cond.selects C y y).before args s = true
theorem vx_cwVW {own C : String} {index maxL mc ms : Nat} {y : MethodName} {bytes : ByteArray} {ret : Option FieldType} {hh : List (Nat × Nat × Nat × Nat)} {Ts ws ws' : List Cond} {rm : Room} (n : Nat) (ht : ∀ w ∈ Ts, w.before args s = true) (hT : GoodIn Ts (wsV own index C y ws)) (hw : ws = Cond.codeWith y bytes maxL ret hh :: ws') (hrc : rm.cells = mc) (hrs : rm.slots = ms)
    (hd : y.cls = C ∧ y.cls ≠ "java/lang/invoke/MethodHandle" ∧ y.cls ≠ "java/lang/invoke/VarHandle" ∧ (parseMethodDescriptor y.desc).map (fun d => d.parameters.length) = some n) (hR : rm.frames + 1 ≤ R.frames ∧ 8 + (maxL + 11) + rm.locals ≤ R.locals) :
    vx_CVW R s args own C index y bytes maxL ret hh ws rm mc ms n := by
  obtain ⟨hC, hd⟩ := hd
  subst hC
  have ok : ∀ w ∈ wsV own index y.cls y ws, w.before args s = true := fun w h => ht w (hT w h).1
  have hG : GoodIn Ts ws := fun w h => hT w (by unfold wsV; exact List.mem_append_right _ h)
  have hc : Cond.codeWith y bytes maxL ret hh ∈ ws := by rw [hw]; exact List.mem_cons_self
  refine ⟨⟨hrc, hrs, hR.1, hR.2, pay_in ht hG, hc⟩, ht _ (hG _ hc).1, ok _ (by simp [wsV]), ⟨hd.1, hd.2.1⟩, fun sig h => ?_, ok _ (by simp [wsV]), ok _ (by simp [wsV]), ok _ (by simp [wsV])⟩
  have h2 := hd.2.2
  rw [h] at h2
  exact (Option.some.inj h2).symm
theorem vx_runVW {y : MethodName} {bytes cc : ByteArray} {maxL nL mc ms n index : Nat} {ret : Option FieldType} {hh : List (Nat × Nat × Nat × Nat)} {ws : List Cond} {rm : Room} {Pc : Array Value → State → Prop} {Qc : Array Value → State → Outcome → State → Prop} {free : Addr → Prop} {Ts : List Cond} {own C : String} {b : Addr} {As rest : List Value} {g : JFrame}
    (S : CallFix p m c cc nL s args Ts own) (hM : Met l y ws rm Pc Qc mc ms free) (cw : vx_CVW R s args own C index y bytes maxL ret hh ws rm mc ms n) (hp : PreV s H C b Pc As)
    (hg : g.method = m) (hn : As.length = n) (hsize : g.locals.size = nL) (hstack : g.stack = As.reverse ++ .ref b :: rest) (hW : 2 * g.monitorRoom + (rest.map fun v => v.category).sum ≤ 8) (hdg : decode cc g.pc = .ok (.invokevirtual index, 3)) (hf : cells + mc ≤ R.cells ∧ slots + ms ≤ R.slots) :
    va_Run p l e R s m args below meth c H locs cells slots mc ms g rest (Qc (Value.ref b :: As).toArray) free := by
  obtain ⟨⟨hrc, hrs, hfr, hlo, hws, hcw⟩, hcode, hini, hy, hlen, hl, hin, hse⟩ := cw
  have hK : Back l R p e below s args y 3 8 (PreOf R mc ms Pc) (PostOf Qc mc ms free) := va_backW (hh := hh) (bytes := bytes) (maxL := maxL) (ret := ret) hM hp.1 hrc hrs hfr hlo hws hcw (fun a' U hW => word_at hW (Or.inl (by first | rfl | simp [Cond.onTables, Cond.keeps, Cond.steady])) hini)
  obtain ⟨hx, hb, hml, ho, -⟩ := S
  obtain ⟨-, ⟨cellB, hcB, hoB, hclB⟩, hPc⟩ := hp
  intro T hT X
  obtain ⟨v, vm₁, ⟨U', l2, c2, s2⟩, hW₁, X', ⟨g', mk, t, L, e1, e2, hq, h1, hL, h2, h3⟩, st⟩ := vx_callVW X hx (C := C) (hh := hh) (bytes := bytes) (maxL := maxL) (ret := ret) ho hl hin hse hcode hy hK (by rw [hT]; exact hcB) hoB hclB hg (hsize.trans hml.symm) (argsL := As) (rest := rest) (fun sig h => hn.trans (hlen sig h)) hstack hW (by rw [hb]; exact hdg)
    (fun vm₁ hW₁ => ⟨hf.1, hf.2, hPc (T.setVm vm₁) hT hW₁⟩)
  dsimp only [Pt.U, Pt.locs, Pt.cells, Pt.slots] at X' e1 e2 h1 h2 h3 st
  subst h1; subst h2; subst h3
  exact ⟨v, (T.setVm vm₁).calling g' mk (Value.ref b :: As).toArray, t, U', L, hT, X', hL, e1, e2, hq, st⟩
section
variable {y : MethodName} {bytes cc : ByteArray} {maxL nL mc ms n index : Nat} {ret : Option FieldType} {ws : List Cond} {rm : Room} {Pc : Array Value → State → Prop} {Qc : Array Value → State → Outcome → State → Prop} {XC : String → State → State → Prop} {free : Addr → Prop} {Ts : List Cond} {own C : String} {b : Addr} {As rest : List Value} {g : JFrame}
theorem vx_runVX {hh : List (Nat × Nat × Nat × Nat)} (S : CallFix p m c cc nL s args Ts own) (hM : vx_Met l y ws rm Pc Qc XC mc ms free) (cw : vx_CVW R s args own C index y bytes maxL ret hh ws rm mc ms n) (hp : PreV s H C b Pc As)
    (hg : g.method = m) (hn : As.length = n) (hsize : g.locals.size = nL) (hstack : g.stack = As.reverse ++ .ref b :: rest) (hW : 2 * g.monitorRoom + (rest.map fun v => v.category).sum ≤ 8) (hdg : decode cc g.pc = .ok (.invokevirtual index, 3)) (hf : cells + mc ≤ R.cells ∧ slots + ms ≤ R.slots) :
    vx_Run p l e R s m args below meth c H locs cells slots mc ms g rest (Qc (Value.ref b :: As).toArray) XC free := by
  obtain ⟨⟨hrc, hrs, hfr, hlo, hws, hcw⟩, hcode, hini, hy, hlen, hl, hin, hse⟩ := cw
  have hK : vx_Back l R p e below s args y 3 8 (PreOf R mc ms Pc) (PostOf Qc mc ms free) (vx_Post XC mc ms free) := vx_backW (hh := hh) (bytes := bytes) (maxL := maxL) (ret := ret) hM hp.1 hrc hrs hfr hlo hws hcw (fun a' U hW => word_at hW (Or.inl (by first | rfl | simp [Cond.onTables, Cond.keeps, Cond.steady])) hini)
  obtain ⟨hx, hb, hml, ho, -⟩ := S
  obtain ⟨-, ⟨cellB, hcB, hoB, hclB⟩, hPc⟩ := hp
  intro T hT X
  rcases vx_callVX X hx (C := C) (hh := hh) (bytes := bytes) (maxL := maxL) (ret := ret) ho hl hin hse hcode hy hK (by rw [hT]; exact hcB) hoB hclB hg (hsize.trans hml.symm) (argsL := As) (rest := rest) (fun sig h => hn.trans (hlen sig h)) hstack hW (by rw [hb]; exact hdg)
    (fun vm₁ hW₁ => ⟨hf.1, hf.2, hPc (T.setVm vm₁) hT hW₁⟩) with ⟨v, vm₁, ⟨U', l2, c2, s2⟩, hW₁, X', ⟨g', mk, t, L, e1, e2, hq, h1, hL, h2, h3⟩, st⟩ | ⟨q, vm₁, ⟨U', l2, c2, s2⟩, hW₁, X', ⟨g', mk, t, L, E, ce, e1, e2, hq, hce, hcv, hcl, h1, hL, h2, h3⟩, st⟩
  · dsimp only [Pt.U, Pt.locs, Pt.cells, Pt.slots] at X' e1 e2 h1 h2 h3 st
    subst h1; subst h2; subst h3
    exact Or.inl ⟨v, (T.setVm vm₁).calling g' mk (Value.ref b :: As).toArray, t, U', L, hT, X', hL, e1, e2, hq, st⟩
  · dsimp only [Pt.U, Pt.locs, Pt.cells, Pt.slots] at X' e1 e2 h1 h2 h3 st hcl
    subst h1; subst h2; subst h3
    exact Or.inr ⟨q, (T.setVm vm₁).calling g' mk (Value.ref b :: As).toArray, t, U', L, E, ce, hT, X', hL, e1, e2, hq, hce, hcv, vx_cls hW₁ hcl, st⟩
theorem vx_runSX {hh : List (Nat × Nat × Nat × Nat)} (S : CallFix p m c cc nL s args Ts own) (hM : vx_Met l y ws rm Pc Qc XC mc ms free) (cw : vx_CSW R s args own index y bytes maxL ret hh ws rm mc ms n) (hp : PreS s H Pc As)
    (hg : g.method = m) (hn : As.length = n) (hsize : g.locals.size = nL) (hstack : g.stack = As.reverse ++ rest) (hW : 2 * g.monitorRoom + (rest.map fun v => v.category).sum ≤ 8) (hdg : decode cc g.pc = .ok (.invokestatic index, 3)) (hf : cells + mc ≤ R.cells ∧ slots + ms ≤ R.slots) :
    vx_Run p l e R s m args below meth c H locs cells slots mc ms g rest (Qc As.toArray) XC free := by
  obtain ⟨⟨hrc, hrs, hfr, hlo, hws, hcw⟩, hcode, hini, hy, hlen, hl, hstt⟩ := cw
  have hK : vx_Back l R p e below s args y 3 8 (PreOf R mc ms Pc) (PostOf Qc mc ms free) (vx_Post XC mc ms free) := vx_backW (hh := hh) (bytes := bytes) (maxL := maxL) (ret := ret) hM hp.1 hrc hrs hfr hlo hws hcw (fun a' U hW => word_at hW (Or.inl (by first | rfl | simp [Cond.onTables, Cond.keeps, Cond.steady])) hini)
  obtain ⟨hx, hb, hml, ho, -⟩ := S
  intro T hT X
  rcases vx_callSX X hx (hh := hh) (bytes := bytes) (maxL := maxL) (ret := ret) ho hl hstt hini hcode hy hK hg (hsize.trans hml.symm) (argsL := As) (rest := rest) (fun sig h => hn.trans (hlen sig h)) hstack hW (by rw [hb]; exact hdg)
    (fun vm₁ hW₁ => ⟨hf.1, hf.2, hp.2 (T.setVm vm₁) hT hW₁⟩) with ⟨v, vm₁, ⟨U', l2, c2, s2⟩, hW₁, X', ⟨g', mk, t, L, e1, e2, hq, h1, hL, h2, h3⟩, st⟩ | ⟨q, vm₁, ⟨U', l2, c2, s2⟩, hW₁, X', ⟨g', mk, t, L, E, ce, e1, e2, hq, hce, hcv, hcl, h1, hL, h2, h3⟩, st⟩
  · dsimp only [Pt.U, Pt.locs, Pt.cells, Pt.slots] at X' e1 e2 h1 h2 h3 st
    subst h1; subst h2; subst h3
    exact Or.inl ⟨v, (T.setVm vm₁).calling g' mk As.toArray, t, U', L, hT, X', hL, e1, e2, hq, st⟩
  · dsimp only [Pt.U, Pt.locs, Pt.cells, Pt.slots] at X' e1 e2 h1 h2 h3 st hcl
    subst h1; subst h2; subst h3
    exact Or.inr ⟨q, (T.setVm vm₁).calling g' mk As.toArray, t, U', L, E, ce, hT, X', hL, e1, e2, hq, hce, hcv, vx_cls hW₁ hcl, st⟩
end
end VXH
theorem vx_ofWH {l : Launch} {y : MethodName} {ws ws' : List Cond} {rm : Room} {Pc : Array Value → State → Prop} {Qc : Array Value → State → Outcome → State → Prop} {XC : String → State → State → Prop} {mc ms : Nat} {free : Addr → Prop} {cc : ByteArray} {maxL : Nat} {ret : Option FieldType} {hh : List (Nat × Nat × Nat × Nat)}
    (hy : plainName y.cls = true) (hw : ws = Cond.codeWith y cc maxL ret hh :: ws')
    (body : ∀ p e s m args below meth c s₁, BodyLoose p l y (headSpec ws rm) cc maxL ret e s m args below meth c s₁ → c.maxLocals = maxL → Pc args s →
      W p l e (headSpec ws rm).room s m args below meth c s.heap [] 0 0 (vx_MQ below Qc XC args s mc ms free) (entryFrame m args maxL)) : vx_Met l y ws rm Pc Qc XC mc ms free := by
  refine MetFree.of_bodyS (code := cc) (maxLocals := maxL) (ret := ret) hy ?_ ?_
  · intro args s m h hn
    obtain ⟨m9, meth, c, hn9, h1, h2, h3, h4, -, h5, h6, -⟩ := Cond.codeWith_spec (atoms_spec (ws := ws) h _ (by rw [hw]; exact List.mem_cons_self))
    cases hn.symm.trans hn9
    exact ⟨meth, c, h1, h2, h3, h4, h5, h6⟩
  · intro p e s m args below meth c s₁ B hml hP _
    have hh0 : s₁.heap = s.heap := by rw [B.state]; rfl
    obtain ⟨t, a1, o, b1, b2, b3⟩ := body p e s m args below meth c s₁ B hml hP s₁ hh0 (Stand.of_body B)
    exact ⟨t, o, a1, b1, b2, b3⟩
/-! ===== END ===== -/

/-! ===== BEGIN a constructor that throws (launches without stack traces) ===== -/
section VXIA
variable {p : Program} {l : Launch} {e : Env} {R : Room} {s : State} {m : MethodId} {args : Array Value} {below : List Frame} {meth : Method} {c : Code} {T : State} {locs : List Loc} {cells slots : Nat}
theorem vx_callI (X : Stand p l e R s m args below meth c T locs cells slots) (hexec : p.tables.exec = Jvm.exec) {own : String} {index : Nat} {y : MethodName} {bytes : ByteArray} {maxL : Nat}
    (hown : s.vm.findClass own = some m.cls) (hy1 : y.name = "<init>") (hlink : (Cond.methodLink own index y).before args s = true) (hinst : (Cond.instanceMethod y).before args s = true)
    (hcode : (Cond.code y bytes maxL none).before args s = true) (hy : y.cls ≠ "java/lang/invoke/MethodHandle" ∧ y.cls ≠ "java/lang/invoke/VarHandle")
    {W9 : Nat} {Pre : Pt → Array Value → Prop} {Post : Pt → Array Value → Option Value → Pt → Prop} {PostX : Pt → Array Value → Addr → Pt → Prop} (hK : vx_Back l R p e below s args y 3 W9 Pre Post PostX)
    {g : JFrame} (hg : g.method = m) (hsize : g.locals.size = c.maxLocals) {a : Addr} {argsL rest : List Value} (hlen : ∀ sig, parseMethodDescriptor y.desc = some sig → argsL.length = sig.parameters.length)
    (hstack : g.stack = argsL.reverse ++ .ref a :: rest) (hW : 2 * g.monitorRoom + (rest.map fun v => v.category).sum ≤ W9) (hdg : decode c.code g.pc = .ok (.invokespecial index, 3))
    (hpre : ∀ vm₁, s.WarmedH vm₁ → Pre ⟨T.setVm vm₁, locs, cells, slots⟩ (Value.ref a :: argsL).toArray) :
    (∃ (v : Option Value) (vm₁ : Vm) (B : Pt), s.WarmedH vm₁ ∧ Stand p l e R s m args below meth c B.U B.locs B.cells B.slots ∧ Post ⟨T.setVm vm₁, locs, cells, slots⟩ (Value.ref a :: argsL).toArray v B ∧
      ∀ target, Steps p.tables e below (B.U.setTop { g with pc := g.pc + 3, stack := v.toList ++ rest }) target → Steps p.tables e below (T.setTop g) target) ∨
    (∃ (q : Addr) (vm₁ : Vm) (B : Pt), s.WarmedH vm₁ ∧ Stand p l e R s m args below meth c B.U B.locs B.cells B.slots ∧ PostX ⟨T.setVm vm₁, locs, cells, slots⟩ (Value.ref a :: argsL).toArray q B ∧
      Steps p.tables e below (T.setTop g) ((B.U.setTop { g with stack := rest }).pushFrame (.throwing q))) := by
  subst hg
  have hpl : e.platform.magicAccessors = ({} : Platform).magicAccessors := by rw [X.admits.platform]
  obtain ⟨mk, methM, cM, kP, vm₁, hnamed, hmethM, hcodeM, -, hlocalsM, -, hkP, -, hW₁, hstep₁⟩ := Steps.initColdArgs (e := e) X.here hexec X.warmed hpl hown hy1 hy hlink hinst hcode (f := g) rfl hlen hstack hdg
  have X₁ := X.noted hW₁
  rcases hK g.method meth c ⟨T.setVm vm₁, locs, cells, slots⟩ { g with stack := rest } (.invokespecial index) mk (Value.ref a :: argsL).toArray X₁ rfl hsize hdg hW (X₁.named hnamed) (hpre vm₁ X₁.warmed) with ⟨v, B, X', hpost, hsteps⟩ | ⟨q, B, X', hpost, hsteps⟩
  · exact Or.inl ⟨v, vm₁, B, X₁.warmed, X', hpost, fun target h => hstep₁ _ fun acts => by rw [doInvoke_state]; exact hsteps.trans h⟩
  · exact Or.inr ⟨q, vm₁, B, X₁.warmed, X', hpost, hstep₁ _ fun acts => by rw [doInvoke_state]; exact hsteps⟩
end VXIA
section VXIB
variable {p : Program} {l : Launch} {e : Env} {R : Room} {s : State} {m : MethodId} {args : Array Value} {below : List Frame} {meth : Method} {c : Code} {H : Heap} {locs : List Loc} {cells slots : Nat}
variable {y : MethodName} {bytes cc : ByteArray} {maxL nL mc ms n index : Nat} {ret : Option FieldType} {ws : List Cond} {rm : Room} {Pc : Array Value → State → Prop} {Qc : Array Value → State → Outcome → State → Prop} {XC : String → State → State → Prop} {free : Addr → Prop} {Ts : List Cond} {own C : String} {b : Addr} {As rest : List Value} {g : JFrame}
theorem vx_runI (S : CallFix p m c cc nL s args Ts own) (hM : vx_Met l y ws rm Pc Qc XC mc ms free) (cw : CallB R s args own index y bytes maxL none ws rm mc ms n ∧ y.name = "<init>" ∧ (Cond.instanceMethod y).before args s = true) (hp : PreS s H Pc (.ref b :: As))
    (hg : g.method = m) (hn : As.length = n) (hsize : g.locals.size = nL) (hstack : g.stack = As.reverse ++ .ref b :: rest) (hW : 2 * g.monitorRoom + (rest.map fun v => v.category).sum ≤ 8) (hdg : decode cc g.pc = .ok (.invokespecial index, 3)) (hf : cells + mc ≤ R.cells ∧ slots + ms ≤ R.slots) :
    vx_Run p l e R s m args below meth c H locs cells slots mc ms g rest (Qc (Value.ref b :: As).toArray) XC free := by
  have hK : vx_Back l R p e below s args y 3 8 (PreOf R mc ms Pc) (PostOf Qc mc ms free) (vx_Post XC mc ms free) := vx_callBack cw.1 hM hp.1
  obtain ⟨⟨-, -, -, -, -, -, hcode, -, hy, hlen, hl⟩, hy1, hin⟩ := cw
  obtain ⟨hx, hb, hml, ho, -⟩ := S
  have hPc := hp.2
  intro T hT X
  rcases vx_callI X hx (bytes := bytes) (maxL := maxL) ho hy1 hl hin hcode hy hK hg (hsize.trans hml.symm) (a := b) (argsL := As) (rest := rest) (fun sig h => hn.trans (hlen sig h)) hstack hW (by rw [hb]; exact hdg)
    (fun vm₁ hW₁ => ⟨hf.1, hf.2, hPc (T.setVm vm₁) hT hW₁⟩) with ⟨v, vm₁, ⟨U', l2, c2, s2⟩, hW₁, X', ⟨g', mk, t, L, e1, e2, hq, h1, hL, h2, h3⟩, st⟩ | ⟨q, vm₁, ⟨U', l2, c2, s2⟩, hW₁, X', ⟨g', mk, t, L, E, ce, e1, e2, hq, hce, hcv, hcl, h1, hL, h2, h3⟩, st⟩
  · dsimp only [Pt.U, Pt.locs, Pt.cells, Pt.slots] at X' e1 e2 h1 h2 h3 st
    subst h1; subst h2; subst h3
    exact Or.inl ⟨v, (T.setVm vm₁).calling g' mk (Value.ref b :: As).toArray, t, U', L, hT, X', hL, e1, e2, hq, st⟩
  · dsimp only [Pt.U, Pt.locs, Pt.cells, Pt.slots] at X' e1 e2 h1 h2 h3 st hcl
    subst h1; subst h2; subst h3
    exact Or.inr ⟨q, (T.setVm vm₁).calling g' mk (Value.ref b :: As).toArray, t, U', L, E, ce, hT, X', hL, e1, e2, hq, hce, hcv, vx_cls hW₁ hcl, st⟩
end VXIB
/-! ===== END ===== -/
end
section
/-! ===== BEGIN printed: names, fields, word lists, decode rows ===== -/
def RX0 : String := "Signkinds$Line"
def TX0 : u_T := fun k => match k with
  | 0 => ("Signkinds$Line", "numbers", "[I", true)
  | _ => ("Signkinds$Line", "size", "I", false)
def tyX0 : Nat → FieldType := fun k => match k with
  | 0 => .array .int
  | _ => .int
abbrev wsX00 : List Cond := u_ws RX0 TX0 2
theorem nmX0 : ∀ a, a < 2 → ∀ b, b < 2 → a ≠ b → (TX0 a).2.1 ≠ (TX0 b).2.1 := by decide +kernel
theorem tyX0_ok : ∀ k, k < 2 → parseFieldDescriptor (TX0 k).2.2.1 = some (tyX0 k) := by decide +kernel
abbrev cX0_init : ByteArray := prog_2_method_1_code
def yX0_init : MethodName := ⟨RX0, "<init>", "(I)V"⟩
abbrev cX0_size : ByteArray := prog_2_method_2_code
def yX0_size : MethodName := ⟨RX0, "size", "()I"⟩
abbrev cX0_hasPlace : ByteArray := prog_2_method_3_code
def yX0_hasPlace : MethodName := ⟨RX0, "hasPlace", "(I)Z"⟩
abbrev cX0_hasRoomFor : ByteArray := prog_2_method_4_code
def yX0_hasRoomFor : MethodName := ⟨RX0, "hasRoomFor", "(I)Z"⟩
abbrev cX0_get : ByteArray := prog_2_method_5_code
def yX0_get : MethodName := ⟨RX0, "get", "(I)I"⟩
abbrev cX0_set : ByteArray := prog_2_method_6_code
def yX0_set : MethodName := ⟨RX0, "set", "(II)V"⟩
abbrev cX0_add : ByteArray := prog_2_method_7_code
def yX0_add : MethodName := ⟨RX0, "add", "(I)V"⟩
abbrev cX0_clear : ByteArray := prog_2_method_8_code
def yX0_clear : MethodName := ⟨RX0, "clear", "()V"⟩
abbrev cX0_takeAway : ByteArray := prog_2_method_9_code
def yX0_takeAway : MethodName := ⟨RX0, "takeAway", "(I)V"⟩
abbrev cX0_narrow : ByteArray := prog_2_method_10_code
def yX0_narrow : MethodName := ⟨RX0, "narrow", "(II)V"⟩
abbrev cX0_turnRound : ByteArray := prog_2_method_11_code
def yX0_turnRound : MethodName := ⟨RX0, "turnRound", "()V"⟩
abbrev cX0_become : ByteArray := prog_2_method_12_code
def yX0_become : MethodName := ⟨RX0, "become", "(LSignkinds$Line;)V"⟩
def RX1 : String := "Signkinds$Past"
def TX1 : u_T := fun k => match k with
  | 0 => ("Signkinds$Past", "states", "[LSignkinds$State;", true)
  | _ => ("Signkinds$Past", "size", "I", false)
def tyX1 : Nat → FieldType := fun k => match k with
  | 0 => .array (.object "Signkinds$State")
  | _ => .int
abbrev wsX10 : List Cond := u_ws RX1 TX1 2
theorem nmX1 : ∀ a, a < 2 → ∀ b, b < 2 → a ≠ b → (TX1 a).2.1 ≠ (TX1 b).2.1 := by decide +kernel
theorem tyX1_ok : ∀ k, k < 2 → parseFieldDescriptor (TX1 k).2.2.1 = some (tyX1 k) := by decide +kernel
abbrev cX1_init : ByteArray := prog_3_method_1_code
def yX1_init : MethodName := ⟨RX1, "<init>", "()V"⟩
abbrev cX1_size : ByteArray := prog_3_method_2_code
def yX1_size : MethodName := ⟨RX1, "size", "()I"⟩
abbrev cX1_keep : ByteArray := prog_3_method_3_code
def yX1_keep : MethodName := ⟨RX1, "keep", "(LSignkinds$State;)V"⟩
abbrev cX1_bringBack : ByteArray := prog_3_method_4_code
def yX1_bringBack : MethodName := ⟨RX1, "bringBack", "(LSignkinds$State;)V"⟩
def RX2 : String := "Signkinds$Signs"
def TX2 : u_T := fun k => match k with
  | _ => ("", "", "", false)
def tyX2 : Nat → FieldType := fun k => match k with
  | _ => .int
abbrev wsX20 : List Cond := u_ws RX2 TX2 0
theorem nmX2 : ∀ a, a < 0 → ∀ b, b < 0 → a ≠ b → (TX2 a).2.1 ≠ (TX2 b).2.1 := by decide +kernel
theorem tyX2_ok : ∀ k, k < 0 → parseFieldDescriptor (TX2 k).2.2.1 = some (tyX2 k) := by decide +kernel
abbrev cX2_isSign : ByteArray := prog_4_method_2_code
def yX2_isSign : MethodName := ⟨RX2, "isSign", "(I)Z"⟩
abbrev cX2_isRadix : ByteArray := prog_4_method_3_code
def yX2_isRadix : MethodName := ⟨RX2, "isRadix", "(I)Z"⟩
abbrev cX2_isOf : ByteArray := prog_4_method_4_code
def yX2_isOf : MethodName := ⟨RX2, "isOf", "(II)Z"⟩
abbrev cX2_kindsOf : ByteArray := prog_4_method_5_code
def yX2_kindsOf : MethodName := ⟨RX2, "kindsOf", "(I)I"⟩
abbrev cX2_upperOf : ByteArray := prog_4_method_6_code
def yX2_upperOf : MethodName := ⟨RX2, "upperOf", "(I)I"⟩
abbrev cX2_lowerOf : ByteArray := prog_4_method_7_code
def yX2_lowerOf : MethodName := ⟨RX2, "lowerOf", "(I)I"⟩
abbrev cX2_signValue : ByteArray := prog_4_method_8_code
def yX2_signValue : MethodName := ⟨RX2, "signValue", "(I)I"⟩
abbrev cX2_numberOf : ByteArray := prog_4_method_9_code
def yX2_numberOf : MethodName := ⟨RX2, "numberOf", "(II)I"⟩
abbrev cX2_digitOf : ByteArray := prog_4_method_10_code
def yX2_digitOf : MethodName := ⟨RX2, "digitOf", "(II)I"⟩
abbrev cX2_digitsOf : ByteArray := prog_4_method_11_code
def yX2_digitsOf : MethodName := ⟨RX2, "digitsOf", "(II)I"⟩
abbrev cX2_digitNumber : ByteArray := prog_4_method_12_code
def yX2_digitNumber : MethodName := ⟨RX2, "digitNumber", "(III)I"⟩
abbrev cX2_shifted : ByteArray := prog_4_method_13_code
def yX2_shifted : MethodName := ⟨RX2, "shifted", "(III)I"⟩
abbrev cX2_firstSpelled : ByteArray := prog_4_method_14_code
def yX2_firstSpelled : MethodName := ⟨RX2, "firstSpelled", "(I)I"⟩
abbrev cX2_secondSpelled : ByteArray := prog_4_method_15_code
def yX2_secondSpelled : MethodName := ⟨RX2, "secondSpelled", "(I)I"⟩
abbrev cX2_formOf : ByteArray := prog_4_method_16_code
def yX2_formOf : MethodName := ⟨RX2, "formOf", "(I)C"⟩
abbrev cX2_isSoundSign : ByteArray := prog_4_method_17_code
def yX2_isSoundSign : MethodName := ⟨RX2, "isSoundSign", "(I)Z"⟩
abbrev cX2_plainValueOf : ByteArray := prog_4_method_18_code
def yX2_plainValueOf : MethodName := ⟨RX2, "plainValueOf", "(I)I"⟩
abbrev cX2_isPlainDigit : ByteArray := prog_4_method_19_code
def yX2_isPlainDigit : MethodName := ⟨RX2, "isPlainDigit", "(I)Z"⟩
abbrev cX2_isGreatPlain : ByteArray := prog_4_method_20_code
def yX2_isGreatPlain : MethodName := ⟨RX2, "isGreatPlain", "(I)Z"⟩
abbrev cX2_isSmallPlain : ByteArray := prog_4_method_21_code
def yX2_isSmallPlain : MethodName := ⟨RX2, "isSmallPlain", "(I)Z"⟩
abbrev cX2_isAnyGreat : ByteArray := prog_4_method_22_code
def yX2_isAnyGreat : MethodName := ⟨RX2, "isAnyGreat", "(I)Z"⟩
abbrev cX2_isAnyLetter : ByteArray := prog_4_method_23_code
def yX2_isAnyLetter : MethodName := ⟨RX2, "isAnyLetter", "(I)Z"⟩
abbrev cX2_isBetween : ByteArray := prog_4_method_24_code
def yX2_isBetween : MethodName := ⟨RX2, "isBetween", "(III)Z"⟩
def RX3 : String := "Signkinds$State"
def TX3 : u_T := fun k => match k with
  | 0 => ("Signkinds$State", "rows", "[LSignkinds$Line;", true)
  | _ => ("Signkinds$State", "tracks", "[LSignkinds$Line;", true)
def tyX3 : Nat → FieldType := fun k => match k with
  | 0 => .array (.object "Signkinds$Line")
  | _ => .array (.object "Signkinds$Line")
abbrev wsX30 : List Cond := u_ws RX3 TX3 2
theorem nmX3 : ∀ a, a < 2 → ∀ b, b < 2 → a ≠ b → (TX3 a).2.1 ≠ (TX3 b).2.1 := by decide +kernel
theorem tyX3_ok : ∀ k, k < 2 → parseFieldDescriptor (TX3 k).2.2.1 = some (tyX3 k) := by decide +kernel
abbrev cX3_init : ByteArray := prog_5_method_1_code
def yX3_init : MethodName := ⟨RX3, "<init>", "()V"⟩
abbrev cX3_howManySigns : ByteArray := prog_5_method_2_code
def yX3_howManySigns : MethodName := ⟨RX3, "howManySigns", "()I"⟩
abbrev cX3_howManyUnits : ByteArray := prog_5_method_3_code
def yX3_howManyUnits : MethodName := ⟨RX3, "howManyUnits", "()I"⟩
abbrev cX3_become : ByteArray := prog_5_method_4_code
def yX3_become : MethodName := ⟨RX3, "become", "(LSignkinds$State;)V"⟩
def RX4 : String := "Signkinds$Units"
def TX4 : u_T := fun k => match k with
  | _ => ("", "", "", false)
def tyX4 : Nat → FieldType := fun k => match k with
  | _ => .int
abbrev wsX40 : List Cond := u_ws RX4 TX4 0
theorem nmX4 : ∀ a, a < 0 → ∀ b, b < 0 → a ≠ b → (TX4 a).2.1 ≠ (TX4 b).2.1 := by decide +kernel
theorem tyX4_ok : ∀ k, k < 0 → parseFieldDescriptor (TX4 k).2.2.1 = some (tyX4 k) := by decide +kernel
abbrev cX4_isUnit : ByteArray := prog_6_method_2_code
def yX4_isUnit : MethodName := ⟨RX4, "isUnit", "(I)Z"⟩
abbrev cX4_isHigh : ByteArray := prog_6_method_3_code
def yX4_isHigh : MethodName := ⟨RX4, "isHigh", "(I)Z"⟩
abbrev cX4_isLow : ByteArray := prog_6_method_4_code
def yX4_isLow : MethodName := ⟨RX4, "isLow", "(I)Z"⟩
abbrev cX4_isHalf : ByteArray := prog_6_method_5_code
def yX4_isHalf : MethodName := ⟨RX4, "isHalf", "(I)Z"⟩
abbrev cX4_isAnyCode : ByteArray := prog_6_method_6_code
def yX4_isAnyCode : MethodName := ⟨RX4, "isAnyCode", "(I)Z"⟩
abbrev cX4_isWideCode : ByteArray := prog_6_method_7_code
def yX4_isWideCode : MethodName := ⟨RX4, "isWideCode", "(I)Z"⟩
abbrev cX4_unitsOf : ByteArray := prog_6_method_8_code
def yX4_unitsOf : MethodName := ⟨RX4, "unitsOf", "(I)I"⟩
abbrev cX4_highOf : ByteArray := prog_6_method_9_code
def yX4_highOf : MethodName := ⟨RX4, "highOf", "(I)I"⟩
abbrev cX4_lowOf : ByteArray := prog_6_method_10_code
def yX4_lowOf : MethodName := ⟨RX4, "lowOf", "(I)I"⟩
abbrev cX4_codeOf : ByteArray := prog_6_method_11_code
def yX4_codeOf : MethodName := ⟨RX4, "codeOf", "(II)I"⟩
abbrev cX4_turned : ByteArray := prog_6_method_12_code
def yX4_turned : MethodName := ⟨RX4, "turned", "(I)I"⟩
abbrev cX4_addCode : ByteArray := prog_6_method_13_code
def yX4_addCode : MethodName := ⟨RX4, "addCode", "(LSignkinds$Line;I)V"⟩
abbrev cX4_codeFrom : ByteArray := prog_6_method_14_code
def yX4_codeFrom : MethodName := ⟨RX4, "codeFrom", "(LSignkinds$Line;I)I"⟩
abbrev cX4_isCodeBegin : ByteArray := prog_6_method_15_code
def yX4_isCodeBegin : MethodName := ⟨RX4, "isCodeBegin", "(LSignkinds$Line;I)Z"⟩
abbrev cX4_codeBegin : ByteArray := prog_6_method_16_code
def yX4_codeBegin : MethodName := ⟨RX4, "codeBegin", "(LSignkinds$Line;I)I"⟩
abbrev cX4_listCodes : ByteArray := prog_6_method_17_code
def yX4_listCodes : MethodName := ⟨RX4, "listCodes", "(LSignkinds$Line;LSignkinds$Line;)V"⟩
abbrev cX4_howMany : ByteArray := prog_6_method_18_code
def yX4_howMany : MethodName := ⟨RX4, "howMany", "(LSignkinds$Line;I)I"⟩
abbrev cX4_isCounted : ByteArray := prog_6_method_19_code
def yX4_isCounted : MethodName := ⟨RX4, "isCounted", "(II)Z"⟩
abbrev cX4_areSentAgain : ByteArray := prog_6_method_20_code
def yX4_areSentAgain : MethodName := ⟨RX4, "areSentAgain", "(LSignkinds$Line;)Z"⟩
abbrev cX4_standsAt : ByteArray := prog_6_method_21_code
def yX4_standsAt : MethodName := ⟨RX4, "standsAt", "(LSignkinds$Line;II)Z"⟩
def RX5 : String := "Signkinds"
def TX5 : u_T := fun k => match k with
  | 0 => ("Signkinds", "now", "LSignkinds$State;", true)
  | 1 => ("Signkinds", "past", "LSignkinds$Past;", true)
  | 2 => ("Signkinds", "reversed", "LSignkinds$Line;", true)
  | _ => ("Signkinds", "knocks", "I", false)
def tyX5 : Nat → FieldType := fun k => match k with
  | 0 => .object "Signkinds$State"
  | 1 => .object "Signkinds$Past"
  | 2 => .object "Signkinds$Line"
  | _ => .int
abbrev wsX50 : List Cond := u_ws RX5 TX5 4
theorem nmX5 : ∀ a, a < 4 → ∀ b, b < 4 → a ≠ b → (TX5 a).2.1 ≠ (TX5 b).2.1 := by decide +kernel
theorem tyX5_ok : ∀ k, k < 4 → parseFieldDescriptor (TX5 k).2.2.1 = some (tyX5 k) := by decide +kernel
abbrev cX5_init : ByteArray := prog_1_method_1_code
def yX5_init : MethodName := ⟨RX5, "<init>", "()V"⟩
abbrev cX5_lay : ByteArray := prog_1_method_2_code
def yX5_lay : MethodName := ⟨RX5, "lay", "(IIIII)I"⟩
abbrev cX5_drop : ByteArray := prog_1_method_3_code
def yX5_drop : MethodName := ⟨RX5, "drop", "(II)I"⟩
abbrev cX5_copy : ByteArray := prog_1_method_4_code
def yX5_copy : MethodName := ⟨RX5, "copy", "(II)I"⟩
abbrev cX5_raise : ByteArray := prog_1_method_5_code
def yX5_raise : MethodName := ⟨RX5, "raise", "(I)I"⟩
abbrev cX5_sink : ByteArray := prog_1_method_6_code
def yX5_sink : MethodName := ⟨RX5, "sink", "(I)I"⟩
abbrev cX5_sieve : ByteArray := prog_1_method_7_code
def yX5_sieve : MethodName := ⟨RX5, "sieve", "(IIZ)I"⟩
abbrev cX5_strip : ByteArray := prog_1_method_8_code
def yX5_strip : MethodName := ⟨RX5, "strip", "(I)I"⟩
abbrev cX5_turn : ByteArray := prog_1_method_9_code
def yX5_turn : MethodName := ⟨RX5, "turn", "(I)I"⟩
abbrev cX5_write : ByteArray := prog_1_method_10_code
def yX5_write : MethodName := ⟨RX5, "write", "(III)I"⟩
abbrev cX5_spell : ByteArray := prog_1_method_11_code
def yX5_spell : MethodName := ⟨RX5, "spell", "(II)I"⟩
abbrev cX5_read : ByteArray := prog_1_method_12_code
def yX5_read : MethodName := ⟨RX5, "read", "(II)I"⟩
abbrev cX5_send : ByteArray := prog_1_method_13_code
def yX5_send : MethodName := ⟨RX5, "send", "(II)I"⟩
abbrev cX5_put : ByteArray := prog_1_method_14_code
def yX5_put : MethodName := ⟨RX5, "put", "(II)I"⟩
abbrev cX5_cut : ByteArray := prog_1_method_15_code
def yX5_cut : MethodName := ⟨RX5, "cut", "(II)I"⟩
abbrev cX5_flip : ByteArray := prog_1_method_16_code
def yX5_flip : MethodName := ⟨RX5, "flip", "(I)I"⟩
abbrev cX5_reverse : ByteArray := prog_1_method_17_code
def yX5_reverse : MethodName := ⟨RX5, "reverse", "(I)I"⟩
abbrev cX5_undo : ByteArray := prog_1_method_18_code
def yX5_undo : MethodName := ⟨RX5, "undo", "()I"⟩
abbrev cX5_knock : ByteArray := prog_1_method_19_code
def yX5_knock : MethodName := ⟨RX5, "knock", "()I"⟩
abbrev cX5_isDigit : ByteArray := prog_1_method_20_code
def yX5_isDigit : MethodName := ⟨RX5, "isDigit", "(I)Z"⟩
abbrev cX5_isLetter : ByteArray := prog_1_method_21_code
def yX5_isLetter : MethodName := ⟨RX5, "isLetter", "(I)Z"⟩
abbrev cX5_isLetterOrDigit : ByteArray := prog_1_method_22_code
def yX5_isLetterOrDigit : MethodName := ⟨RX5, "isLetterOrDigit", "(I)Z"⟩
abbrev cX5_isWhite : ByteArray := prog_1_method_23_code
def yX5_isWhite : MethodName := ⟨RX5, "isWhite", "(I)Z"⟩
abbrev cX5_isGreat : ByteArray := prog_1_method_24_code
def yX5_isGreat : MethodName := ⟨RX5, "isGreat", "(I)Z"⟩
abbrev cX5_kinds : ByteArray := prog_1_method_25_code
def yX5_kinds : MethodName := ⟨RX5, "kinds", "(I)I"⟩
abbrev cX5_upper : ByteArray := prog_1_method_26_code
def yX5_upper : MethodName := ⟨RX5, "upper", "(IZ)I"⟩
abbrev cX5_lower : ByteArray := prog_1_method_27_code
def yX5_lower : MethodName := ⟨RX5, "lower", "(IZ)I"⟩
abbrev cX5_value : ByteArray := prog_1_method_28_code
def yX5_value : MethodName := ⟨RX5, "value", "(IZ)I"⟩
abbrev cX5_number : ByteArray := prog_1_method_29_code
def yX5_number : MethodName := ⟨RX5, "number", "(IIZ)I"⟩
abbrev cX5_digit : ByteArray := prog_1_method_30_code
def yX5_digit : MethodName := ⟨RX5, "digit", "(II)I"⟩
abbrev cX5_length : ByteArray := prog_1_method_31_code
def yX5_length : MethodName := ⟨RX5, "length", "(I)I"⟩
abbrev cX5_at : ByteArray := prog_1_method_32_code
def yX5_at : MethodName := ⟨RX5, "at", "(II)I"⟩
abbrev cX5_count : ByteArray := prog_1_method_33_code
def yX5_count : MethodName := ⟨RX5, "count", "(II)I"⟩
abbrev cX5_first : ByteArray := prog_1_method_34_code
def yX5_first : MethodName := ⟨RX5, "first", "(III)I"⟩
abbrev cX5_last : ByteArray := prog_1_method_35_code
def yX5_last : MethodName := ⟨RX5, "last", "(II)I"⟩
abbrev cX5_forms : ByteArray := prog_1_method_36_code
def yX5_forms : MethodName := ⟨RX5, "forms", "(I)Ljava/lang/String;"⟩
abbrev cX5_spelled : ByteArray := prog_1_method_37_code
def yX5_spelled : MethodName := ⟨RX5, "spelled", "(I)Ljava/lang/String;"⟩
abbrev cX5_told : ByteArray := prog_1_method_38_code
def yX5_told : MethodName := ⟨RX5, "told", "(II)I"⟩
abbrev cX5_sum : ByteArray := prog_1_method_39_code
def yX5_sum : MethodName := ⟨RX5, "sum", "(II)I"⟩
abbrev cX5_values : ByteArray := prog_1_method_40_code
def yX5_values : MethodName := ⟨RX5, "values", "(I)I"⟩
abbrev cX5_words : ByteArray := prog_1_method_41_code
def yX5_words : MethodName := ⟨RX5, "words", "(I)I"⟩
abbrev cX5_word : ByteArray := prog_1_method_42_code
def yX5_word : MethodName := ⟨RX5, "word", "(IIZ)I"⟩
abbrev cX5_isAlike : ByteArray := prog_1_method_43_code
def yX5_isAlike : MethodName := ⟨RX5, "isAlike", "(II)Z"⟩
abbrev cX5_order : ByteArray := prog_1_method_44_code
def yX5_order : MethodName := ⟨RX5, "order", "(II)I"⟩
abbrev cX5_isCode : ByteArray := prog_1_method_45_code
def yX5_isCode : MethodName := ⟨RX5, "isCode", "(I)Z"⟩
abbrev cX5_isPlain : ByteArray := prog_1_method_46_code
def yX5_isPlain : MethodName := ⟨RX5, "isPlain", "(I)Z"⟩
abbrev cX5_isWide : ByteArray := prog_1_method_47_code
def yX5_isWide : MethodName := ⟨RX5, "isWide", "(I)Z"⟩
abbrev cX5_units : ByteArray := prog_1_method_48_code
def yX5_units : MethodName := ⟨RX5, "units", "(I)I"⟩
abbrev cX5_half : ByteArray := prog_1_method_49_code
def yX5_half : MethodName := ⟨RX5, "half", "(IZ)I"⟩
abbrev cX5_code : ByteArray := prog_1_method_50_code
def yX5_code : MethodName := ⟨RX5, "code", "(II)I"⟩
abbrev cX5_ofUnit : ByteArray := prog_1_method_51_code
def yX5_ofUnit : MethodName := ⟨RX5, "ofUnit", "(II)I"⟩
abbrev cX5_compare : ByteArray := prog_1_method_52_code
def yX5_compare : MethodName := ⟨RX5, "compare", "(II)I"⟩
abbrev cX5_ofTrack : ByteArray := prog_1_method_53_code
def yX5_ofTrack : MethodName := ⟨RX5, "ofTrack", "(II)I"⟩
abbrev cX5_unit : ByteArray := prog_1_method_54_code
def yX5_unit : MethodName := ⟨RX5, "unit", "(II)I"⟩
abbrev cX5_codeAt : ByteArray := prog_1_method_55_code
def yX5_codeAt : MethodName := ⟨RX5, "codeAt", "(II)I"⟩
abbrev cX5_nth : ByteArray := prog_1_method_56_code
def yX5_nth : MethodName := ⟨RX5, "nth", "(II)I"⟩
abbrev cX5_house : ByteArray := prog_1_method_57_code
def yX5_house : MethodName := ⟨RX5, "house", "(I)I"⟩
abbrev cX5_isSound : ByteArray := prog_1_method_58_code
def yX5_isSound : MethodName := ⟨RX5, "isSound", "()Z"⟩
abbrev cX5_digest : ByteArray := prog_1_method_59_code
def yX5_digest : MethodName := ⟨RX5, "digest", "()J"⟩
abbrev cX5_rowOf : ByteArray := prog_1_method_60_code
def yX5_rowOf : MethodName := ⟨RX5, "rowOf", "(I)LSignkinds$Line;"⟩
abbrev cX5_trackOf : ByteArray := prog_1_method_61_code
def yX5_trackOf : MethodName := ⟨RX5, "trackOf", "(I)LSignkinds$Line;"⟩
abbrev cX5_numberAt : ByteArray := prog_1_method_62_code
def yX5_numberAt : MethodName := ⟨RX5, "numberAt", "(LSignkinds$Line;I)I"⟩
abbrev cX5_checkSign : ByteArray := prog_1_method_63_code
def yX5_checkSign : MethodName := ⟨RX5, "checkSign", "(I)V"⟩
abbrev cX5_checkKind : ByteArray := prog_1_method_64_code
def yX5_checkKind : MethodName := ⟨RX5, "checkKind", "(I)V"⟩
abbrev cX5_checkRadix : ByteArray := prog_1_method_65_code
def yX5_checkRadix : MethodName := ⟨RX5, "checkRadix", "(I)V"⟩
abbrev cX5_checkUnit : ByteArray := prog_1_method_66_code
def yX5_checkUnit : MethodName := ⟨RX5, "checkUnit", "(I)V"⟩
abbrev cX5_checkAreTwo : ByteArray := prog_1_method_67_code
def yX5_checkAreTwo : MethodName := ⟨RX5, "checkAreTwo", "(II)V"⟩
abbrev cX5_laid : ByteArray := prog_1_method_68_code
def yX5_laid : MethodName := ⟨RX5, "laid", "(I)I"⟩
abbrev cX5_addLaid : ByteArray := prog_1_method_69_code
def yX5_addLaid : MethodName := ⟨RX5, "addLaid", "(LSignkinds$Line;I)V"⟩
abbrev cX5_shorten : ByteArray := prog_1_method_70_code
def yX5_shorten : MethodName := ⟨RX5, "shorten", "(LSignkinds$Line;I)I"⟩
abbrev cX5_canBeRead : ByteArray := prog_1_method_71_code
def yX5_canBeRead : MethodName := ⟨RX5, "canBeRead", "(LSignkinds$Line;)Z"⟩
abbrev cX5_isWordBegin : ByteArray := prog_1_method_72_code
def yX5_isWordBegin : MethodName := ⟨RX5, "isWordBegin", "(LSignkinds$Line;I)Z"⟩
abbrev cX5_wordBegin : ByteArray := prog_1_method_73_code
def yX5_wordBegin : MethodName := ⟨RX5, "wordBegin", "(LSignkinds$Line;I)I"⟩
abbrev cX5_ahead : ByteArray := prog_1_method_74_code
def yX5_ahead : MethodName := ⟨RX5, "ahead", "(II)I"⟩
abbrev cX5_isSoundRow : ByteArray := prog_1_method_75_code
def yX5_isSoundRow : MethodName := ⟨RX5, "isSoundRow", "(LSignkinds$Line;)Z"⟩
abbrev cX5_isSoundTrack : ByteArray := prog_1_method_76_code
def yX5_isSoundTrack : MethodName := ⟨RX5, "isSoundTrack", "(LSignkinds$Line;)Z"⟩
abbrev cX5_with : ByteArray := prog_1_method_77_code
def yX5_with : MethodName := ⟨RX5, "with", "(JJ)J"⟩
abbrev cX5_withRow : ByteArray := prog_1_method_78_code
def yX5_withRow : MethodName := ⟨RX5, "withRow", "(JI)J"⟩
abbrev cX5_withTrack : ByteArray := prog_1_method_79_code
def yX5_withTrack : MethodName := ⟨RX5, "withTrack", "(JI)J"⟩
def RX6 : String := "SignkindsLaw$Out"
def TX6 : u_T := fun k => match k with
  | 0 => ("SignkindsLaw$Out", "n", "J", false)
  | _ => ("SignkindsLaw$Out", "s", "Ljava/lang/String;", false)
def tyX6 : Nat → FieldType := fun k => match k with
  | 0 => .long
  | _ => .object "java/lang/String"
abbrev wsX60 : List Cond := u_ws RX6 TX6 2
theorem nmX6 : ∀ a, a < 2 → ∀ b, b < 2 → a ≠ b → (TX6 a).2.1 ≠ (TX6 b).2.1 := by decide +kernel
theorem tyX6_ok : ∀ k, k < 2 → parseFieldDescriptor (TX6 k).2.2.1 = some (tyX6 k) := by decide +kernel
abbrev cX6_init : ByteArray := prog_8_method_1_code
def yX6_init : MethodName := ⟨RX6, "<init>", "()V"⟩
def RX7 : String := "SignkindsModel"
def TX7 : u_T := fun k => match k with
  | 0 => ("SignkindsModel", "thrown", "I", false)
  | 1 => ("SignkindsModel", "rows", "[[I", false)
  | 2 => ("SignkindsModel", "before", "Ljava/util/ArrayList;", true)
  | _ => ("SignkindsModel", "knocks", "I", false)
def tyX7 : Nat → FieldType := fun k => match k with
  | 0 => .int
  | 1 => .array (.array .int)
  | 2 => .object "java/util/ArrayList"
  | _ => .int
abbrev wsX70 : List Cond := u_ws RX7 TX7 4
theorem nmX7 : ∀ a, a < 4 → ∀ b, b < 4 → a ≠ b → (TX7 a).2.1 ≠ (TX7 b).2.1 := by decide +kernel
theorem tyX7_ok : ∀ k, k < 4 → parseFieldDescriptor (TX7 k).2.2.1 = some (tyX7 k) := by decide +kernel
abbrev cX7_init : ByteArray := prog_9_method_1_code
def yX7_init : MethodName := ⟨RX7, "<init>", "()V"⟩
abbrev cX7_isOf : ByteArray := prog_9_method_2_code
def yX7_isOf : MethodName := ⟨RX7, "isOf", "(III)Z"⟩
abbrev cX7_one : ByteArray := prog_9_method_3_code
def yX7_one : MethodName := ⟨RX7, "one", "(Z)I"⟩
abbrev cX7_isSign : ByteArray := prog_9_method_4_code
def yX7_isSign : MethodName := ⟨RX7, "isSign", "(I)Z"⟩
abbrev cX7_isKind : ByteArray := prog_9_method_5_code
def yX7_isKind : MethodName := ⟨RX7, "isKind", "(II)Z"⟩
abbrev cX7_upperOf : ByteArray := prog_9_method_6_code
def yX7_upperOf : MethodName := ⟨RX7, "upperOf", "(I)I"⟩
abbrev cX7_lowerOf : ByteArray := prog_9_method_7_code
def yX7_lowerOf : MethodName := ⟨RX7, "lowerOf", "(I)I"⟩
abbrev cX7_valueOf : ByteArray := prog_9_method_8_code
def yX7_valueOf : MethodName := ⟨RX7, "valueOf", "(I)I"⟩
abbrev cX7_isRadix : ByteArray := prog_9_method_9_code
def yX7_isRadix : MethodName := ⟨RX7, "isRadix", "(I)Z"⟩
abbrev cX7_numberOf : ByteArray := prog_9_method_10_code
def yX7_numberOf : MethodName := ⟨RX7, "numberOf", "(II)I"⟩
abbrev cX7_digitOf : ByteArray := prog_9_method_11_code
def yX7_digitOf : MethodName := ⟨RX7, "digitOf", "(II)I"⟩
abbrev cX7_refuse : ByteArray := prog_9_method_13_code
def yX7_refuse : MethodName := ⟨RX7, "refuse", "(ZI)Z"⟩
abbrev cX7_start : ByteArray := prog_9_method_14_code
def yX7_start : MethodName := ⟨RX7, "start", "(ZI)Z"⟩
abbrev cX7_isNoRow : ByteArray := prog_9_method_15_code
def yX7_isNoRow : MethodName := ⟨RX7, "isNoRow", "(I)Z"⟩
abbrev cX7_isNoTrack : ByteArray := prog_9_method_16_code
def yX7_isNoTrack : MethodName := ⟨RX7, "isNoTrack", "(I)Z"⟩
abbrev cX7_isNoKind : ByteArray := prog_9_method_17_code
def yX7_isNoKind : MethodName := ⟨RX7, "isNoKind", "(I)Z"⟩
abbrev cX7_set : ByteArray := prog_9_method_18_code
def yX7_set : MethodName := ⟨RX7, "set", "(I[I)I"⟩
abbrev cX7_part : ByteArray := prog_9_method_19_code
def yX7_part : MethodName := ⟨RX7, "part", "([III)[I"⟩
abbrev cX7_joined : ByteArray := prog_9_method_20_code
def yX7_joined : MethodName := ⟨RX7, "joined", "([I[I)[I"⟩
abbrev cX7_only : ByteArray := prog_9_method_21_code
def yX7_only : MethodName := ⟨RX7, "only", "([I[Z)[I"⟩
abbrev cX7_turned : ByteArray := prog_9_method_22_code
def yX7_turned : MethodName := ⟨RX7, "turned", "([I)[I"⟩
abbrev cX7_lay : ByteArray := prog_9_method_23_code
def yX7_lay : MethodName := ⟨RX7, "lay", "(IIIII)I"⟩
abbrev cX7_drop : ByteArray := prog_9_method_24_code
def yX7_drop : MethodName := ⟨RX7, "drop", "(II)I"⟩
abbrev cX7_copy : ByteArray := prog_9_method_25_code
def yX7_copy : MethodName := ⟨RX7, "copy", "(II)I"⟩
abbrev cX7_cased : ByteArray := prog_9_method_26_code
def yX7_cased : MethodName := ⟨RX7, "cased", "(IZ)I"⟩
abbrev cX7_raise : ByteArray := prog_9_method_27_code
def yX7_raise : MethodName := ⟨RX7, "raise", "(I)I"⟩
abbrev cX7_sink : ByteArray := prog_9_method_28_code
def yX7_sink : MethodName := ⟨RX7, "sink", "(I)I"⟩
abbrev cX7_sieve : ByteArray := prog_9_method_29_code
def yX7_sieve : MethodName := ⟨RX7, "sieve", "(IIZ)I"⟩
abbrev cX7_strip : ByteArray := prog_9_method_30_code
def yX7_strip : MethodName := ⟨RX7, "strip", "(I)I"⟩
abbrev cX7_turn : ByteArray := prog_9_method_31_code
def yX7_turn : MethodName := ⟨RX7, "turn", "(I)I"⟩
abbrev cX7_write : ByteArray := prog_9_method_32_code
def yX7_write : MethodName := ⟨RX7, "write", "(III)I"⟩
abbrev cX7_spelledOf : ByteArray := prog_9_method_33_code
def yX7_spelledOf : MethodName := ⟨RX7, "spelledOf", "([I)[I"⟩
abbrev cX7_spell : ByteArray := prog_9_method_34_code
def yX7_spell : MethodName := ⟨RX7, "spell", "(II)I"⟩
abbrev cX7_read : ByteArray := prog_9_method_35_code
def yX7_read : MethodName := ⟨RX7, "read", "(II)I"⟩
abbrev cX7_isHigh : ByteArray := prog_9_method_36_code
def yX7_isHigh : MethodName := ⟨RX7, "isHigh", "(I)Z"⟩
abbrev cX7_isLow : ByteArray := prog_9_method_37_code
def yX7_isLow : MethodName := ⟨RX7, "isLow", "(I)Z"⟩
abbrev cX7_isHalf : ByteArray := prog_9_method_38_code
def yX7_isHalf : MethodName := ⟨RX7, "isHalf", "(I)Z"⟩
abbrev cX7_sent : ByteArray := prog_9_method_39_code
def yX7_sent : MethodName := ⟨RX7, "sent", "(I)[I"⟩
abbrev cX7_both : ByteArray := prog_9_method_40_code
def yX7_both : MethodName := ⟨RX7, "both", "(II)I"⟩
abbrev cX7_turnedUnit : ByteArray := prog_9_method_41_code
def yX7_turnedUnit : MethodName := ⟨RX7, "turnedUnit", "(I)I"⟩
abbrev cX7_behind : ByteArray := prog_9_method_42_code
def yX7_behind : MethodName := ⟨RX7, "behind", "(I[I)I"⟩
abbrev cX7_send : ByteArray := prog_9_method_43_code
def yX7_send : MethodName := ⟨RX7, "send", "(II)I"⟩
abbrev cX7_put : ByteArray := prog_9_method_44_code
def yX7_put : MethodName := ⟨RX7, "put", "(II)I"⟩
abbrev cX7_cut : ByteArray := prog_9_method_45_code
def yX7_cut : MethodName := ⟨RX7, "cut", "(II)I"⟩
abbrev cX7_flip : ByteArray := prog_9_method_46_code
def yX7_flip : MethodName := ⟨RX7, "flip", "(I)I"⟩
abbrev cX7_codeOf : ByteArray := prog_9_method_47_code
def yX7_codeOf : MethodName := ⟨RX7, "codeOf", "(II)I"⟩
abbrev cX7_codes : ByteArray := prog_9_method_48_code
def yX7_codes : MethodName := ⟨RX7, "codes", "(I)[I"⟩
abbrev cX7_reverse : ByteArray := prog_9_method_49_code
def yX7_reverse : MethodName := ⟨RX7, "reverse", "(I)I"⟩
abbrev cX7_undo : ByteArray := prog_9_method_50_code
def yX7_undo : MethodName := ⟨RX7, "undo", "()I"⟩
abbrev cX7_knock : ByteArray := prog_9_method_51_code
def yX7_knock : MethodName := ⟨RX7, "knock", "()I"⟩
abbrev cX7_kindTold : ByteArray := prog_9_method_52_code
def yX7_kindTold : MethodName := ⟨RX7, "kindTold", "(II)Z"⟩
abbrev cX7_isDigit : ByteArray := prog_9_method_53_code
def yX7_isDigit : MethodName := ⟨RX7, "isDigit", "(I)Z"⟩
abbrev cX7_isLetter : ByteArray := prog_9_method_54_code
def yX7_isLetter : MethodName := ⟨RX7, "isLetter", "(I)Z"⟩
abbrev cX7_isLetterOrDigit : ByteArray := prog_9_method_55_code
def yX7_isLetterOrDigit : MethodName := ⟨RX7, "isLetterOrDigit", "(I)Z"⟩
abbrev cX7_isWhite : ByteArray := prog_9_method_56_code
def yX7_isWhite : MethodName := ⟨RX7, "isWhite", "(I)Z"⟩
abbrev cX7_isGreat : ByteArray := prog_9_method_57_code
def yX7_isGreat : MethodName := ⟨RX7, "isGreat", "(I)Z"⟩
abbrev cX7_kindsOf : ByteArray := prog_9_method_58_code
def yX7_kindsOf : MethodName := ⟨RX7, "kindsOf", "(I)I"⟩
abbrev cX7_kinds : ByteArray := prog_9_method_59_code
def yX7_kinds : MethodName := ⟨RX7, "kinds", "(I)I"⟩
abbrev cX7_upper : ByteArray := prog_9_method_60_code
def yX7_upper : MethodName := ⟨RX7, "upper", "(IZ)I"⟩
abbrev cX7_lower : ByteArray := prog_9_method_61_code
def yX7_lower : MethodName := ⟨RX7, "lower", "(IZ)I"⟩
abbrev cX7_value : ByteArray := prog_9_method_62_code
def yX7_value : MethodName := ⟨RX7, "value", "(IZ)I"⟩
abbrev cX7_number : ByteArray := prog_9_method_63_code
def yX7_number : MethodName := ⟨RX7, "number", "(IIZ)I"⟩
abbrev cX7_digit : ByteArray := prog_9_method_64_code
def yX7_digit : MethodName := ⟨RX7, "digit", "(II)I"⟩
abbrev cX7_length : ByteArray := prog_9_method_65_code
def yX7_length : MethodName := ⟨RX7, "length", "(I)I"⟩
abbrev cX7_at : ByteArray := prog_9_method_66_code
def yX7_at : MethodName := ⟨RX7, "at", "(II)I"⟩
abbrev cX7_countOf : ByteArray := prog_9_method_67_code
def yX7_countOf : MethodName := ⟨RX7, "countOf", "(II)I"⟩
abbrev cX7_count : ByteArray := prog_9_method_68_code
def yX7_count : MethodName := ⟨RX7, "count", "(II)I"⟩
abbrev cX7_first : ByteArray := prog_9_method_69_code
def yX7_first : MethodName := ⟨RX7, "first", "(III)I"⟩
abbrev cX7_last : ByteArray := prog_9_method_70_code
def yX7_last : MethodName := ⟨RX7, "last", "(II)I"⟩
abbrev cX7_forms : ByteArray := prog_9_method_71_code
def yX7_forms : MethodName := ⟨RX7, "forms", "(I)Ljava/lang/String;"⟩
abbrev cX7_spelled : ByteArray := prog_9_method_72_code
def yX7_spelled : MethodName := ⟨RX7, "spelled", "(I)Ljava/lang/String;"⟩
abbrev cX7_toldOf : ByteArray := prog_9_method_73_code
def yX7_toldOf : MethodName := ⟨RX7, "toldOf", "(II)I"⟩
abbrev cX7_told : ByteArray := prog_9_method_74_code
def yX7_told : MethodName := ⟨RX7, "told", "(II)I"⟩
abbrev cX7_sum : ByteArray := prog_9_method_75_code
def yX7_sum : MethodName := ⟨RX7, "sum", "(II)I"⟩
abbrev cX7_valuesOf : ByteArray := prog_9_method_76_code
def yX7_valuesOf : MethodName := ⟨RX7, "valuesOf", "(I)I"⟩
abbrev cX7_values : ByteArray := prog_9_method_77_code
def yX7_values : MethodName := ⟨RX7, "values", "(I)I"⟩
abbrev cX7_wordsOf : ByteArray := prog_9_method_78_code
def yX7_wordsOf : MethodName := ⟨RX7, "wordsOf", "(I)Ljava/util/ArrayList;"⟩
abbrev cX7_words : ByteArray := prog_9_method_79_code
def yX7_words : MethodName := ⟨RX7, "words", "(I)I"⟩
abbrev cX7_word : ByteArray := prog_9_method_80_code
def yX7_word : MethodName := ⟨RX7, "word", "(IIZ)I"⟩
abbrev cX7_areAlike : ByteArray := prog_9_method_81_code
def yX7_areAlike : MethodName := ⟨RX7, "areAlike", "(II)Z"⟩
abbrev cX7_isAlike : ByteArray := prog_9_method_82_code
def yX7_isAlike : MethodName := ⟨RX7, "isAlike", "(II)Z"⟩
abbrev cX7_orderOf : ByteArray := prog_9_method_83_code
def yX7_orderOf : MethodName := ⟨RX7, "orderOf", "([I[I)I"⟩
abbrev cX7_order : ByteArray := prog_9_method_84_code
def yX7_order : MethodName := ⟨RX7, "order", "(II)I"⟩
abbrev cX7_isCode : ByteArray := prog_9_method_85_code
def yX7_isCode : MethodName := ⟨RX7, "isCode", "(I)Z"⟩
abbrev cX7_isPlain : ByteArray := prog_9_method_86_code
def yX7_isPlain : MethodName := ⟨RX7, "isPlain", "(I)Z"⟩
abbrev cX7_isWide : ByteArray := prog_9_method_87_code
def yX7_isWide : MethodName := ⟨RX7, "isWide", "(I)Z"⟩
abbrev cX7_units : ByteArray := prog_9_method_88_code
def yX7_units : MethodName := ⟨RX7, "units", "(I)I"⟩
abbrev cX7_half : ByteArray := prog_9_method_89_code
def yX7_half : MethodName := ⟨RX7, "half", "(IZ)I"⟩
abbrev cX7_code : ByteArray := prog_9_method_90_code
def yX7_code : MethodName := ⟨RX7, "code", "(II)I"⟩
abbrev cX7_ofUnitTold : ByteArray := prog_9_method_91_code
def yX7_ofUnitTold : MethodName := ⟨RX7, "ofUnitTold", "(II)I"⟩
abbrev cX7_ofUnit : ByteArray := prog_9_method_92_code
def yX7_ofUnit : MethodName := ⟨RX7, "ofUnit", "(II)I"⟩
abbrev cX7_compare : ByteArray := prog_9_method_93_code
def yX7_compare : MethodName := ⟨RX7, "compare", "(II)I"⟩
abbrev cX7_trackTold : ByteArray := prog_9_method_94_code
def yX7_trackTold : MethodName := ⟨RX7, "trackTold", "(II)I"⟩
abbrev cX7_ofTrack : ByteArray := prog_9_method_95_code
def yX7_ofTrack : MethodName := ⟨RX7, "ofTrack", "(II)I"⟩
abbrev cX7_isNoPlace : ByteArray := prog_9_method_96_code
def yX7_isNoPlace : MethodName := ⟨RX7, "isNoPlace", "(II)Z"⟩
abbrev cX7_unit : ByteArray := prog_9_method_97_code
def yX7_unit : MethodName := ⟨RX7, "unit", "(II)I"⟩
abbrev cX7_codeAt : ByteArray := prog_9_method_98_code
def yX7_codeAt : MethodName := ⟨RX7, "codeAt", "(II)I"⟩
abbrev cX7_nth : ByteArray := prog_9_method_99_code
def yX7_nth : MethodName := ⟨RX7, "nth", "(II)I"⟩
abbrev cX7_houseOf : ByteArray := prog_9_method_100_code
def yX7_houseOf : MethodName := ⟨RX7, "houseOf", "(I)I"⟩
abbrev cX7_house : ByteArray := prog_9_method_101_code
def yX7_house : MethodName := ⟨RX7, "house", "(I)I"⟩
abbrev cX7_isSound : ByteArray := prog_9_method_102_code
def yX7_isSound : MethodName := ⟨RX7, "isSound", "()Z"⟩
abbrev cX7_digest : ByteArray := prog_9_method_103_code
def yX7_digest : MethodName := ⟨RX7, "digest", "()J"⟩
def RJx145de : String := "java/io/Serializable"
def TJx145de : u_T := fun k => match k with
  | _ => ("", "", "", false)
def tyJx145de : Nat → FieldType := fun k => match k with
  | _ => .int
abbrev wsJx145de0 : List Cond := u_ws RJx145de TJx145de 0
theorem nmJx145de : ∀ a, a < 0 → ∀ b, b < 0 → a ≠ b → (TJx145de a).2.1 ≠ (TJx145de b).2.1 := by decide +kernel
theorem tyJx145de_ok : ∀ k, k < 0 → parseFieldDescriptor (TJx145de k).2.2.1 = some (tyJx145de k) := by decide +kernel
def RJ5 : String := "java/lang/AbstractStringBuilder"
def TJ5 : u_T := fun k => match k with
  | _ => ("", "", "", false)
def tyJ5 : Nat → FieldType := fun k => match k with
  | _ => .int
abbrev wsJ50 : List Cond := u_ws RJ5 TJ5 0
theorem nmJ5 : ∀ a, a < 0 → ∀ b, b < 0 → a ≠ b → (TJ5 a).2.1 ≠ (TJ5 b).2.1 := by decide +kernel
theorem tyJ5_ok : ∀ k, k < 0 → parseFieldDescriptor (TJ5 k).2.2.1 = some (tyJ5 k) := by decide +kernel
abbrev cJ5_init_d00df : ByteArray := prog_11_method_2_code
def yJ5_init_d00df : MethodName := ⟨RJ5, "<init>", "(I)V"⟩
abbrev cJ5_length_8abf5 : ByteArray := prog_11_method_6_code
def yJ5_length_8abf5 : MethodName := ⟨RJ5, "length", "()I"⟩
abbrev cJ5_ensureCapacityInternal_d00df : ByteArray := prog_11_method_9_code
def yJ5_ensureCapacityInternal_d00df : MethodName := ⟨RJ5, "ensureCapacityInternal", "(I)V"⟩
abbrev cJ5_newCapacity_0f7a4 : ByteArray := prog_11_method_10_code
def yJ5_newCapacity_0f7a4 : MethodName := ⟨RJ5, "newCapacity", "(I)I"⟩
abbrev cJ5_inflate_da8c8 : ByteArray := prog_11_method_11_code
def yJ5_inflate_da8c8 : MethodName := ⟨RJ5, "inflate", "()V"⟩
abbrev cJ5_append_cf1ce : ByteArray := prog_11_method_22_code
def yJ5_append_cf1ce : MethodName := ⟨RJ5, "append", "(Ljava/lang/String;)Ljava/lang/AbstractStringBuilder;"⟩
abbrev cJ5_appendNull_278bc : ByteArray := prog_11_method_26_code
def yJ5_appendNull_278bc : MethodName := ⟨RJ5, "appendNull", "()Ljava/lang/AbstractStringBuilder;"⟩
abbrev cJ5_append_3fe6f : ByteArray := prog_11_method_31_code
def yJ5_append_3fe6f : MethodName := ⟨RJ5, "append", "(C)Ljava/lang/AbstractStringBuilder;"⟩
abbrev cJ5_append_c97b9 : ByteArray := prog_11_method_32_code
def yJ5_append_c97b9 : MethodName := ⟨RJ5, "append", "(I)Ljava/lang/AbstractStringBuilder;"⟩
abbrev cJ5_getValue_6d5f1 : ByteArray := prog_11_method_64_code
def yJ5_getValue_6d5f1 : MethodName := ⟨RJ5, "getValue", "()[B"⟩
abbrev cJ5_isLatin1_aae02 : ByteArray := prog_11_method_68_code
def yJ5_isLatin1_aae02 : MethodName := ⟨RJ5, "isLatin1", "()Z"⟩
abbrev cJ5_inflateIfNeededFor_a7421 : ByteArray := prog_11_method_71_code
def yJ5_inflateIfNeededFor_a7421 : MethodName := ⟨RJ5, "inflateIfNeededFor", "(Ljava/lang/String;)V"⟩
abbrev cJ5_putStringAt_47b60 : ByteArray := prog_11_method_73_code
def yJ5_putStringAt_47b60 : MethodName := ⟨RJ5, "putStringAt", "(ILjava/lang/String;)V"⟩
def RJx2cfe8 : String := "java/lang/Appendable"
def TJx2cfe8 : u_T := fun k => match k with
  | _ => ("", "", "", false)
def tyJx2cfe8 : Nat → FieldType := fun k => match k with
  | _ => .int
abbrev wsJx2cfe80 : List Cond := u_ws RJx2cfe8 TJx2cfe8 0
theorem nmJx2cfe8 : ∀ a, a < 0 → ∀ b, b < 0 → a ≠ b → (TJx2cfe8 a).2.1 ≠ (TJx2cfe8 b).2.1 := by decide +kernel
theorem tyJx2cfe8_ok : ∀ k, k < 0 → parseFieldDescriptor (TJx2cfe8 k).2.2.1 = some (tyJx2cfe8 k) := by decide +kernel
def RJx9f9b0 : String := "java/lang/CharSequence"
def TJx9f9b0 : u_T := fun k => match k with
  | _ => ("", "", "", false)
def tyJx9f9b0 : Nat → FieldType := fun k => match k with
  | _ => .int
abbrev wsJx9f9b00 : List Cond := u_ws RJx9f9b0 TJx9f9b0 0
theorem nmJx9f9b0 : ∀ a, a < 0 → ∀ b, b < 0 → a ≠ b → (TJx9f9b0 a).2.1 ≠ (TJx9f9b0 b).2.1 := by decide +kernel
theorem tyJx9f9b0_ok : ∀ k, k < 0 → parseFieldDescriptor (TJx9f9b0 k).2.2.1 = some (tyJx9f9b0 k) := by decide +kernel
def RJx8e188 : String := "java/lang/Cloneable"
def TJx8e188 : u_T := fun k => match k with
  | _ => ("", "", "", false)
def tyJx8e188 : Nat → FieldType := fun k => match k with
  | _ => .int
abbrev wsJx8e1880 : List Cond := u_ws RJx8e188 TJx8e188 0
theorem nmJx8e188 : ∀ a, a < 0 → ∀ b, b < 0 → a ≠ b → (TJx8e188 a).2.1 ≠ (TJx8e188 b).2.1 := by decide +kernel
theorem tyJx8e188_ok : ∀ k, k < 0 → parseFieldDescriptor (TJx8e188 k).2.2.1 = some (tyJx8e188 k) := by decide +kernel
def RJxb160c : String := "java/lang/Comparable"
def TJxb160c : u_T := fun k => match k with
  | _ => ("", "", "", false)
def tyJxb160c : Nat → FieldType := fun k => match k with
  | _ => .int
abbrev wsJxb160c0 : List Cond := u_ws RJxb160c TJxb160c 0
theorem nmJxb160c : ∀ a, a < 0 → ∀ b, b < 0 → a ≠ b → (TJxb160c a).2.1 ≠ (TJxb160c b).2.1 := by decide +kernel
theorem tyJxb160c_ok : ∀ k, k < 0 → parseFieldDescriptor (TJxb160c k).2.2.1 = some (tyJxb160c k) := by decide +kernel
def RJ6 : String := "java/lang/Integer"
def TJ6 : u_T := fun k => match k with
  | _ => ("", "", "", false)
def tyJ6 : Nat → FieldType := fun k => match k with
  | _ => .int
abbrev wsJ60 : List Cond := u_ws RJ6 TJ6 0
theorem nmJ6 : ∀ a, a < 0 → ∀ b, b < 0 → a ≠ b → (TJ6 a).2.1 ≠ (TJ6 b).2.1 := by decide +kernel
theorem tyJ6_ok : ∀ k, k < 0 → parseFieldDescriptor (TJ6 k).2.2.1 = some (tyJ6 k) := by decide +kernel
abbrev cJ6_getChars_ba4f3 : ByteArray := prog_20_method_12_code
def yJ6_getChars_ba4f3 : MethodName := ⟨RJ6, "getChars", "(II[B)I"⟩
abbrev cJ6_stringSize_0f7a4 : ByteArray := prog_20_method_13_code
def yJ6_stringSize_0f7a4 : MethodName := ⟨RJ6, "stringSize", "(I)I"⟩
def RJxab1ab : String := "java/lang/Iterable"
def TJxab1ab : u_T := fun k => match k with
  | _ => ("", "", "", false)
def tyJxab1ab : Nat → FieldType := fun k => match k with
  | _ => .int
abbrev wsJxab1ab0 : List Cond := u_ws RJxab1ab TJxab1ab 0
theorem nmJxab1ab : ∀ a, a < 0 → ∀ b, b < 0 → a ≠ b → (TJxab1ab a).2.1 ≠ (TJxab1ab b).2.1 := by decide +kernel
theorem tyJxab1ab_ok : ∀ k, k < 0 → parseFieldDescriptor (TJxab1ab k).2.2.1 = some (tyJxab1ab k) := by decide +kernel
def RJ9 : String := "java/lang/Math"
def TJ9 : u_T := fun k => match k with
  | _ => ("", "", "", false)
def tyJ9 : Nat → FieldType := fun k => match k with
  | _ => .int
abbrev wsJ90 : List Cond := u_ws RJ9 TJ9 0
theorem nmJ9 : ∀ a, a < 0 → ∀ b, b < 0 → a ≠ b → (TJ9 a).2.1 ≠ (TJ9 b).2.1 := by decide +kernel
theorem tyJ9_ok : ∀ k, k < 0 → parseFieldDescriptor (TJ9 k).2.2.1 = some (tyJ9 k) := by decide +kernel
abbrev cJ9_max_7cf53 : ByteArray := prog_22_method_65_code
def yJ9_max_7cf53 : MethodName := ⟨RJ9, "max", "(II)I"⟩
abbrev cJ9_min_7cf53 : ByteArray := prog_22_method_69_code
def yJ9_min_7cf53 : MethodName := ⟨RJ9, "min", "(II)I"⟩
def RJxd2413 : String := "java/lang/Number"
def TJxd2413 : u_T := fun k => match k with
  | _ => ("", "", "", false)
def tyJxd2413 : Nat → FieldType := fun k => match k with
  | _ => .int
abbrev wsJxd24130 : List Cond := u_ws RJxd2413 TJxd2413 0
theorem nmJxd2413 : ∀ a, a < 0 → ∀ b, b < 0 → a ≠ b → (TJxd2413 a).2.1 ≠ (TJxd2413 b).2.1 := by decide +kernel
theorem tyJxd2413_ok : ∀ k, k < 0 → parseFieldDescriptor (TJxd2413 k).2.2.1 = some (tyJxd2413 k) := by decide +kernel
def RJ0 : String := "java/lang/String"
def TJ0 : u_T := fun k => match k with
  | 0 => ("java/lang/String", "value", "[B", true)
  | 1 => ("java/lang/String", "coder", "B", true)
  | 2 => ("java/lang/String", "hash", "I", false)
  | _ => ("java/lang/String", "hashIsZero", "Z", false)
def tyJ0 : Nat → FieldType := fun k => match k with
  | 0 => .array .byte
  | 1 => .byte
  | 2 => .int
  | _ => .boolean
abbrev wsJ00 : List Cond := u_ws RJ0 TJ0 4
theorem nmJ0 : ∀ a, a < 4 → ∀ b, b < 4 → a ≠ b → (TJ0 a).2.1 ≠ (TJ0 b).2.1 := by decide +kernel
theorem tyJ0_ok : ∀ k, k < 4 → parseFieldDescriptor (TJ0 k).2.2.1 = some (tyJ0 k) := by decide +kernel
abbrev cJ0_init_81219 : ByteArray := prog_25_method_53_code
def yJ0_init_81219 : MethodName := ⟨RJ0, "<init>", "(Ljava/lang/StringBuilder;)V"⟩
abbrev cJ0_length_8abf5 : ByteArray := prog_25_method_54_code
def yJ0_length_8abf5 : MethodName := ⟨RJ0, "length", "()I"⟩
abbrev cJ0_getBytes_840e7 : ByteArray := prog_25_method_147_code
def yJ0_getBytes_840e7 : MethodName := ⟨RJ0, "getBytes", "([BIB)V"⟩
abbrev cJ0_init_db425 : ByteArray := prog_25_method_150_code
def yJ0_init_db425 : MethodName := ⟨RJ0, "<init>", "(Ljava/lang/AbstractStringBuilder;Ljava/lang/Void;)V"⟩
abbrev cJ0_coder_7d493 : ByteArray := prog_25_method_152_code
def yJ0_coder_7d493 : MethodName := ⟨RJ0, "coder", "()B"⟩
abbrev cJ0_checkIndex_df160 : ByteArray := prog_25_method_155_code
def yJ0_checkIndex_df160 : MethodName := ⟨RJ0, "checkIndex", "(II)V"⟩
abbrev cJ0_checkBoundsOffCount_cabcc : ByteArray := prog_25_method_157_code
def yJ0_checkBoundsOffCount_cabcc : MethodName := ⟨RJ0, "checkBoundsOffCount", "(III)I"⟩
abbrev cJ0_checkBoundsBeginEnd_23922 : ByteArray := prog_25_method_158_code
def yJ0_checkBoundsBeginEnd_23922 : MethodName := ⟨RJ0, "checkBoundsBeginEnd", "(III)V"⟩
def RJ4 : String := "java/lang/StringBuilder"
def TJ4 : u_T := fun k => match k with
  | 0 => ("java/lang/AbstractStringBuilder", "value", "[B", false)
  | 1 => ("java/lang/AbstractStringBuilder", "coder", "B", false)
  | 2 => ("java/lang/AbstractStringBuilder", "maybeLatin1", "Z", false)
  | _ => ("java/lang/AbstractStringBuilder", "count", "I", false)
def tyJ4 : Nat → FieldType := fun k => match k with
  | 0 => .array .byte
  | 1 => .byte
  | 2 => .boolean
  | _ => .int
abbrev wsJ40 : List Cond := u_ws RJ4 TJ4 4
theorem nmJ4 : ∀ a, a < 4 → ∀ b, b < 4 → a ≠ b → (TJ4 a).2.1 ≠ (TJ4 b).2.1 := by decide +kernel
theorem tyJ4_ok : ∀ k, k < 4 → parseFieldDescriptor (TJ4 k).2.2.1 = some (tyJ4 k) := by decide +kernel
abbrev cJ4_init_da8c8 : ByteArray := prog_26_method_1_code
def yJ4_init_da8c8 : MethodName := ⟨RJ4, "<init>", "()V"⟩
abbrev cJ4_append_15ec4 : ByteArray := prog_26_method_7_code
def yJ4_append_15ec4 : MethodName := ⟨RJ4, "append", "(Ljava/lang/String;)Ljava/lang/StringBuilder;"⟩
abbrev cJ4_append_cf468 : ByteArray := prog_26_method_14_code
def yJ4_append_cf468 : MethodName := ⟨RJ4, "append", "(C)Ljava/lang/StringBuilder;"⟩
abbrev cJ4_append_bf812 : ByteArray := prog_26_method_15_code
def yJ4_append_bf812 : MethodName := ⟨RJ4, "append", "(I)Ljava/lang/StringBuilder;"⟩
abbrev cJ4_toString_0e30d : ByteArray := prog_26_method_42_code
def yJ4_toString_0e30d : MethodName := ⟨RJ4, "toString", "()Ljava/lang/String;"⟩
abbrev cJ4_length_8abf5 : ByteArray := prog_26_method_93_code
def yJ4_length_8abf5 : MethodName := ⟨RJ4, "length", "()I"⟩
def RJ1 : String := "java/lang/StringLatin1"
def TJ1 : u_T := fun k => match k with
  | _ => ("", "", "", false)
def tyJ1 : Nat → FieldType := fun k => match k with
  | _ => .int
abbrev wsJ10 : List Cond := u_ws RJ1 TJ1 0
theorem nmJ1 : ∀ a, a < 0 → ∀ b, b < 0 → a ≠ b → (TJ1 a).2.1 ≠ (TJ1 b).2.1 := by decide +kernel
theorem tyJ1_ok : ∀ k, k < 0 → parseFieldDescriptor (TJ1 k).2.2.1 = some (tyJ1 k) := by decide +kernel
abbrev cJ1_canEncode_fc78d : ByteArray := prog_27_method_3_code
def yJ1_canEncode_fc78d : MethodName := ⟨RJ1, "canEncode", "(C)Z"⟩
abbrev cJ1_inflate_0e8fd : ByteArray := prog_27_method_50_code
def yJ1_inflate_0e8fd : MethodName := ⟨RJ1, "inflate", "([BI[BII)V"⟩
def RJ2 : String := "java/lang/StringUTF16"
def TJ2 : u_T := fun k => match k with
  | _ => ("", "", "", false)
def tyJ2 : Nat → FieldType := fun k => match k with
  | _ => .int
abbrev wsJ20 : List Cond := u_ws RJ2 TJ2 0
theorem nmJ2 : ∀ a, a < 0 → ∀ b, b < 0 → a ≠ b → (TJ2 a).2.1 ≠ (TJ2 b).2.1 := by decide +kernel
theorem tyJ2_ok : ∀ k, k < 0 → parseFieldDescriptor (TJ2 k).2.2.1 = some (tyJ2 k) := by decide +kernel
abbrev cJ2_newBytesFor_77867 : ByteArray := prog_28_method_2_code
def yJ2_newBytesFor_77867 : MethodName := ⟨RJ2, "newBytesFor", "(I)[B"⟩
abbrev cJ2_newBytesLength_0f7a4 : ByteArray := prog_28_method_3_code
def yJ2_newBytesLength_0f7a4 : MethodName := ⟨RJ2, "newBytesLength", "(I)I"⟩
abbrev cJ2_putChar_b72d1 : ByteArray := prog_28_method_4_code
def yJ2_putChar_b72d1 : MethodName := ⟨RJ2, "putChar", "([BII)V"⟩
abbrev cJ2_getChar_3b067 : ByteArray := prog_28_method_5_code
def yJ2_getChar_3b067 : MethodName := ⟨RJ2, "getChar", "([BI)C"⟩
abbrev cJ2_length_9d52b : ByteArray := prog_28_method_6_code
def yJ2_length_9d52b : MethodName := ⟨RJ2, "length", "([B)I"⟩
abbrev cJ2_coderFromArrayLen_85cad : ByteArray := prog_28_method_15_code
def yJ2_coderFromArrayLen_85cad : MethodName := ⟨RJ2, "coderFromArrayLen", "([BI)B"⟩
abbrev cJ2_compress_39247 : ByteArray := prog_28_method_17_code
def yJ2_compress_39247 : MethodName := ⟨RJ2, "compress", "([BII)[B"⟩
abbrev cJ2_compress_5af95 : ByteArray := prog_28_method_22_code
def yJ2_compress_5af95 : MethodName := ⟨RJ2, "compress", "([BI[BII)I"⟩
abbrev cJ2_putCharSB_b72d1 : ByteArray := prog_28_method_71_code
def yJ2_putCharSB_b72d1 : MethodName := ⟨RJ2, "putCharSB", "([BII)V"⟩
abbrev cJ2_getChars_46870 : ByteArray := prog_28_method_77_code
def yJ2_getChars_46870 : MethodName := ⟨RJ2, "getChars", "(III[B)I"⟩
abbrev cJ2_putCharsAt_cd4e5 : ByteArray := prog_28_method_81_code
def yJ2_putCharsAt_cd4e5 : MethodName := ⟨RJ2, "putCharsAt", "([BICCCC)I"⟩
abbrev cJ2_inflate_0e8fd : ByteArray := prog_28_method_86_code
def yJ2_inflate_0e8fd : MethodName := ⟨RJ2, "inflate", "([BI[BII)V"⟩
abbrev cJ2_getChars_ba4f3 : ByteArray := prog_28_method_89_code
def yJ2_getChars_ba4f3 : MethodName := ⟨RJ2, "getChars", "(II[B)I"⟩
abbrev cJ2_checkIndex_2214a : ByteArray := prog_28_method_91_code
def yJ2_checkIndex_2214a : MethodName := ⟨RJ2, "checkIndex", "(I[B)V"⟩
abbrev cJ2_checkBoundsBeginEnd_d044e : ByteArray := prog_28_method_93_code
def yJ2_checkBoundsBeginEnd_d044e : MethodName := ⟨RJ2, "checkBoundsBeginEnd", "(II[B)V"⟩
abbrev cJ2_checkBoundsOffCount_d044e : ByteArray := prog_28_method_94_code
def yJ2_checkBoundsOffCount_d044e : MethodName := ⟨RJ2, "checkBoundsOffCount", "(II[B)V"⟩
def RJ10 : String := "java/lang/System"
def TJ10 : u_T := fun k => match k with
  | _ => ("", "", "", false)
def tyJ10 : Nat → FieldType := fun k => match k with
  | _ => .int
abbrev wsJ100 : List Cond := u_ws RJ10 TJ10 0
theorem nmJ10 : ∀ a, a < 0 → ∀ b, b < 0 → a ≠ b → (TJ10 a).2.1 ≠ (TJ10 b).2.1 := by decide +kernel
theorem tyJ10_ok : ∀ k, k < 0 → parseFieldDescriptor (TJ10 k).2.2.1 = some (tyJ10 k) := by decide +kernel
def RJxfd54e : String := "java/lang/constant/Constable"
def TJxfd54e : u_T := fun k => match k with
  | _ => ("", "", "", false)
def tyJxfd54e : Nat → FieldType := fun k => match k with
  | _ => .int
abbrev wsJxfd54e0 : List Cond := u_ws RJxfd54e TJxfd54e 0
theorem nmJxfd54e : ∀ a, a < 0 → ∀ b, b < 0 → a ≠ b → (TJxfd54e a).2.1 ≠ (TJxfd54e b).2.1 := by decide +kernel
theorem tyJxfd54e_ok : ∀ k, k < 0 → parseFieldDescriptor (TJxfd54e k).2.2.1 = some (tyJxfd54e k) := by decide +kernel
def RJx3cf43 : String := "java/lang/constant/ConstantDesc"
def TJx3cf43 : u_T := fun k => match k with
  | _ => ("", "", "", false)
def tyJx3cf43 : Nat → FieldType := fun k => match k with
  | _ => .int
abbrev wsJx3cf430 : List Cond := u_ws RJx3cf43 TJx3cf43 0
theorem nmJx3cf43 : ∀ a, a < 0 → ∀ b, b < 0 → a ≠ b → (TJx3cf43 a).2.1 ≠ (TJx3cf43 b).2.1 := by decide +kernel
theorem tyJx3cf43_ok : ∀ k, k < 0 → parseFieldDescriptor (TJx3cf43 k).2.2.1 = some (tyJx3cf43 k) := by decide +kernel
def RJxa1e45 : String := "java/util/AbstractCollection"
def TJxa1e45 : u_T := fun k => match k with
  | _ => ("", "", "", false)
def tyJxa1e45 : Nat → FieldType := fun k => match k with
  | _ => .int
abbrev wsJxa1e450 : List Cond := u_ws RJxa1e45 TJxa1e45 0
theorem nmJxa1e45 : ∀ a, a < 0 → ∀ b, b < 0 → a ≠ b → (TJxa1e45 a).2.1 ≠ (TJxa1e45 b).2.1 := by decide +kernel
theorem tyJxa1e45_ok : ∀ k, k < 0 → parseFieldDescriptor (TJxa1e45 k).2.2.1 = some (tyJxa1e45 k) := by decide +kernel
abbrev cJxa1e45_init_da8c8 : ByteArray := prog_33_method_1_code
def yJxa1e45_init_da8c8 : MethodName := ⟨RJxa1e45, "<init>", "()V"⟩
def RJxc12de : String := "java/util/AbstractList"
def TJxc12de : u_T := fun k => match k with
  | _ => ("", "", "", false)
def tyJxc12de : Nat → FieldType := fun k => match k with
  | _ => .int
abbrev wsJxc12de0 : List Cond := u_ws RJxc12de TJxc12de 0
theorem nmJxc12de : ∀ a, a < 0 → ∀ b, b < 0 → a ≠ b → (TJxc12de a).2.1 ≠ (TJxc12de b).2.1 := by decide +kernel
theorem tyJxc12de_ok : ∀ k, k < 0 → parseFieldDescriptor (TJxc12de k).2.2.1 = some (tyJxc12de k) := by decide +kernel
abbrev cJxc12de_init_da8c8 : ByteArray := prog_34_method_1_code
def yJxc12de_init_da8c8 : MethodName := ⟨RJxc12de, "<init>", "()V"⟩
def RJx4a65c : String := "java/util/ArrayList"
def TJx4a65c : u_T := fun k => match k with
  | 0 => ("java/util/AbstractList", "modCount", "I", false)
  | 1 => ("java/util/ArrayList", "elementData", "[Ljava/lang/Object;", false)
  | _ => ("java/util/ArrayList", "size", "I", false)
def tyJx4a65c : Nat → FieldType := fun k => match k with
  | 0 => .int
  | 1 => .array (.object "java/lang/Object")
  | _ => .int
abbrev wsJx4a65c0 : List Cond := u_ws RJx4a65c TJx4a65c 3
theorem nmJx4a65c : ∀ a, a < 3 → ∀ b, b < 3 → a ≠ b → (TJx4a65c a).2.1 ≠ (TJx4a65c b).2.1 := by decide +kernel
theorem tyJx4a65c_ok : ∀ k, k < 3 → parseFieldDescriptor (TJx4a65c k).2.2.1 = some (tyJx4a65c k) := by decide +kernel
abbrev cJx4a65c_init_da8c8 : ByteArray := prog_35_method_2_code
def yJx4a65c_init_da8c8 : MethodName := ⟨RJx4a65c, "<init>", "()V"⟩
abbrev cJx4a65c_grow_92f84 : ByteArray := prog_35_method_6_code
def yJx4a65c_grow_92f84 : MethodName := ⟨RJx4a65c, "grow", "(I)[Ljava/lang/Object;"⟩
abbrev cJx4a65c_grow_d5877 : ByteArray := prog_35_method_7_code
def yJx4a65c_grow_d5877 : MethodName := ⟨RJx4a65c, "grow", "()[Ljava/lang/Object;"⟩
abbrev cJx4a65c_size_8abf5 : ByteArray := prog_35_method_8_code
def yJx4a65c_size_8abf5 : MethodName := ⟨RJx4a65c, "size", "()I"⟩
abbrev cJx4a65c_isEmpty_aae02 : ByteArray := prog_35_method_9_code
def yJx4a65c_isEmpty_aae02 : MethodName := ⟨RJx4a65c, "isEmpty", "()Z"⟩
abbrev cJx4a65c_elementData_915e3 : ByteArray := prog_35_method_18_code
def yJx4a65c_elementData_915e3 : MethodName := ⟨RJx4a65c, "elementData", "(I)Ljava/lang/Object;"⟩
abbrev cJx4a65c_get_915e3 : ByteArray := prog_35_method_20_code
def yJx4a65c_get_915e3 : MethodName := ⟨RJx4a65c, "get", "(I)Ljava/lang/Object;"⟩
abbrev cJx4a65c_add_72be8 : ByteArray := prog_35_method_24_code
def yJx4a65c_add_72be8 : MethodName := ⟨RJx4a65c, "add", "(Ljava/lang/Object;[Ljava/lang/Object;I)V"⟩
abbrev cJx4a65c_add_9ea2d : ByteArray := prog_35_method_25_code
def yJx4a65c_add_9ea2d : MethodName := ⟨RJx4a65c, "add", "(Ljava/lang/Object;)Z"⟩
abbrev cJx4a65c_remove_915e3 : ByteArray := prog_35_method_29_code
def yJx4a65c_remove_915e3 : MethodName := ⟨RJx4a65c, "remove", "(I)Ljava/lang/Object;"⟩
abbrev cJx4a65c_fastRemove_b59b0 : ByteArray := prog_35_method_39_code
def yJx4a65c_fastRemove_b59b0 : MethodName := ⟨RJx4a65c, "fastRemove", "([Ljava/lang/Object;I)V"⟩
def RJ7 : String := "java/util/Arrays"
def TJ7 : u_T := fun k => match k with
  | _ => ("", "", "", false)
def tyJ7 : Nat → FieldType := fun k => match k with
  | _ => .int
abbrev wsJ70 : List Cond := u_ws RJ7 TJ7 0
theorem nmJ7 : ∀ a, a < 0 → ∀ b, b < 0 → a ≠ b → (TJ7 a).2.1 ≠ (TJ7 b).2.1 := by decide +kernel
theorem tyJ7_ok : ∀ k, k < 0 → parseFieldDescriptor (TJ7 k).2.2.1 = some (tyJ7 k) := by decide +kernel
abbrev cJ7_copyOf_1904c : ByteArray := prog_36_method_119_code
def yJ7_copyOf_1904c : MethodName := ⟨RJ7, "copyOf", "([Ljava/lang/Object;I)[Ljava/lang/Object;"⟩
abbrev cJ7_copyOf_6403c : ByteArray := prog_36_method_120_code
def yJ7_copyOf_6403c : MethodName := ⟨RJ7, "copyOf", "([Ljava/lang/Object;ILjava/lang/Class;)[Ljava/lang/Object;"⟩
abbrev cJ7_copyOf_9075b : ByteArray := prog_36_method_121_code
def yJ7_copyOf_9075b : MethodName := ⟨RJ7, "copyOf", "([BI)[B"⟩
abbrev cJ7_checkLength_df160 : ByteArray := prog_36_method_131_code
def yJ7_checkLength_df160 : MethodName := ⟨RJ7, "checkLength", "(II)V"⟩
abbrev cJ7_copyOfRange_39247 : ByteArray := prog_36_method_132_code
def yJ7_copyOfRange_39247 : MethodName := ⟨RJ7, "copyOfRange", "([BII)[B"⟩
abbrev cJ7_copyOfRangeByte_39247 : ByteArray := prog_36_method_133_code
def yJ7_copyOfRangeByte_39247 : MethodName := ⟨RJ7, "copyOfRangeByte", "([BII)[B"⟩
def RJx5ef63 : String := "java/util/Collection"
def TJx5ef63 : u_T := fun k => match k with
  | _ => ("", "", "", false)
def tyJx5ef63 : Nat → FieldType := fun k => match k with
  | _ => .int
abbrev wsJx5ef630 : List Cond := u_ws RJx5ef63 TJx5ef63 0
theorem nmJx5ef63 : ∀ a, a < 0 → ∀ b, b < 0 → a ≠ b → (TJx5ef63 a).2.1 ≠ (TJx5ef63 b).2.1 := by decide +kernel
theorem tyJx5ef63_ok : ∀ k, k < 0 → parseFieldDescriptor (TJx5ef63 k).2.2.1 = some (tyJx5ef63 k) := by decide +kernel
def RJxbd725 : String := "java/util/List"
def TJxbd725 : u_T := fun k => match k with
  | _ => ("", "", "", false)
def tyJxbd725 : Nat → FieldType := fun k => match k with
  | _ => .int
abbrev wsJxbd7250 : List Cond := u_ws RJxbd725 TJxbd725 0
theorem nmJxbd725 : ∀ a, a < 0 → ∀ b, b < 0 → a ≠ b → (TJxbd725 a).2.1 ≠ (TJxbd725 b).2.1 := by decide +kernel
theorem tyJxbd725_ok : ∀ k, k < 0 → parseFieldDescriptor (TJxbd725 k).2.2.1 = some (tyJxbd725 k) := by decide +kernel
def RJ15 : String := "java/util/Objects"
def TJ15 : u_T := fun k => match k with
  | _ => ("", "", "", false)
def tyJ15 : Nat → FieldType := fun k => match k with
  | _ => .int
abbrev wsJ150 : List Cond := u_ws RJ15 TJ15 0
theorem nmJ15 : ∀ a, a < 0 → ∀ b, b < 0 → a ≠ b → (TJ15 a).2.1 ≠ (TJ15 b).2.1 := by decide +kernel
theorem tyJ15_ok : ∀ k, k < 0 → parseFieldDescriptor (TJ15 k).2.2.1 = some (tyJ15 k) := by decide +kernel
abbrev cJ15_checkIndex_7cf53 : ByteArray := prog_39_method_17_code
def yJ15_checkIndex_7cf53 : MethodName := ⟨RJ15, "checkIndex", "(II)I"⟩
def RJxf0a74 : String := "java/util/RandomAccess"
def TJxf0a74 : u_T := fun k => match k with
  | _ => ("", "", "", false)
def tyJxf0a74 : Nat → FieldType := fun k => match k with
  | _ => .int
abbrev wsJxf0a740 : List Cond := u_ws RJxf0a74 TJxf0a74 0
theorem nmJxf0a74 : ∀ a, a < 0 → ∀ b, b < 0 → a ≠ b → (TJxf0a74 a).2.1 ≠ (TJxf0a74 b).2.1 := by decide +kernel
theorem tyJxf0a74_ok : ∀ k, k < 0 → parseFieldDescriptor (TJxf0a74 k).2.2.1 = some (tyJxf0a74 k) := by decide +kernel
def RJxa66e6 : String := "java/util/SequencedCollection"
def TJxa66e6 : u_T := fun k => match k with
  | _ => ("", "", "", false)
def tyJxa66e6 : Nat → FieldType := fun k => match k with
  | _ => .int
abbrev wsJxa66e60 : List Cond := u_ws RJxa66e6 TJxa66e6 0
theorem nmJxa66e6 : ∀ a, a < 0 → ∀ b, b < 0 → a ≠ b → (TJxa66e6 a).2.1 ≠ (TJxa66e6 b).2.1 := by decide +kernel
theorem tyJxa66e6_ok : ∀ k, k < 0 → parseFieldDescriptor (TJxa66e6 k).2.2.1 = some (tyJxa66e6 k) := by decide +kernel
def RJ8 : String := "jdk/internal/util/ArraysSupport"
def TJ8 : u_T := fun k => match k with
  | _ => ("", "", "", false)
def tyJ8 : Nat → FieldType := fun k => match k with
  | _ => .int
abbrev wsJ80 : List Cond := u_ws RJ8 TJ8 0
theorem nmJ8 : ∀ a, a < 0 → ∀ b, b < 0 → a ≠ b → (TJ8 a).2.1 ≠ (TJ8 b).2.1 := by decide +kernel
theorem tyJ8_ok : ∀ k, k < 0 → parseFieldDescriptor (TJ8 k).2.2.1 = some (tyJ8 k) := by decide +kernel
abbrev cJ8_newLength_cabcc : ByteArray := prog_42_method_27_code
def yJ8_newLength_cabcc : MethodName := ⟨RJ8, "newLength", "(III)I"⟩
abbrev cJ8_hugeLength_7cf53 : ByteArray := prog_42_method_28_code
def yJ8_hugeLength_7cf53 : MethodName := ⟨RJ8, "hugeLength", "(II)I"⟩
def RJ3 : String := "jdk/internal/util/Preconditions"
def TJ3 : u_T := fun k => match k with
  | _ => ("", "", "", false)
def tyJ3 : Nat → FieldType := fun k => match k with
  | _ => .int
abbrev wsJ30 : List Cond := u_ws RJ3 TJ3 0
theorem nmJ3 : ∀ a, a < 0 → ∀ b, b < 0 → a ≠ b → (TJ3 a).2.1 ≠ (TJ3 b).2.1 := by decide +kernel
theorem tyJ3_ok : ∀ k, k < 0 → parseFieldDescriptor (TJ3 k).2.2.1 = some (tyJ3 k) := by decide +kernel
abbrev cJ3_checkIndex_8e157 : ByteArray := prog_43_method_11_code
def yJ3_checkIndex_8e157 : MethodName := ⟨RJ3, "checkIndex", "(IILjava/util/function/BiFunction;)I"⟩
abbrev cJ3_checkFromToIndex_8c36e : ByteArray := prog_43_method_12_code
def yJ3_checkFromToIndex_8c36e : MethodName := ⟨RJ3, "checkFromToIndex", "(IIILjava/util/function/BiFunction;)I"⟩
abbrev cJ3_checkFromIndexSize_8c36e : ByteArray := prog_43_method_13_code
def yJ3_checkFromIndexSize_8c36e : MethodName := ⟨RJ3, "checkFromIndexSize", "(IIILjava/util/function/BiFunction;)I"⟩
def RL : String := "SignkindsLaw"
abbrev cL_lay : ByteArray := method_2_code
def yL_lay : MethodName := ⟨RL, "lay", "(LSignkinds;IIIIILSignkindsLaw$Out;)I"⟩
abbrev cL_drop : ByteArray := method_3_code
def yL_drop : MethodName := ⟨RL, "drop", "(LSignkinds;IILSignkindsLaw$Out;)I"⟩
abbrev cL_copy : ByteArray := method_4_code
def yL_copy : MethodName := ⟨RL, "copy", "(LSignkinds;IILSignkindsLaw$Out;)I"⟩
abbrev cL_raise : ByteArray := method_5_code
def yL_raise : MethodName := ⟨RL, "raise", "(LSignkinds;ILSignkindsLaw$Out;)I"⟩
abbrev cL_sink : ByteArray := method_6_code
def yL_sink : MethodName := ⟨RL, "sink", "(LSignkinds;ILSignkindsLaw$Out;)I"⟩
abbrev cL_sieve : ByteArray := method_7_code
def yL_sieve : MethodName := ⟨RL, "sieve", "(LSignkinds;IIZLSignkindsLaw$Out;)I"⟩
abbrev cL_strip : ByteArray := method_8_code
def yL_strip : MethodName := ⟨RL, "strip", "(LSignkinds;ILSignkindsLaw$Out;)I"⟩
abbrev cL_turn : ByteArray := method_9_code
def yL_turn : MethodName := ⟨RL, "turn", "(LSignkinds;ILSignkindsLaw$Out;)I"⟩
abbrev cL_write : ByteArray := method_10_code
def yL_write : MethodName := ⟨RL, "write", "(LSignkinds;IIILSignkindsLaw$Out;)I"⟩
abbrev cL_spell : ByteArray := method_11_code
def yL_spell : MethodName := ⟨RL, "spell", "(LSignkinds;IILSignkindsLaw$Out;)I"⟩
abbrev cL_read : ByteArray := method_12_code
def yL_read : MethodName := ⟨RL, "read", "(LSignkinds;IILSignkindsLaw$Out;)I"⟩
abbrev cL_send : ByteArray := method_13_code
def yL_send : MethodName := ⟨RL, "send", "(LSignkinds;IILSignkindsLaw$Out;)I"⟩
abbrev cL_put : ByteArray := method_14_code
def yL_put : MethodName := ⟨RL, "put", "(LSignkinds;IILSignkindsLaw$Out;)I"⟩
abbrev cL_cut : ByteArray := method_15_code
def yL_cut : MethodName := ⟨RL, "cut", "(LSignkinds;IILSignkindsLaw$Out;)I"⟩
abbrev cL_flip : ByteArray := method_16_code
def yL_flip : MethodName := ⟨RL, "flip", "(LSignkinds;ILSignkindsLaw$Out;)I"⟩
abbrev cL_reverse : ByteArray := method_17_code
def yL_reverse : MethodName := ⟨RL, "reverse", "(LSignkinds;ILSignkindsLaw$Out;)I"⟩
abbrev cL_undo : ByteArray := method_18_code
def yL_undo : MethodName := ⟨RL, "undo", "(LSignkinds;LSignkindsLaw$Out;)I"⟩
abbrev cL_isDigit : ByteArray := method_19_code
def yL_isDigit : MethodName := ⟨RL, "isDigit", "(LSignkinds;ILSignkindsLaw$Out;)I"⟩
abbrev cL_isLetter : ByteArray := method_20_code
def yL_isLetter : MethodName := ⟨RL, "isLetter", "(LSignkinds;ILSignkindsLaw$Out;)I"⟩
abbrev cL_isLetterOrDigit : ByteArray := method_21_code
def yL_isLetterOrDigit : MethodName := ⟨RL, "isLetterOrDigit", "(LSignkinds;ILSignkindsLaw$Out;)I"⟩
abbrev cL_isWhite : ByteArray := method_22_code
def yL_isWhite : MethodName := ⟨RL, "isWhite", "(LSignkinds;ILSignkindsLaw$Out;)I"⟩
abbrev cL_isGreat : ByteArray := method_23_code
def yL_isGreat : MethodName := ⟨RL, "isGreat", "(LSignkinds;ILSignkindsLaw$Out;)I"⟩
abbrev cL_kinds : ByteArray := method_24_code
def yL_kinds : MethodName := ⟨RL, "kinds", "(LSignkinds;ILSignkindsLaw$Out;)I"⟩
abbrev cL_upper : ByteArray := method_25_code
def yL_upper : MethodName := ⟨RL, "upper", "(LSignkinds;IZLSignkindsLaw$Out;)I"⟩
abbrev cL_lower : ByteArray := method_26_code
def yL_lower : MethodName := ⟨RL, "lower", "(LSignkinds;IZLSignkindsLaw$Out;)I"⟩
abbrev cL_value : ByteArray := method_27_code
def yL_value : MethodName := ⟨RL, "value", "(LSignkinds;IZLSignkindsLaw$Out;)I"⟩
abbrev cL_number : ByteArray := method_28_code
def yL_number : MethodName := ⟨RL, "number", "(LSignkinds;IIZLSignkindsLaw$Out;)I"⟩
abbrev cL_length : ByteArray := method_29_code
def yL_length : MethodName := ⟨RL, "length", "(LSignkinds;ILSignkindsLaw$Out;)I"⟩
abbrev cL_at : ByteArray := method_30_code
def yL_at : MethodName := ⟨RL, "at", "(LSignkinds;IILSignkindsLaw$Out;)I"⟩
abbrev cL_count : ByteArray := method_31_code
def yL_count : MethodName := ⟨RL, "count", "(LSignkinds;IILSignkindsLaw$Out;)I"⟩
abbrev cL_first : ByteArray := method_32_code
def yL_first : MethodName := ⟨RL, "first", "(LSignkinds;IIILSignkindsLaw$Out;)I"⟩
abbrev cL_last : ByteArray := method_33_code
def yL_last : MethodName := ⟨RL, "last", "(LSignkinds;IILSignkindsLaw$Out;)I"⟩
abbrev cL_forms : ByteArray := method_34_code
def yL_forms : MethodName := ⟨RL, "forms", "(LSignkinds;ILSignkindsLaw$Out;)I"⟩
abbrev cL_spelled : ByteArray := method_35_code
def yL_spelled : MethodName := ⟨RL, "spelled", "(LSignkinds;ILSignkindsLaw$Out;)I"⟩
abbrev cL_told : ByteArray := method_36_code
def yL_told : MethodName := ⟨RL, "told", "(LSignkinds;IILSignkindsLaw$Out;)I"⟩
abbrev cL_sum : ByteArray := method_37_code
def yL_sum : MethodName := ⟨RL, "sum", "(LSignkinds;IILSignkindsLaw$Out;)I"⟩
abbrev cL_values : ByteArray := method_38_code
def yL_values : MethodName := ⟨RL, "values", "(LSignkinds;ILSignkindsLaw$Out;)I"⟩
abbrev cL_words : ByteArray := method_39_code
def yL_words : MethodName := ⟨RL, "words", "(LSignkinds;ILSignkindsLaw$Out;)I"⟩
abbrev cL_word : ByteArray := method_40_code
def yL_word : MethodName := ⟨RL, "word", "(LSignkinds;IIZLSignkindsLaw$Out;)I"⟩
abbrev cL_isAlike : ByteArray := method_41_code
def yL_isAlike : MethodName := ⟨RL, "isAlike", "(LSignkinds;IILSignkindsLaw$Out;)I"⟩
abbrev cL_order : ByteArray := method_42_code
def yL_order : MethodName := ⟨RL, "order", "(LSignkinds;IILSignkindsLaw$Out;)I"⟩
abbrev cL_half : ByteArray := method_43_code
def yL_half : MethodName := ⟨RL, "half", "(LSignkinds;IZLSignkindsLaw$Out;)I"⟩
abbrev cL_code : ByteArray := method_44_code
def yL_code : MethodName := ⟨RL, "code", "(LSignkinds;IILSignkindsLaw$Out;)I"⟩
abbrev cL_ofUnit : ByteArray := method_45_code
def yL_ofUnit : MethodName := ⟨RL, "ofUnit", "(LSignkinds;IILSignkindsLaw$Out;)I"⟩
abbrev cL_compare : ByteArray := method_46_code
def yL_compare : MethodName := ⟨RL, "compare", "(LSignkinds;IILSignkindsLaw$Out;)I"⟩
abbrev cL_ofTrack : ByteArray := method_47_code
def yL_ofTrack : MethodName := ⟨RL, "ofTrack", "(LSignkinds;IILSignkindsLaw$Out;)I"⟩
abbrev cL_unit : ByteArray := method_48_code
def yL_unit : MethodName := ⟨RL, "unit", "(LSignkinds;IILSignkindsLaw$Out;)I"⟩
abbrev cL_codeAt : ByteArray := method_49_code
def yL_codeAt : MethodName := ⟨RL, "codeAt", "(LSignkinds;IILSignkindsLaw$Out;)I"⟩
abbrev cL_nth : ByteArray := method_50_code
def yL_nth : MethodName := ⟨RL, "nth", "(LSignkinds;IILSignkindsLaw$Out;)I"⟩
abbrev cL_house : ByteArray := method_51_code
def yL_house : MethodName := ⟨RL, "house", "(LSignkinds;ILSignkindsLaw$Out;)I"⟩
abbrev cL_law : ByteArray := code
def yL_law : MethodName := ⟨RL, "law", "([I)Z"⟩
abbrev vwCl : List vw_C := [(RJ0, TJ0, 4), (RJ4, TJ4, 4), (RJx4a65c, TJx4a65c, 3), (RX0, TX0, 2), (RX1, TX1, 2), (RX3, TX3, 2), (RX5, TX5, 4), (RX6, TX6, 2), (RX7, TX7, 4)]
end
section
/-! THE JUDGEMENT over abstract values: ints and longs as whole numbers, a heap as a function from addresses to things. -/
abbrev sg_V : Type := Int ⊕ (Int ⊕ Option Nat)
abbrev sg_i (z : Int) : sg_V := .inl z
abbrev sg_l (z : Int) : sg_V := .inr (.inl z)
abbrev sg_r (a : Nat) : sg_V := .inr (.inr (some a))
abbrev sg_n : sg_V := .inr (.inr none)
def sg_v (v : sg_V) (c : Value) : Prop := match v with
  | .inl z => ∃ x : Int32, c = .int x ∧ x.toInt = z
  | .inr (.inl z) => ∃ x : Int64, c = .long x ∧ x.toInt = z
  | .inr (.inr (some a)) => c = .ref a
  | .inr (.inr none) => c = .null
def sg_c2 (v : sg_V) : Bool := match v with
  | .inr (.inl _) => true
  | _ => false
theorem sg_v_cat {v : sg_V} {c : Value} (h : sg_v v c) : (c.category == 2) = sg_c2 v := by
  match v, h with
  | .inl z, h => obtain ⟨x, rfl, -⟩ := h; rfl
  | .inr (.inl z), h => obtain ⟨x, rfl, -⟩ := h; rfl
  | .inr (.inr none), h => cases (show c = .null from h); rfl
  | .inr (.inr (some a)), h => cases (show c = .ref a from h); rfl
def sg_vs : List sg_V → List Value → Prop
  | [], [] => True
  | v :: a, c :: b => sg_v v c ∧ sg_vs a b
  | [], _ :: _ => False
  | _ :: _, [] => False
theorem sg_vs_c {v : sg_V} {a : List sg_V} {sv : List Value} (h : sg_vs (v :: a) sv) : ∃ c b, sv = c :: b ∧ sg_v v c ∧ sg_vs a b := by
  cases sv with
  | nil => simp [sg_vs] at h
  | cons c b => exact ⟨c, b, rfl, h.1, h.2⟩
theorem sg_vs_i {z : Int} {a : List sg_V} {sv : List Value} (h : sg_vs (sg_i z :: a) sv) : ∃ (x : Int32) (b : List Value), sv = .int x :: b ∧ x.toInt = z ∧ sg_vs a b := by
  obtain ⟨c, b, rfl, ⟨x, rfl, hx⟩, h2⟩ := sg_vs_c h
  exact ⟨x, b, rfl, hx, h2⟩
theorem sg_vs_l {z : Int} {a : List sg_V} {sv : List Value} (h : sg_vs (sg_l z :: a) sv) : ∃ (x : Int64) (b : List Value), sv = .long x :: b ∧ x.toInt = z ∧ sg_vs a b := by
  obtain ⟨c, b, rfl, ⟨x, rfl, hx⟩, h2⟩ := sg_vs_c h
  exact ⟨x, b, rfl, hx, h2⟩
theorem sg_vs_r {q : Nat} {a : List sg_V} {sv : List Value} (h : sg_vs (sg_r q :: a) sv) : ∃ (b : List Value), sv = .ref q :: b ∧ sg_vs a b := by
  obtain ⟨c, b, rfl, h1, h2⟩ := sg_vs_c h
  cases (show c = .ref q from h1)
  exact ⟨b, rfl, h2⟩
theorem sg_vs_n {a : List sg_V} {sv : List Value} (h : sg_vs (sg_n :: a) sv) : ∃ (b : List Value), sv = .null :: b ∧ sg_vs a b := by
  obtain ⟨c, b, rfl, h1, h2⟩ := sg_vs_c h
  cases (show c = .null from h1)
  exact ⟨b, rfl, h2⟩
theorem sg_vs_nil {sv : List Value} (h : sg_vs [] sv) : sv = [] := by
  cases sv with
  | nil => rfl
  | cons c b => simp [sg_vs] at h
theorem sg_vs_app : ∀ {a b : List sg_V} {sv : List Value}, sg_vs (a ++ b) sv → ∃ x y, sv = x ++ y ∧ sg_vs a x ∧ sg_vs b y
  | [], b, sv, h => ⟨[], sv, rfl, trivial, h⟩
  | v :: a, b, sv, h => by
    obtain ⟨c, sv', rfl, h1, h2⟩ := sg_vs_c (a := a ++ b) h
    obtain ⟨x, y, rfl, h3, h4⟩ := sg_vs_app h2
    exact ⟨c :: x, y, rfl, ⟨h1, h3⟩, h4⟩
theorem sg_vs_join : ∀ {a b : List sg_V} {x y : List Value}, sg_vs a x → sg_vs b y → sg_vs (a ++ b) (x ++ y)
  | [], _, x, _, h, h2 => by rw [sg_vs_nil h]; exact h2
  | v :: a, b, x, y, h, h2 => by
    obtain ⟨c, x', rfl, h1, h3⟩ := sg_vs_c h
    exact ⟨h1, sg_vs_join h3 h2⟩
theorem sg_vs_len : ∀ {a : List sg_V} {x : List Value}, sg_vs a x → x.length = a.length
  | [], x, h => by rw [sg_vs_nil h]; rfl
  | v :: a, x, h => by
    obtain ⟨c, x', rfl, h1, h3⟩ := sg_vs_c h
    simp [sg_vs_len h3]
theorem sg_vs_rev : ∀ {a : List sg_V} {x : List Value}, sg_vs a x → sg_vs a.reverse x.reverse
  | [], x, h => by rw [sg_vs_nil h]; exact trivial
  | v :: a, x, h => by
    obtain ⟨c, x', rfl, h1, h3⟩ := sg_vs_c h
    rw [List.reverse_cons, List.reverse_cons]
    exact sg_vs_join (sg_vs_rev h3) ⟨h1, trivial⟩
def sg_cs : List sg_V → Nat
  | [] => 0
  | v :: a => (bif sg_c2 v then 2 else 1) + sg_cs a
theorem sg_vs_cat : ∀ {a : List sg_V} {x : List Value}, sg_vs a x → (x.map fun v => v.category).sum = sg_cs a
  | [], x, h => by rw [sg_vs_nil h]; rfl
  | v :: a, x, h => by
    obtain ⟨c, x', rfl, h1, h3⟩ := sg_vs_c h
    have hc := sg_v_cat h1
    have h4 := sg_vs_cat h3
    rw [List.map_cons, List.sum_cons, h4]
    show c.category + sg_cs a = (bif sg_c2 v then 2 else 1) + sg_cs a
    rw [← hc]
    rcases lv_cat c with h | h <;> rw [h] <;> rfl
/-! locals -/
def sg_L : List (Nat × sg_V) → List (Nat × Value) → Prop
  | [], [] => True
  | q :: a, r :: b => q.1 = r.1 ∧ sg_v q.2 r.2 ∧ sg_L a b
  | [], _ :: _ => False
  | _ :: _, [] => False
def sg_lk : List (Nat × sg_V) → Nat → Option sg_V
  | [], _ => none
  | q :: a, i => bif Nat.beq q.1 i then some q.2 else sg_lk a i
theorem sg_lk_at : ∀ {lv : List (Nat × sg_V)} {i : Nat} {v : sg_V} {l : List (Nat × Value)}, sg_lk lv i = some v → sg_L lv l → ∃ c, (i, c) ∈ l ∧ sg_v v c
  | [], i, v, l, h, _ => by simp [sg_lk] at h
  | q :: a, i, v, [], _, hL => by simp [sg_L] at hL
  | q :: a, i, v, r :: b, h, hL => by
    obtain ⟨h1, h2, h3⟩ := hL
    unfold sg_lk at h
    cases hq : Nat.beq q.1 i with
    | true =>
      rw [hq] at h
      have h4 := Nat.eq_of_beq_eq_true hq
      have h5 : q.2 = v := Option.some.inj h
      subst h5
      refine ⟨r.2, ?_, h2⟩
      rw [← h4, h1]
      exact List.mem_cons_self
    | false =>
      rw [hq] at h
      obtain ⟨c, h4, h5⟩ := sg_lk_at (show sg_lk a i = some v from h) h3
      exact ⟨c, List.mem_cons_of_mem _ h4, h5⟩
theorem sg_L_filter {f : Nat × sg_V → Bool} {g : Nat × Value → Bool} (hfg : ∀ q r, q.1 = r.1 → sg_v q.2 r.2 → f q = g r) : ∀ {lv : List (Nat × sg_V)} {l : List (Nat × Value)}, sg_L lv l → sg_L (lv.filter f) (l.filter g)
  | [], [], _ => trivial
  | [], _ :: _, h => by simp [sg_L] at h
  | _ :: _, [], h => by simp [sg_L] at h
  | q :: a, r :: b, h => by
    obtain ⟨h1, h2, h3⟩ := h
    have h4 := sg_L_filter hfg h3
    rw [List.filter_cons, List.filter_cons, hfg q r h1 h2]
    split
    · exact ⟨h1, h2, h4⟩
    · exact h4
def sg_st (i : Nat) (v : sg_V) (lv : List (Nat × sg_V)) : List (Nat × sg_V) := (i, v) :: lv.filter (fun q => !(q.1 == i) && !(q.1 + 1 == i && sg_c2 q.2))
def sg_st2 (i : Nat) (v : sg_V) (lv : List (Nat × sg_V)) : List (Nat × sg_V) := (i, v) :: lv.filter (fun q => !(q.1 == i) && (!(q.1 == i + 1) && !(q.1 + 1 == i && sg_c2 q.2)))
theorem sg_L_st {i : Nat} {v : sg_V} {c : Value} {lv : List (Nat × sg_V)} {l : List (Nat × Value)} (hL : sg_L lv l) (h : sg_v v c) : sg_L (sg_st i v lv) ((i, c) :: l.filter (fun q => !(q.1 == i) && !(q.1 + 1 == i && q.2.category == 2))) :=
  ⟨rfl, h, sg_L_filter (fun q r h1 h2 => by rw [h1, sg_v_cat h2]) hL⟩
theorem sg_L_st2 {i : Nat} {v : sg_V} {c : Value} {lv : List (Nat × sg_V)} {l : List (Nat × Value)} (hL : sg_L lv l) (h : sg_v v c) : sg_L (sg_st2 i v lv) ((i, c) :: l.filter (fun q => !(q.1 == i) && (!(q.1 == i + 1) && !(q.1 + 1 == i && q.2.category == 2)))) :=
  ⟨rfl, h, sg_L_filter (fun q r h1 h2 => by rw [h1, sg_v_cat h2]) hL⟩
def sg_ar : Nat → List sg_V → List (Nat × sg_V)
  | _, [] => []
  | i, v :: vs => (i, v) :: sg_ar (bif sg_c2 v then i + 2 else i + 1) vs
theorem sg_L_ar : ∀ {vs : List sg_V} {cs : List Value} (i : Nat), sg_vs vs cs → sg_L (sg_ar i vs) (lv_args i cs)
  | [], cs, i, h => by rw [sg_vs_nil h]; trivial
  | v :: vs, cs, i, h => by
    obtain ⟨c, b, rfl, h1, h2⟩ := sg_vs_c h
    refine ⟨rfl, h1, ?_⟩
    have hc := sg_v_cat h1
    have h3 := sg_L_ar (bif sg_c2 v then i + 2 else i + 1) h2
    have h4 : (if c.category = 2 then i + 2 else i + 1) = (bif sg_c2 v then i + 2 else i + 1) := by
      rw [← hc]
      rcases lv_cat c with h | h <;> rw [h] <;> rfl
    show sg_L (sg_ar (bif sg_c2 v then i + 2 else i + 1) vs) (lv_args (if c.category = 2 then i + 2 else i + 1) b)
    rw [h4]
    exact h3
theorem sg_sl_len : ∀ {vs : List sg_V} {cs : List Value}, sg_vs vs cs → (lg_sl cs).length = sg_cs vs
  | [], cs, h => by rw [sg_vs_nil h]; rfl
  | v :: vs, cs, h => by
    obtain ⟨c, b, rfl, h1, h2⟩ := sg_vs_c h
    have hc := sg_v_cat h1
    have h3 := sg_sl_len h2
    have h4 : (lg_sl (c :: b)).length = (if c.category = 2 then 2 else 1) + (lg_sl b).length := by
      simp only [lg_sl, List.flatMap_cons, List.length_append]
      split <;> rfl
    rw [h4, h3]
    show (if c.category = 2 then 2 else 1) + sg_cs vs = (bif sg_c2 v then 2 else 1) + sg_cs vs
    rw [← hc]
    rcases lv_cat c with h | h <;> rw [h] <;> rfl
/-! numbers -/
def sg_w (z : Int) : Int := z.bmod 4294967296
def sg_W64 (z : Int) : Int := z.bmod 18446744073709551616
theorem sg_w_id {z : Int} (h1 : -2147483648 ≤ z) (h2 : z ≤ 2147483647) : sg_w z = z := by
  unfold sg_w
  rw [Int.bmod_eq_of_le] <;> omega
theorem sg_toInt_range (x : Int32) : -2147483648 ≤ x.toInt ∧ x.toInt ≤ 2147483647 := ⟨Int32.le_toInt x, Int32.toInt_le x⟩
theorem sg_clamp (x : Int32) : x.toNatClampNeg = x.toInt.toNat := rfl
/-! things: a number of a kind and what it holds. Kinds 0 .. 99: objects of vwCl; 100 ..: arrays; and 200 more for what was there before the start, which nobody writes. -/
abbrev sg_E : Type := Nat × List sg_V
abbrev sg_H : Type := Nat × (Nat → Option sg_E)
abbrev sg_W : Type := Launch × State × va_G
abbrev sg_M : Type := MethodName × ByteArray × Nat × Option FieldType
abbrev sg_O : Type := Option sg_V ⊕ String
abbrev sg_b (w : sg_W) : Nat := w.2.1.heap.size
def sg_up (f : Nat → Option sg_E) (a : Nat) (e : sg_E) : Nat → Option sg_E := fun q => if q = a then some e else f q
theorem sg_up_s {f : Nat → Option sg_E} {a : Nat} {e : sg_E} : sg_up f a e a = some e := if_pos rfl
theorem sg_up_n {f : Nat → Option sg_E} {a q : Nat} {e : sg_E} (h : q ≠ a) : sg_up f a e q = f q := if_neg h
def sg_ty (t : Nat) : FieldType := match t with
  | 100 => .int
  | 101 => .boolean
  | 102 => .byte
  | 110 => .array .int
  | 111 => .object "Signkinds$Line"
  | 112 => .object "Signkinds$State"
  | _ => .object "java/lang/Object"
def sg_cn (ty : FieldType) : String := match ty with
  | .object C => C
  | t => t.toString
def sg_ak (s : State) (ty : FieldType) (cA : ClassId) : Prop := s.vm.findClass ("[" ++ ty.toString) = some cA ∧ ∃ (k : Class) (comp : ClassId), s.vm.classes[cA]? = some k ∧ k.kind = .array comp ty ∧ (ty.isReference = true → s.vm.findClass (sg_cn ty) = some comp)
theorem sg_ak_moved {u U : State} (hvm : u.vm.Alike U.vm) {ty : FieldType} {cA : ClassId} (h : sg_ak u ty cA) : sg_ak U ty cA := by
  obtain ⟨h1, k, comp, h2, h3, h4⟩ := h
  obtain ⟨k', hk', he⟩ := hvm.2.2 _ _ h2
  exact ⟨by rw [hvm.findClass]; exact h1, k', comp, hk', by rw [he]; exact h3, fun h => by rw [hvm.findClass]; exact h4 h⟩
theorem sg_ak_arr {s : State} {ty : FieldType} {cell : Cell} (h : sg_ak s ty cell.cls) (hv : cell.vm = .none) : s.isArrayOf cell ty := by
  obtain ⟨-, k, comp, h2, h3, -⟩ := h
  exact ⟨fun q hq => by (rw [hv] at hq; cases hq), k, h2, comp, h3⟩
def sg_ix (D : va_G) (t k : Nat) : Nat := if t < 100 then D.2 t k else k
def sg_at (w : sg_W) (e : sg_E) (cell : Cell) : Prop :=
  cell.vm = .none ∧ (∀ k v, e.2[k]? = some v → ∃ c, cell.slots[sg_ix w.2.2 (e.1 % 200) k]? = some c ∧ sg_v v c) ∧
  (if e.1 % 200 < 100 then cell.cls = w.2.2.1 (e.1 % 200) ∧ ∃ q, vwCl[e.1 % 200]? = some q ∧ e.2.length = q.2.2
   else cell.slots.size = e.2.length ∧ sg_ak w.2.1 (sg_ty (e.1 % 200)) cell.cls)
def sg_rel (w : sg_W) (h : sg_H) (H : Heap) : Prop := H.size = h.1 ∧ sg_b w ≤ H.size ∧ (∀ q, q < sg_b w → H[q]? = w.2.1.heap[q]?) ∧
  ∀ a e, h.2 a = some e → (e.1 < 200 → sg_b w ≤ a) ∧ ∃ cell, H[a]? = some cell ∧ sg_at w e cell
theorem sg_rel_put {w : sg_W} {h : sg_H} {H H' : Heap} {a : Nat} {e : sg_E} {cell : Cell} (hR : sg_rel w h H) (ha : sg_b w ≤ a) (h1 : H'[a]? = some cell) (h2 : H'.size = H.size) (h3 : ∀ q, q ≠ a → H'[q]? = H[q]?) (hc : sg_at w e cell) : sg_rel w (h.1, sg_up h.2 a e) H' := by
  obtain ⟨r1, r2, r3, r4⟩ := hR
  refine ⟨h2.trans r1, by rw [h2]; exact r2, fun q hq => by rw [h3 q (by omega)]; exact r3 q hq, fun q e' hq => ?_⟩
  by_cases c : q = a
  · subst c
    have : e = e' := Option.some.inj (sg_up_s.symm.trans hq)
    subst this
    exact ⟨fun _ => ha, cell, h1, hc⟩
  · obtain ⟨r5, c2, r6, r7⟩ := r4 q e' ((sg_up_n c).symm.trans hq)
    exact ⟨r5, c2, by rw [h3 q c]; exact r6, r7⟩
theorem sg_rel_new {w : sg_W} {h : sg_H} {H H' : Heap} {e : sg_E} {cell : Cell} (hR : sg_rel w h H) (h1 : H'[H.size]? = some cell) (h2 : H'.size = H.size + 1) (h3 : ∀ q, q < H.size → H'[q]? = H[q]?) (hc : sg_at w e cell) : sg_rel w (h.1 + 1, sg_up h.2 h.1 e) H' := by
  obtain ⟨r1, r2, r3, r4⟩ := hR
  refine ⟨by rw [h2, r1], by omega, fun q hq => by rw [h3 q (by omega)]; exact r3 q hq, fun q e' hq => ?_⟩
  by_cases c : q = h.1
  · subst c
    have : e = e' := Option.some.inj (sg_up_s.symm.trans hq)
    subst this
    exact ⟨fun _ => by omega, cell, by rw [← r1]; exact h1, hc⟩
  · obtain ⟨r5, c2, r6, r7⟩ := r4 q e' ((sg_up_n c).symm.trans hq)
    exact ⟨r5, c2, by rw [h3 q (Array.getElem?_eq_some_iff.mp r6).1]; exact r6, r7⟩
/-- a cell that no thing tells of -/
theorem sg_rel_more {w : sg_W} {h : sg_H} {H H' : Heap} (hR : sg_rel w h H) (h2 : H.size ≤ H'.size) (h3 : ∀ q, q < H.size → H'[q]? = H[q]?) : sg_rel w (H'.size, h.2) H' := by
  obtain ⟨r1, r2, r3, r4⟩ := hR
  refine ⟨rfl, by omega, fun q hq => by rw [h3 q (by omega)]; exact r3 q hq, fun q e' hq => ?_⟩
  obtain ⟨r5, c2, r6, r7⟩ := r4 q e' hq
  exact ⟨r5, c2, by rw [h3 q (Array.getElem?_eq_some_iff.mp r6).1]; exact r6, r7⟩
/-- a word of the tables that stays -/
def sg_ok (x : Cond) : Prop := x ∈ lw_tbl ∧ goodWord x = true
theorem sg_okt {x : Cond} (i : Nat) (h : tables_1[i]? = some x ∧ goodWord x = true) : sg_ok x := ⟨List.mem_append_right _ (List.mem_of_getElem? h.1), h.2⟩
theorem sg_oks {x : Cond} (i : Nat) (h : (k2_sels lw_privs)[i]? = some x ∧ goodWord x = true) : sg_ok x := ⟨List.mem_append_left _ (List.mem_of_getElem? h.1), h.2⟩
/-- what holds of the start, all through -/
def sg_G (w : sg_W) : Prop := ((∀ x ∈ lw_tbl, x.before #[] w.2.1 = true) ∧ ∀ own is tx, Cond.stringRef own is tx ∈ lw_tbl → ∃ a, vk_R own is tx a w.2.1) ∧ va_K w.2.2 vwCl [] w.2.1 ∧ w.1.stackTraces = false ∧
  vx_Zq Bundle.tN "UNASSIGNED_STACK" Bundle.steD (fun q => sg_b w ≤ q) w.2.1 w.2.1.heap ∧ vx_Zq Bundle.tN "SUPPRESSED_SENTINEL" Bundle.listD (fun q => sg_b w ≤ q) w.2.1 w.2.1.heap
theorem sg_wd {w : sg_W} {s : State} {args : Array Value} {x : Cond} (g : sg_G w) (hW : w.2.1.WarmedH s.vm) (hx : sg_ok x) : x.before args s = true := word_at hW (good_of_word hx.2) (g.1.1 x hx.1)
def sg_rm (d mc ms : Nat) : Room := { frames := d, cells := mc, slots := ms, locals := 80 * d }
def sg_Qc (w : sg_W) (Q : sg_O → sg_H → Prop) : Array Value → State → Outcome → State → Prop := fun _ _ o t =>
  ∃ (v : Option sg_V) (c : Option Value) (h : sg_H), o = .returned c ∧ sg_vs v.toList c.toList ∧ sg_rel w h t.heap ∧ Q (.inl v) h
def sg_XC (w : sg_W) (Q : sg_O → sg_H → Prop) : String → State → State → Prop := fun E _ t => ∃ h : sg_H, sg_rel w h t.heap ∧ Q (.inr E) h
def sg_Pc (w : sg_W) (as : List sg_V) (h : sg_H) : Array Value → State → Prop := fun av U => ∃ cs : List Value, av = cs.toArray ∧ sg_vs as cs ∧ w.2.1.WarmedH U.vm ∧ sg_rel w h U.heap
/-- THE CONTRACT of one call: method mi with the arguments as in the heap h, at most d frames, mc cells, ms slots, ends in Q -/
def sg_C (w : sg_W) (mi : sg_M) (d mc ms : Nat) (as : List sg_V) (h : sg_H) (Q : sg_O → sg_H → Prop) : Prop :=
  vx_Met w.1 mi.1 [.code mi.1 mi.2.1 mi.2.2.1 mi.2.2.2] (sg_rm d mc ms) (sg_Pc w as h) (sg_Qc w Q) (sg_XC w Q) mc ms (fun q => sg_b w ≤ q)
def sg_F (w : sg_W) (mi : sg_M) (p : Program) (s : State) (m : MethodId) (meth : Method) (c : Code) : Prop :=
  p.tables.exec = Jvm.exec ∧ c.code = mi.2.1 ∧ c.maxLocals = mi.2.2.1 ∧ s.vm.findClass mi.1.cls = some m.cls ∧ meth.sig.returnType = mi.2.2.2 ∧ meth.locks = false ∧ (∀ x ∈ c.exceptionTable.toList, False) ∧ meth.name = mi.1.name ∧ sg_b w ≤ s.heap.size ∧ ∀ q, q < sg_b w → s.heap[q]? = w.2.1.heap[q]?
/-- THE RUN of a method from pc on -/
def sg_R (w : sg_W) (mi : sg_M) (d mc ms : Nat) (Q : sg_O → sg_H → Prop) (pc : Nat) (lv : List (Nat × sg_V)) (st : List sg_V) (h : sg_H) (k n : Nat) : Prop :=
  ∀ (p : Program) (e : Env) (s : State) (m : MethodId) (args : Array Value) (below : List Frame) (meth : Method) (c : Code) (H : Heap) (locs : List Loc) (ls : Array Slot) (sv : List Value) (l : List (Nat × Value)),
    sg_F w mi p s m meth c → w.2.1.WarmedH s.vm → lv_has ls mi.2.2.1 l → sg_L lv l → sg_vs st sv → sg_rel w h H → ((∀ q ∈ locs, sg_b w ≤ q.base) ∧ s.heap.size ≤ H.size) →
    W p w.1 e (sg_rm d mc ms) s m args below meth c H locs k n (vx_MQ below (sg_Qc w Q) (sg_XC w Q) args s mc ms (fun q => sg_b w ≤ q)) (F0 m pc ls sv)
section
variable {w : sg_W} {mi : sg_M} {d mc ms : Nat} {Q : sg_O → sg_H → Prop} {pc : Nat} {lv : List (Nat × sg_V)} {st : List sg_V} {h : sg_H} {k n : Nat}
/-- a method's contract out of its run -/
theorem sg_of {as : List sg_V} (hy : plainName mi.1.cls = true) (hn : sg_cs as ≤ mi.2.2.1) (K : sg_R w mi d mc ms Q 0 (sg_ar 0 as) [] h 0 0) : sg_C w mi d mc ms as h Q := by
  refine vx_ofW (cc := mi.2.1) (maxL := mi.2.2.1) (ret := mi.2.2.2) hy rfl ?_
  intro p e s m args below meth c s₁ B hml ht hv
  obtain ⟨cs, rfl, hcs, hW, hR⟩ := hv
  have hl := lv_entry cs (n := mi.2.2.1) (by rw [sg_sl_len hcs]; exact hn)
  rw [lg_entry_eq]
  exact K p e s m cs.toArray below meth c s.heap [] _ [] _ ⟨B.exec, B.bytes, hml, findClass_of_methodNamed B.named, B.returns, B.notSynchronized, ht, (name_of_methodNamed B.named B.method).1, hR.2.1, hR.2.2.1⟩ hW hl (sg_L_ar 0 hcs) trivial hR ⟨fun q hq => (nomatch hq), Nat.le_refl _⟩
theorem sg_widen {k' n' : Nat} (h1 : k ≤ k') (h2 : n ≤ n') (K : sg_R w mi d mc ms Q pc lv st h k' n') : sg_R w mi d mc ms Q pc lv st h k n := by
  intro p e s m args below meth c H locs ls sv l hF hW hlv hL hs hR hO
  exact W.widen h1 h2 (K p e s m args below meth c H locs ls sv l hF hW hlv hL hs hR hO)
/-- fewer locals are told of -/
theorem sg_less {lv' : List (Nat × sg_V)} (hl : ∀ i v, sg_lk lv' i = some v → sg_lk lv i = some v) (hn : ∀ q ∈ lv', sg_lk lv' q.1 = some q.2) (K : sg_R w mi d mc ms Q pc lv' st h k n) : sg_R w mi d mc ms Q pc lv st h k n := by
  intro p e s m args below meth c H locs ls sv l hF hW hlv hL hs hR hO
  have key : ∀ lv2 : List (Nat × sg_V), (∀ q ∈ lv2, sg_lk lv q.1 = some q.2) → ∃ l2, (∀ r ∈ l2, r ∈ l) ∧ sg_L lv2 l2 := by
    intro lv2
    induction lv2 with
    | nil => intro _; exact ⟨[], fun _ h => (nomatch h), trivial⟩
    | cons q a ih =>
      intro hq
      obtain ⟨c9, h1, h2⟩ := sg_lk_at (hq q List.mem_cons_self) hL
      obtain ⟨l2, h3, h4⟩ := ih (fun x hx => hq x (List.mem_cons_of_mem _ hx))
      exact ⟨(q.1, c9) :: l2, fun r hr => (List.mem_cons.mp hr).elim (fun z => z ▸ h1) (h3 r), rfl, h2, h4⟩
  obtain ⟨l2, h3, h4⟩ := key lv' (fun q hq => hl _ _ (hn q hq))
  exact K p e s m args below meth c H locs ls sv l2 hF hW ⟨hlv.1, hlv.2.1, fun q hq => hlv.2.2 q (h3 q hq)⟩ h4 hs hR hO
/-! the ends -/
theorem sg_iret {z : Int} (hd : decode mi.2.1 pc = .ok (.ireturn, 1)) (hr : mi.2.2.2 = some .int) (hk : k ≤ mc) (hn : n ≤ ms) (K : Q (.inl (some (sg_i z))) h) : sg_R w mi d mc ms Q pc lv [sg_i z] h k n := by
  intro p e s m args below meth c H locs ls sv l hF hW hlv hL hs hR hO
  obtain ⟨x, b, rfl, hx, hb⟩ := sg_vs_i hs
  rw [sg_vs_nil hb]
  refine W.widen hk hn (vx_ret (W.iret hF.1 hF.2.1 (hF.2.2.2.2.1.trans hr) (fun t ht _ => ⟨some (sg_i z), some (.int x), h, rfl, ⟨⟨x, rfl, hx⟩, trivial⟩, by rw [ht]; exact hR, K⟩) hO.1 hd hF.2.2.2.2.2.1))
theorem sg_zret {z : Int} (hd : decode mi.2.1 pc = .ok (.ireturn, 1)) (hr : mi.2.2.2 = some .boolean) (hz : z = 0 ∨ z = 1) (hk : k ≤ mc) (hn : n ≤ ms) (K : Q (.inl (some (sg_i z))) h) : sg_R w mi d mc ms Q pc lv [sg_i z] h k n := by
  intro p e s m args below meth c H locs ls sv l hF hW hlv hL hs hR hO
  obtain ⟨x, b, rfl, hx, hb⟩ := sg_vs_i hs
  rw [sg_vs_nil hb]
  have hx2 : narrow .boolean (.int x) = .int x := by
    rcases hz with rfl | rfl
    · rw [show x = 0 from Int32.toInt_inj.mp hx]; rfl
    · rw [show x = 1 from Int32.toInt_inj.mp hx]; rfl
  refine W.widen hk hn (vx_ret (W.zret hF.1 hF.2.1 (hF.2.2.2.2.1.trans hr) hx2 (fun t ht _ => ⟨some (sg_i z), some (.int x), h, rfl, ⟨⟨x, rfl, hx⟩, trivial⟩, by rw [ht]; exact hR, K⟩) hO.1 hd hF.2.2.2.2.2.1))
theorem sg_lret {z : Int} (hd : decode mi.2.1 pc = .ok (.lreturn, 1)) (hr : mi.2.2.2 = some .long) (hk : k ≤ mc) (hn : n ≤ ms) (K : Q (.inl (some (sg_l z))) h) : sg_R w mi d mc ms Q pc lv [sg_l z] h k n := by
  intro p e s m args below meth c H locs ls sv l hF hW hlv hL hs hR hO
  obtain ⟨x, b, rfl, hx, hb⟩ := sg_vs_l hs
  rw [sg_vs_nil hb]
  refine W.widen hk hn (vx_ret (W.lret hF.1 hF.2.1 (hF.2.2.2.2.1.trans hr) (fun t ht _ => ⟨some (sg_l z), some (.long x), h, rfl, ⟨⟨x, rfl, hx⟩, trivial⟩, by rw [ht]; exact hR, K⟩) hO.1 hd hF.2.2.2.2.2.1))
theorem sg_vret (hd : decode mi.2.1 pc = .ok (.return_, 1)) (hr : mi.2.2.2 = none) (hk : k ≤ mc) (hn : n ≤ ms) (K : Q (.inl none) h) : sg_R w mi d mc ms Q pc lv [] h k n := by
  intro p e s m args below meth c H locs ls sv l hF hW hlv hL hs hR hO
  rw [sg_vs_nil hs]
  refine W.widen hk hn (vx_ret (W.vret hF.1 hF.2.1 (hF.2.2.2.2.1.trans hr) (fun t ht _ => ⟨none, none, h, rfl, trivial, by rw [ht]; exact hR, K⟩) hO.1 hd hF.2.2.2.2.2.1))
theorem sg_aret {a : Nat} {rt : FieldType} (hd : decode mi.2.1 pc = .ok (.areturn, 1)) (hr : mi.2.2.2 = some rt) (hrt : (∃ n, rt = .object n) ∨ ∃ t, rt = .array t) (hk : k ≤ mc) (hn : n ≤ ms) (K : Q (.inl (some (sg_r a))) h) : sg_R w mi d mc ms Q pc lv [sg_r a] h k n := by
  intro p e s m args below meth c H locs ls sv l hF hW hlv hL hs hR hO
  obtain ⟨b, rfl, hb⟩ := sg_vs_r hs
  rw [sg_vs_nil hb]
  refine W.widen hk hn (vx_ret (W.aret hF.1 hF.2.1 (hF.2.2.2.2.1.trans hr) hrt (Or.inr ⟨a, rfl⟩) (fun t ht _ => ⟨some (sg_r a), some (.ref a), h, rfl, ⟨rfl, trivial⟩, by rw [ht]; exact hR, K⟩) hO.1 hd hF.2.2.2.2.2.1))
end
end
section
def sg_and (a b : Int) : Int := (Int32.ofInt a &&& Int32.ofInt b).toInt
def sg_or (a b : Int) : Int := (Int32.ofInt a ||| Int32.ofInt b).toInt
def sg_shl (a b : Int) : Int := (Int32.ofInt a <<< (Int32.ofInt b &&& 31)).toInt
def sg_shr (a b : Int) : Int := (Int32.ofInt a >>> (Int32.ofInt b &&& 31)).toInt
def sg_chr (a : Int) : Int := ((Int32.ofInt a).toUInt32 % 65536).toInt32.toInt
def sg_byt (a : Int) : Int := (Int32.ofInt a).toInt8.toInt32.toInt
theorem sg_and_of (x y : Int32) : (x &&& y).toInt = sg_and x.toInt y.toInt := by unfold sg_and; rw [Int32.ofInt_toInt, Int32.ofInt_toInt]
theorem sg_or_of (x y : Int32) : (x ||| y).toInt = sg_or x.toInt y.toInt := by unfold sg_or; rw [Int32.ofInt_toInt, Int32.ofInt_toInt]
theorem sg_shl_of (x y : Int32) : (x <<< (y &&& 31)).toInt = sg_shl x.toInt y.toInt := by unfold sg_shl; rw [Int32.ofInt_toInt, Int32.ofInt_toInt]
theorem sg_shr_of (x y : Int32) : (x >>> (y &&& 31)).toInt = sg_shr x.toInt y.toInt := by unfold sg_shr; rw [Int32.ofInt_toInt, Int32.ofInt_toInt]
theorem sg_chr_of (x : Int32) : (x.toUInt32 % 65536).toInt32.toInt = sg_chr x.toInt := by unfold sg_chr; rw [Int32.ofInt_toInt]
theorem sg_byt_of (x : Int32) : x.toInt8.toInt32.toInt = sg_byt x.toInt := by unfold sg_byt; rw [Int32.ofInt_toInt]
theorem sg_irem0 (x y : Int32) : (x - x / y * y).toInt = x.toInt.tmod y.toInt := by
  have h1 := Int32.toInt_mod x y
  have h2 := sg_toInt_range (x % y)
  rw [h1] at h2
  rw [Int32.toInt_sub, Int32.toInt_mul, Int32.toInt_div, Int.sub_bmod_bmod, ← Int.sub_bmod_bmod, Int.bmod_mul_bmod, Int.sub_bmod_bmod]
  rw [Int.mul_comm, ← Int.tmod_def]
  exact sg_w_id h2.1 h2.2
theorem sg_lrem0 (x y : Int64) : (x - x / y * y).toInt = x.toInt.tmod y.toInt := by
  have h1 := Int64.toInt_mod x y
  have h2 := Int64.le_toInt (x % y)
  have h3 := Int64.toInt_le (x % y)
  rw [h1] at h2 h3
  rw [Int64.toInt_sub, Int64.toInt_mul, Int64.toInt_div, Int.sub_bmod_bmod, ← Int.sub_bmod_bmod, Int.bmod_mul_bmod, Int.sub_bmod_bmod]
  rw [Int.mul_comm, ← Int.tmod_def]
  have h4 : Int64.maxValue.toInt = 9223372036854775807 := by decide
  have h5 : Int64.minValue.toInt = -9223372036854775808 := by decide
  rw [Int.bmod_eq_of_le] <;> omega
theorem sg_ceq {x y : Int32} {a b : Int} (hx : x.toInt = a) (hy : y.toInt = b) : x = y ↔ a = b := by rw [← hx, ← hy]; exact Int32.toInt_inj.symm
theorem sg_cne {x y : Int32} {a b : Int} (hx : x.toInt = a) (hy : y.toInt = b) : ¬ x = y ↔ a ≠ b := not_congr (sg_ceq hx hy)
theorem sg_clt {x y : Int32} {a b : Int} (hx : x.toInt = a) (hy : y.toInt = b) : x < y ↔ a < b := by rw [← hx, ← hy]; exact Int32.lt_iff_toInt_lt
theorem sg_cge {x y : Int32} {a b : Int} (hx : x.toInt = a) (hy : y.toInt = b) : y ≤ x ↔ b ≤ a := by rw [← hx, ← hy]; exact Int32.le_iff_toInt_le
theorem sg_cgt {x y : Int32} {a b : Int} (hx : x.toInt = a) (hy : y.toInt = b) : y < x ↔ b < a := by rw [← hx, ← hy]; exact Int32.lt_iff_toInt_lt
theorem sg_cle {x y : Int32} {a b : Int} (hx : x.toInt = a) (hy : y.toInt = b) : x ≤ y ↔ a ≤ b := by rw [← hx, ← hy]; exact Int32.le_iff_toInt_le
theorem sg_cat1 {v : sg_V} {c : Value} (h : sg_v v c) (hv : sg_c2 v = false) : c.category = 1 := by
  have h1 := sg_v_cat h
  rw [hv] at h1
  rcases lv_cat c with h2 | h2
  · exact h2
  · rw [h2] at h1; cases h1
section
variable {w : sg_W} {mi : sg_M} {d mc ms : Nat} {Q : sg_O → sg_H → Prop} {pc : Nat} {lv : List (Nat × sg_V)} {st : List sg_V} {h : sg_H} {k n : Nat}
theorem sg_iload_n {i : Fin 4} {j : Nat} {z : Int} (hd : decode mi.2.1 pc = .ok (.iload_n i, 1)) (hj : (i : Nat) = j) (hl : sg_lk lv j = some (sg_i z)) (K : sg_R w mi d mc ms Q (pc + 1) lv (sg_i z :: st) h k n) : sg_R w mi d mc ms Q pc lv st h k n := by
  intro p e s m args below meth c H locs ls sv l hF hW hlv hL hs hR hO
  obtain ⟨cv, hm, x, rfl, hx⟩ := sg_lk_at hl hL
  refine lv_iload_n hF.1 hF.2.1 hd hj (hlv.2.2 _ hm) ?_
  exact K p e s m args below meth c H locs ls _ l hF hW hlv hL ⟨⟨x, rfl, hx⟩, hs⟩ hR hO

theorem sg_iload {j : Nat} {z : Int} (hd : decode mi.2.1 pc = .ok (.iload j, 2)) (hl : sg_lk lv j = some (sg_i z)) (K : sg_R w mi d mc ms Q (pc + 2) lv (sg_i z :: st) h k n) : sg_R w mi d mc ms Q pc lv st h k n := by
  intro p e s m args below meth c H locs ls sv l hF hW hlv hL hs hR hO
  obtain ⟨cv, hm, x, rfl, hx⟩ := sg_lk_at hl hL
  refine lv_iload hF.1 hF.2.1 hd (hlv.2.2 _ hm) ?_
  exact K p e s m args below meth c H locs ls _ l hF hW hlv hL ⟨⟨x, rfl, hx⟩, hs⟩ hR hO

theorem sg_lload_n {i : Fin 4} {j : Nat} {z : Int} (hd : decode mi.2.1 pc = .ok (.lload_n i, 1)) (hj : (i : Nat) = j) (hl : sg_lk lv j = some (sg_l z)) (K : sg_R w mi d mc ms Q (pc + 1) lv (sg_l z :: st) h k n) : sg_R w mi d mc ms Q pc lv st h k n := by
  intro p e s m args below meth c H locs ls sv l hF hW hlv hL hs hR hO
  obtain ⟨cv, hm, x, rfl, hx⟩ := sg_lk_at hl hL
  refine lv_lload_n hF.1 hF.2.1 hd hj (hlv.2.2 _ hm) ?_
  exact K p e s m args below meth c H locs ls _ l hF hW hlv hL ⟨⟨x, rfl, hx⟩, hs⟩ hR hO

theorem sg_lload {j : Nat} {z : Int} (hd : decode mi.2.1 pc = .ok (.lload j, 2)) (hl : sg_lk lv j = some (sg_l z)) (K : sg_R w mi d mc ms Q (pc + 2) lv (sg_l z :: st) h k n) : sg_R w mi d mc ms Q pc lv st h k n := by
  intro p e s m args below meth c H locs ls sv l hF hW hlv hL hs hR hO
  obtain ⟨cv, hm, x, rfl, hx⟩ := sg_lk_at hl hL
  refine lv_lload hF.1 hF.2.1 hd (hlv.2.2 _ hm) ?_
  exact K p e s m args below meth c H locs ls _ l hF hW hlv hL ⟨⟨x, rfl, hx⟩, hs⟩ hR hO

theorem sg_aload_n {i : Fin 4} {j a : Nat} (hd : decode mi.2.1 pc = .ok (.aload_n i, 1)) (hj : (i : Nat) = j) (hl : sg_lk lv j = some (sg_r a)) (K : sg_R w mi d mc ms Q (pc + 1) lv (sg_r a :: st) h k n) : sg_R w mi d mc ms Q pc lv st h k n := by
  intro p e s m args below meth c H locs ls sv l hF hW hlv hL hs hR hO
  obtain ⟨cv, hm, hx⟩ := sg_lk_at hl hL
  cases (show cv = .ref a from hx)
  refine lv_aload_n hF.1 hF.2.1 hd hj (hlv.2.2 _ hm) ?_
  exact K p e s m args below meth c H locs ls _ l hF hW hlv hL ⟨rfl, hs⟩ hR hO

theorem sg_aload {j a : Nat} (hd : decode mi.2.1 pc = .ok (.aload j, 2)) (hl : sg_lk lv j = some (sg_r a)) (K : sg_R w mi d mc ms Q (pc + 2) lv (sg_r a :: st) h k n) : sg_R w mi d mc ms Q pc lv st h k n := by
  intro p e s m args below meth c H locs ls sv l hF hW hlv hL hs hR hO
  obtain ⟨cv, hm, hx⟩ := sg_lk_at hl hL
  cases (show cv = .ref a from hx)
  refine lv_aload hF.1 hF.2.1 hd (hlv.2.2 _ hm) ?_
  exact K p e s m args below meth c H locs ls _ l hF hW hlv hL ⟨rfl, hs⟩ hR hO

theorem sg_istore_n {i : Fin 4} {j : Nat} {z : Int} (hd : decode mi.2.1 pc = .ok (.istore_n i, 1)) (hj : (i : Nat) = j) (hn : j < mi.2.2.1) (K : sg_R w mi d mc ms Q (pc + 1) (sg_st j (sg_i z) lv) st h k n) : sg_R w mi d mc ms Q pc lv (sg_i z :: st) h k n := by
  intro p e s m args below meth c H locs ls sv l hF hW hlv hL hs hR hO
  obtain ⟨x, b, rfl, hx, hb⟩ := sg_vs_i hs
  refine lv_istore_n hF.1 hF.2.1 hd hj hlv hn rfl (fun ls' hl' => ?_)
  exact K p e s m args below meth c H locs ls' _ _ hF hW hl' (sg_L_st (v := sg_i z) hL ⟨x, rfl, hx⟩) hb hR hO

theorem sg_istore {j : Nat} {z : Int} (hd : decode mi.2.1 pc = .ok (.istore j, 2)) (hn : j < mi.2.2.1) (K : sg_R w mi d mc ms Q (pc + 2) (sg_st j (sg_i z) lv) st h k n) : sg_R w mi d mc ms Q pc lv (sg_i z :: st) h k n := by
  intro p e s m args below meth c H locs ls sv l hF hW hlv hL hs hR hO
  obtain ⟨x, b, rfl, hx, hb⟩ := sg_vs_i hs
  refine lv_istore hF.1 hF.2.1 hd hlv hn rfl (fun ls' hl' => ?_)
  exact K p e s m args below meth c H locs ls' _ _ hF hW hl' (sg_L_st (v := sg_i z) hL ⟨x, rfl, hx⟩) hb hR hO

theorem sg_astore_n {i : Fin 4} {j : Nat} {z : Nat} (hd : decode mi.2.1 pc = .ok (.astore_n i, 1)) (hj : (i : Nat) = j) (hn : j < mi.2.2.1) (K : sg_R w mi d mc ms Q (pc + 1) (sg_st j (sg_r z) lv) st h k n) : sg_R w mi d mc ms Q pc lv (sg_r z :: st) h k n := by
  intro p e s m args below meth c H locs ls sv l hF hW hlv hL hs hR hO
  obtain ⟨b, rfl, hb⟩ := sg_vs_r hs
  refine lv_astore_n hF.1 hF.2.1 hd hj hlv hn rfl (fun ls' hl' => ?_)
  exact K p e s m args below meth c H locs ls' _ _ hF hW hl' (sg_L_st (v := sg_r z) hL rfl) hb hR hO

theorem sg_astore {j : Nat} {z : Nat} (hd : decode mi.2.1 pc = .ok (.astore j, 2)) (hn : j < mi.2.2.1) (K : sg_R w mi d mc ms Q (pc + 2) (sg_st j (sg_r z) lv) st h k n) : sg_R w mi d mc ms Q pc lv (sg_r z :: st) h k n := by
  intro p e s m args below meth c H locs ls sv l hF hW hlv hL hs hR hO
  obtain ⟨b, rfl, hb⟩ := sg_vs_r hs
  refine lv_astore hF.1 hF.2.1 hd hlv hn rfl (fun ls' hl' => ?_)
  exact K p e s m args below meth c H locs ls' _ _ hF hW hl' (sg_L_st (v := sg_r z) hL rfl) hb hR hO

theorem sg_lstore_n {i : Fin 4} {j : Nat} {z : Int} (hd : decode mi.2.1 pc = .ok (.lstore_n i, 1)) (hj : (i : Nat) = j) (hn : j + 1 < mi.2.2.1) (K : sg_R w mi d mc ms Q (pc + 1) (sg_st2 j (sg_l z) lv) st h k n) : sg_R w mi d mc ms Q pc lv (sg_l z :: st) h k n := by
  intro p e s m args below meth c H locs ls sv l hF hW hlv hL hs hR hO
  obtain ⟨x, b, rfl, hx, hb⟩ := sg_vs_l hs
  refine lv_lstore_n hF.1 hF.2.1 hd hj hlv hn rfl (fun ls' hl' => ?_)
  exact K p e s m args below meth c H locs ls' _ _ hF hW hl' (sg_L_st2 (v := sg_l z) hL ⟨x, rfl, hx⟩) hb hR hO

theorem sg_lstore {j : Nat} {z : Int} (hd : decode mi.2.1 pc = .ok (.lstore j, 2)) (hn : j + 1 < mi.2.2.1) (K : sg_R w mi d mc ms Q (pc + 2) (sg_st2 j (sg_l z) lv) st h k n) : sg_R w mi d mc ms Q pc lv (sg_l z :: st) h k n := by
  intro p e s m args below meth c H locs ls sv l hF hW hlv hL hs hR hO
  obtain ⟨x, b, rfl, hx, hb⟩ := sg_vs_l hs
  refine lv_lstore hF.1 hF.2.1 hd hlv hn rfl (fun ls' hl' => ?_)
  exact K p e s m args below meth c H locs ls' _ _ hF hW hl' (sg_L_st2 (v := sg_l z) hL ⟨x, rfl, hx⟩) hb hR hO

theorem sg_iinc {j : Nat} {z a : Int} (hd : decode mi.2.1 pc = .ok (.iinc j a, 3)) (hl : sg_lk lv j = some (sg_i z)) (ha : (Int32.ofInt a).toInt = a) (hn : j < mi.2.2.1) (K : sg_R w mi d mc ms Q (pc + 3) (sg_st j (sg_i (sg_w (z + a))) lv) st h k n) : sg_R w mi d mc ms Q pc lv st h k n := by
  intro p e s m args below meth c H locs ls sv l hF hW hlv hL hs hR hO
  obtain ⟨cv, hm, x, rfl, hx⟩ := sg_lk_at hl hL
  obtain ⟨q, hq⟩ := List.getElem?_of_mem hm
  refine lv_iinc hF.1 hF.2.1 hd hlv hq rfl hn rfl (fun ls' hl' => ?_)
  exact K p e s m args below meth c H locs ls' _ _ hF hW hl' (sg_L_st (v := sg_i (sg_w (z + a))) hL ⟨_, rfl, by rw [Int32.toInt_add, hx, ha]; rfl⟩) hs hR hO

theorem sg_iconst {a : Int} {z : Int} (hd : decode mi.2.1 pc = .ok (.iconst a, 1)) (hz : (Int32.ofInt a).toInt = z) (K : sg_R w mi d mc ms Q (pc + 1) lv (sg_i z :: st) h k n) : sg_R w mi d mc ms Q pc lv st h k n := by
  intro p e s m args below meth c H locs ls sv l hF hW hlv hL hs hR hO
  refine lv_iconst hF.1 hF.2.1 hd rfl ?_
  exact K p e s m args below meth c H locs ls _ l hF hW hlv hL ⟨⟨_, rfl, hz⟩, hs⟩ hR hO

theorem sg_bipush {a : Int} {z : Int} (hd : decode mi.2.1 pc = .ok (.bipush a, 2)) (hz : ((Int8.ofInt a).toInt32).toInt = z) (K : sg_R w mi d mc ms Q (pc + 2) lv (sg_i z :: st) h k n) : sg_R w mi d mc ms Q pc lv st h k n := by
  intro p e s m args below meth c H locs ls sv l hF hW hlv hL hs hR hO
  refine lv_bipush hF.1 hF.2.1 hd rfl ?_
  exact K p e s m args below meth c H locs ls _ l hF hW hlv hL ⟨⟨_, rfl, hz⟩, hs⟩ hR hO

theorem sg_sipush {a : Int} {z : Int} (hd : decode mi.2.1 pc = .ok (.sipush a, 3)) (hz : ((Int16.ofInt a).toInt32).toInt = z) (K : sg_R w mi d mc ms Q (pc + 3) lv (sg_i z :: st) h k n) : sg_R w mi d mc ms Q pc lv st h k n := by
  intro p e s m args below meth c H locs ls sv l hF hW hlv hL hs hR hO
  refine lv_sipush hF.1 hF.2.1 hd rfl ?_
  exact K p e s m args below meth c H locs ls _ l hF hW hlv hL ⟨⟨_, rfl, hz⟩, hs⟩ hR hO

theorem sg_lconst {a : Fin 2} {z : Int} (hd : decode mi.2.1 pc = .ok (.lconst a, 1)) (hz : (Int64.ofNat (a : Nat)).toInt = z) (K : sg_R w mi d mc ms Q (pc + 1) lv (sg_l z :: st) h k n) : sg_R w mi d mc ms Q pc lv st h k n := by
  intro p e s m args below meth c H locs ls sv l hF hW hlv hL hs hR hO
  refine lv_lconst hF.1 hF.2.1 hd rfl ?_
  exact K p e s m args below meth c H locs ls _ l hF hW hlv hL ⟨⟨_, rfl, hz⟩, hs⟩ hR hO

theorem sg_ldc {idx : Nat} {v : Int32} {z : Int} (g : sg_G w) (hd : decode mi.2.1 pc = .ok (.ldc idx, 2)) (hc : sg_ok (.constant mi.1.cls idx v)) (hz : v.toInt = z) (K : sg_R w mi d mc ms Q (pc + 2) lv (sg_i z :: st) h k n) : sg_R w mi d mc ms Q pc lv st h k n := by
  intro p e s m args below meth c H locs ls sv l hF hW hlv hL hs hR hO
  refine lv_ldc hF.1 hF.2.1 hF.2.2.2.1 (sg_wd g hW hc) hd ?_
  exact K p e s m args below meth c H locs ls _ l hF hW hlv hL ⟨⟨_, rfl, hz⟩, hs⟩ hR hO

theorem sg_ldcw {idx : Nat} {v : Int32} {z : Int} (g : sg_G w) (hd : decode mi.2.1 pc = .ok (.ldc_w idx, 3)) (hc : sg_ok (.constant mi.1.cls idx v)) (hz : v.toInt = z) (K : sg_R w mi d mc ms Q (pc + 3) lv (sg_i z :: st) h k n) : sg_R w mi d mc ms Q pc lv st h k n := by
  intro p e s m args below meth c H locs ls sv l hF hW hlv hL hs hR hO
  refine lv_ldcw hF.1 hF.2.1 hF.2.2.2.1 (sg_wd g hW hc) hd ?_
  exact K p e s m args below meth c H locs ls _ l hF hW hlv hL ⟨⟨_, rfl, hz⟩, hs⟩ hR hO

theorem sg_ldc2 {idx : Nat} {v : Int64} {z : Int} (g : sg_G w) (hd : decode mi.2.1 pc = .ok (.ldc2_w idx, 3)) (hc : sg_ok (.constantLong mi.1.cls idx v)) (hz : v.toInt = z) (K : sg_R w mi d mc ms Q (pc + 3) lv (sg_l z :: st) h k n) : sg_R w mi d mc ms Q pc lv st h k n := by
  intro p e s m args below meth c H locs ls sv l hF hW hlv hL hs hR hO
  refine lv_ldc2 hF.1 hF.2.1 hF.2.2.2.1 (sg_wd g hW hc) hd ?_
  exact K p e s m args below meth c H locs ls _ l hF hW hlv hL ⟨⟨_, rfl, hz⟩, hs⟩ hR hO

theorem sg_iadd {a b : Int} (hd : decode mi.2.1 pc = .ok (.iadd, 1))  (K : sg_R w mi d mc ms Q (pc + 1) lv (sg_i (sg_w (a + b)) :: st) h k n) : sg_R w mi d mc ms Q pc lv (sg_i b :: sg_i a :: st) h k n := by
  intro p e s m args below meth c H locs ls sv l hF hW hlv hL hs hR hO
  obtain ⟨y, t1, rfl, hy, h1⟩ := sg_vs_i hs
  obtain ⟨x, t2, rfl, hx, h2⟩ := sg_vs_i h1
  refine lv_iadd hF.1 hF.2.1 hd  ?_
  exact K p e s m args below meth c H locs ls _ l hF hW hlv hL ⟨⟨_, rfl, by rw [Int32.toInt_add, hx, hy]; rfl⟩, h2⟩ hR hO

theorem sg_isub {a b : Int} (hd : decode mi.2.1 pc = .ok (.isub, 1))  (K : sg_R w mi d mc ms Q (pc + 1) lv (sg_i (sg_w (a - b)) :: st) h k n) : sg_R w mi d mc ms Q pc lv (sg_i b :: sg_i a :: st) h k n := by
  intro p e s m args below meth c H locs ls sv l hF hW hlv hL hs hR hO
  obtain ⟨y, t1, rfl, hy, h1⟩ := sg_vs_i hs
  obtain ⟨x, t2, rfl, hx, h2⟩ := sg_vs_i h1
  refine lv_isub hF.1 hF.2.1 hd  ?_
  exact K p e s m args below meth c H locs ls _ l hF hW hlv hL ⟨⟨_, rfl, by rw [Int32.toInt_sub, hx, hy]; rfl⟩, h2⟩ hR hO

theorem sg_imul {a b : Int} (hd : decode mi.2.1 pc = .ok (.imul, 1))  (K : sg_R w mi d mc ms Q (pc + 1) lv (sg_i (sg_w (a * b)) :: st) h k n) : sg_R w mi d mc ms Q pc lv (sg_i b :: sg_i a :: st) h k n := by
  intro p e s m args below meth c H locs ls sv l hF hW hlv hL hs hR hO
  obtain ⟨y, t1, rfl, hy, h1⟩ := sg_vs_i hs
  obtain ⟨x, t2, rfl, hx, h2⟩ := sg_vs_i h1
  refine lv_imul hF.1 hF.2.1 hd  ?_
  exact K p e s m args below meth c H locs ls _ l hF hW hlv hL ⟨⟨_, rfl, by rw [Int32.toInt_mul, hx, hy]; rfl⟩, h2⟩ hR hO

theorem sg_idiv {a b : Int} (hd : decode mi.2.1 pc = .ok (.idiv, 1)) (hb : b ≠ 0) (K : sg_R w mi d mc ms Q (pc + 1) lv (sg_i (sg_w (a.tdiv b)) :: st) h k n) : sg_R w mi d mc ms Q pc lv (sg_i b :: sg_i a :: st) h k n := by
  intro p e s m args below meth c H locs ls sv l hF hW hlv hL hs hR hO
  obtain ⟨y, t1, rfl, hy, h1⟩ := sg_vs_i hs
  obtain ⟨x, t2, rfl, hx, h2⟩ := sg_vs_i h1
  refine lv_idiv hF.1 hF.2.1 hd (fun z => hb (by rw [← hy, z]; rfl)) ?_
  exact K p e s m args below meth c H locs ls _ l hF hW hlv hL ⟨⟨_, rfl, by rw [Int32.toInt_div, hx, hy]; rfl⟩, h2⟩ hR hO

theorem sg_irem {a b : Int} (hd : decode mi.2.1 pc = .ok (.irem, 1)) (hb : b ≠ 0) (K : sg_R w mi d mc ms Q (pc + 1) lv (sg_i (a.tmod b) :: st) h k n) : sg_R w mi d mc ms Q pc lv (sg_i b :: sg_i a :: st) h k n := by
  intro p e s m args below meth c H locs ls sv l hF hW hlv hL hs hR hO
  obtain ⟨y, t1, rfl, hy, h1⟩ := sg_vs_i hs
  obtain ⟨x, t2, rfl, hx, h2⟩ := sg_vs_i h1
  refine lv_irem hF.1 hF.2.1 hd (fun z => hb (by rw [← hy, z]; rfl)) ?_
  exact K p e s m args below meth c H locs ls _ l hF hW hlv hL ⟨⟨_, rfl, by rw [sg_irem0, hx, hy]⟩, h2⟩ hR hO

theorem sg_iand {a b : Int} (hd : decode mi.2.1 pc = .ok (.iand, 1))  (K : sg_R w mi d mc ms Q (pc + 1) lv (sg_i (sg_and a b) :: st) h k n) : sg_R w mi d mc ms Q pc lv (sg_i b :: sg_i a :: st) h k n := by
  intro p e s m args below meth c H locs ls sv l hF hW hlv hL hs hR hO
  obtain ⟨y, t1, rfl, hy, h1⟩ := sg_vs_i hs
  obtain ⟨x, t2, rfl, hx, h2⟩ := sg_vs_i h1
  refine lv_iand hF.1 hF.2.1 hd  ?_
  exact K p e s m args below meth c H locs ls _ l hF hW hlv hL ⟨⟨_, rfl, by rw [← hx, ← hy]; exact sg_and_of x y⟩, h2⟩ hR hO

theorem sg_ior {a b : Int} (hd : decode mi.2.1 pc = .ok (.ior, 1))  (K : sg_R w mi d mc ms Q (pc + 1) lv (sg_i (sg_or a b) :: st) h k n) : sg_R w mi d mc ms Q pc lv (sg_i b :: sg_i a :: st) h k n := by
  intro p e s m args below meth c H locs ls sv l hF hW hlv hL hs hR hO
  obtain ⟨y, t1, rfl, hy, h1⟩ := sg_vs_i hs
  obtain ⟨x, t2, rfl, hx, h2⟩ := sg_vs_i h1
  refine lv_ior hF.1 hF.2.1 hd  ?_
  exact K p e s m args below meth c H locs ls _ l hF hW hlv hL ⟨⟨_, rfl, by rw [← hx, ← hy]; exact sg_or_of x y⟩, h2⟩ hR hO

theorem sg_ishl {a b : Int} (hd : decode mi.2.1 pc = .ok (.ishl, 1))  (K : sg_R w mi d mc ms Q (pc + 1) lv (sg_i (sg_shl a b) :: st) h k n) : sg_R w mi d mc ms Q pc lv (sg_i b :: sg_i a :: st) h k n := by
  intro p e s m args below meth c H locs ls sv l hF hW hlv hL hs hR hO
  obtain ⟨y, t1, rfl, hy, h1⟩ := sg_vs_i hs
  obtain ⟨x, t2, rfl, hx, h2⟩ := sg_vs_i h1
  refine lv_ishl hF.1 hF.2.1 hd  ?_
  exact K p e s m args below meth c H locs ls _ l hF hW hlv hL ⟨⟨_, rfl, by rw [← hx, ← hy]; exact sg_shl_of x y⟩, h2⟩ hR hO

theorem sg_ishr {a b : Int} (hd : decode mi.2.1 pc = .ok (.ishr, 1))  (K : sg_R w mi d mc ms Q (pc + 1) lv (sg_i (sg_shr a b) :: st) h k n) : sg_R w mi d mc ms Q pc lv (sg_i b :: sg_i a :: st) h k n := by
  intro p e s m args below meth c H locs ls sv l hF hW hlv hL hs hR hO
  obtain ⟨y, t1, rfl, hy, h1⟩ := sg_vs_i hs
  obtain ⟨x, t2, rfl, hx, h2⟩ := sg_vs_i h1
  refine lv_ishr hF.1 hF.2.1 hd  ?_
  exact K p e s m args below meth c H locs ls _ l hF hW hlv hL ⟨⟨_, rfl, by rw [← hx, ← hy]; exact sg_shr_of x y⟩, h2⟩ hR hO

theorem sg_ineg {a : Int} (hd : decode mi.2.1 pc = .ok (.ineg, 1)) (K : sg_R w mi d mc ms Q (pc + 1) lv (sg_i (sg_w (-a)) :: st) h k n) : sg_R w mi d mc ms Q pc lv (sg_i a :: st) h k n := by
  intro p e s m args below meth c H locs ls sv l hF hW hlv hL hs hR hO
  obtain ⟨x, t1, rfl, hx, h1⟩ := sg_vs_i hs
  refine lv_ineg hF.1 hF.2.1 hd ?_
  exact K p e s m args below meth c H locs ls _ l hF hW hlv hL ⟨⟨_, rfl, by rw [Int32.toInt_neg, hx]; rfl⟩, h1⟩ hR hO

theorem sg_ladd {a b : Int} (hd : decode mi.2.1 pc = .ok (.ladd, 1))  (K : sg_R w mi d mc ms Q (pc + 1) lv (sg_l (sg_W64 (a + b)) :: st) h k n) : sg_R w mi d mc ms Q pc lv (sg_l b :: sg_l a :: st) h k n := by
  intro p e s m args below meth c H locs ls sv l hF hW hlv hL hs hR hO
  obtain ⟨y, t1, rfl, hy, h1⟩ := sg_vs_l hs
  obtain ⟨x, t2, rfl, hx, h2⟩ := sg_vs_l h1
  refine lv_ladd hF.1 hF.2.1 hd  ?_
  exact K p e s m args below meth c H locs ls _ l hF hW hlv hL ⟨⟨_, rfl, by rw [Int64.toInt_add, hx, hy]; rfl⟩, h2⟩ hR hO

theorem sg_lmul {a b : Int} (hd : decode mi.2.1 pc = .ok (.lmul, 1))  (K : sg_R w mi d mc ms Q (pc + 1) lv (sg_l (sg_W64 (a * b)) :: st) h k n) : sg_R w mi d mc ms Q pc lv (sg_l b :: sg_l a :: st) h k n := by
  intro p e s m args below meth c H locs ls sv l hF hW hlv hL hs hR hO
  obtain ⟨y, t1, rfl, hy, h1⟩ := sg_vs_l hs
  obtain ⟨x, t2, rfl, hx, h2⟩ := sg_vs_l h1
  refine lv_lmul hF.1 hF.2.1 hd  ?_
  exact K p e s m args below meth c H locs ls _ l hF hW hlv hL ⟨⟨_, rfl, by rw [Int64.toInt_mul, hx, hy]; rfl⟩, h2⟩ hR hO

theorem sg_lrem {a b : Int} (hd : decode mi.2.1 pc = .ok (.lrem, 1)) (hb : b ≠ 0) (K : sg_R w mi d mc ms Q (pc + 1) lv (sg_l (a.tmod b) :: st) h k n) : sg_R w mi d mc ms Q pc lv (sg_l b :: sg_l a :: st) h k n := by
  intro p e s m args below meth c H locs ls sv l hF hW hlv hL hs hR hO
  obtain ⟨y, t1, rfl, hy, h1⟩ := sg_vs_l hs
  obtain ⟨x, t2, rfl, hx, h2⟩ := sg_vs_l h1
  refine lv_lrem hF.1 hF.2.1 hd (fun z => hb (by rw [← hy, z]; rfl)) ?_
  exact K p e s m args below meth c H locs ls _ l hF hW hlv hL ⟨⟨_, rfl, by rw [sg_lrem0, hx, hy]⟩, h2⟩ hR hO

theorem sg_i2l {a : Int} (hd : decode mi.2.1 pc = .ok (.i2l, 1)) (K : sg_R w mi d mc ms Q (pc + 1) lv (sg_l a :: st) h k n) : sg_R w mi d mc ms Q pc lv (sg_i a :: st) h k n := by
  intro p e s m args below meth c H locs ls sv l hF hW hlv hL hs hR hO
  obtain ⟨x, t1, rfl, hx, h1⟩ := sg_vs_i hs
  refine lv_i2l hF.1 hF.2.1 hd rfl ?_
  exact K p e s m args below meth c H locs ls _ l hF hW hlv hL ⟨⟨_, rfl, by rw [Int32.toInt_toInt64, hx]⟩, h1⟩ hR hO

theorem sg_l2i {a : Int} (hd : decode mi.2.1 pc = .ok (.l2i, 1)) (K : sg_R w mi d mc ms Q (pc + 1) lv (sg_i (sg_w a) :: st) h k n) : sg_R w mi d mc ms Q pc lv (sg_l a :: st) h k n := by
  intro p e s m args below meth c H locs ls sv l hF hW hlv hL hs hR hO
  obtain ⟨x, t1, rfl, hx, h1⟩ := sg_vs_l hs
  refine lv_l2i hF.1 hF.2.1 hd rfl ?_
  exact K p e s m args below meth c H locs ls _ l hF hW hlv hL ⟨⟨_, rfl, by rw [Int64.toInt_toInt32, hx]; rfl⟩, h1⟩ hR hO

theorem sg_i2c {a : Int} (hd : decode mi.2.1 pc = .ok (.i2c, 1)) (K : sg_R w mi d mc ms Q (pc + 1) lv (sg_i (sg_chr a) :: st) h k n) : sg_R w mi d mc ms Q pc lv (sg_i a :: st) h k n := by
  intro p e s m args below meth c H locs ls sv l hF hW hlv hL hs hR hO
  obtain ⟨x, t1, rfl, hx, h1⟩ := sg_vs_i hs
  refine lv_i2c hF.1 hF.2.1 hd rfl ?_
  exact K p e s m args below meth c H locs ls _ l hF hW hlv hL ⟨⟨_, rfl, by rw [← hx]; exact sg_chr_of x⟩, h1⟩ hR hO

theorem sg_i2b {a : Int} (hd : decode mi.2.1 pc = .ok (.i2b, 1)) (K : sg_R w mi d mc ms Q (pc + 1) lv (sg_i (sg_byt a) :: st) h k n) : sg_R w mi d mc ms Q pc lv (sg_i a :: st) h k n := by
  intro p e s m args below meth c H locs ls sv l hF hW hlv hL hs hR hO
  obtain ⟨x, t1, rfl, hx, h1⟩ := sg_vs_i hs
  refine lv_i2b hF.1 hF.2.1 hd rfl ?_
  exact K p e s m args below meth c H locs ls _ l hF hW hlv hL ⟨⟨_, rfl, by rw [← hx]; exact sg_byt_of x⟩, h1⟩ hR hO

theorem sg_if_eq {a : Int} {off : Int} {tgt : Nat} (hd : decode mi.2.1 pc = .ok (.ifCond .eq off, 3)) (ht : (pc : Int) + off = (tgt : Int)) (kt : a = 0 → sg_R w mi d mc ms Q tgt lv st h k n) (kf : ¬ a = 0 → sg_R w mi d mc ms Q (pc + 3) lv st h k n) : sg_R w mi d mc ms Q pc lv (sg_i a :: st) h k n := by
  intro p e s m args below meth c H locs ls sv l hF hW hlv hL hs hR hO
  obtain ⟨x, t1, rfl, hx, h1⟩ := sg_vs_i hs
  have e0 := sg_ceq hx (show (0 : Int32).toInt = 0 from rfl)
  exact lv_if_eq hF.1 hF.2.1 hd ht (fun z => kt (e0.mp z) p e s m args below meth c H locs ls _ l hF hW hlv hL h1 hR hO) (fun z => kf (fun y => z (e0.mpr y)) p e s m args below meth c H locs ls _ l hF hW hlv hL h1 hR hO)

theorem sg_icmp_eq {a b : Int} {off : Int} {tgt : Nat} (hd : decode mi.2.1 pc = .ok (.if_icmp .eq off, 3)) (ht : (pc : Int) + off = (tgt : Int)) (kt : a = b → sg_R w mi d mc ms Q tgt lv st h k n) (kf : ¬ a = b → sg_R w mi d mc ms Q (pc + 3) lv st h k n) : sg_R w mi d mc ms Q pc lv (sg_i b :: sg_i a :: st) h k n := by
  intro p e s m args below meth c H locs ls sv l hF hW hlv hL hs hR hO
  obtain ⟨y, t1, rfl, hy, h1⟩ := sg_vs_i hs
  obtain ⟨x, t2, rfl, hx, h2⟩ := sg_vs_i h1
  have e0 := sg_ceq hx hy
  exact lv_icmp_eq hF.1 hF.2.1 hd ht (fun z => kt (e0.mp z) p e s m args below meth c H locs ls _ l hF hW hlv hL h2 hR hO) (fun z => kf (fun y => z (e0.mpr y)) p e s m args below meth c H locs ls _ l hF hW hlv hL h2 hR hO)

theorem sg_if_ne {a : Int} {off : Int} {tgt : Nat} (hd : decode mi.2.1 pc = .ok (.ifCond .ne off, 3)) (ht : (pc : Int) + off = (tgt : Int)) (kt : a ≠ 0 → sg_R w mi d mc ms Q tgt lv st h k n) (kf : a = 0 → sg_R w mi d mc ms Q (pc + 3) lv st h k n) : sg_R w mi d mc ms Q pc lv (sg_i a :: st) h k n := by
  intro p e s m args below meth c H locs ls sv l hF hW hlv hL hs hR hO
  obtain ⟨x, t1, rfl, hx, h1⟩ := sg_vs_i hs
  have e0 := sg_ceq hx (show (0 : Int32).toInt = 0 from rfl)
  exact lv_if_ne hF.1 hF.2.1 hd ht (fun z => kt (fun y => z (e0.mpr y)) p e s m args below meth c H locs ls _ l hF hW hlv hL h1 hR hO) (fun z => kf (e0.mp z) p e s m args below meth c H locs ls _ l hF hW hlv hL h1 hR hO)

theorem sg_icmp_ne {a b : Int} {off : Int} {tgt : Nat} (hd : decode mi.2.1 pc = .ok (.if_icmp .ne off, 3)) (ht : (pc : Int) + off = (tgt : Int)) (kt : a ≠ b → sg_R w mi d mc ms Q tgt lv st h k n) (kf : a = b → sg_R w mi d mc ms Q (pc + 3) lv st h k n) : sg_R w mi d mc ms Q pc lv (sg_i b :: sg_i a :: st) h k n := by
  intro p e s m args below meth c H locs ls sv l hF hW hlv hL hs hR hO
  obtain ⟨y, t1, rfl, hy, h1⟩ := sg_vs_i hs
  obtain ⟨x, t2, rfl, hx, h2⟩ := sg_vs_i h1
  have e0 := sg_ceq hx hy
  exact lv_icmp_ne hF.1 hF.2.1 hd ht (fun z => kt (fun y => z (e0.mpr y)) p e s m args below meth c H locs ls _ l hF hW hlv hL h2 hR hO) (fun z => kf (e0.mp z) p e s m args below meth c H locs ls _ l hF hW hlv hL h2 hR hO)

theorem sg_if_lt {a : Int} {off : Int} {tgt : Nat} (hd : decode mi.2.1 pc = .ok (.ifCond .lt off, 3)) (ht : (pc : Int) + off = (tgt : Int)) (kt : a < 0 → sg_R w mi d mc ms Q tgt lv st h k n) (kf : ¬ a < 0 → sg_R w mi d mc ms Q (pc + 3) lv st h k n) : sg_R w mi d mc ms Q pc lv (sg_i a :: st) h k n := by
  intro p e s m args below meth c H locs ls sv l hF hW hlv hL hs hR hO
  obtain ⟨x, t1, rfl, hx, h1⟩ := sg_vs_i hs
  have e0 := sg_clt hx (show (0 : Int32).toInt = 0 from rfl)
  exact lv_if_lt hF.1 hF.2.1 hd ht (fun z => kt (e0.mp z) p e s m args below meth c H locs ls _ l hF hW hlv hL h1 hR hO) (fun z => kf (fun y => z (e0.mpr y)) p e s m args below meth c H locs ls _ l hF hW hlv hL h1 hR hO)

theorem sg_icmp_lt {a b : Int} {off : Int} {tgt : Nat} (hd : decode mi.2.1 pc = .ok (.if_icmp .lt off, 3)) (ht : (pc : Int) + off = (tgt : Int)) (kt : a < b → sg_R w mi d mc ms Q tgt lv st h k n) (kf : ¬ a < b → sg_R w mi d mc ms Q (pc + 3) lv st h k n) : sg_R w mi d mc ms Q pc lv (sg_i b :: sg_i a :: st) h k n := by
  intro p e s m args below meth c H locs ls sv l hF hW hlv hL hs hR hO
  obtain ⟨y, t1, rfl, hy, h1⟩ := sg_vs_i hs
  obtain ⟨x, t2, rfl, hx, h2⟩ := sg_vs_i h1
  have e0 := sg_clt hx hy
  exact lv_icmp_lt hF.1 hF.2.1 hd ht (fun z => kt (e0.mp z) p e s m args below meth c H locs ls _ l hF hW hlv hL h2 hR hO) (fun z => kf (fun y => z (e0.mpr y)) p e s m args below meth c H locs ls _ l hF hW hlv hL h2 hR hO)

theorem sg_if_ge {a : Int} {off : Int} {tgt : Nat} (hd : decode mi.2.1 pc = .ok (.ifCond .ge off, 3)) (ht : (pc : Int) + off = (tgt : Int)) (kt : 0 ≤ a → sg_R w mi d mc ms Q tgt lv st h k n) (kf : ¬ 0 ≤ a → sg_R w mi d mc ms Q (pc + 3) lv st h k n) : sg_R w mi d mc ms Q pc lv (sg_i a :: st) h k n := by
  intro p e s m args below meth c H locs ls sv l hF hW hlv hL hs hR hO
  obtain ⟨x, t1, rfl, hx, h1⟩ := sg_vs_i hs
  have e0 := sg_cge hx (show (0 : Int32).toInt = 0 from rfl)
  exact lv_if_ge hF.1 hF.2.1 hd ht (fun z => kt (e0.mp z) p e s m args below meth c H locs ls _ l hF hW hlv hL h1 hR hO) (fun z => kf (fun y => z (e0.mpr y)) p e s m args below meth c H locs ls _ l hF hW hlv hL h1 hR hO)

theorem sg_icmp_ge {a b : Int} {off : Int} {tgt : Nat} (hd : decode mi.2.1 pc = .ok (.if_icmp .ge off, 3)) (ht : (pc : Int) + off = (tgt : Int)) (kt : b ≤ a → sg_R w mi d mc ms Q tgt lv st h k n) (kf : ¬ b ≤ a → sg_R w mi d mc ms Q (pc + 3) lv st h k n) : sg_R w mi d mc ms Q pc lv (sg_i b :: sg_i a :: st) h k n := by
  intro p e s m args below meth c H locs ls sv l hF hW hlv hL hs hR hO
  obtain ⟨y, t1, rfl, hy, h1⟩ := sg_vs_i hs
  obtain ⟨x, t2, rfl, hx, h2⟩ := sg_vs_i h1
  have e0 := sg_cge hx hy
  exact lv_icmp_ge hF.1 hF.2.1 hd ht (fun z => kt (e0.mp z) p e s m args below meth c H locs ls _ l hF hW hlv hL h2 hR hO) (fun z => kf (fun y => z (e0.mpr y)) p e s m args below meth c H locs ls _ l hF hW hlv hL h2 hR hO)

theorem sg_if_gt {a : Int} {off : Int} {tgt : Nat} (hd : decode mi.2.1 pc = .ok (.ifCond .gt off, 3)) (ht : (pc : Int) + off = (tgt : Int)) (kt : 0 < a → sg_R w mi d mc ms Q tgt lv st h k n) (kf : ¬ 0 < a → sg_R w mi d mc ms Q (pc + 3) lv st h k n) : sg_R w mi d mc ms Q pc lv (sg_i a :: st) h k n := by
  intro p e s m args below meth c H locs ls sv l hF hW hlv hL hs hR hO
  obtain ⟨x, t1, rfl, hx, h1⟩ := sg_vs_i hs
  have e0 := sg_cgt hx (show (0 : Int32).toInt = 0 from rfl)
  exact lv_if_gt hF.1 hF.2.1 hd ht (fun z => kt (e0.mp z) p e s m args below meth c H locs ls _ l hF hW hlv hL h1 hR hO) (fun z => kf (fun y => z (e0.mpr y)) p e s m args below meth c H locs ls _ l hF hW hlv hL h1 hR hO)

theorem sg_icmp_gt {a b : Int} {off : Int} {tgt : Nat} (hd : decode mi.2.1 pc = .ok (.if_icmp .gt off, 3)) (ht : (pc : Int) + off = (tgt : Int)) (kt : b < a → sg_R w mi d mc ms Q tgt lv st h k n) (kf : ¬ b < a → sg_R w mi d mc ms Q (pc + 3) lv st h k n) : sg_R w mi d mc ms Q pc lv (sg_i b :: sg_i a :: st) h k n := by
  intro p e s m args below meth c H locs ls sv l hF hW hlv hL hs hR hO
  obtain ⟨y, t1, rfl, hy, h1⟩ := sg_vs_i hs
  obtain ⟨x, t2, rfl, hx, h2⟩ := sg_vs_i h1
  have e0 := sg_cgt hx hy
  exact lv_icmp_gt hF.1 hF.2.1 hd ht (fun z => kt (e0.mp z) p e s m args below meth c H locs ls _ l hF hW hlv hL h2 hR hO) (fun z => kf (fun y => z (e0.mpr y)) p e s m args below meth c H locs ls _ l hF hW hlv hL h2 hR hO)

theorem sg_if_le {a : Int} {off : Int} {tgt : Nat} (hd : decode mi.2.1 pc = .ok (.ifCond .le off, 3)) (ht : (pc : Int) + off = (tgt : Int)) (kt : a ≤ 0 → sg_R w mi d mc ms Q tgt lv st h k n) (kf : ¬ a ≤ 0 → sg_R w mi d mc ms Q (pc + 3) lv st h k n) : sg_R w mi d mc ms Q pc lv (sg_i a :: st) h k n := by
  intro p e s m args below meth c H locs ls sv l hF hW hlv hL hs hR hO
  obtain ⟨x, t1, rfl, hx, h1⟩ := sg_vs_i hs
  have e0 := sg_cle hx (show (0 : Int32).toInt = 0 from rfl)
  exact lv_if_le hF.1 hF.2.1 hd ht (fun z => kt (e0.mp z) p e s m args below meth c H locs ls _ l hF hW hlv hL h1 hR hO) (fun z => kf (fun y => z (e0.mpr y)) p e s m args below meth c H locs ls _ l hF hW hlv hL h1 hR hO)

theorem sg_icmp_le {a b : Int} {off : Int} {tgt : Nat} (hd : decode mi.2.1 pc = .ok (.if_icmp .le off, 3)) (ht : (pc : Int) + off = (tgt : Int)) (kt : a ≤ b → sg_R w mi d mc ms Q tgt lv st h k n) (kf : ¬ a ≤ b → sg_R w mi d mc ms Q (pc + 3) lv st h k n) : sg_R w mi d mc ms Q pc lv (sg_i b :: sg_i a :: st) h k n := by
  intro p e s m args below meth c H locs ls sv l hF hW hlv hL hs hR hO
  obtain ⟨y, t1, rfl, hy, h1⟩ := sg_vs_i hs
  obtain ⟨x, t2, rfl, hx, h2⟩ := sg_vs_i h1
  have e0 := sg_cle hx hy
  exact lv_icmp_le hF.1 hF.2.1 hd ht (fun z => kt (e0.mp z) p e s m args below meth c H locs ls _ l hF hW hlv hL h2 hR hO) (fun z => kf (fun y => z (e0.mpr y)) p e s m args below meth c H locs ls _ l hF hW hlv hL h2 hR hO)

theorem sg_goto {off : Int} {tgt : Nat} (hd : decode mi.2.1 pc = .ok (.goto off, 3)) (ht : (pc : Int) + off = (tgt : Int)) (K : sg_R w mi d mc ms Q tgt lv st h k n) : sg_R w mi d mc ms Q pc lv st h k n := by
  intro p e s m args below meth c H locs ls sv l hF hW hlv hL hs hR hO
  refine lv_goto hF.1 hF.2.1 hd ht ?_
  exact K p e s m args below meth c H locs ls _ l hF hW hlv hL hs hR hO

theorem sg_dup {v : sg_V} (hd : decode mi.2.1 pc = .ok (.dup, 1)) (hv : sg_c2 v = false) (K : sg_R w mi d mc ms Q (pc + 1) lv (v :: v :: st) h k n) : sg_R w mi d mc ms Q pc lv (v :: st) h k n := by
  intro p e s m args below meth c H locs ls sv l hF hW hlv hL hs hR hO
  obtain ⟨x, t1, rfl, hx, h1⟩ := sg_vs_c hs
  refine lv_dup hF.1 hF.2.1 hd (sg_cat1 hx hv) ?_
  exact K p e s m args below meth c H locs ls _ l hF hW hlv hL ⟨hx, hx, h1⟩ hR hO

theorem sg_pop {v : sg_V} (hd : decode mi.2.1 pc = .ok (.pop, 1)) (hv : sg_c2 v = false) (K : sg_R w mi d mc ms Q (pc + 1) lv st h k n) : sg_R w mi d mc ms Q pc lv (v :: st) h k n := by
  intro p e s m args below meth c H locs ls sv l hF hW hlv hL hs hR hO
  obtain ⟨x, t1, rfl, hx, h1⟩ := sg_vs_c hs
  refine lv_pop hF.1 hF.2.1 hd (sg_cat1 hx hv) ?_
  exact K p e s m args below meth c H locs ls _ l hF hW hlv hL h1 hR hO

theorem sg_pop2 {z : Int} (hd : decode mi.2.1 pc = .ok (.pop2, 1)) (K : sg_R w mi d mc ms Q (pc + 1) lv st h k n) : sg_R w mi d mc ms Q pc lv (sg_l z :: st) h k n := by
  intro p e s m args below meth c H locs ls sv l hF hW hlv hL hs hR hO
  obtain ⟨x, t1, rfl, hx, h1⟩ := sg_vs_l hs
  refine lv_pop2_2 hF.1 hF.2.1 hd rfl ?_
  exact K p e s m args below meth c H locs ls _ l hF hW hlv hL h1 hR hO

theorem sg_dup_x1 {v u : sg_V} (hd : decode mi.2.1 pc = .ok (.dup_x1, 1)) (hv : sg_c2 v = false) (hu : sg_c2 u = false) (K : sg_R w mi d mc ms Q (pc + 1) lv (v :: u :: v :: st) h k n) : sg_R w mi d mc ms Q pc lv (v :: u :: st) h k n := by
  intro p e s m args below meth c H locs ls sv l hF hW hlv hL hs hR hO
  obtain ⟨x, t1, rfl, hx, h1⟩ := sg_vs_c hs
  obtain ⟨y, t2, rfl, hy, h2⟩ := sg_vs_c h1
  refine lv_dup_x1 hF.1 hF.2.1 hd (sg_cat1 hx hv) (sg_cat1 hy hu) ?_
  exact K p e s m args below meth c H locs ls _ l hF hW hlv hL ⟨hx, hy, hx, h2⟩ hR hO

theorem sg_dup2 {v u : sg_V} (hd : decode mi.2.1 pc = .ok (.dup2, 1)) (hv : sg_c2 v = false) (hu : sg_c2 u = false) (K : sg_R w mi d mc ms Q (pc + 1) lv (v :: u :: v :: u :: st) h k n) : sg_R w mi d mc ms Q pc lv (v :: u :: st) h k n := by
  intro p e s m args below meth c H locs ls sv l hF hW hlv hL hs hR hO
  obtain ⟨x, t1, rfl, hx, h1⟩ := sg_vs_c hs
  obtain ⟨y, t2, rfl, hy, h2⟩ := sg_vs_c h1
  refine lv_dup2_11 hF.1 hF.2.1 hd (sg_cat1 hx hv) (sg_cat1 hy hu) ?_
  exact K p e s m args below meth c H locs ls _ l hF hW hlv hL ⟨hx, hy, hx, hy, h2⟩ hR hO

theorem sg_tsIn {a dflt lo hi off : Int} {offs : Array Int} {len tgt : Nat} (hd : decode mi.2.1 pc = .ok (.tableswitch dflt lo hi offs, len)) (h1 : lo ≤ a) (h2 : a ≤ hi) (ho : offs[(a - lo).toNat]? = some off) (ht : (pc : Int) + off = (tgt : Int)) (K : sg_R w mi d mc ms Q tgt lv st h k n) : sg_R w mi d mc ms Q pc lv (sg_i a :: st) h k n := by
  intro p e s m args below meth c H locs ls sv l hF hW hlv hL hs hR hO
  obtain ⟨x, t1, rfl, hx, h3⟩ := sg_vs_i hs
  subst hx
  refine lv_tableIn hF.1 hF.2.1 hd (by omega) (by omega) ho ht ?_
  exact K p e s m args below meth c H locs ls _ l hF hW hlv hL h3 hR hO

theorem sg_tsOut {a dflt lo hi : Int} {offs : Array Int} {len tgt : Nat} (hd : decode mi.2.1 pc = .ok (.tableswitch dflt lo hi offs, len)) (h1 : a < lo ∨ hi < a) (ht : (pc : Int) + dflt = (tgt : Int)) (K : sg_R w mi d mc ms Q tgt lv st h k n) : sg_R w mi d mc ms Q pc lv (sg_i a :: st) h k n := by
  intro p e s m args below meth c H locs ls sv l hF hW hlv hL hs hR hO
  obtain ⟨x, t1, rfl, hx, h3⟩ := sg_vs_i hs
  subst hx
  refine lv_tableOut hF.1 hF.2.1 hd h1 ht ?_
  exact K p e s m args below meth c H locs ls _ l hF hW hlv hL h3 hR hO

theorem sg_ls {a dflt off : Int} {ps : Array (Int × Int)} {len tgt : Nat} (hd : decode mi.2.1 pc = .ok (.lookupswitch dflt ps, len)) (hp : (ps.toList.zip (ps.toList.drop 1)).all (fun (a, next) => a.1 < next.1) = true) (ho : Op.lookupswitch.offset ps.toList dflt a = off) (ht : (pc : Int) + off = (tgt : Int)) (K : sg_R w mi d mc ms Q tgt lv st h k n) : sg_R w mi d mc ms Q pc lv (sg_i a :: st) h k n := by
  intro p e s m args below meth c H locs ls sv l hF hW hlv hL hs hR hO
  obtain ⟨x, t1, rfl, hx, h3⟩ := sg_vs_i hs
  subst hx
  refine lv_lookup hF.1 hF.2.1 hd hp ho ht ?_
  exact K p e s m args below meth c H locs ls _ l hF hW hlv hL h3 hR hO

theorem sg_null (hd : decode mi.2.1 pc = .ok (.aconst_null, 1)) (K : sg_R w mi d mc ms Q (pc + 1) lv (sg_n :: st) h k n) : sg_R w mi d mc ms Q pc lv st h k n := by
  intro p e s m args below meth c H locs ls sv l hF hW hlv hL hs hR hO
  refine lv_null hF.1 hF.2.1 hd ?_
  exact K p e s m args below meth c H locs ls _ l hF hW hlv hL ⟨rfl, hs⟩ hR hO

end
end
section
/-! fields, arrays, making -/
theorem sg_asg (vm : Vm) (c : ClassId) : vm.assignable c c = true := by
  show vm.assignableAux (255 + 1) c c = true
  rw [Vm.assignableAux]
  simp only [beq_self_eq_true, Bool.true_or]
def sg_co (q : vw_C) (ty : Nat → FieldType) : Prop := (∀ x ∈ u_ws q.1 q.2.1 q.2.2, sg_ok x) ∧ (∀ a, a < q.2.2 → ∀ b, b < q.2.2 → a ≠ b → (q.2.1 a).2.1 ≠ (q.2.1 b).2.1) ∧ ∀ k, k < q.2.2 → parseFieldDescriptor (q.2.1 k).2.2.1 = some (ty k)
/-- the pool's entry idx of the class own is the field j of the objects of kind t; it is final or not -/
def sg_fk (own : String) (idx t j : Nat) (fin : Bool) (ft : FieldType) : Prop := t < 100 ∧ ∃ (q : vw_C) (ty : Nat → FieldType) (ref : String), vwCl[t]? = some q ∧ j < q.2.2 ∧ sg_co q ty ∧ (q.2.1 j).2.2.2 = fin ∧ ty j = ft ∧ (fin = true → (q.2.1 j).1 = own) ∧
  sg_ok (.fieldLink own idx ref (q.2.1 j).2.1 (q.2.1 j).2.2.1) ∧ (ref = (q.2.1 j).1 ∨ sg_ok (.sameField ref (q.2.1 j).1 (q.2.1 j).2.1 (q.2.1 j).2.2.1))
/-- likewise, a nest mate's -/
def sg_fkN (own : String) (idx t j : Nat) (fin : Bool) (ft : FieldType) : Prop := t < 100 ∧ ∃ (q : vw_C) (ty : Nat → FieldType) (host : String), vwCl[t]? = some q ∧ j < q.2.2 ∧ sg_co q ty ∧ (q.2.1 j).2.2.2 = fin ∧ ty j = ft ∧
  sg_ok (.fieldLinkNest own idx (q.2.1 j).1 (q.2.1 j).2.1 (q.2.1 j).2.2.1 host)
def sg_ft (ty : FieldType) (v : sg_V) : Prop := ∀ c, sg_v v c → narrow ty c = c ∧ fits ty c = true
theorem sg_ft_i {z : Int} : sg_ft .int (sg_i z) := fun c h => by obtain ⟨x, rfl, -⟩ := h; exact ⟨rfl, rfl⟩
theorem sg_ft_l {z : Int} : sg_ft .long (sg_l z) := fun c h => by obtain ⟨x, rfl, -⟩ := h; exact ⟨rfl, rfl⟩
theorem sg_ft_o {C : String} {a : Nat} : sg_ft (.object C) (sg_r a) := fun c h => by cases (show c = .ref a from h); exact ⟨rfl, rfl⟩
theorem sg_ft_a {t : FieldType} {a : Nat} : sg_ft (.array t) (sg_r a) := fun c h => by cases (show c = .ref a from h); exact ⟨rfl, rfl⟩
theorem sg_ft_z {z : Int} (hz : z = 0 ∨ z = 1) : sg_ft .boolean (sg_i z) := fun c h => by
  obtain ⟨x, rfl, hx⟩ := h
  rcases hz with rfl | rfl
  · rw [show x = 0 from Int32.toInt_inj.mp hx]; exact ⟨rfl, rfl⟩
  · rw [show x = 1 from Int32.toInt_inj.mp hx]; exact ⟨rfl, rfl⟩
theorem sg_ft_b0 : sg_ft .byte (sg_i 0) := fun c h => by
  obtain ⟨x, rfl, hx⟩ := h
  rw [show x = 0 from Int32.toInt_inj.mp hx]; exact ⟨rfl, rfl⟩
/-- what a new object of kind t holds, and its class -/
def sg_nk (own : String) (idx t : Nat) (vs : List sg_V) (N : Nat) : Prop := t < 100 ∧ ∃ (q : vw_C) (ty : Nat → FieldType), vwCl[t]? = some q ∧ sg_co q ty ∧ vs.length = q.2.2 ∧ N = q.2.2 ∧ (∀ k v, vs[k]? = some v → sg_v v (defaultValue (ty k))) ∧
  sg_ok (.classLink own idx q.1) ∧ sg_ok (.instantiable q.1 q.2.2) ∧ sg_ok (.initialized q.1)
/-- a stored field: the thing's new picture -/
theorem sg_at_put {w : sg_W} {e : sg_E} {cell : Cell} {q : vw_C} {j : Nat} {v : sg_V} {cv : Value} (hat : sg_at w e cell) (ht : e.1 % 200 < 100) (hq : vwCl[e.1 % 200]? = some q) (hj : j < q.2.2)
    (hap : ∀ x y, x < q.2.2 → y < q.2.2 → x ≠ y → w.2.2.2 (e.1 % 200) x ≠ w.2.2.2 (e.1 % 200) y) (hv : sg_v v cv) (hlt : w.2.2.2 (e.1 % 200) j < cell.slots.size) : sg_at w (e.1, e.2.set j v) (cell.setSlot (w.2.2.2 (e.1 % 200) j) cv) := by
  obtain ⟨h1, h2, h3⟩ := hat
  rw [if_pos ht] at h3
  obtain ⟨h4, q', hq', hl⟩ := h3
  cases Option.some.inj (hq.symm.trans hq')
  refine ⟨h1, fun x v' hx => ?_, ?_⟩
  · by_cases c : x = j
    · subst c
      rw [List.getElem?_set_self (by omega)] at hx
      cases hx
      refine ⟨cv, ?_, hv⟩
      unfold sg_ix
      rw [if_pos ht]
      exact Cell.slots_setSlot_self _ hlt
    · rw [List.getElem?_set_ne (Ne.symm c)] at hx
      have hxl : x < q.2.2 := by rw [← hl]; exact (List.getElem?_eq_some_iff.mp hx).1
      obtain ⟨c9, e1, e2⟩ := h2 x v' hx
      refine ⟨c9, ?_, e2⟩
      unfold sg_ix at e1 ⊢
      rw [if_pos ht] at e1 ⊢
      rw [slot_ne _ _ (hap j x hj hxl (Ne.symm c))]
      exact e1
  · show if e.1 % 200 < 100 then _ else _
    rw [if_pos ht]
    exact ⟨h4, q, hq, by rw [List.length_set]; exact hl⟩
/-- a stored element -/
theorem sg_at_ast {w : sg_W} {e : sg_E} {cell : Cell} {j : Nat} {v : sg_V} {cv : Value} (hat : sg_at w e cell) (ht : ¬ e.1 % 200 < 100) (hv : sg_v v cv) (hlt : j < cell.slots.size) : sg_at w (e.1, e.2.set j v) (cell.setSlot j cv) := by
  obtain ⟨h1, h2, h3⟩ := hat
  rw [if_neg ht] at h3
  obtain ⟨h4, h5⟩ := h3
  refine ⟨h1, fun x v' hx => ?_, ?_⟩
  · by_cases c : x = j
    · subst c
      rw [List.getElem?_set_self (by omega)] at hx
      cases hx
      refine ⟨cv, ?_, hv⟩
      unfold sg_ix
      rw [if_neg ht]
      exact Cell.slots_setSlot_self _ hlt
    · rw [List.getElem?_set_ne (Ne.symm c)] at hx
      obtain ⟨c9, e1, e2⟩ := h2 x v' hx
      refine ⟨c9, ?_, e2⟩
      unfold sg_ix at e1 ⊢
      rw [if_neg ht] at e1 ⊢
      rw [slot_ne _ _ (Ne.symm c)]
      exact e1
  · show if e.1 % 200 < 100 then _ else _
    rw [if_neg ht]
    exact ⟨by simp [Cell.setSlot, h4], h5⟩
theorem sg_apart {w : sg_W} {s : State} {args : Array Value} {q : vw_C} {ty : Nat → FieldType} {t : Nat} (g : sg_G w) (hW : w.2.1.WarmedH s.vm) (hco : sg_co q ty) (hq : vwCl[t]? = some q) : ∀ x y, x < q.2.2 → y < q.2.2 → x ≠ y → w.2.2.2 t x ≠ w.2.2.2 t y := by
  have hts : ∀ x ∈ u_ws q.1 q.2.1 q.2.2, x.before args s = true := fun x hx => sg_wd g hW (hco.1 x hx)
  intro x y hx hy hne
  obtain ⟨hS, -⟩ := (va_K.moved hW.alike g.2.1).1 t q hq
  obtain ⟨_, _, _, fa, hia, ea⟩ := hS x hx
  obtain ⟨_, _, _, fb, hib, eb⟩ := hS y hy
  rw [← ea, ← eb]
  refine u_apart (u_lays (N := q.2.2) hts (fun _ h => h) hx) (u_lays (N := q.2.2) hts (fun _ h => h) hy) hia hib ?_
  rw [(State.fieldFound?_type hia (hco.2.2 x hx)).1, (State.fieldFound?_type hib (hco.2.2 y hy)).1]
  exact hco.2.1 x hx y hy hne
section
variable {w : sg_W} {mi : sg_M} {d mc ms : Nat} {Q : sg_O → sg_H → Prop} {pc : Nat} {lv : List (Nat × sg_V)} {st : List sg_V} {h : sg_H} {k n : Nat}
theorem sg_getf {a t' t j idx : Nat} {fin : Bool} {ft : FieldType} {vs : List sg_V} {v : sg_V} (g : sg_G w) (hd : decode mi.2.1 pc = .ok (.getfield idx, 3)) (hf : sg_fk mi.1.cls idx t j fin ft) (ha : h.2 a = some (t', vs)) (ht : t' % 200 = t) (hv : vs[j]? = some v) (K : sg_R w mi d mc ms Q (pc + 3) lv (v :: st) h k n) : sg_R w mi d mc ms Q pc lv (sg_r a :: st) h k n := by
  intro p e s m args below meth c H locs ls sv l hF hW hlv hL hs hR hO
  obtain ⟨b, rfl, h1⟩ := sg_vs_r hs
  subst ht
  obtain ⟨htl, q, ty, ref, hq, hj, hco, -, -, -, hlk, hsm⟩ := hf
  obtain ⟨-, cell, hcell, hvm, hsl, -⟩ := hR.2.2.2 a _ ha
  obtain ⟨hS, hfc, kC, hkC, -⟩ := (va_K.moved hW.alike g.2.1).1 _ q hq
  obtain ⟨cf, kf, fi, f, hi, hsl2⟩ := hS j hj
  have hts : ∀ x ∈ u_ws q.1 q.2.1 q.2.2, x.before args s = true := fun x hx => sg_wd g hW (hco.1 x hx)
  obtain ⟨cv, hc1, hc2⟩ := hsl j v hv
  have hi' : s.fieldFound? ref (q.2.1 j).2.1 (q.2.1 j).2.2.1 = some (cf, kf, fi, f) := by
    rcases hsm with e1 | e1
    · rw [e1]; exact hi
    · exact u_same (sg_wd (args := args) g hW e1) _ hi
  refine W.getf hF.1 hF.2.1 hF.2.2.2.1 (sg_wd g hW hlk) hi' (u_facts hfc hkC (u_lays (N := q.2.2) hts (fun _ h => h) hj) hi).1 hcell (by rw [hvm]; exact fun h => by cases h) (v := cv) ?_ rfl rfl hd (K p e s m args below meth c H locs ls _ l hF hW hlv hL ⟨hc2, h1⟩ hR hO)
  rw [hsl2]
  unfold sg_ix at hc1
  rw [if_pos htl] at hc1
  exact hc1
theorem sg_getN {a t' t j idx : Nat} {fin : Bool} {ft : FieldType} {vs : List sg_V} {v : sg_V} (g : sg_G w) (hd : decode mi.2.1 pc = .ok (.getfield idx, 3)) (hf : sg_fkN mi.1.cls idx t j fin ft) (ha : h.2 a = some (t', vs)) (ht : t' % 200 = t) (hv : vs[j]? = some v) (K : sg_R w mi d mc ms Q (pc + 3) lv (v :: st) h k n) : sg_R w mi d mc ms Q pc lv (sg_r a :: st) h k n := by
  intro p e s m args below meth c H locs ls sv l hF hW hlv hL hs hR hO
  obtain ⟨b, rfl, h1⟩ := sg_vs_r hs
  subst ht
  obtain ⟨htl, q, ty, host, hq, hj, hco, -, -, hlk⟩ := hf
  obtain ⟨-, cell, hcell, hvm, hsl, -⟩ := hR.2.2.2 a _ ha
  obtain ⟨hS, hfc, kC, hkC, -⟩ := (va_K.moved hW.alike g.2.1).1 _ q hq
  obtain ⟨cf, kf, fi, f, hi, hsl2⟩ := hS j hj
  have hts : ∀ x ∈ u_ws q.1 q.2.1 q.2.2, x.before args s = true := fun x hx => sg_wd g hW (hco.1 x hx)
  obtain ⟨cv, hc1, hc2⟩ := hsl j v hv
  refine va_Wgetf hF.1 hF.2.1 hF.2.2.2.1 (sg_wd g hW hlk) hi (u_facts hfc hkC (u_lays (N := q.2.2) hts (fun _ h => h) hj) hi).1 hcell (by rw [hvm]; exact fun h => by cases h) (v := cv) ?_ rfl rfl hd (K p e s m args below meth c H locs ls _ l hF hW hlv hL ⟨hc2, h1⟩ hR hO)
  rw [hsl2]
  unfold sg_ix at hc1
  rw [if_pos htl] at hc1
  exact hc1
theorem sg_loc {w : sg_W} {locs : List Loc} {a i : Nat} (hO : ∀ q ∈ locs, sg_b w ≤ q.base) (ha : sg_b w ≤ a) : ∀ q ∈ locs ++ [⟨a, i⟩], sg_b w ≤ q.base := by
  intro q hq
  rcases List.mem_append.mp hq with h1 | h1
  · exact hO q h1
  · rw [List.mem_singleton] at h1; subst h1; exact ha
theorem sg_putf {a t j idx : Nat} {ft : FieldType} {vs : List sg_V} {v : sg_V} (g : sg_G w) (hd : decode mi.2.1 pc = .ok (.putfield idx, 3)) (hf : sg_fk mi.1.cls idx t j false ft) (ha : h.2 a = some (t, vs)) (hft : sg_ft ft v) (K : sg_R w mi d mc ms Q (pc + 3) lv st (h.1, sg_up h.2 a (t, vs.set j v)) k n) : sg_R w mi d mc ms Q pc lv (v :: sg_r a :: st) h k n := by
  intro p e s m args below meth c H locs ls sv l hF hW hlv hL hs hR hO
  obtain ⟨cv, b1, rfl, hv, h1⟩ := sg_vs_c hs
  obtain ⟨b, rfl, h2⟩ := sg_vs_r h1
  obtain ⟨htl, q, ty, ref, hq, hj, hco, hfin, hty, -, hlk, hsm⟩ := hf
  have htm : t % 200 = t := Nat.mod_eq_of_lt (by omega)
  obtain ⟨hab, cell, hcell, hat⟩ := hR.2.2.2 a _ ha
  obtain ⟨hS, hfc, kC, hkC, hkind⟩ := (va_K.moved hW.alike g.2.1).1 _ q hq
  obtain ⟨cf, kf, fi, f, hi, hsl2⟩ := hS j hj
  have hts : ∀ x ∈ u_ws q.1 q.2.1 q.2.2, x.before args s = true := fun x hx => sg_wd g hW (hco.1 x hx)
  have hi' : s.fieldFound? ref (q.2.1 j).2.1 (q.2.1 j).2.2.1 = some (cf, kf, fi, f) := by
    rcases hsm with e1 | e1
    · rw [e1]; exact hi
    · exact u_same (sg_wd (args := args) g hW e1) _ hi
  have hlay := hts _ (u_in_lay hj)
  unfold u_lay at hlay
  rw [if_neg (by rw [hfin]; decide)] at hlay
  have hst := (u_facts hfc hkC (u_lays (N := q.2.2) hts (fun _ h => h) hj) hi).1
  obtain ⟨hn1, hn2⟩ := hft cv hv
  have h6 := u_store hfc hkC hkind hlay hi ((hco.2.2 j hj).trans (by rw [hty])) hn1 hn2
  have hcls : cell.cls = w.2.2.1 t := by
    have h9 := hat.2.2
    rw [show (t, vs).1 % 200 = t from htm, if_pos htl] at h9
    exact h9.1
  have hlen : vs.length = q.2.2 := by
    have h9 := hat.2.2
    rw [show (t, vs).1 % 200 = t from htm, if_pos htl] at h9
    obtain ⟨-, q', hq', hl⟩ := h9
    cases Option.some.inj (hq.symm.trans hq')
    exact hl
  obtain ⟨v0, hv0⟩ : ∃ v0, vs[j]? = some v0 := ⟨_, List.getElem?_eq_getElem (by omega)⟩
  obtain ⟨c0, hc0, -⟩ := hat.2.1 j v0 hv0
  rw [show sg_ix w.2.2 ((t, vs).1 % 200) j = w.2.2.2 t j by rw [show (t, vs).1 % 200 = t from htm]; exact if_pos htl] at hc0
  refine W.putK hF.1 hF.2.1 (f := f) ⟨hF.2.2.2.1, sg_wd g hW hlk, ⟨_, _, _, hi'⟩, hst⟩ (by rw [hcls]; exact h6) hcell hat.1 (by rw [hsl2]; exact k2_hasslot hc0) rfl rfl hd fun H' e1 e2 e3 => ?_
  have hput := sg_at_put (j := j) (v := v) (cv := cv) hat (by rw [show (t, vs).1 % 200 = t from htm]; exact htl) (by rw [show (t, vs).1 % 200 = t from htm]; exact hq) hj (by rw [show (t, vs).1 % 200 = t from htm]; exact sg_apart (args := args) g hW hco hq) hv (by rw [show (t, vs).1 % 200 = t from htm]; exact k2_hasslot hc0)
  rw [show (t, vs).1 % 200 = t from htm, ← hsl2] at hput
  exact K p e s m args below meth c H' _ ls _ l hF hW hlv hL h2 (sg_rel_put hR (hab (by show t < 200; omega)) e1 e2 e3 hput) ⟨sg_loc hO.1 (hab (by show t < 200; omega)), by rw [e2]; exact hO.2⟩
theorem sg_putN {a t j idx : Nat} {ft : FieldType} {vs : List sg_V} {v : sg_V} (g : sg_G w) (hd : decode mi.2.1 pc = .ok (.putfield idx, 3)) (hf : sg_fkN mi.1.cls idx t j false ft) (ha : h.2 a = some (t, vs)) (hft : sg_ft ft v) (K : sg_R w mi d mc ms Q (pc + 3) lv st (h.1, sg_up h.2 a (t, vs.set j v)) k n) : sg_R w mi d mc ms Q pc lv (v :: sg_r a :: st) h k n := by
  intro p e s m args below meth c H locs ls sv l hF hW hlv hL hs hR hO
  obtain ⟨cv, b1, rfl, hv, h1⟩ := sg_vs_c hs
  obtain ⟨b, rfl, h2⟩ := sg_vs_r h1
  obtain ⟨htl, q, ty, host, hq, hj, hco, hfin, hty, hlk⟩ := hf
  have htm : t % 200 = t := Nat.mod_eq_of_lt (by omega)
  obtain ⟨hab, cell, hcell, hat⟩ := hR.2.2.2 a _ ha
  obtain ⟨hS, hfc, kC, hkC, hkind⟩ := (va_K.moved hW.alike g.2.1).1 _ q hq
  obtain ⟨cf, kf, fi, f, hi, hsl2⟩ := hS j hj
  have hts : ∀ x ∈ u_ws q.1 q.2.1 q.2.2, x.before args s = true := fun x hx => sg_wd g hW (hco.1 x hx)
  have hlay := hts _ (u_in_lay hj)
  unfold u_lay at hlay
  rw [if_neg (by rw [hfin]; decide)] at hlay
  have hst := (u_facts hfc hkC (u_lays (N := q.2.2) hts (fun _ h => h) hj) hi).1
  obtain ⟨hn1, hn2⟩ := hft cv hv
  have h6 := u_store hfc hkC hkind hlay hi ((hco.2.2 j hj).trans (by rw [hty])) hn1 hn2
  have hcls : cell.cls = w.2.2.1 t := by
    have h9 := hat.2.2
    rw [show (t, vs).1 % 200 = t from htm, if_pos htl] at h9
    exact h9.1
  have hlen : vs.length = q.2.2 := by
    have h9 := hat.2.2
    rw [show (t, vs).1 % 200 = t from htm, if_pos htl] at h9
    obtain ⟨-, q', hq', hl⟩ := h9
    cases Option.some.inj (hq.symm.trans hq')
    exact hl
  obtain ⟨v0, hv0⟩ : ∃ v0, vs[j]? = some v0 := ⟨_, List.getElem?_eq_getElem (by omega)⟩
  obtain ⟨c0, hc0, -⟩ := hat.2.1 j v0 hv0
  rw [show sg_ix w.2.2 ((t, vs).1 % 200) j = w.2.2.2 t j by rw [show (t, vs).1 % 200 = t from htm]; exact if_pos htl] at hc0
  refine va_WputK hF.1 hF.2.1 (f := f) hF.2.2.2.1 (sg_wd g hW hlk) hi hst (by rw [hcls]; exact h6) hcell hat.1 (by rw [hsl2]; exact k2_hasslot hc0) rfl rfl hd fun H' e1 e2 e3 => ?_
  have hput := sg_at_put (j := j) (v := v) (cv := cv) hat (by rw [show (t, vs).1 % 200 = t from htm]; exact htl) (by rw [show (t, vs).1 % 200 = t from htm]; exact hq) hj (by rw [show (t, vs).1 % 200 = t from htm]; exact sg_apart (args := args) g hW hco hq) hv (by rw [show (t, vs).1 % 200 = t from htm]; exact k2_hasslot hc0)
  rw [show (t, vs).1 % 200 = t from htm, ← hsl2] at hput
  exact K p e s m args below meth c H' _ ls _ l hF hW hlv hL h2 (sg_rel_put hR (hab (by show t < 200; omega)) e1 e2 e3 hput) ⟨sg_loc hO.1 (hab (by show t < 200; omega)), by rw [e2]; exact hO.2⟩
/-- a final field, in its class's constructor -/
theorem sg_putF {a t j idx : Nat} {ft : FieldType} {vs : List sg_V} {v : sg_V} (g : sg_G w) (hd : decode mi.2.1 pc = .ok (.putfield idx, 3)) (hf : sg_fk mi.1.cls idx t j true ft) (hin : mi.1.name = "<init>") (ha : h.2 a = some (t, vs)) (hft : sg_ft ft v) (K : sg_R w mi d mc ms Q (pc + 3) lv st (h.1, sg_up h.2 a (t, vs.set j v)) k n) : sg_R w mi d mc ms Q pc lv (v :: sg_r a :: st) h k n := by
  intro p e s m args below meth c H locs ls sv l hF hW hlv hL hs hR hO
  obtain ⟨cv, b1, rfl, hv, h1⟩ := sg_vs_c hs
  obtain ⟨b, rfl, h2⟩ := sg_vs_r h1
  obtain ⟨htl, q, ty, ref, hq, hj, hco, hfin, hty, hdecl, hlk, hsm⟩ := hf
  have htm : t % 200 = t := Nat.mod_eq_of_lt (by omega)
  obtain ⟨hab, cell, hcell, hat⟩ := hR.2.2.2 a _ ha
  obtain ⟨hS, hfc, kC, hkC, hkind⟩ := (va_K.moved hW.alike g.2.1).1 _ q hq
  obtain ⟨cf, kf, fi, f, hi, hsl2⟩ := hS j hj
  have hts : ∀ x ∈ u_ws q.1 q.2.1 q.2.2, x.before args s = true := fun x hx => sg_wd g hW (hco.1 x hx)
  have hi' : s.fieldFound? ref (q.2.1 j).2.1 (q.2.1 j).2.2.1 = some (cf, kf, fi, f) := by
    rcases hsm with e1 | e1
    · rw [e1]; exact hi
    · exact u_same (sg_wd (args := args) g hW e1) _ hi
  have hlay := hts _ (u_in_lay hj)
  unfold u_lay at hlay
  rw [if_pos hfin] at hlay
  have hst := (u_facts hfc hkC (u_lays (N := q.2.2) hts (fun _ h => h) hj) hi).1
  have hcf : m.cls = cf := by
    obtain ⟨_, _, c', _, _, _, -, -, hf', -, -, -, hown2, -⟩ := Cond.laysFinal_spec hlay
    have e1 : c' = cf := by have := hi.symm.trans hf'; simp at this; exact this.1.symm
    rw [hdecl rfl] at hown2
    rw [← e1]; exact Option.some.inj (hF.2.2.2.1.symm.trans hown2)
  obtain ⟨hn1, hn2⟩ := hft cv hv
  have h6 := u_fits hfc hkC hkind (Or.inr hlay) hi ((hco.2.2 j hj).trans (by rw [hty])) hn1 hn2
  have hcls : cell.cls = w.2.2.1 t := by
    have h9 := hat.2.2
    rw [show (t, vs).1 % 200 = t from htm, if_pos htl] at h9
    exact h9.1
  have hlen : vs.length = q.2.2 := by
    have h9 := hat.2.2
    rw [show (t, vs).1 % 200 = t from htm, if_pos htl] at h9
    obtain ⟨-, q', hq', hl⟩ := h9
    cases Option.some.inj (hq.symm.trans hq')
    exact hl
  obtain ⟨v0, hv0⟩ : ∃ v0, vs[j]? = some v0 := ⟨_, List.getElem?_eq_getElem (by omega)⟩
  obtain ⟨c0, hc0, -⟩ := hat.2.1 j v0 hv0
  rw [show sg_ix w.2.2 ((t, vs).1 % 200) j = w.2.2.2 t j by rw [show (t, vs).1 % 200 = t from htm]; exact if_pos htl] at hc0
  refine W.putFinK hF.1 hF.2.1 (f := f) hF.2.2.2.1 (sg_wd g hW hlk) hi' hst hcf (hF.2.2.2.2.2.2.2.1.trans hin) (by rw [hcls]; exact h6) hcell hat.1 (by rw [hsl2]; exact k2_hasslot hc0) rfl rfl hd fun H' e1 e2 e3 => ?_
  have hput := sg_at_put (j := j) (v := v) (cv := cv) hat (by rw [show (t, vs).1 % 200 = t from htm]; exact htl) (by rw [show (t, vs).1 % 200 = t from htm]; exact hq) hj (by rw [show (t, vs).1 % 200 = t from htm]; exact sg_apart (args := args) g hW hco hq) hv (by rw [show (t, vs).1 % 200 = t from htm]; exact k2_hasslot hc0)
  rw [show (t, vs).1 % 200 = t from htm, ← hsl2] at hput
  exact K p e s m args below meth c H' _ ls _ l hF hW hlv hL h2 (sg_rel_put hR (hab (by show t < 200; omega)) e1 e2 e3 hput) ⟨sg_loc hO.1 (hab (by show t < 200; omega)), by rw [e2]; exact hO.2⟩
theorem sg_new {t idx N : Nat} {vs : List sg_V} (g : sg_G w) (hd : decode mi.2.1 pc = .ok (.new idx, 3)) (hf : sg_nk mi.1.cls idx t vs N) (hk : k + 1 ≤ mc) (hn : n + N ≤ ms) (K : sg_R w mi d mc ms Q (pc + 3) lv (sg_r h.1 :: st) (h.1 + 1, sg_up h.2 h.1 (t, vs)) (k + 1) (n + N)) : sg_R w mi d mc ms Q pc lv st h k n := by
  intro p e s m args below meth c H locs ls sv l hF hW hlv hL hs hR hO
  obtain ⟨htl, q, ty, hq, hco, hlen, rfl, hvs, hk1, hk2, hk3⟩ := hf
  have htm : t % 200 = t := Nat.mod_eq_of_lt (by omega)
  have hK := (va_K.moved hW.alike g.2.1).1 _ q hq
  have hts : ∀ x ∈ u_ws q.1 q.2.1 q.2.2, x.before args s = true := fun x hx => sg_wd g hW (hco.1 x hx)
  refine W.newcK hF.1 hF.2.1 hF.2.2.2.1 (sg_wd g hW hk1) (sg_wd g hW hk2) (sg_wd g hW hk3) rfl hd hk hn (cC := w.2.2.1 t) hK.2.1 rfl fun H' kC e0 e1 e2 e3 => ?_
  obtain ⟨cell, f1, f2, f3, f4⟩ := u_born (N := q.2.2) ty hts (fun _ h => h) hK e0 e1 hco.2.2
  rw [hR.1]
  refine K p e s m args below meth c H' locs ls _ l hF hW hlv hL ⟨rfl, hs⟩ (sg_rel_new hR (e := (t, vs)) f1 e2 e3 ⟨f3, fun j v hv => ?_, ?_⟩) ⟨hO.1, by have := hO.2; omega⟩
  · have hj : j < q.2.2 := by rw [← hlen]; exact (List.getElem?_eq_some_iff.mp hv).1
    refine ⟨_, ?_, hvs j v hv⟩
    rw [show (t, vs).1 % 200 = t from htm]
    unfold sg_ix
    rw [if_pos htl]
    exact f4 j hj
  · rw [show (t, vs).1 % 200 = t from htm, if_pos htl]
    exact ⟨f2, q, hq, hlen⟩
theorem sg_tn {x : Int32} {N : Nat} (h : x.toInt = (N : Int)) : x.toNatClampNeg = N := by
  show x.toInt.toNat = N
  rw [h]; rfl
theorem sg_newa {t N : Nat} {z : Int} {at_ : ArrayType} (g : sg_G w) (hd : decode mi.2.1 pc = .ok (.newarray at_, 2)) (hf : sg_ok (.arrayClass (newarray.typeOf at_))) (ht : sg_ty t = newarray.typeOf at_) (ht1 : 100 ≤ t) (ht2 : t < 200) (hdf : defaultValue (newarray.typeOf at_) = .int 0) (hpr : (newarray.typeOf at_).isReference = false) (hcb : componentBytes (newarray.typeOf at_) ≤ 8)
    (hz : z = (N : Int)) (hN : N ≤ 1000000) (hk : k + 1 ≤ mc) (hn : n + N ≤ ms) (K : sg_R w mi d mc ms Q (pc + 2) lv (sg_r h.1 :: st) (h.1 + 1, sg_up h.2 h.1 (t, List.replicate N (sg_i 0))) (k + 1) (n + N)) : sg_R w mi d mc ms Q pc lv (sg_i z :: st) h k n := by
  intro p e s m args below meth c H locs ls sv l hF hW hlv hL hs hR hO
  obtain ⟨x, b, rfl, hx, h1⟩ := sg_vs_i hs
  subst hz
  have hxN := sg_tn hx
  have htm : t % 200 = t := Nat.mod_eq_of_lt ht2
  have htn : ¬ t < 100 := by omega
  have hb1 : N * componentBytes (newarray.typeOf at_) ≤ 536870912 := Nat.le_trans (Nat.mul_le_mul hN hcb) (by decide)
  refine W.newa hF.1 hF.2.1 (sg_wd g hW hf) rfl hd rfl (fun q => by have h9 := Int32.lt_iff_toInt_lt.mp q; rw [hx] at h9; exact absurd h9 (by simp)) (by rw [hxN]; exact hb1) hk (by rw [hxN]; exact hn) fun cA kA comp f1 f2 f3 => ?_
  rw [hxN, hR.1]
  refine K p e s m args below meth c _ locs ls _ l hF hW hlv hL ⟨rfl, h1⟩ (sg_rel_new hR (e := (t, List.replicate N (sg_i 0))) (cell := { cls := cA, slots := Array.replicate N (defaultValue (newarray.typeOf at_)), vm := .none }) Array.getElem?_push_size (by rw [Array.size_push]) (fun q hq => by rw [Array.getElem?_push, if_neg (Nat.ne_of_lt hq)]) ⟨rfl, fun j v hv => ?_, ?_⟩) ⟨hO.1, by rw [Array.size_push]; have := hO.2; omega⟩
  · obtain ⟨hj, e1⟩ := List.getElem?_eq_some_iff.mp hv
    rw [List.length_replicate] at hj
    rw [List.getElem_replicate] at e1
    subst e1
    refine ⟨.int 0, ?_, 0, rfl, rfl⟩
    rw [show (t, List.replicate N (sg_i 0)).1 % 200 = t from htm]
    unfold sg_ix
    rw [if_neg htn]
    simp [hj, hdf]
  · rw [show (t, List.replicate N (sg_i 0)).1 % 200 = t from htm, if_neg htn]
    refine ⟨by simp, ?_⟩
    obtain ⟨k', hk', he⟩ := (State.WarmedH.alike hW).symm.2.2 _ _ f2
    rw [ht]
    exact ⟨by (have f9 := f1; rw [hW.alike.findClass] at f9; exact f9), k', comp, hk', by rw [he]; exact f3, fun h => by rw [hpr] at h; cases h⟩
theorem sg_alen {a t : Nat} {vs : List sg_V} (hd : decode mi.2.1 pc = .ok (.arraylength, 1)) (ha : h.2 a = some (t, vs)) (ht : 100 ≤ t % 200) (hl : vs.length < 2147483648) (K : sg_R w mi d mc ms Q (pc + 1) lv (sg_i (vs.length : Int) :: st) h k n) : sg_R w mi d mc ms Q pc lv (sg_r a :: st) h k n := by
  intro p e s m args below meth c H locs ls sv l hF hW hlv hL hs hR hO
  obtain ⟨b, rfl, h1⟩ := sg_vs_r hs
  obtain ⟨-, cell, hcell, hvm, hsl, h9⟩ := hR.2.2.2 a _ ha
  rw [if_neg (show ¬ (t, vs).1 % 200 < 100 from Nat.not_lt.mpr ht)] at h9
  refine W.alen hF.1 hF.2.1 hcell (sg_ak_arr (sg_ak_moved hW.alike h9.2) hvm) rfl rfl rfl hd (K p e s m args below meth c H locs ls _ l hF hW hlv hL ⟨⟨_, rfl, ?_⟩, h1⟩ hR hO)
  rw [h9.1]
  exact nI_toInt (n := vs.length) hl
theorem sg_inx {x : Int32} {z : Int} {N : Nat} (hx : x.toInt = z) (h0 : 0 ≤ z) (h1 : z.toNat < N) : ¬ (x < 0 ∨ N ≤ x.toNatClampNeg) := by
  rintro (q | q)
  · have h9 := Int32.lt_iff_toInt_lt.mp q
    rw [hx, Int32.toInt_zero] at h9
    omega
  · have h9 : x.toNatClampNeg = z.toNat := by rw [sg_clamp, hx]
    omega
theorem sg_iald {a t : Nat} {z : Int} {vs : List sg_V} {v : sg_V} (hd : decode mi.2.1 pc = .ok (.iaload, 1)) (ha : h.2 a = some (t, vs)) (ht : t % 200 = 100) (h0 : 0 ≤ z) (hv : vs[z.toNat]? = some v) (K : sg_R w mi d mc ms Q (pc + 1) lv (v :: st) h k n) : sg_R w mi d mc ms Q pc lv (sg_i z :: sg_r a :: st) h k n := by
  intro p e s m args below meth c H locs ls sv l hF hW hlv hL hs hR hO
  obtain ⟨x, b1, rfl, hx, h1⟩ := sg_vs_i hs
  obtain ⟨b, rfl, h2⟩ := sg_vs_r h1
  obtain ⟨-, cell, hcell, hvm, hsl, h9⟩ := hR.2.2.2 a _ ha
  rw [show (t, vs).1 % 200 = 100 from ht, if_neg (by omega)] at h9
  obtain ⟨cv, hc1, hc2⟩ := hsl _ v hv
  rw [show (t, vs).1 % 200 = 100 from ht] at hc1
  refine W.iald hF.1 hF.2.1 hcell (sg_ak_arr (ty := .int) (sg_ak_moved hW.alike h9.2) hvm) (by rw [hvm]; exact fun h => by cases h) (sg_inx hx h0 (by rw [h9.1]; exact (List.getElem?_eq_some_iff.mp hv).1)) (v := cv) ?_ rfl rfl hd (K p e s m args below meth c H locs ls _ l hF hW hlv hL ⟨hc2, h2⟩ hR hO)
  rw [sg_clamp, hx]
  exact hc1
theorem sg_zald {a t : Nat} {z : Int} {vs : List sg_V} {v : sg_V} (hd : decode mi.2.1 pc = .ok (.baload, 1)) (ha : h.2 a = some (t, vs)) (ht : t % 200 = 101) (h0 : 0 ≤ z) (hv : vs[z.toNat]? = some v) (K : sg_R w mi d mc ms Q (pc + 1) lv (v :: st) h k n) : sg_R w mi d mc ms Q pc lv (sg_i z :: sg_r a :: st) h k n := by
  intro p e s m args below meth c H locs ls sv l hF hW hlv hL hs hR hO
  obtain ⟨x, b1, rfl, hx, h1⟩ := sg_vs_i hs
  obtain ⟨b, rfl, h2⟩ := sg_vs_r h1
  obtain ⟨-, cell, hcell, hvm, hsl, h9⟩ := hR.2.2.2 a _ ha
  rw [show (t, vs).1 % 200 = 101 from ht, if_neg (by omega)] at h9
  obtain ⟨cv, hc1, hc2⟩ := hsl _ v hv
  rw [show (t, vs).1 % 200 = 101 from ht] at hc1
  refine W.zald hF.1 hF.2.1 hcell (sg_ak_arr (ty := .boolean) (sg_ak_moved hW.alike h9.2) hvm) (by rw [hvm]; exact fun h => by cases h) (sg_inx hx h0 (by rw [h9.1]; exact (List.getElem?_eq_some_iff.mp hv).1)) (v := cv) ?_ rfl rfl hd (K p e s m args below meth c H locs ls _ l hF hW hlv hL ⟨hc2, h2⟩ hR hO)
  rw [sg_clamp, hx]
  exact hc1
theorem sg_aald {a t : Nat} {z : Int} {vs : List sg_V} {v : sg_V} (hd : decode mi.2.1 pc = .ok (.aaload, 1)) (ha : h.2 a = some (t, vs)) (ht : 110 ≤ t % 200) (h0 : 0 ≤ z) (hv : vs[z.toNat]? = some v) (K : sg_R w mi d mc ms Q (pc + 1) lv (v :: st) h k n) : sg_R w mi d mc ms Q pc lv (sg_i z :: sg_r a :: st) h k n := by
  intro p e s m args below meth c H locs ls sv l hF hW hlv hL hs hR hO
  obtain ⟨x, b1, rfl, hx, h1⟩ := sg_vs_i hs
  obtain ⟨b, rfl, h2⟩ := sg_vs_r h1
  obtain ⟨-, cell, hcell, hvm, hsl, h9⟩ := hR.2.2.2 a _ ha
  rw [if_neg (show ¬ (t, vs).1 % 200 < 100 from Nat.not_lt.mpr (by show 100 ≤ t % 200; omega))] at h9
  obtain ⟨cv, hc1, hc2⟩ := hsl _ v hv
  have hr : (sg_ty (t % 200)).isReference = true := by
    unfold sg_ty
    split <;> first | rfl | omega
  refine W.aald hF.1 hF.2.1 hcell (sg_ak_arr (sg_ak_moved hW.alike h9.2) hvm) hr (by rw [hvm]; exact fun h => by cases h) (sg_inx hx h0 (by rw [h9.1]; exact (List.getElem?_eq_some_iff.mp hv).1)) (v := cv) ?_ rfl rfl hd (K p e s m args below meth c H locs ls _ l hF hW hlv hL ⟨hc2, h2⟩ hR hO)
  rw [sg_clamp, hx]
  unfold sg_ix at hc1
  rw [if_neg (show ¬ (t, vs).1 % 200 < 100 from Nat.not_lt.mpr (by show 100 ≤ t % 200; omega))] at hc1
  exact hc1
theorem sg_iast {a : Nat} {z x : Int} {vs : List sg_V} (hd : decode mi.2.1 pc = .ok (.iastore, 1)) (ha : h.2 a = some (100, vs)) (h0 : 0 ≤ z) (hz : z.toNat < vs.length) (K : sg_R w mi d mc ms Q (pc + 1) lv st (h.1, sg_up h.2 a (100, vs.set z.toNat (sg_i x))) k n) : sg_R w mi d mc ms Q pc lv (sg_i x :: sg_i z :: sg_r a :: st) h k n := by
  intro p e s m args below meth c H locs ls sv l hF hW hlv hL hs hR hO
  obtain ⟨y, b0, rfl, hy, h3⟩ := sg_vs_i hs
  obtain ⟨x', b1, rfl, hx, h1⟩ := sg_vs_i h3
  obtain ⟨b, rfl, h2⟩ := sg_vs_r h1
  obtain ⟨hab, cell, hcell, hat⟩ := hR.2.2.2 a _ ha
  have h9 := hat.2.2
  rw [if_neg (show ¬ (100, vs).1 % 200 < 100 from (by decide : ¬ (100 : Nat) % 200 < 100))] at h9
  have hab' := hab (by show 100 < 200; omega)
  have hxz : x'.toNatClampNeg = z.toNat := by rw [sg_clamp, hx]
  refine W.iast hF.1 hF.2.1 hcell (sg_ak_arr (ty := .int) (sg_ak_moved hW.alike h9.2) hat.1) (by rw [hat.1]; exact fun h => by cases h) (sg_inx hx h0 (by rw [h9.1]; exact hz)) rfl rfl hd fun H' e1 e2 e3 => ?_
  rw [hxz] at e1 ⊢
  exact K p e s m args below meth c H' _ ls _ l hF hW hlv hL h2 (sg_rel_put hR hab' e1 e2 e3 (sg_at_ast hat (Nat.not_lt.mpr (Nat.le_of_ble_eq_true rfl)) ⟨y, rfl, hy⟩ (by rw [h9.1]; exact hz))) ⟨sg_loc hO.1 hab', by rw [e2]; exact hO.2⟩
theorem sg_zast {a : Nat} {z x : Int} {vs : List sg_V} (hd : decode mi.2.1 pc = .ok (.bastore, 1)) (ha : h.2 a = some (101, vs)) (hx01 : x = 0 ∨ x = 1) (h0 : 0 ≤ z) (hz : z.toNat < vs.length) (K : sg_R w mi d mc ms Q (pc + 1) lv st (h.1, sg_up h.2 a (101, vs.set z.toNat (sg_i x))) k n) : sg_R w mi d mc ms Q pc lv (sg_i x :: sg_i z :: sg_r a :: st) h k n := by
  intro p e s m args below meth c H locs ls sv l hF hW hlv hL hs hR hO
  obtain ⟨y, b0, rfl, hy, h3⟩ := sg_vs_i hs
  obtain ⟨x', b1, rfl, hx, h1⟩ := sg_vs_i h3
  obtain ⟨b, rfl, h2⟩ := sg_vs_r h1
  obtain ⟨hab, cell, hcell, hat⟩ := hR.2.2.2 a _ ha
  have h9 := hat.2.2
  rw [if_neg (show ¬ (101, vs).1 % 200 < 100 from (by decide : ¬ (101 : Nat) % 200 < 100))] at h9
  have hab' := hab (by show 101 < 200; omega)
  have hxz : x'.toNatClampNeg = z.toNat := by rw [sg_clamp, hx]
  have hnr : narrow .boolean (.int y) = .int y := (sg_ft_z hx01 _ ⟨y, rfl, hy⟩).1
  refine W.zast hF.1 hF.2.1 hcell (sg_ak_arr (ty := .boolean) (sg_ak_moved hW.alike h9.2) hat.1) (by rw [hat.1]; exact fun h => by cases h) (sg_inx hx h0 (by rw [h9.1]; exact hz)) rfl rfl hd fun H' e1 e2 e3 => ?_
  rw [hxz, hnr] at e1
  rw [hxz]
  exact K p e s m args below meth c H' _ ls _ l hF hW hlv hL h2 (sg_rel_put hR hab' e1 e2 e3 (sg_at_ast hat (Nat.not_lt.mpr (Nat.le_of_ble_eq_true rfl)) ⟨y, rfl, hy⟩ (by rw [h9.1]; exact hz))) ⟨sg_loc hO.1 hab', by rw [e2]; exact hO.2⟩
end
end
section
/-! arrays of references, statics, calls, throws -/
def sg_gw (x : Cond) : Bool := goodWord x || (match x with
  | .castable _ _ => true
  | .arrayOver _ => true
  | _ => false)
theorem sg_wdc {w : sg_W} {s : State} {args : Array Value} {C T : String} (g : sg_G w) (hW : w.2.1.WarmedH s.vm) (hx : Cond.castable C T ∈ lw_tbl) : (Cond.castable C T).before args s = true := va_Nw.warmC hW (g.1.1 _ hx)
theorem sg_wdo {w : sg_W} {s : State} {args : Array Value} {C : String} (g : sg_G w) (hW : w.2.1.WarmedH s.vm) (hx : Cond.arrayOver (.object C) ∈ lw_tbl) : (Cond.arrayOver (.object C)).before args s = true := (va_AO.moved hW.alike (va_AO.of (g.1.1 _ hx))).use
theorem sg_idx_bare (vm : Vm) (comp : ClassId) : (vm.bare.classes.findIdx? fun (x : Class) => match x.kind with | .array component _ => component == comp | _ => false) = (vm.classes.findIdx? fun (x : Class) => match x.kind with | .array component _ => component == comp | _ => false) := by
  simp only [Vm.bare, Array.findIdx?_map]
  rfl
theorem sg_AOA {t : FieldType} {A : Array Value} {u U : State} (hvm : u.vm.Alike U.vm) (h : (Cond.arrayOver (.array t)).before #[] u = true) : (Cond.arrayOver (.array t)).before A U = true := by
  simp only [Cond.before, Cond.holds, Cond.value, beq_iff_eq] at h
  cases hc : u.vm.findClass (FieldType.array t).toString with
  | none => simp [hc] at h
  | some comp =>
    simp only [hc, Option.bind_some, Option.bind_eq_some_iff, Option.map_eq_some_iff] at h
    obtain ⟨c, h2, k, h3, hb⟩ := h
    obtain ⟨k', hk', he⟩ := hvm.2.2 _ _ h3
    have hi : (U.vm.classes.findIdx? fun (x : Class) => match x.kind with | .array component _ => component == comp | _ => false) = some c := by
      rw [← sg_idx_bare]
      first | rw [hvm.bare_eq] | rw [← hvm.bare_eq]
      rw [sg_idx_bare]
      exact h2
    have f1 : U.vm.findClass (FieldType.array t).toString = some comp := by rw [hvm.findClass]; exact hc
    unfold Cond.before Cond.holds
    simp only [Cond.value]
    rw [f1, Option.bind_some]
    refine (congrArg (fun o : Option Nat => (o.bind (fun c => (U.vm.classes[c]?).map fun (k : Class) => match k.kind with | .array _ ty => decide (ty = FieldType.array t) && decide (U.vm.findClass ("[" ++ (FieldType.array t).toString) = some c) | _ => false) == some true)) hi).trans ?_
    rw [Option.bind_some, hk', Option.map_some, he, hvm.findClass]
    cases hk9 : k.kind with
    | array c9 ty => rw [hk9] at hb; simpa using hb
    | _ => rw [hk9] at hb; simp at hb
section
variable {w : sg_W} {mi : sg_M} {d mc ms : Nat} {Q : sg_O → sg_H → Prop} {pc : Nat} {lv : List (Nat × sg_V)} {st : List sg_V} {h : sg_H} {k n : Nat}
/-- the calls -/
theorem sg_blind {w : sg_W} {as : List sg_V} {h : sg_H} : FrameBlind (sg_Pc w as h) := fun a U g mk q => by
  obtain ⟨cs, q1, q2, q3, q4⟩ := q
  exact ⟨cs, q1, q2, q3, q4⟩
def sg_K (w : sg_W) (mi : sg_M) (d mc ms : Nat) (Q : sg_O → sg_H → Prop) (pc : Nat) (lv : List (Nat × sg_V)) (rest : List sg_V) (k n : Nat) : sg_O → sg_H → Prop := fun o h' => match o with
  | .inl v => sg_R w mi d mc ms Q (pc + 3) lv (v.toList ++ rest) h' k n
  | .inr E => k ≤ mc ∧ n ≤ ms ∧ Q (.inr E) h'
theorem sg_after {mc' ms' : Nat} {rest : List sg_V} {p : Program} {e : Env} {s : State} {m : MethodId} {args : Array Value} {below : List Frame} {meth : Method} {c : Code} {H : Heap} {locs : List Loc} {ls : Array Slot} {sv rs : List Value} {l : List (Nat × Value)} {av : Array Value}
    (hF : sg_F w mi p s m meth c) (hW : w.2.1.WarmedH s.vm) (hlv : lv_has ls mi.2.2.1 l) (hL : sg_L lv l) (hrs : sg_vs rest rs) (hO : (∀ q ∈ locs, sg_b w ≤ q.base) ∧ s.heap.size ≤ H.size)
    (hr : vx_Run p w.1 e (sg_rm d mc ms) s m args below meth c H locs k n mc' ms' (F0 m pc ls sv) rs (sg_Qc w (sg_K w mi d mc ms Q pc lv rest (k + mc') (n + ms')) av) (sg_XC w (sg_K w mi d mc ms Q pc lv rest (k + mc') (n + ms'))) (fun q => sg_b w ≤ q)) :
    W p w.1 e (sg_rm d mc ms) s m args below meth c H locs k n (vx_MQ below (sg_Qc w Q) (sg_XC w Q) args s mc ms (fun q => sg_b w ≤ q)) (F0 m pc ls sv) := by
  intro T hT X
  rcases hr T hT X with ⟨v, st₀, t, T', L, h0, X', hLc, e1, e2, hq, st⟩ | ⟨q, st₀, t, T', L, E, ce, h0, X', hLc, e1, e2, hx, hce, hcv, hcl, st⟩
  · obtain ⟨v', c', h', ho, hvs, hrel, hK⟩ := hq
    have hcv : v = c' := Outcome.returned.inj ho
    subst hcv
    have hsz : s.heap.size ≤ T'.heap.size := X'.same.2.1
    obtain ⟨t2, a1, b1⟩ := hK p e s m args below meth c T'.heap (locs ++ L) ls (v.toList ++ rs) l hF hW hlv hL (sg_vs_join hvs hrs) (by rw [e1]; exact hrel) ⟨fun z hz => (List.mem_append.mp hz).elim (hO.1 z) (hLc z), hsz⟩ T' rfl X'
    exact ⟨t2, st t2 a1, b1⟩
  · obtain ⟨h', hrel, hk, hn, hQ⟩ := hx
    have hout := vx_out (p := p) (l := w.1) (e := e) (R := sg_rm d mc ms) (s := s) (m := m) (args := args) (below := below) (meth := meth) (c := c) (H := T'.heap) (locs := locs ++ L) (cells := k + mc') (slots := n + ms') (ls := ls) (rest := rs) (Qc := sg_Qc w Q) (XC := sg_XC w Q) (free := fun q => sg_b w ≤ q) (pc := pc) (mc := mc) (ms := ms)
      (fun x hx => (hF.2.2.2.2.2.2.1 x hx).elim) hF.2.2.2.2.2.1 (q := q) (E := E) (by rw [e1]; exact hce) hcv hcl (fun t9 ht _ => ⟨h', by rw [ht, e1]; exact hrel, hQ⟩) (fun z hz => (List.mem_append.mp hz).elim (hO.1 z) (hLc z)) hk hn
    obtain ⟨t2, a1, b1⟩ := hout T' rfl X'
    exact ⟨t2, st.trans a1, b1⟩
def sg_cb (mi' : sg_M) (np : Nat) : Prop := sg_ok (.code mi'.1 mi'.2.1 mi'.2.2.1 mi'.2.2.2) ∧ sg_ok (.initialized mi'.1.cls) ∧ (mi'.1.cls ≠ "java/lang/invoke/MethodHandle" ∧ mi'.1.cls ≠ "java/lang/invoke/VarHandle") ∧ (parseMethodDescriptor mi'.1.desc).map (fun d => d.parameters.length) = some np ∧ mi'.2.2.1 ≤ 61
theorem sg_callB {mi' : sg_M} {np d' mc' ms' idx : Nat} {own : String} {s : State} {args : Array Value} (g : sg_G w) (hW : w.2.1.WarmedH s.vm) (hc : sg_cb mi' np) (hl : sg_ok (.methodLink own idx mi'.1)) (hd' : d' + 1 ≤ d) :
    CallB (sg_rm d mc ms) s args own idx mi'.1 mi'.2.1 mi'.2.2.1 mi'.2.2.2 [.code mi'.1 mi'.2.1 mi'.2.2.1 mi'.2.2.2] (sg_rm d' mc' ms') mc' ms' np := by
  obtain ⟨h1, h2, h3, h4, h5⟩ := hc
  refine ⟨rfl, rfl, hd', by show 8 + (mi'.2.2.1 + 11) + 80 * d' ≤ 80 * d; omega, fun x hx a' U hU => ?_, List.mem_cons_self, sg_wd g hW h1, sg_wd g hW h2, h3, fun sig h => ?_, sg_wd g hW hl⟩
  · rw [List.mem_singleton] at hx
    subst hx
    exact sg_wd g (State.WarmedH.trans hW hU) h1
  · rw [h] at h4
    exact (Option.some.inj h4).symm
theorem sg_callS {mi' : sg_M} {np d' mc' ms' idx : Nat} {as rest : List sg_V} (g : sg_G w) (hd : decode mi.2.1 pc = .ok (.invokestatic idx, 3)) (hc : sg_cb mi' np) (hl : sg_ok (.methodLink mi.1.cls idx mi'.1)) (hsta : sg_ok (.static mi'.1)) (hst : st = as.reverse ++ rest) (hnp : as.length = np) (hr : sg_cs rest ≤ 8) (hd' : d' + 1 ≤ d) (hk : k + mc' ≤ mc) (hn : n + ms' ≤ ms)
    (hm : sg_C w mi' d' mc' ms' as h (sg_K w mi d mc ms Q pc lv rest (k + mc') (n + ms'))) : sg_R w mi d mc ms Q pc lv st h k n := by
  intro p e s m args below meth c H locs ls sv l hF hW hlv hL hs hR hO
  subst hst
  obtain ⟨xs, rs, rfl, h1, h2⟩ := sg_vs_app hs
  have h3 := sg_vs_rev h1
  rw [List.reverse_reverse] at h3
  refine sg_after hF hW hlv hL h2 hO (vx_runS (Ts := []) (As := xs.reverse) (rest := rs) ⟨hF.1, hF.2.1, hF.2.2.1, hF.2.2.2.1, fun x hx => by cases hx⟩ hm ⟨sg_callB g hW hc hl hd', sg_wd g hW hsta⟩ ⟨sg_blind, fun U hU hWU => ⟨xs.reverse, rfl, h3, State.WarmedH.trans hW hWU, by rw [hU]; exact hR⟩⟩ rfl (by rw [sg_vs_len h3]; exact hnp) hlv.1 (by rw [List.reverse_reverse]) (lv_room (by rw [sg_vs_cat h2]; exact hr)) hd ⟨hk, hn⟩)
theorem sg_callV {mi' : sg_M} {np d' mc' ms' idx t b : Nat} {as rest vs : List sg_V} {q : vw_C} (g : sg_G w) (hd : decode mi.2.1 pc = .ok (.invokevirtual idx, 3)) (hc : sg_cb mi' np) (hl : sg_ok (.methodLink mi.1.cls idx mi'.1)) (hin : sg_ok (.instanceMethod mi'.1)) (hsel : sg_ok (.selects q.1 mi'.1 mi'.1)) (hq : vwCl[t % 200]? = some q) (ht : t % 200 < 100) (hst : st = as.reverse ++ sg_r b :: rest) (hb : h.2 b = some (t, vs)) (hnp : as.length = np) (hr : sg_cs rest ≤ 8) (hd' : d' + 1 ≤ d) (hk : k + mc' ≤ mc) (hn : n + ms' ≤ ms)
    (hm : sg_C w mi' d' mc' ms' (sg_r b :: as) h (sg_K w mi d mc ms Q pc lv rest (k + mc') (n + ms'))) : sg_R w mi d mc ms Q pc lv st h k n := by
  intro p e s m args below meth c H locs ls sv l hF hW hlv hL hs hR hO
  subst hst
  obtain ⟨xs, rs0, rfl, h1, h20⟩ := sg_vs_app hs
  obtain ⟨rs, rfl, h2⟩ := sg_vs_r h20
  have h3 := sg_vs_rev h1
  rw [List.reverse_reverse] at h3
  obtain ⟨-, cell, hcell, hvm, -, h9⟩ := hR.2.2.2 b _ hb
  rw [if_pos (show (t, vs).1 % 200 < 100 from ht)] at h9
  have hcl := ((va_K.moved hW.alike g.2.1).1 _ q hq).2.1
  refine sg_after hF hW hlv hL h2 hO (vx_runV (Ts := []) (As := xs.reverse) (rest := rs) (C := q.1) ⟨hF.1, hF.2.1, hF.2.2.1, hF.2.2.2.1, fun x hx => by cases hx⟩ hm ⟨sg_callB g hW hc hl hd', sg_wd g hW hin, sg_wd g hW hsel⟩ ⟨sg_blind, ⟨cell, hcell, by rw [hvm]; rfl, by rw [h9.1]; exact hcl⟩, fun U hU hWU => ⟨.ref b :: xs.reverse, rfl, ⟨rfl, h3⟩, State.WarmedH.trans hW hWU, by rw [hU]; exact hR⟩⟩ rfl (by rw [sg_vs_len h3]; exact hnp) hlv.1 (by rw [List.reverse_reverse]) (lv_room (by rw [sg_vs_cat h2]; exact hr)) hd ⟨hk, hn⟩)
theorem sg_callI {mi' : sg_M} {np d' mc' ms' idx b : Nat} {as rest : List sg_V} (g : sg_G w) (hd : decode mi.2.1 pc = .ok (.invokespecial idx, 3)) (hc : sg_cb mi' np) (hrt : mi'.2.2.2 = none) (hnm : mi'.1.name = "<init>") (hl : sg_ok (.methodLink mi.1.cls idx mi'.1)) (hin : sg_ok (.instanceMethod mi'.1)) (hst : st = as.reverse ++ sg_r b :: rest) (hnp : as.length = np) (hr : sg_cs rest ≤ 8) (hd' : d' + 1 ≤ d) (hk : k + mc' ≤ mc) (hn : n + ms' ≤ ms)
    (hm : sg_C w mi' d' mc' ms' (sg_r b :: as) h (sg_K w mi d mc ms Q pc lv rest (k + mc') (n + ms'))) : sg_R w mi d mc ms Q pc lv st h k n := by
  intro p e s m args below meth c H locs ls sv l hF hW hlv hL hs hR hO
  subst hst
  obtain ⟨xs, rs0, rfl, h1, h20⟩ := sg_vs_app hs
  obtain ⟨rs, rfl, h2⟩ := sg_vs_r h20
  have h3 := sg_vs_rev h1
  rw [List.reverse_reverse] at h3
  have hB := sg_callB (mc := mc) (ms := ms) (mc' := mc') (ms' := ms') (args := args) g hW hc hl hd'
  rw [hrt] at hB
  refine sg_after hF hW hlv hL h2 hO (vx_runI (Ts := []) (As := xs.reverse) (rest := rs) ⟨hF.1, hF.2.1, hF.2.2.1, hF.2.2.2.1, fun x hx => by cases hx⟩ (by have h7 := hm; unfold sg_C at h7; rw [hrt] at h7; exact h7) ⟨hB, hnm, sg_wd g hW hin⟩ ⟨sg_blind, fun U hU hWU => ⟨.ref b :: xs.reverse, rfl, (show sg_vs (sg_r b :: as) (.ref b :: xs.reverse) from ⟨rfl, h3⟩), State.WarmedH.trans hW hWU, by rw [hU]; exact hR⟩⟩ rfl (by rw [sg_vs_len h3]; exact hnp) hlv.1 (by rw [List.reverse_reverse]) (lv_room (by rw [sg_vs_cat h2]; exact hr)) hd ⟨hk, hn⟩)
theorem sg_objInit {idx b : Nat} (g : sg_G w) (hd : decode mi.2.1 pc = .ok (.invokespecial idx, 3)) (hl : sg_ok (.methodLink mi.1.cls idx Lib.objectInit)) (hin : sg_ok (.instanceMethod Lib.objectInit)) (hco : sg_ok (.code Lib.objectInit ⟨#[0xb1]⟩ 1 none)) (hr : sg_cs st ≤ 8) (hd' : 1 ≤ d) (K : sg_R w mi d mc ms Q (pc + 3) lv st h k n) : sg_R w mi d mc ms Q pc lv (sg_r b :: st) h k n := by
  intro p e s m args below meth c H locs ls sv l hF hW hlv hL hs hR hO
  obtain ⟨rs, rfl, h2⟩ := sg_vs_r hs
  refine W.objInit hF.1 hF.2.1 hF.2.2.2.1 (sg_wd g hW hl) (sg_wd g hW hin) (sg_wd g hW hco) rfl (hlv.1.trans hF.2.2.1.symm) rfl hd hd' ?_ (K p e s m args below meth c H locs ls _ l hF hW hlv hL h2 hR hO)
  have h9 := lv_room (m := m) (pc := pc) (ls := ls) (rest := .ref b :: rs) (st := rs) (by rw [sg_vs_cat h2]; exact hr)
  show _ ≤ 80 * d
  omega
/-- a throw of a new exception with a text -/
def sg_th (own : String) (ik is ic : Nat) (cls text : String) (names : List String) : Prop := Bundle.fit cls = true ∧ (∀ n ∈ names, Bundle.fit n = true) ∧ names.length ≤ 6 ∧
  (∀ x ∈ Cond.classLink own ik cls :: Cond.initialized cls :: vx_atS own ic cls names, x ∈ lw_tbl ∧ sg_gw x = true ∧ vx_ot x = true) ∧ Cond.stringRef own is text ∈ lw_tbl
theorem sg_wdt {s : State} {args : Array Value} {x : Cond} (g : sg_G w) (hW : w.2.1.WarmedH s.vm) (hx : x ∈ lw_tbl) (hg : sg_gw x = true) (ho : vx_ot x = true) : x.before args s = true := by
  by_cases c : goodWord x = true
  · exact sg_wd g hW ⟨hx, c⟩
  · unfold sg_gw at hg
    rw [Bool.not_eq_true] at c
    rw [c, Bool.false_or] at hg
    split at hg
    · exact sg_wdc g hW hx
    · exact absurd ho (by simp [vx_ot, c, Cond.onTables])
    · cases hg
theorem sg_statics {C n' d' : String} {p : Program} {s : State} {m : MethodId} {meth : Method} {c : Code} (hF : sg_F w mi p s m meth c) (hW : w.2.1.WarmedH s.vm) (hZ : vx_Zq C n' d' (fun q => sg_b w ≤ q) w.2.1 w.2.1.heap) : vx_Zq C n' d' (fun q => sg_b w ≤ q) s s.heap :=
  vx_Zq.moved hW.alike (hZ.kept (fun a ha _ => hF.2.2.2.2.2.2.2.2.2 a ha))
theorem sg_throw {ik is ic : Nat} {cls text : String} {names : List String} (g : sg_G w) (hth : sg_th mi.1.cls ik is ic cls text names)
    (d0 : decode mi.2.1 pc = .ok (.new ik, 3)) (d3 : decode mi.2.1 (pc + 3) = .ok (.dup, 1)) (d4 : decode mi.2.1 (pc + 4) = .ok (.ldc is, 2)) (d6 : decode mi.2.1 (pc + 6) = .ok (.invokespecial ic, 3)) (d9 : decode mi.2.1 (pc + 9) = .ok (.athrow, 1))
    (hd : 10 ≤ d) (hr : sg_cs st ≤ 100) (hk : k + 1 ≤ mc) (hn : n + 6 ≤ ms) (K : ∀ z, h.1 ≤ z → Q (.inr cls) (z, h.2)) : sg_R w mi d mc ms Q pc lv st h k n := by
  intro p e s m args below meth c H locs ls sv l hF hW hlv hL hs hR hO
  obtain ⟨t1, t2, t3, t4, t5⟩ := hth
  obtain ⟨sa, hsa⟩ := g.1.2 _ _ _ t5
  exact vx_throwS hF.1 hF.2.1 g.2.2.1 hF.2.2.2.1 t1 t2 (sg_wdt g hW (t4 _ List.mem_cons_self).1 (t4 _ List.mem_cons_self).2.1 (t4 _ List.mem_cons_self).2.2) (sg_wdt g hW (t4 _ (List.mem_cons_of_mem _ List.mem_cons_self)).1 (t4 _ (List.mem_cons_of_mem _ List.mem_cons_self)).2.1 (t4 _ (List.mem_cons_of_mem _ List.mem_cons_self)).2.2) (vk_R.warm hW hsa)
    (fun x hx => sg_wdt g hW (t4 x (List.mem_cons_of_mem _ (List.mem_cons_of_mem _ hx))).1 (t4 x (List.mem_cons_of_mem _ (List.mem_cons_of_mem _ hx))).2.1 (t4 x (List.mem_cons_of_mem _ (List.mem_cons_of_mem _ hx))).2.2) (fun x hx => (t4 x hx).2.2)
    (sg_statics hF hW g.2.2.2.1) (sg_statics hF hW g.2.2.2.2) (A := fun q => sg_b w ≤ q) ⟨hO.2, fun q hq hA => by rw [hR.2.2.1 q (by omega), hF.2.2.2.2.2.2.2.2.2 q (by omega)], hO.1⟩ (hlv.1.trans hF.2.2.1.symm) d0 d3 d4 d6 d9
    (fun x hx => (hF.2.2.2.2.2.2.1 x hx).elim) (by show names.length + 3 < d; omega) (by rw [sg_vs_cat hs]; show _ ≤ 80 * d; omega) hk hn hF.2.2.2.2.2.1
    (fun t _ h1 h2 => ⟨(t.heap.size, h.2), sg_rel_more hR h1 h2, K _ (by rw [← hR.1]; exact h1)⟩) hO.1 hk hn
theorem sg_throwW {ik is ic : Nat} {cls text : String} {names : List String} (g : sg_G w) (hth : sg_th mi.1.cls ik is ic cls text names)
    (d0 : decode mi.2.1 pc = .ok (.new ik, 3)) (d3 : decode mi.2.1 (pc + 3) = .ok (.dup, 1)) (d4 : decode mi.2.1 (pc + 4) = .ok (.ldc_w is, 3)) (d7 : decode mi.2.1 (pc + 7) = .ok (.invokespecial ic, 3)) (d10 : decode mi.2.1 (pc + 10) = .ok (.athrow, 1))
    (hd : 10 ≤ d) (hr : sg_cs st ≤ 100) (hk : k + 1 ≤ mc) (hn : n + 6 ≤ ms) (K : ∀ z, h.1 ≤ z → Q (.inr cls) (z, h.2)) : sg_R w mi d mc ms Q pc lv st h k n := by
  intro p e s m args below meth c H locs ls sv l hF hW hlv hL hs hR hO
  obtain ⟨t1, t2, t3, t4, t5⟩ := hth
  obtain ⟨sa, hsa⟩ := g.1.2 _ _ _ t5
  exact vx_throwSW hF.1 hF.2.1 g.2.2.1 hF.2.2.2.1 t1 t2 (sg_wdt g hW (t4 _ List.mem_cons_self).1 (t4 _ List.mem_cons_self).2.1 (t4 _ List.mem_cons_self).2.2) (sg_wdt g hW (t4 _ (List.mem_cons_of_mem _ List.mem_cons_self)).1 (t4 _ (List.mem_cons_of_mem _ List.mem_cons_self)).2.1 (t4 _ (List.mem_cons_of_mem _ List.mem_cons_self)).2.2) (vk_R.warm hW hsa)
    (fun x hx => sg_wdt g hW (t4 x (List.mem_cons_of_mem _ (List.mem_cons_of_mem _ hx))).1 (t4 x (List.mem_cons_of_mem _ (List.mem_cons_of_mem _ hx))).2.1 (t4 x (List.mem_cons_of_mem _ (List.mem_cons_of_mem _ hx))).2.2) (fun x hx => (t4 x hx).2.2)
    (sg_statics hF hW g.2.2.2.1) (sg_statics hF hW g.2.2.2.2) (A := fun q => sg_b w ≤ q) ⟨hO.2, fun q hq hA => by rw [hR.2.2.1 q (by omega), hF.2.2.2.2.2.2.2.2.2 q (by omega)], hO.1⟩ (hlv.1.trans hF.2.2.1.symm) d0 d3 d4 d7 d10
    (fun x hx => (hF.2.2.2.2.2.2.1 x hx).elim) (by show names.length + 3 < d; omega) (by rw [sg_vs_cat hs]; show _ ≤ 80 * d; omega) hk hn hF.2.2.2.2.2.1
    (fun t _ h1 h2 => ⟨(t.heap.size, h.2), sg_rel_more hR h1 h2, K _ (by rw [← hR.1]; exact h1)⟩) hO.1 hk hn
/-- a static field that holds v since the start -/
theorem sg_gets {C n' d' : String} {v : sg_V} {cv : Value} {idx : Nat} (g : sg_G w) (hd : decode mi.2.1 pc = .ok (.getstatic idx, 3)) (hZ : va_Z C n' d' cv (fun q => sg_b w ≤ q) w.2.1 w.2.1.heap) (hv : sg_v v cv) (hlk : sg_ok (.fieldLink mi.1.cls idx C n' d')) (K : sg_R w mi d mc ms Q (pc + 3) lv (v :: st) h k n) : sg_R w mi d mc ms Q pc lv st h k n := by
  intro p e s m args below meth c H locs ls sv l hF hW hlv hL hs hR hO
  obtain ⟨cf, kf, fi, f, a, cell, h1, h2, h3, h4, h5, h6, h7, h8⟩ := va_Z.moved hW.alike hZ
  exact W.gets hF.1 hF.2.1 hF.2.2.2.1 (sg_wd g hW hlk) h1 h2 h3 h4 (by rw [hR.2.2.1 a (by omega)]; exact h5) (fun e => by rw [e] at h6; cases h6) h7 rfl hd (K p e s m args below meth c H locs ls _ l hF hW hlv hL ⟨hv, hs⟩ hR hO)
theorem sg_at_new {cA : ClassId} {N t : Nat} (ht1 : 100 ≤ t) (ht2 : t < 200) (hak : sg_ak w.2.1 (sg_ty t) cA) : sg_at w (t, List.replicate N sg_n) { cls := cA, slots := Array.replicate N .null, vm := .none } := by
  have htm : t % 200 = t := Nat.mod_eq_of_lt ht2
  have htn : ¬ t < 100 := by omega
  refine ⟨rfl, fun j v hv => ?_, ?_⟩
  · obtain ⟨hj, e1⟩ := List.getElem?_eq_some_iff.mp hv
    rw [List.length_replicate] at hj
    rw [List.getElem_replicate] at e1
    subst e1
    refine ⟨.null, ?_, rfl⟩
    rw [show (t, List.replicate N sg_n).1 % 200 = t from htm]
    unfold sg_ix
    rw [if_neg htn]
    simp [hj]
  · rw [show (t, List.replicate N sg_n).1 % 200 = t from htm, if_neg htn]
    exact ⟨by simp, hak⟩
theorem sg_anew {t N idx : Nat} {z : Int} {C : String} (g : sg_G w) (hd : decode mi.2.1 pc = .ok (.anewarray idx, 3)) (hlk : sg_ok (.classLink mi.1.cls idx C)) (hov : Cond.arrayOver (.object C) ∈ lw_tbl) (ht : sg_ty t = .object C) (ht1 : 100 ≤ t) (ht2 : t < 200)
    (hz : z = (N : Int)) (hN : N ≤ 1000000) (hk : k + 1 ≤ mc) (hn : n + N ≤ ms) (K : sg_R w mi d mc ms Q (pc + 3) lv (sg_r h.1 :: st) (h.1 + 1, sg_up h.2 h.1 (t, List.replicate N sg_n)) (k + 1) (n + N)) : sg_R w mi d mc ms Q pc lv (sg_i z :: st) h k n := by
  intro p e s m args below meth c H locs ls sv l hF hW hlv hL hs hR hO
  obtain ⟨x, b, rfl, hx, h1⟩ := sg_vs_i hs
  subst hz
  have hxN := sg_tn hx
  refine W.anew hF.1 hF.2.1 hF.2.2.2.1 (sg_wd g hW hlk) (sg_wdo g hW hov) rfl hd rfl (fun q => by have h9 := Int32.lt_iff_toInt_lt.mp q; rw [hx] at h9; exact absurd h9 (by simp)) (by rw [hxN]; omega) hk (by rw [hxN]; exact hn) fun cA kA comp f1 f2 f3 f4 => ?_
  rw [hxN, hR.1]
  refine K p e s m args below meth c _ locs ls _ l hF hW hlv hL ⟨rfl, h1⟩ (sg_rel_new hR (e := (t, List.replicate N sg_n)) (cell := { cls := cA, slots := Array.replicate N .null, vm := .none }) Array.getElem?_push_size (by rw [Array.size_push]) (fun q hq => by rw [Array.getElem?_push, if_neg (Nat.ne_of_lt hq)]) (sg_at_new ht1 ht2 ?_)) ⟨hO.1, by rw [Array.size_push]; have := hO.2; omega⟩
  obtain ⟨k', hk', he⟩ := (State.WarmedH.alike hW).symm.2.2 _ _ f2
  rw [ht]
  exact ⟨by (have f9 := f1; rw [hW.alike.findClass] at f9; exact f9), k', comp, hk', by rw [he]; exact f3, fun _ => by (have f9 := f4; rw [hW.alike.findClass] at f9; exact f9)⟩
theorem sg_anewA {t N idx : Nat} {z : Int} {T : FieldType} (g : sg_G w) (hd : decode mi.2.1 pc = .ok (.anewarray idx, 3)) (hlk : sg_ok (.classLink mi.1.cls idx (FieldType.array T).toString)) (hov : Cond.arrayOver (.array T) ∈ lw_tbl) (ht : sg_ty t = .array T) (ht1 : 100 ≤ t) (ht2 : t < 200)
    (hz : z = (N : Int)) (hN : N ≤ 1000000) (hk : k + 1 ≤ mc) (hn : n + N ≤ ms) (K : sg_R w mi d mc ms Q (pc + 3) lv (sg_r h.1 :: st) (h.1 + 1, sg_up h.2 h.1 (t, List.replicate N sg_n)) (k + 1) (n + N)) : sg_R w mi d mc ms Q pc lv (sg_i z :: st) h k n := by
  intro p e s m args below meth c H locs ls sv l hF hW hlv hL hs hR hO
  obtain ⟨x, b, rfl, hx, h1⟩ := sg_vs_i hs
  subst hz
  have hxN := sg_tn hx
  refine W.anewA hF.1 hF.2.1 hF.2.2.2.1 (sg_wd g hW hlk) (sg_AOA hW.alike (g.1.1 _ hov)) rfl hd rfl (fun q => by have h9 := Int32.lt_iff_toInt_lt.mp q; rw [hx] at h9; exact absurd h9 (by simp)) (by rw [hxN]; omega) hk (by rw [hxN]; exact hn) fun cA kA comp f1 f2 f3 f4 => ?_
  rw [hxN, hR.1]
  refine K p e s m args below meth c _ locs ls _ l hF hW hlv hL ⟨rfl, h1⟩ (sg_rel_new hR (e := (t, List.replicate N sg_n)) (cell := { cls := cA, slots := Array.replicate N .null, vm := .none }) Array.getElem?_push_size (by rw [Array.size_push]) (fun q hq => by rw [Array.getElem?_push, if_neg (Nat.ne_of_lt hq)]) (sg_at_new ht1 ht2 ?_)) ⟨hO.1, by rw [Array.size_push]; have := hO.2; omega⟩
  obtain ⟨k', hk', he⟩ := (State.WarmedH.alike hW).symm.2.2 _ _ f2
  rw [ht]
  exact ⟨by (have f9 := f1; rw [hW.alike.findClass] at f9; exact f9), k', comp, hk', by rw [he]; exact f3, fun _ => by (have f9 := f4; rw [hW.alike.findClass] at f9; exact f9)⟩
/-- what may be stored in an array of references of kind t: a thing of kind u -/
def sg_as (t u : Nat) : Prop := (u < 100 ∧ ∃ q, vwCl[u]? = some q ∧ (sg_ty t = .object q.1 ∨ (sg_ty t = .object "java/lang/Object" ∧ Cond.castable q.1 "java/lang/Object" ∈ lw_tbl))) ∨
  (100 ≤ u ∧ (sg_cn (sg_ty t) = "[" ++ (sg_ty u).toString ∨ (sg_ty t = .object "java/lang/Object" ∧ Cond.castable ("[" ++ (sg_ty u).toString) "java/lang/Object" ∈ lw_tbl)))
theorem sg_aast {a t b u : Nat} {z : Int} {vs us : List sg_V} (g : sg_G w) (hd : decode mi.2.1 pc = .ok (.aastore, 1)) (ha : h.2 a = some (t, vs)) (hb : h.2 b = some (u, us)) (ht1 : 110 ≤ t) (ht2 : t < 200) (has : sg_as t (u % 200)) (h0 : 0 ≤ z) (hz : z.toNat < vs.length) (K : sg_R w mi d mc ms Q (pc + 1) lv st (h.1, sg_up h.2 a (t, vs.set z.toNat (sg_r b))) k n) : sg_R w mi d mc ms Q pc lv (sg_r b :: sg_i z :: sg_r a :: st) h k n := by
  intro p e s m args below meth c H locs ls sv l hF hW hlv hL hs hR hO
  obtain ⟨b0, rfl, h3⟩ := sg_vs_r hs
  obtain ⟨x', b1, rfl, hx, h1⟩ := sg_vs_i h3
  obtain ⟨b2, rfl, h2⟩ := sg_vs_r h1
  obtain ⟨hab, cell, hcell, hat⟩ := hR.2.2.2 a _ ha
  obtain ⟨-, cb, hcb, hatb⟩ := hR.2.2.2 b _ hb
  have htm : t % 200 = t := Nat.mod_eq_of_lt ht2
  have h9 := hat.2.2
  rw [show (t, vs).1 % 200 = t from htm, if_neg (show ¬ t < 100 by omega)] at h9
  have hab' := hab ht2
  have hxz : x'.toNatClampNeg = z.toNat := by rw [sg_clamp, hx]
  have hr : (sg_ty t).isReference = true := by
    unfold sg_ty
    split <;> first | rfl | omega
  obtain ⟨-, kA, comp, hkA, hkind, hcomp⟩ := sg_ak_moved hW.alike h9.2
  have hcomp := hcomp hr
  have hin := sg_inx (N := cell.slots.size) hx h0 (by rw [h9.1]; exact hz)
  obtain ⟨kv, hkv, hasg⟩ : ∃ kv, s.vm.classes[cb.cls]? = some kv ∧ s.vm.assignable cb.cls comp = true := by
    have h8 := hatb.2.2
    rcases has with ⟨hu, q, hq, hc⟩ | ⟨hu, hc⟩
    · rw [if_pos (show (u, us).1 % 200 < 100 from hu)] at h8
      have hK := ((va_K.moved hW.alike g.2.1).1 _ q hq).2
      obtain ⟨hf, kC, hkC, -⟩ := hK
      refine ⟨kC, by rw [h8.1]; exact hkC, ?_⟩
      rcases hc with hc | ⟨hc, hw⟩
      · rw [hc] at hcomp
        have : comp = w.2.2.1 (u % 200) := Option.some.inj (hcomp.symm.trans hf)
        rw [h8.1, this]
        exact sg_asg _ _
      · rw [hc] at hcomp
        obtain ⟨c1, c2, e1, e2, e3⟩ := Cond.castable_spec (sg_wdc (args := args) g hW hw)
        cases Option.some.inj (e1.symm.trans hf)
        cases Option.some.inj (e2.symm.trans hcomp)
        rw [h8.1]
        exact e3
    · rw [if_neg (show ¬ (u, us).1 % 200 < 100 from Nat.not_lt.mpr hu)] at h8
      obtain ⟨hf, kB, cB, hkB, -, -⟩ := sg_ak_moved hW.alike h8.2
      refine ⟨kB, hkB, ?_⟩
      rcases hc with hc | ⟨hc, hw⟩
      · rw [hc] at hcomp
        have : comp = cb.cls := Option.some.inj (hcomp.symm.trans hf)
        rw [this]
        exact sg_asg _ _
      · rw [hc] at hcomp
        obtain ⟨c1, c2, e1, e2, e3⟩ := Cond.castable_spec (sg_wdc (args := args) g hW hw)
        cases Option.some.inj (e1.symm.trans hf)
        cases Option.some.inj (e2.symm.trans hcomp)
        exact e3
  obtain ⟨kc, hkc⟩ : ∃ kc, s.vm.classes[comp]? = some kc := by obtain ⟨k9, h9, -⟩ := Vm.findClass_spec hcomp; exact ⟨k9, h9⟩
  refine W.aast hF.1 hF.2.1 hcell (fun q h => by rw [hat.1] at h; cases h) (by rw [hat.1]; exact fun h => by cases h) hkA hkind hr hkc ⟨fun q => hin (Or.inl q), Nat.not_le.mp (fun q => hin (Or.inr q))⟩ hcb (fun q h => by rw [hatb.1] at h; cases h) hkv hasg rfl rfl hd fun H' e1 e2 e3 => ?_
  rw [hxz] at e1 ⊢
  exact K p e s m args below meth c H' _ ls _ l hF hW hlv hL h2 (sg_rel_put hR hab' e1 e2 e3 (sg_at_ast hat (by show ¬ t % 200 < 100; omega) rfl (by rw [h9.1]; exact hz))) ⟨sg_loc hO.1 hab', by rw [e2]; exact hO.2⟩
end
end
