section
-- ===== PART A: goes FIRST, ahead of the names: the tables' words, and 'selects' of the private methods out of them =====
/-- a private method of a class that the tables say can be made, by its rows of tables_1 -/
def lw_okq (q : MethodName × Nat) : Prop := (q.1.cls ≠ "java/lang/invoke/MethodHandle" ∧ q.1.cls ≠ "java/lang/invoke/VarHandle") ∧ Cond.instantiable q.1.cls q.2 ∈ tables_1 ∧ Cond.privateMethod q.1 ∈ tables_1 ∧ Cond.instanceMethod q.1 ∈ tables_1
theorem lw_p0 : lw_okq (⟨"Signkinds", "rowOf", "(I)LSignkinds$Line;"⟩, 4) := ⟨⟨by decide +kernel, by decide +kernel⟩, List.mem_of_getElem? (i := 32) (by decide +kernel), List.mem_of_getElem? (i := 152) (by decide +kernel), List.mem_of_getElem? (i := 153) (by decide +kernel)⟩
theorem lw_p1 : lw_okq (⟨"java/lang/Throwable", "fillInStackTrace", "(I)Ljava/lang/Throwable;"⟩, 6) := ⟨⟨by decide +kernel, by decide +kernel⟩, List.mem_of_getElem? (i := 194) (by decide +kernel), List.mem_of_getElem? (i := 192) (by decide +kernel), List.mem_of_getElem? (i := 193) (by decide +kernel)⟩
theorem lw_p2 : lw_okq (⟨"Signkinds", "trackOf", "(I)LSignkinds$Line;"⟩, 4) := ⟨⟨by decide +kernel, by decide +kernel⟩, List.mem_of_getElem? (i := 32) (by decide +kernel), List.mem_of_getElem? (i := 273) (by decide +kernel), List.mem_of_getElem? (i := 274) (by decide +kernel)⟩
theorem lw_p3 : lw_okq (⟨"Signkinds", "withRow", "(JI)J"⟩, 4) := ⟨⟨by decide +kernel, by decide +kernel⟩, List.mem_of_getElem? (i := 32) (by decide +kernel), List.mem_of_getElem? (i := 320) (by decide +kernel), List.mem_of_getElem? (i := 321) (by decide +kernel)⟩
theorem lw_p4 : lw_okq (⟨"Signkinds", "withTrack", "(JI)J"⟩, 4) := ⟨⟨by decide +kernel, by decide +kernel⟩, List.mem_of_getElem? (i := 32) (by decide +kernel), List.mem_of_getElem? (i := 393) (by decide +kernel), List.mem_of_getElem? (i := 394) (by decide +kernel)⟩
theorem lw_p5 : lw_okq (⟨"Signkinds", "shorten", "(LSignkinds$Line;I)I"⟩, 4) := ⟨⟨by decide +kernel, by decide +kernel⟩, List.mem_of_getElem? (i := 32) (by decide +kernel), List.mem_of_getElem? (i := 521) (by decide +kernel), List.mem_of_getElem? (i := 522) (by decide +kernel)⟩
theorem lw_p6 : lw_okq (⟨"SignkindsModel", "start", "(ZI)Z"⟩, 4) := ⟨⟨by decide +kernel, by decide +kernel⟩, List.mem_of_getElem? (i := 1183) (by decide +kernel), List.mem_of_getElem? (i := 1243) (by decide +kernel), List.mem_of_getElem? (i := 1244) (by decide +kernel)⟩
theorem lw_p7 : lw_okq (⟨"SignkindsModel", "refuse", "(ZI)Z"⟩, 4) := ⟨⟨by decide +kernel, by decide +kernel⟩, List.mem_of_getElem? (i := 1183) (by decide +kernel), List.mem_of_getElem? (i := 1247) (by decide +kernel), List.mem_of_getElem? (i := 1248) (by decide +kernel)⟩
theorem lw_p8 : lw_okq (⟨"SignkindsModel", "set", "(I[I)I"⟩, 4) := ⟨⟨by decide +kernel, by decide +kernel⟩, List.mem_of_getElem? (i := 1183) (by decide +kernel), List.mem_of_getElem? (i := 1257) (by decide +kernel), List.mem_of_getElem? (i := 1258) (by decide +kernel)⟩
theorem lw_p9 : lw_okq (⟨"java/util/ArrayList", "add", "(Ljava/lang/Object;[Ljava/lang/Object;I)V"⟩, 3) := ⟨⟨by decide +kernel, by decide +kernel⟩, List.mem_of_getElem? (i := 1191) (by decide +kernel), List.mem_of_getElem? (i := 1265) (by decide +kernel), List.mem_of_getElem? (i := 1266) (by decide +kernel)⟩
theorem lw_p10 : lw_okq (⟨"java/util/ArrayList", "grow", "()[Ljava/lang/Object;"⟩, 3) := ⟨⟨by decide +kernel, by decide +kernel⟩, List.mem_of_getElem? (i := 1191) (by decide +kernel), List.mem_of_getElem? (i := 1269) (by decide +kernel), List.mem_of_getElem? (i := 1270) (by decide +kernel)⟩
theorem lw_p11 : lw_okq (⟨"java/util/ArrayList", "grow", "(I)[Ljava/lang/Object;"⟩, 3) := ⟨⟨by decide +kernel, by decide +kernel⟩, List.mem_of_getElem? (i := 1191) (by decide +kernel), List.mem_of_getElem? (i := 1273) (by decide +kernel), List.mem_of_getElem? (i := 1274) (by decide +kernel)⟩
theorem lw_p12 : lw_okq (⟨"java/util/ArrayList", "fastRemove", "([Ljava/lang/Object;I)V"⟩, 3) := ⟨⟨by decide +kernel, by decide +kernel⟩, List.mem_of_getElem? (i := 1191) (by decide +kernel), List.mem_of_getElem? (i := 1317) (by decide +kernel), List.mem_of_getElem? (i := 1318) (by decide +kernel)⟩
theorem lw_p13 : lw_okq (⟨"SignkindsModel", "cased", "(IZ)I"⟩, 4) := ⟨⟨by decide +kernel, by decide +kernel⟩, List.mem_of_getElem? (i := 1183) (by decide +kernel), List.mem_of_getElem? (i := 1338) (by decide +kernel), List.mem_of_getElem? (i := 1339) (by decide +kernel)⟩
theorem lw_p14 : lw_okq (⟨"SignkindsModel", "behind", "(I[I)I"⟩, 4) := ⟨⟨by decide +kernel, by decide +kernel⟩, List.mem_of_getElem? (i := 1183) (by decide +kernel), List.mem_of_getElem? (i := 1420) (by decide +kernel), List.mem_of_getElem? (i := 1421) (by decide +kernel)⟩
theorem lw_p15 : lw_okq (⟨"SignkindsModel", "codes", "(I)[I"⟩, 4) := ⟨⟨by decide +kernel, by decide +kernel⟩, List.mem_of_getElem? (i := 1183) (by decide +kernel), List.mem_of_getElem? (i := 1455) (by decide +kernel), List.mem_of_getElem? (i := 1456) (by decide +kernel)⟩
def lw_privs_1 : List (MethodName × Nat) := [(⟨"Signkinds", "rowOf", "(I)LSignkinds$Line;"⟩, 4), (⟨"java/lang/Throwable", "fillInStackTrace", "(I)Ljava/lang/Throwable;"⟩, 6), (⟨"Signkinds", "trackOf", "(I)LSignkinds$Line;"⟩, 4), (⟨"Signkinds", "withRow", "(JI)J"⟩, 4), (⟨"Signkinds", "withTrack", "(JI)J"⟩, 4), (⟨"Signkinds", "shorten", "(LSignkinds$Line;I)I"⟩, 4), (⟨"SignkindsModel", "start", "(ZI)Z"⟩, 4), (⟨"SignkindsModel", "refuse", "(ZI)Z"⟩, 4), (⟨"SignkindsModel", "set", "(I[I)I"⟩, 4), (⟨"java/util/ArrayList", "add", "(Ljava/lang/Object;[Ljava/lang/Object;I)V"⟩, 3), (⟨"java/util/ArrayList", "grow", "()[Ljava/lang/Object;"⟩, 3), (⟨"java/util/ArrayList", "grow", "(I)[Ljava/lang/Object;"⟩, 3), (⟨"java/util/ArrayList", "fastRemove", "([Ljava/lang/Object;I)V"⟩, 3), (⟨"SignkindsModel", "cased", "(IZ)I"⟩, 4), (⟨"SignkindsModel", "behind", "(I[I)I"⟩, 4), (⟨"SignkindsModel", "codes", "(I)[I"⟩, 4)]
theorem lw_r1 : ∀ q ∈ lw_privs_1, lw_okq q := List.forall_mem_cons.mpr ⟨lw_p0, List.forall_mem_cons.mpr ⟨lw_p1, List.forall_mem_cons.mpr ⟨lw_p2, List.forall_mem_cons.mpr ⟨lw_p3, List.forall_mem_cons.mpr ⟨lw_p4, List.forall_mem_cons.mpr ⟨lw_p5, List.forall_mem_cons.mpr ⟨lw_p6, List.forall_mem_cons.mpr ⟨lw_p7, List.forall_mem_cons.mpr ⟨lw_p8, List.forall_mem_cons.mpr ⟨lw_p9, List.forall_mem_cons.mpr ⟨lw_p10, List.forall_mem_cons.mpr ⟨lw_p11, List.forall_mem_cons.mpr ⟨lw_p12, List.forall_mem_cons.mpr ⟨lw_p13, List.forall_mem_cons.mpr ⟨lw_p14, List.forall_mem_cons.mpr ⟨lw_p15, fun _ h => absurd h List.not_mem_nil⟩⟩⟩⟩⟩⟩⟩⟩⟩⟩⟩⟩⟩⟩⟩⟩
theorem lw_p16 : lw_okq (⟨"SignkindsModel", "codeOf", "(II)I"⟩, 4) := ⟨⟨by decide +kernel, by decide +kernel⟩, List.mem_of_getElem? (i := 1183) (by decide +kernel), List.mem_of_getElem? (i := 1459) (by decide +kernel), List.mem_of_getElem? (i := 1460) (by decide +kernel)⟩
theorem lw_p17 : lw_okq (⟨"SignkindsModel", "kindTold", "(II)Z"⟩, 4) := ⟨⟨by decide +kernel, by decide +kernel⟩, List.mem_of_getElem? (i := 1183) (by decide +kernel), List.mem_of_getElem? (i := 1483) (by decide +kernel), List.mem_of_getElem? (i := 1484) (by decide +kernel)⟩
theorem lw_p18 : lw_okq (⟨"SignkindsModel", "countOf", "(II)I"⟩, 4) := ⟨⟨by decide +kernel, by decide +kernel⟩, List.mem_of_getElem? (i := 1183) (by decide +kernel), List.mem_of_getElem? (i := 1542) (by decide +kernel), List.mem_of_getElem? (i := 1543) (by decide +kernel)⟩
theorem lw_p19 : lw_okq (⟨"SignkindsModel", "toldOf", "(II)I"⟩, 4) := ⟨⟨by decide +kernel, by decide +kernel⟩, List.mem_of_getElem? (i := 1183) (by decide +kernel), List.mem_of_getElem? (i := 1577) (by decide +kernel), List.mem_of_getElem? (i := 1578) (by decide +kernel)⟩
theorem lw_p20 : lw_okq (⟨"SignkindsModel", "valuesOf", "(I)I"⟩, 4) := ⟨⟨by decide +kernel, by decide +kernel⟩, List.mem_of_getElem? (i := 1183) (by decide +kernel), List.mem_of_getElem? (i := 1591) (by decide +kernel), List.mem_of_getElem? (i := 1592) (by decide +kernel)⟩
theorem lw_p21 : lw_okq (⟨"SignkindsModel", "wordsOf", "(I)Ljava/util/ArrayList;"⟩, 4) := ⟨⟨by decide +kernel, by decide +kernel⟩, List.mem_of_getElem? (i := 1183) (by decide +kernel), List.mem_of_getElem? (i := 1599) (by decide +kernel), List.mem_of_getElem? (i := 1600) (by decide +kernel)⟩
theorem lw_p22 : lw_okq (⟨"SignkindsModel", "areAlike", "(II)Z"⟩, 4) := ⟨⟨by decide +kernel, by decide +kernel⟩, List.mem_of_getElem? (i := 1183) (by decide +kernel), List.mem_of_getElem? (i := 1619) (by decide +kernel), List.mem_of_getElem? (i := 1620) (by decide +kernel)⟩
theorem lw_p23 : lw_okq (⟨"SignkindsModel", "orderOf", "([I[I)I"⟩, 4) := ⟨⟨by decide +kernel, by decide +kernel⟩, List.mem_of_getElem? (i := 1183) (by decide +kernel), List.mem_of_getElem? (i := 1627) (by decide +kernel), List.mem_of_getElem? (i := 1628) (by decide +kernel)⟩
theorem lw_p24 : lw_okq (⟨"SignkindsModel", "trackTold", "(II)I"⟩, 4) := ⟨⟨by decide +kernel, by decide +kernel⟩, List.mem_of_getElem? (i := 1183) (by decide +kernel), List.mem_of_getElem? (i := 1670) (by decide +kernel), List.mem_of_getElem? (i := 1671) (by decide +kernel)⟩
theorem lw_p25 : lw_okq (⟨"SignkindsModel", "isNoPlace", "(II)Z"⟩, 4) := ⟨⟨by decide +kernel, by decide +kernel⟩, List.mem_of_getElem? (i := 1183) (by decide +kernel), List.mem_of_getElem? (i := 1678) (by decide +kernel), List.mem_of_getElem? (i := 1679) (by decide +kernel)⟩
theorem lw_p26 : lw_okq (⟨"SignkindsModel", "houseOf", "(I)I"⟩, 4) := ⟨⟨by decide +kernel, by decide +kernel⟩, List.mem_of_getElem? (i := 1183) (by decide +kernel), List.mem_of_getElem? (i := 1694) (by decide +kernel), List.mem_of_getElem? (i := 1695) (by decide +kernel)⟩
def lw_privs_2 : List (MethodName × Nat) := [(⟨"SignkindsModel", "codeOf", "(II)I"⟩, 4), (⟨"SignkindsModel", "kindTold", "(II)Z"⟩, 4), (⟨"SignkindsModel", "countOf", "(II)I"⟩, 4), (⟨"SignkindsModel", "toldOf", "(II)I"⟩, 4), (⟨"SignkindsModel", "valuesOf", "(I)I"⟩, 4), (⟨"SignkindsModel", "wordsOf", "(I)Ljava/util/ArrayList;"⟩, 4), (⟨"SignkindsModel", "areAlike", "(II)Z"⟩, 4), (⟨"SignkindsModel", "orderOf", "([I[I)I"⟩, 4), (⟨"SignkindsModel", "trackTold", "(II)I"⟩, 4), (⟨"SignkindsModel", "isNoPlace", "(II)Z"⟩, 4), (⟨"SignkindsModel", "houseOf", "(I)I"⟩, 4)]
theorem lw_r2 : ∀ q ∈ lw_privs_2, lw_okq q := List.forall_mem_cons.mpr ⟨lw_p16, List.forall_mem_cons.mpr ⟨lw_p17, List.forall_mem_cons.mpr ⟨lw_p18, List.forall_mem_cons.mpr ⟨lw_p19, List.forall_mem_cons.mpr ⟨lw_p20, List.forall_mem_cons.mpr ⟨lw_p21, List.forall_mem_cons.mpr ⟨lw_p22, List.forall_mem_cons.mpr ⟨lw_p23, List.forall_mem_cons.mpr ⟨lw_p24, List.forall_mem_cons.mpr ⟨lw_p25, List.forall_mem_cons.mpr ⟨lw_p26, fun _ h => absurd h List.not_mem_nil⟩⟩⟩⟩⟩⟩⟩⟩⟩⟩⟩
def lw_privs : List (MethodName × Nat) := lw_privs_1 ++ (lw_privs_2)
def lw_tbl : List Cond := k2_sels lw_privs ++ tables_1
theorem lw_privs_ok : ∀ q ∈ lw_privs, lw_okq q := by
  show ∀ q ∈ lw_privs_1 ++ (lw_privs_2), lw_okq q
  exact List.forall_mem_append.mpr ⟨lw_r1, lw_r2⟩
end
section
/-! ===== BEGIN words of one list among another's, by their places ===== -/
theorem goodIn_r {big : List Cond} (ws : List Cond) (ps : List Nat) (hp : ws = ps.filterMap (fun i => big[i]?)) (h : ws.all goodWord = true) : GoodIn big ws := by
  intro w hw
  have h1 := List.all_eq_true.mp h w hw
  rw [hp] at hw
  obtain ⟨i, -, hi⟩ := List.mem_filterMap.mp hw
  have hm : w ∈ big := by first | exact List.mem_of_getElem? hi | exact List.getElem?_mem hi
  exact ⟨hm, good_of_word h1⟩
theorem goodIn_app {big a b : List Cond} (ha : GoodIn big a) (hb : GoodIn big b) : GoodIn big (a ++ b) := fun w h => (List.mem_append.mp h).elim (ha w) (hb w)
theorem goodIn_ca {big a b : List Cond} {c : Cond} (ha : GoodIn big (c :: a)) (hb : GoodIn big b) : GoodIn big (c :: (a ++ b)) := fun w h => (List.mem_cons.mp h).elim (fun e => ha w (List.mem_cons.mpr (Or.inl e))) (fun h => (List.mem_append.mp h).elim (fun h => ha w (List.mem_cons.mpr (Or.inr h))) (hb w))
theorem goodIn_sub {big ws : List Cond} (hm : ∀ w ∈ ws, w ∈ big) (h : ws.all goodWord = true) : GoodIn big ws := fun w hw => ⟨hm w hw, good_of_word (List.all_eq_true.mp h w hw)⟩
/-! ===== END ===== -/

/-! ===== BEGIN exceptions that leave a method, and their catching by the caller (launches without stack traces) ===== -/
section VXA
/-! The laws vx_back, vx_callV, vx_callS, vx_callSW, vx_throw0, vx_throwS follow proofs of the library, with one case more: JvmDerived/Free/Laws.lean (Back.of_free), Shelf42/LK1.lean (callV, callS), Shelf/KitTraced.lean (throwNew0V, throwNewS). -/
/-- where a method has thrown q: the class by its name, the cell, what was written, the world -/
def vx_T (XC : String → State → State → Prop) (st : State) (q : Addr) (t : State) (mc ms : Nat) (free : Addr → Prop) : Prop :=
  ∃ (E : String) (ce : Cell) (L : List Loc), XC E st t ∧ t.heap[q]? = some ce ∧ ce.vm = .none ∧ st.vm.findClass E = some ce.cls ∧ st.WarmedH t.vm ∧ st.sameButNew ({ t with vm := st.vm } : State) L mc ms ∧ ∀ z ∈ L, free z.base
def vx_Q (Qc : Array Value → State → Outcome → State → Prop) (XC : String → State → State → Prop) (mc ms : Nat) (free : Addr → Prop) : Array Value → State → Outcome → State → Prop := fun a st o t =>
  (Qc a st o t ∧ ∃ L, FrameEnd st o t L mc ms ∧ ∀ q ∈ L, free q.base) ∨ ∃ q, o = .threw q ∧ vx_T XC st q t mc ms free
/-- a callee that returns or throws -/
def vx_Met (l : Launch) (y : MethodName) (ws : List Cond) (rm : Room) (Pc : Array Value → State → Prop) (Qc : Array Value → State → Outcome → State → Prop) (XC : String → State → State → Prop) (mc ms : Nat) (free : Addr → Prop) : Prop :=
  MetFree l y (headSpec ws rm) Pc (fun _ _ _ _ _ => True) (vx_Q Qc XC mc ms free)
def vx_Post (XC : String → State → State → Prop) (mc ms : Nat) (free : Addr → Prop) : Pt → Array Value → Addr → Pt → Prop := fun A a q B =>
  ∃ (g : JFrame) (mk : MethodId) (t : State) (L : List Loc) (E : String) (ce : Cell), B.U.heap = t.heap ∧ B.U.vm = t.vm ∧ XC E (A.U.calling g mk a) t ∧ t.heap[q]? = some ce ∧ ce.vm = .none ∧ A.U.vm.findClass E = some ce.cls ∧ B.locs = A.locs ++ L ∧ (∀ z ∈ L, free z.base) ∧ B.cells = A.cells + mc ∧ B.slots = A.slots + ms
def vx_Back (l : Launch) (R : Room) (p : Program) (e : Env) (below : List Frame) (s : State) (sargs : Array Value) (y : MethodName) (len W9 : Nat)
    (Pre : Pt → Array Value → Prop) (Post : Pt → Array Value → Option Value → Pt → Prop) (PostX : Pt → Array Value → Addr → Pt → Prop) : Prop :=
  ∀ (m : MethodId) (meth : Method) (c : Code) (A : Pt) (g : JFrame) (ig : Instr) (mk : MethodId) (a : Array Value),
    Stand p l e R s m sargs below meth c A.U A.locs A.cells A.slots → g.method = m → g.locals.size = c.maxLocals → decode c.code g.pc = .ok (ig, len) →
    2 * g.monitorRoom + (g.stack.map fun v => v.category).sum ≤ W9 → A.U.methodNamed? y = some mk → Pre A a →
    (∃ (v : Option Value) (B : Pt), Stand p l e R s m sargs below meth c B.U B.locs B.cells B.slots ∧ Post A a v B ∧
      Steps p.tables e below (doInvoke e (A.U.setTop g) [] mk a).1 (B.U.setTop { g with pc := g.pc + len, stack := v.toList ++ g.stack })) ∨
    (∃ (q : Addr) (B : Pt), Stand p l e R s m sargs below meth c B.U B.locs B.cells B.slots ∧ PostX A a q B ∧
      Steps p.tables e below (doInvoke e (A.U.setTop g) [] mk a).1 ((B.U.setTop g).pushFrame (.throwing q)))
section Payer
variable {l : Launch} {R : Room} {p : Program} {e : Env} {below : List Frame} {s : State} {sargs : Array Value} {y : MethodName} {len W9 : Nat}
theorem vx_back {ws : List Cond} {rm : Room} {Pc : Array Value → State → Prop} {Qc : Array Value → State → Outcome → State → Prop} {XC : String → State → State → Prop} {mc ms : Nat} {free : Addr → Prop} {bytes : ByteArray} {maxL : Nat} {ret : Option FieldType}
    (hM : vx_Met l y ws rm Pc Qc XC mc ms free) (hblind : FrameBlind Pc) (hrc : rm.cells = mc) (hrs : rm.slots = ms)
    (hframes : rm.frames + 1 ≤ R.frames) (hlocals : W9 + (maxL + 11) + rm.locals ≤ R.locals)
    (hws : ∀ w ∈ ws, ∀ a' U, s.WarmedH U.vm → w.before a' U = true) (hcode : Cond.code y bytes maxL ret ∈ ws) (hinit : ∀ a' U, s.WarmedH U.vm → (Cond.initialized y.cls).before a' U = true) :
    vx_Back l R p e below s sargs y len W9 (PreOf R mc ms Pc) (PostOf Qc mc ms free) (vx_Post XC mc ms free) := by
  intro m meth c A g ig mk a X hg hsize hdg hW hn hp
  have h1 : (headSpec ws rm).pre.before a A.U = true := atoms_intro fun w hw => hws w hw _ _ X.warmed
  have h2 : (Cond.code y bytes maxL ret).before a A.U = true := hws _ hcode _ _ X.warmed
  have h3 : (Cond.initialized y.cls).before a A.U = true := hinit _ _ X.warmed
  have h4 : A.cells + (headSpec ws rm).room.cells ≤ R.cells := by rw [show (headSpec ws rm).room.cells = mc from hrc]; exact hp.1
  have h5 : A.slots + (headSpec ws rm).room.slots ≤ R.slots := by rw [show (headSpec ws rm).room.slots = ms from hrs]; exact hp.2.1
  have hPc : Pc a (A.U.calling g mk a) := hblind _ _ _ _ hp.2.2
  obtain ⟨U, Ls, c0, s0⟩ := A
  dsimp only [Pt.U, Pt.locs, Pt.cells, Pt.slots] at h1 h2 h3 h4 h5 X hn hPc ⊢
  obtain ⟨methY, cY, hmY, hcY, -, hlY, -, -, -, -⟩ := Cond.code_spec hn h2
  obtain ⟨kY, hkY, -⟩ := className_of_methodNamed hn
  have hinitY : kY.init = .initialized := Cond.initialized_spec (findClass_of_methodNamed hn) hkY h3
  have h : At U g.method c below := by rw [hg]; exact X.here
  have hlocals9 : W9 + (maxL + 11) + (headSpec ws rm).room.locals ≤ R.locals := hlocals
  have happ : (headSpec ws rm).appliesLoose y e.platform (U.calling g mk a) = true :=
    Spec.appliesLoose_calling (g := g) h hdg hn hkY hinitY
      (X.room_calling (g := g) (R' := (headSpec ws rm).room) hsize hmY hcY hframes (by rw [hlY]; omega) h4 h5) h1
  obtain ⟨mid, hmid⟩ := h.above
  have hfr : (U.setTop g).frames = (.java g :: mid) ++ below := by rw [State.frames_setTop' g h.top, hmid]; rfl
  obtain ⟨o, s₂, hsteps, -, hend, hq⟩ := Steps.callFree hM p X.admits X.cas X.clock (acts := []) hfr happ hPc trivial
  have hq' : vx_Q Qc XC mc ms free a (U.calling g mk a) o s₂ := hq
  rw [State.frames_setTop' g h.top] at hend
  obtain ⟨g₀, hg0⟩ := Option.isSome_iff_exists.mp h.top
  obtain ⟨r, hr⟩ := State.topJava?_eq_some.mp hg0
  have hr' : (({ U with heap := s₂.heap, slotsUsed := s₂.slotsUsed } : State).setVm s₂.vm).frames = .java g₀ :: r := hr
  rcases hq' with ⟨hqc, L, hfe, hL⟩ | ⟨q, rfl, E, ce, L, hx, hce, hcv, hcl, hW₂, hsm, hL⟩
  · obtain ⟨⟨v, rfl⟩, hW₂, e2, q2, q3, q4, q5, q6⟩ := id hfe
    have e3 : s₂ = ({ (U.calling g mk a).setFrames s₂.frames with heap := s₂.heap, slotsUsed := s₂.slotsUsed } : State).setVm s₂.vm := by
      have : s₂ = ({ s₂ with vm := (U.calling g mk a).vm } : State).setVm s₂.vm := rfl
      rw [e2] at this
      exact this
    obtain ⟨c₂, i₂, len₂, hc₂, hd₂, hf₂⟩ := hend
    have hW' : U.WarmedH s₂.vm := hW₂
    have hcc : c₂ = c := by
      have h1 : s₂.code? g.method = U.code? g.method := by
        rw [State.code?_eq, State.code?_eq, hW'.alike.method?]
      exact Option.some.inj (hc₂.symm.trans (h1.trans h.code))
    subst hcc
    have hlen : len₂ = len := by rw [hdg] at hd₂; cases hd₂; rfl
    subst hlen
    have hs₂ : s₂ = (({ U with heap := s₂.heap, slotsUsed := s₂.slotsUsed } : State).setVm s₂.vm).setTop { g with pc := g.pc + len₂, stack := v.toList ++ g.stack } := by
      refine e3.trans ?_
      rw [hf₂, State.calling_eq h.top, State.setFrames_setFrames, State.setTop_of_frames _ hr', hr]
      rfl
    have hsame : U.sameButNew ({ U with heap := s₂.heap, slotsUsed := s₂.slotsUsed } : State) L mc ms := by
      refine ⟨?_, q2, q3, q4, q5, q6⟩
      obtain ⟨t, ht, -⟩ := State.frames_cons hr
      show ({ U with heap := s₂.heap, slotsUsed := s₂.slotsUsed } : State) = { U.setFrames U.frames with heap := s₂.heap, slotsUsed := s₂.slotsUsed }
      rw [State.setFrames_self ht]
    subst hg
    refine Or.inl ⟨v, ⟨(({ U with heap := s₂.heap, slotsUsed := s₂.slotsUsed } : State).setVm s₂.vm), Ls ++ L, c0 + mc, s0 + ms⟩,
      ⟨X.admits, X.cas, X.clock, X.frames, X.room, X.hears, X.method, X.code, (X.here.setHeapUsed s₂.heap s₂.slotsUsed).setVm hW'.alike, X.tail, State.WarmedH.trans X.warmed hW', X.limits, X.bytes, X.same.trans (hsame.setVm s.vm)⟩,
      ⟨g, mk, s₂, L, rfl, rfl, hqc, rfl, hL, rfl, rfl⟩, ?_⟩
    show Steps p.tables e below _ ((({ U with heap := s₂.heap, slotsUsed := s₂.slotsUsed } : State).setVm s₂.vm).setTop { g with pc := g.pc + len₂, stack := v.toList ++ g.stack })
    rw [← hs₂]
    exact hsteps
  · obtain ⟨e2, q2, q3, q4, q5, q6⟩ := id hsm
    have e3 : s₂ = ({ (U.calling g mk a).setFrames s₂.frames with heap := s₂.heap, slotsUsed := s₂.slotsUsed } : State).setVm s₂.vm := by
      have : s₂ = ({ s₂ with vm := (U.calling g mk a).vm } : State).setVm s₂.vm := rfl
      rw [e2] at this
      exact this
    have hf₂ : s₂.frames = .throwing q :: .java g :: U.frames.tail := hend
    have hW' : U.WarmedH s₂.vm := hW₂
    have hs₂ : s₂ = ((({ U with heap := s₂.heap, slotsUsed := s₂.slotsUsed } : State).setVm s₂.vm).setTop g).pushFrame (.throwing q) := by
      refine e3.trans ?_
      rw [hf₂, State.calling_eq h.top, State.setFrames_setFrames, State.pushFrame, State.frames_setTop _ hr', State.setTop_of_frames _ hr', State.setFrames_setFrames, hr]
      rfl
    have hsame : U.sameButNew ({ U with heap := s₂.heap, slotsUsed := s₂.slotsUsed } : State) L mc ms := by
      refine ⟨?_, q2, q3, q4, q5, q6⟩
      obtain ⟨t, ht, -⟩ := State.frames_cons hr
      show ({ U with heap := s₂.heap, slotsUsed := s₂.slotsUsed } : State) = { U.setFrames U.frames with heap := s₂.heap, slotsUsed := s₂.slotsUsed }
      rw [State.setFrames_self ht]
    subst hg
    refine Or.inr ⟨q, ⟨(({ U with heap := s₂.heap, slotsUsed := s₂.slotsUsed } : State).setVm s₂.vm), Ls ++ L, c0 + mc, s0 + ms⟩,
      ⟨X.admits, X.cas, X.clock, X.frames, X.room, X.hears, X.method, X.code, (X.here.setHeapUsed s₂.heap s₂.slotsUsed).setVm hW'.alike, X.tail, State.WarmedH.trans X.warmed hW', X.limits, X.bytes, X.same.trans (hsame.setVm s.vm)⟩,
      ⟨g, mk, s₂, L, E, ce, rfl, rfl, hx, hce, hcv, hcl, rfl, hL, rfl, rfl⟩, ?_⟩
    show Steps p.tables e below _ (((({ U with heap := s₂.heap, slotsUsed := s₂.slotsUsed } : State).setVm s₂.vm).setTop g).pushFrame (.throwing q))
    rw [← hs₂]
    exact hsteps
end Payer
section Calls
variable {p : Program} {l : Launch} {e : Env} {R : Room} {s : State} {m : MethodId} {args : Array Value} {below : List Frame} {meth : Method} {c : Code} {T : State} {locs : List Loc} {cells slots : Nat}
theorem vx_callV (X : Stand p l e R s m args below meth c T locs cells slots) (hexec : p.tables.exec = Jvm.exec) {own C : String} {index : Nat} {y : MethodName} {bytes : ByteArray} {maxL : Nat} {ret : Option FieldType}
    (hown : s.vm.findClass own = some m.cls) (hlink : (Cond.methodLink own index y).before args s = true) (hinst : (Cond.instanceMethod y).before args s = true) (hsel : (Cond.selects C y y).before args s = true)
    (hcode : (Cond.code y bytes maxL ret).before args s = true) (hy : y.cls ≠ "java/lang/invoke/MethodHandle" ∧ y.cls ≠ "java/lang/invoke/VarHandle")
    {W9 : Nat} {Pre : Pt → Array Value → Prop} {Post : Pt → Array Value → Option Value → Pt → Prop} {PostX : Pt → Array Value → Addr → Pt → Prop} (hK : vx_Back l R p e below s args y 3 W9 Pre Post PostX)
    {b : Addr} {cellB : Cell} (hcell : T.heap[b]? = some cellB) (hobj : cellB.vm.isStatics = false) (hcls : s.vm.findClass C = some cellB.cls)
    {g : JFrame} (hg : g.method = m) (hsize : g.locals.size = c.maxLocals) {argsL rest : List Value} (hlen : ∀ sig, parseMethodDescriptor y.desc = some sig → argsL.length = sig.parameters.length)
    (hstack : g.stack = argsL.reverse ++ .ref b :: rest) (hW : 2 * g.monitorRoom + (rest.map fun v => v.category).sum ≤ W9) (hdg : decode c.code g.pc = .ok (.invokevirtual index, 3))
    (hpre : ∀ vm₁, s.WarmedH vm₁ → Pre ⟨T.setVm vm₁, locs, cells, slots⟩ (Value.ref b :: argsL).toArray) :
    (∃ (v : Option Value) (vm₁ : Vm) (B : Pt), s.WarmedH vm₁ ∧ Stand p l e R s m args below meth c B.U B.locs B.cells B.slots ∧ Post ⟨T.setVm vm₁, locs, cells, slots⟩ (Value.ref b :: argsL).toArray v B ∧
      ∀ target, Steps p.tables e below (B.U.setTop { g with pc := g.pc + 3, stack := v.toList ++ rest }) target → Steps p.tables e below (T.setTop g) target) ∨
    (∃ (q : Addr) (vm₁ : Vm) (B : Pt), s.WarmedH vm₁ ∧ Stand p l e R s m args below meth c B.U B.locs B.cells B.slots ∧ PostX ⟨T.setVm vm₁, locs, cells, slots⟩ (Value.ref b :: argsL).toArray q B ∧
      Steps p.tables e below (T.setTop g) ((B.U.setTop { g with stack := rest }).pushFrame (.throwing q))) := by
  obtain ⟨mk, methM, hnamed, hmethM, hstM, habM⟩ := Cond.instanceMethod_spec hinst
  obtain ⟨methM', cM, hmethM', -, -, -, -, -, -, hsigM⟩ := Cond.code_spec hnamed hcode
  cases hmethM.symm.trans hmethM'
  obtain ⟨c2, r2, m2, q1, q2, q3, q4, kP, hkP, hkPi⟩ := Cond.selects_spec hsel
  cases hcls.symm.trans q1
  cases (State.methodFound?_of_named hnamed hy).symm.trans q2
  cases hnamed.symm.trans q3
  have hselP : selectMethod e.platform s.vm cellB.cls mk = .method mk := by rw [Launch.admits_selectMethod X.admits]; exact q4
  obtain ⟨vm₁, X₁, hstep₁⟩ := X.invokevirtual hexec hown hlink hnamed hmethM hstM hkP hkPi hy (a := b) (cell := cellB) hcell
    (fun z h => by rw [h] at hobj; cases hobj) hselP hmethM habM hkP hkPi (g := g) hg (argsL := argsL) (rest := rest) (hlen _ hsigM) hstack hdg
  rcases hK m meth c ⟨T.setVm vm₁, locs, cells, slots⟩ { g with stack := rest } (.invokevirtual index) mk (Value.ref b :: argsL).toArray X₁ hg hsize hdg hW (X₁.named hnamed) (hpre vm₁ X₁.warmed) with ⟨v, B, X', hpost, hsteps⟩ | ⟨q, B, X', hpost, hsteps⟩
  · exact Or.inl ⟨v, vm₁, B, X₁.warmed, X', hpost, fun target h => hstep₁ _ fun acts => by rw [doInvoke_state]; exact hsteps.trans h⟩
  · exact Or.inr ⟨q, vm₁, B, X₁.warmed, X', hpost, hstep₁ _ fun acts => by rw [doInvoke_state]; exact hsteps⟩
theorem vx_callS (X : Stand p l e R s m args below meth c T locs cells slots) (hexec : p.tables.exec = Jvm.exec) {own : String} {index : Nat} {y : MethodName} {bytes : ByteArray} {maxL : Nat} {ret : Option FieldType}
    (hown : s.vm.findClass own = some m.cls) (hlink : (Cond.methodLink own index y).before args s = true) (hstat : (Cond.static y).before args s = true) (hinit : (Cond.initialized y.cls).before args s = true)
    (hcode : (Cond.code y bytes maxL ret).before args s = true) (hy : y.cls ≠ "java/lang/invoke/MethodHandle" ∧ y.cls ≠ "java/lang/invoke/VarHandle")
    {W9 : Nat} {Pre : Pt → Array Value → Prop} {Post : Pt → Array Value → Option Value → Pt → Prop} {PostX : Pt → Array Value → Addr → Pt → Prop} (hK : vx_Back l R p e below s args y 3 W9 Pre Post PostX)
    {g : JFrame} (hg : g.method = m) (hsize : g.locals.size = c.maxLocals) {argsL rest : List Value} (hlen : ∀ sig, parseMethodDescriptor y.desc = some sig → argsL.length = sig.parameters.length)
    (hstack : g.stack = argsL.reverse ++ rest) (hW : 2 * g.monitorRoom + (rest.map fun v => v.category).sum ≤ W9) (hdg : decode c.code g.pc = .ok (.invokestatic index, 3))
    (hpre : ∀ vm₁, s.WarmedH vm₁ → Pre ⟨T.setVm vm₁, locs, cells, slots⟩ argsL.toArray) :
    (∃ (v : Option Value) (vm₁ : Vm) (B : Pt), s.WarmedH vm₁ ∧ Stand p l e R s m args below meth c B.U B.locs B.cells B.slots ∧ Post ⟨T.setVm vm₁, locs, cells, slots⟩ argsL.toArray v B ∧
      ∀ target, Steps p.tables e below (B.U.setTop { g with pc := g.pc + 3, stack := v.toList ++ rest }) target → Steps p.tables e below (T.setTop g) target) ∨
    (∃ (q : Addr) (vm₁ : Vm) (B : Pt), s.WarmedH vm₁ ∧ Stand p l e R s m args below meth c B.U B.locs B.cells B.slots ∧ PostX ⟨T.setVm vm₁, locs, cells, slots⟩ argsL.toArray q B ∧
      Steps p.tables e below (T.setTop g) ((B.U.setTop { g with stack := rest }).pushFrame (.throwing q))) := by
  obtain ⟨mk, hnamed⟩ := Cond.code_named hcode
  obtain ⟨methM, cM, hmethM, -, -, -, -, -, -, hsigM⟩ := Cond.code_spec hnamed hcode
  have hstatic : methM.isStatic = true := Cond.static_spec hnamed hmethM hstat
  obtain ⟨kP, hkP, -⟩ := className_of_methodNamed hnamed
  have hinitP : kP.init = .initialized := Cond.initialized_spec (findClass_of_methodNamed hnamed) hkP hinit
  obtain ⟨vm₁, X₁, hstep₁⟩ := X.invokestatic hexec hown hlink hnamed hmethM hstatic hkP hinitP hy (g := g) hg (argsL := argsL) (rest := rest) (hlen _ hsigM) hstack hdg
  rcases hK m meth c ⟨T.setVm vm₁, locs, cells, slots⟩ { g with stack := rest } (.invokestatic index) mk argsL.toArray X₁ hg hsize hdg hW (X₁.named hnamed) (hpre vm₁ X₁.warmed) with ⟨v, B, X', hpost, hsteps⟩ | ⟨q, B, X', hpost, hsteps⟩
  · exact Or.inl ⟨v, vm₁, B, X₁.warmed, X', hpost, fun target h => hstep₁ _ fun acts => by rw [doInvoke_state]; exact hsteps.trans h⟩
  · exact Or.inr ⟨q, vm₁, B, X₁.warmed, X', hpost, hstep₁ _ fun acts => by rw [doInvoke_state]; exact hsteps⟩
end Calls
theorem vx_cls {s : State} {T : State} {vm₁ : Vm} {E : String} {k : ClassId} (hW : s.WarmedH vm₁) (h : (T.setVm vm₁).vm.findClass E = some k) : s.vm.findClass E = some k := by
  have h1 : vm₁.findClass E = some k := h
  rw [hW.alike.findClass] at h1
  exact h1
/-- the method's frame g, with q thrown over it -/
def vx_W (p : Program) (l : Launch) (e : Env) (R : Room) (s : State) (m : MethodId) (args : Array Value) (below : List Frame) (meth : Method) (c : Code) (H : Heap) (locs : List Loc) (cells slots : Nat) (Q : State → Prop) (g : JFrame) (q : Addr) : Prop :=
  ∀ T : State, T.heap = H → Stand p l e R s m args below meth c T locs cells slots → ∃ t, Steps p.tables e below ((T.setTop g).pushFrame (.throwing q)) t ∧ Q t
def vx_Run (p : Program) (l : Launch) (e : Env) (R : Room) (s : State) (m : MethodId) (args : Array Value) (below : List Frame) (meth : Method) (c : Code) (H : Heap) (locs : List Loc) (cells slots mc ms : Nat) (g : JFrame) (rest : List Value) (Qa : State → Outcome → State → Prop) (XC : String → State → State → Prop) (free : Addr → Prop) : Prop :=
  ∀ T : State, T.heap = H → Stand p l e R s m args below meth c T locs cells slots →
    (∃ (v : Option Value) (st₀ t T' : State) (L : List Loc), st₀.heap = H ∧ Stand p l e R s m args below meth c T' (locs ++ L) (cells + mc) (slots + ms) ∧ (∀ q ∈ L, free q.base) ∧ T'.heap = t.heap ∧ T'.vm = t.vm ∧ Qa st₀ (.returned v) t ∧
      Goes p e below T g T' { g with pc := g.pc + 3, stack := v.toList ++ rest }) ∨
    (∃ (q : Addr) (st₀ t T' : State) (L : List Loc) (E : String) (ce : Cell), st₀.heap = H ∧ Stand p l e R s m args below meth c T' (locs ++ L) (cells + mc) (slots + ms) ∧ (∀ z ∈ L, free z.base) ∧ T'.heap = t.heap ∧ T'.vm = t.vm ∧ XC E st₀ t ∧ t.heap[q]? = some ce ∧ ce.vm = .none ∧ s.vm.findClass E = some ce.cls ∧
      Steps p.tables e below (T.setTop g) ((T'.setTop { g with stack := rest }).pushFrame (.throwing q)))
def vx_X {S : Type} (px : S → Prop) (B : String → S → State → Prop) (A : Nat → Prop) : String → State → State → Prop := fun E st t => ∃ u : S, px u ∧ B E u t ∧ va_F A st t
section Runs
variable {p : Program} {l : Launch} {e : Env} {R : Room} {s : State} {m : MethodId} {args : Array Value} {below : List Frame} {meth : Method} {c : Code} {H : Heap} {locs : List Loc} {cells slots : Nat}
variable {y : MethodName} {bytes cc : ByteArray} {maxL nL mc ms n index : Nat} {ret : Option FieldType} {ws : List Cond} {rm : Room} {Pc : Array Value → State → Prop} {Qc : Array Value → State → Outcome → State → Prop} {XC : String → State → State → Prop} {free : Addr → Prop} {Ts : List Cond} {own C : String} {b : Addr} {As rest : List Value} {g : JFrame}
theorem vx_callBack (cb : CallB R s args own index y bytes maxL ret ws rm mc ms n) (hM : vx_Met l y ws rm Pc Qc XC mc ms free) (hbl : FrameBlind Pc) : vx_Back l R p e below s args y 3 8 (PreOf R mc ms Pc) (PostOf Qc mc ms free) (vx_Post XC mc ms free) := by
  obtain ⟨hrc, hrs, hfr, hlo, hws, hcw, -, hini, -⟩ := cb
  exact vx_back (bytes := bytes) (maxL := maxL) (ret := ret) hM hbl hrc hrs hfr hlo hws hcw (fun a' U hW => word_at hW (Or.inl (by first | rfl | simp [Cond.onTables, Cond.keeps, Cond.steady])) hini)
theorem vx_runV (S : CallFix p m c cc nL s args Ts own) (hM : vx_Met l y ws rm Pc Qc XC mc ms free) (cw : CallW R s args own C index y bytes maxL ret ws rm mc ms n) (hp : PreV s H C b Pc As)
    (hg : g.method = m) (hn : As.length = n) (hsize : g.locals.size = nL) (hstack : g.stack = As.reverse ++ .ref b :: rest) (hW : 2 * g.monitorRoom + (rest.map fun v => v.category).sum ≤ 8) (hdg : decode cc g.pc = .ok (.invokevirtual index, 3)) (hf : cells + mc ≤ R.cells ∧ slots + ms ≤ R.slots) :
    vx_Run p l e R s m args below meth c H locs cells slots mc ms g rest (Qc (Value.ref b :: As).toArray) XC free := by
  have hK : vx_Back l R p e below s args y 3 8 (PreOf R mc ms Pc) (PostOf Qc mc ms free) (vx_Post XC mc ms free) := vx_callBack cw.1 hM hp.1
  obtain ⟨⟨-, -, -, -, -, -, hcode, -, hy, hlen, hl⟩, hin, hse⟩ := cw
  obtain ⟨hx, hb, hml, ho, -⟩ := S
  obtain ⟨-, ⟨cellB, hcB, hoB, hclB⟩, hPc⟩ := hp
  intro T hT X
  rcases vx_callV X hx (C := C) (bytes := bytes) (maxL := maxL) (ret := ret) ho hl hin hse hcode hy hK (by rw [hT]; exact hcB) hoB hclB hg (hsize.trans hml.symm) (argsL := As) (rest := rest) (fun sig h => hn.trans (hlen sig h)) hstack hW (by rw [hb]; exact hdg)
    (fun vm₁ hW₁ => ⟨hf.1, hf.2, hPc (T.setVm vm₁) hT hW₁⟩) with ⟨v, vm₁, ⟨U', l2, c2, s2⟩, hW₁, X', ⟨g', mk, t, L, e1, e2, hq, h1, hL, h2, h3⟩, st⟩ | ⟨q, vm₁, ⟨U', l2, c2, s2⟩, hW₁, X', ⟨g', mk, t, L, E, ce, e1, e2, hq, hce, hcv, hcl, h1, hL, h2, h3⟩, st⟩
  · dsimp only [Pt.U, Pt.locs, Pt.cells, Pt.slots] at X' e1 e2 h1 h2 h3 st
    subst h1; subst h2; subst h3
    exact Or.inl ⟨v, (T.setVm vm₁).calling g' mk (Value.ref b :: As).toArray, t, U', L, hT, X', hL, e1, e2, hq, st⟩
  · dsimp only [Pt.U, Pt.locs, Pt.cells, Pt.slots] at X' e1 e2 h1 h2 h3 st hcl
    subst h1; subst h2; subst h3
    exact Or.inr ⟨q, (T.setVm vm₁).calling g' mk (Value.ref b :: As).toArray, t, U', L, E, ce, hT, X', hL, e1, e2, hq, hce, hcv, vx_cls hW₁ hcl, st⟩
theorem vx_runS (S : CallFix p m c cc nL s args Ts own) (hM : vx_Met l y ws rm Pc Qc XC mc ms free) (cw : CallB R s args own index y bytes maxL ret ws rm mc ms n ∧ (Cond.static y).before args s = true) (hp : PreS s H Pc As)
    (hg : g.method = m) (hn : As.length = n) (hsize : g.locals.size = nL) (hstack : g.stack = As.reverse ++ rest) (hW : 2 * g.monitorRoom + (rest.map fun v => v.category).sum ≤ 8) (hdg : decode cc g.pc = .ok (.invokestatic index, 3)) (hf : cells + mc ≤ R.cells ∧ slots + ms ≤ R.slots) :
    vx_Run p l e R s m args below meth c H locs cells slots mc ms g rest (Qc As.toArray) XC free := by
  have hK : vx_Back l R p e below s args y 3 8 (PreOf R mc ms Pc) (PostOf Qc mc ms free) (vx_Post XC mc ms free) := vx_callBack cw.1 hM hp.1
  obtain ⟨⟨-, -, -, -, -, -, hcode, hini, hy, hlen, hl⟩, hstt⟩ := cw
  obtain ⟨hx, hb, hml, ho, -⟩ := S
  intro T hT X
  rcases vx_callS X hx (bytes := bytes) (maxL := maxL) (ret := ret) ho hl hstt hini hcode hy hK hg (hsize.trans hml.symm) (argsL := As) (rest := rest) (fun sig h => hn.trans (hlen sig h)) hstack hW (by rw [hb]; exact hdg)
    (fun vm₁ hW₁ => ⟨hf.1, hf.2, hp.2 (T.setVm vm₁) hT hW₁⟩) with ⟨v, vm₁, ⟨U', l2, c2, s2⟩, hW₁, X', ⟨g', mk, t, L, e1, e2, hq, h1, hL, h2, h3⟩, st⟩ | ⟨q, vm₁, ⟨U', l2, c2, s2⟩, hW₁, X', ⟨g', mk, t, L, E, ce, e1, e2, hq, hce, hcv, hcl, h1, hL, h2, h3⟩, st⟩
  · dsimp only [Pt.U, Pt.locs, Pt.cells, Pt.slots] at X' e1 e2 h1 h2 h3 st
    subst h1; subst h2; subst h3
    exact Or.inl ⟨v, (T.setVm vm₁).calling g' mk As.toArray, t, U', L, hT, X', hL, e1, e2, hq, st⟩
  · dsimp only [Pt.U, Pt.locs, Pt.cells, Pt.slots] at X' e1 e2 h1 h2 h3 st hcl
    subst h1; subst h2; subst h3
    exact Or.inr ⟨q, (T.setVm vm₁).calling g' mk As.toArray, t, U', L, E, ce, hT, X', hL, e1, e2, hq, hce, hcv, vx_cls hW₁ hcl, st⟩
end Runs
section Rows
variable {p : Program} {l : Launch} {e : Env} {R : Room} {s : State} {m : MethodId} {args : Array Value} {below : List Frame} {meth : Method} {c : Code} {H : Heap} {locs : List Loc} {cells slots : Nat} {Q : State → Prop}
variable {mc ms : Nat} {free : Addr → Prop} {A0 A1 : Nat → Prop} {H0 : Heap} {a : Array Value} {pc : Nat} {ls : Array Slot} {st0 rest : List Value}
theorem vx_keep {st₀ t T' : State} {L : List Loc} (h0 : st₀.heap = H) (e1 : T'.heap = t.heap) (hS : va_S A0 H0 H locs) (hA : ∀ q, q < H.size → A1 q → A0 q) (hf : ∀ q, free q → A0 q) (hL : ∀ q ∈ L, free q.base) (hF : va_F A1 st₀ t) :
    H.size ≤ T'.heap.size ∧ (∀ q : Nat, q < H.size → ¬ A1 q → T'.heap[q]? = H[q]?) ∧ va_S A0 H0 T'.heap (locs ++ L) := by
  obtain ⟨hz, hk⟩ := hF
  rw [h0] at hz hk
  exact ⟨by rw [e1]; exact hz, fun q h1 h2 => by rw [e1]; exact hk q h1 h2,
    ⟨Nat.le_trans hS.1 (by rw [e1]; exact hz), fun q h1 h2 => by rw [e1, hk q (Nat.lt_of_lt_of_le h1 hS.1) (fun z => h2 (hA q (Nat.lt_of_lt_of_le h1 hS.1) z))]; exact hS.2.1 q h1 h2, fun q hq => by
      rcases List.mem_append.mp hq with h | h
      · exact hS.2.2 q h
      · exact hf _ (hL q h)⟩⟩
theorem vx_calli {S SX : Type} {post : Int32 → S → Prop} {px : SX → Prop} {B : S → State → Prop} {BX : String → SX → State → Prop} {AX : Nat → Prop} (hr : vx_Run p l e R s m args below meth c H locs cells slots mc ms (F0 m pc ls st0) rest (va_Qi post B A1 a) (vx_X px BX AX) free) (hS : va_S A0 H0 H locs) (hA : ∀ q, q < H.size → A1 q → A0 q) (hf : ∀ q, free q → A0 q) (hAX : ∀ q, q < H.size → AX q → A0 q)
    (kx : ∀ (E : String) (ce : Cell) (q9 : Addr) (u : SX) (t : State) (H1 : Heap) (locs1 : List Loc), t.heap = H1 → s.vm.Alike t.vm → px u → BX E u t → H.size ≤ H1.size → (∀ q : Nat, q < H.size → ¬ AX q → H1[q]? = H[q]?) → va_S A0 H0 H1 locs1 → H1[q9]? = some ce → ce.vm = .none → s.vm.findClass E = some ce.cls → vx_W p l e R s m args below meth c H1 locs1 (cells + mc) (slots + ms) Q (F0 m pc ls rest) q9)
    (kk : ∀ (r : Int32) (u : S) (t : State) (H1 : Heap) (locs1 : List Loc), t.heap = H1 → s.vm.Alike t.vm → post r u → B u t → H.size ≤ H1.size → (∀ q : Nat, q < H.size → ¬ A1 q → H1[q]? = H[q]?) → va_S A0 H0 H1 locs1 → W p l e R s m args below meth c H1 locs1 (cells + mc) (slots + ms) Q (F0 m (pc + 3) ls (.int r :: rest))) : W p l e R s m args below meth c H locs cells slots Q (F0 m pc ls st0) := by
  intro T hT X
  rcases hr T hT X with ⟨v, st₀, t, T', L, h0, X', hL, e1, e2, ⟨⟨r, u, hv, hp, hb⟩, hF⟩, st⟩ | ⟨q, st₀, t, T', L, E, ce, h0, X', hL, e1, e2, ⟨u, hp, hb, hF⟩, hce, hcv, hcl, st⟩
  · cases hv
    obtain ⟨k1, k2, k3⟩ := vx_keep h0 e1 hS hA hf hL hF
    obtain ⟨t2, a1, b1⟩ := kk r u t T'.heap (locs ++ L) e1.symm (by rw [← e2]; exact X'.warmed.alike) hp hb k1 k2 k3 T' rfl X'
    exact ⟨t2, st t2 a1, b1⟩
  · obtain ⟨k1, k2, k3⟩ := vx_keep h0 e1 hS hAX hf hL hF
    obtain ⟨t2, a1, b1⟩ := kx E ce q u t T'.heap (locs ++ L) e1.symm (by rw [← e2]; exact X'.warmed.alike) hp hb k1 k2 k3 (by rw [e1]; exact hce) hcv hcl T' rfl X'
    exact ⟨t2, st.trans a1, b1⟩
theorem vx_calll {S SX : Type} {post : Int64 → S → Prop} {px : SX → Prop} {B : S → State → Prop} {BX : String → SX → State → Prop} {AX : Nat → Prop} (hr : vx_Run p l e R s m args below meth c H locs cells slots mc ms (F0 m pc ls st0) rest (va_Ql post B A1 a) (vx_X px BX AX) free) (hS : va_S A0 H0 H locs) (hA : ∀ q, q < H.size → A1 q → A0 q) (hf : ∀ q, free q → A0 q) (hAX : ∀ q, q < H.size → AX q → A0 q)
    (kx : ∀ (E : String) (ce : Cell) (q9 : Addr) (u : SX) (t : State) (H1 : Heap) (locs1 : List Loc), t.heap = H1 → s.vm.Alike t.vm → px u → BX E u t → H.size ≤ H1.size → (∀ q : Nat, q < H.size → ¬ AX q → H1[q]? = H[q]?) → va_S A0 H0 H1 locs1 → H1[q9]? = some ce → ce.vm = .none → s.vm.findClass E = some ce.cls → vx_W p l e R s m args below meth c H1 locs1 (cells + mc) (slots + ms) Q (F0 m pc ls rest) q9)
    (kk : ∀ (r : Int64) (u : S) (t : State) (H1 : Heap) (locs1 : List Loc), t.heap = H1 → s.vm.Alike t.vm → post r u → B u t → H.size ≤ H1.size → (∀ q : Nat, q < H.size → ¬ A1 q → H1[q]? = H[q]?) → va_S A0 H0 H1 locs1 → W p l e R s m args below meth c H1 locs1 (cells + mc) (slots + ms) Q (F0 m (pc + 3) ls (.long r :: rest))) : W p l e R s m args below meth c H locs cells slots Q (F0 m pc ls st0) := by
  intro T hT X
  rcases hr T hT X with ⟨v, st₀, t, T', L, h0, X', hL, e1, e2, ⟨⟨r, u, hv, hp, hb⟩, hF⟩, st⟩ | ⟨q, st₀, t, T', L, E, ce, h0, X', hL, e1, e2, ⟨u, hp, hb, hF⟩, hce, hcv, hcl, st⟩
  · cases hv
    obtain ⟨k1, k2, k3⟩ := vx_keep h0 e1 hS hA hf hL hF
    obtain ⟨t2, a1, b1⟩ := kk r u t T'.heap (locs ++ L) e1.symm (by rw [← e2]; exact X'.warmed.alike) hp hb k1 k2 k3 T' rfl X'
    exact ⟨t2, st t2 a1, b1⟩
  · obtain ⟨k1, k2, k3⟩ := vx_keep h0 e1 hS hAX hf hL hF
    obtain ⟨t2, a1, b1⟩ := kx E ce q u t T'.heap (locs ++ L) e1.symm (by rw [← e2]; exact X'.warmed.alike) hp hb k1 k2 k3 (by rw [e1]; exact hce) hcv hcl T' rfl X'
    exact ⟨t2, st.trans a1, b1⟩
theorem vx_callf {S SX : Type} {post : UInt32 → S → Prop} {px : SX → Prop} {B : S → State → Prop} {BX : String → SX → State → Prop} {AX : Nat → Prop} (hr : vx_Run p l e R s m args below meth c H locs cells slots mc ms (F0 m pc ls st0) rest (va_Qf post B A1 a) (vx_X px BX AX) free) (hS : va_S A0 H0 H locs) (hA : ∀ q, q < H.size → A1 q → A0 q) (hf : ∀ q, free q → A0 q) (hAX : ∀ q, q < H.size → AX q → A0 q)
    (kx : ∀ (E : String) (ce : Cell) (q9 : Addr) (u : SX) (t : State) (H1 : Heap) (locs1 : List Loc), t.heap = H1 → s.vm.Alike t.vm → px u → BX E u t → H.size ≤ H1.size → (∀ q : Nat, q < H.size → ¬ AX q → H1[q]? = H[q]?) → va_S A0 H0 H1 locs1 → H1[q9]? = some ce → ce.vm = .none → s.vm.findClass E = some ce.cls → vx_W p l e R s m args below meth c H1 locs1 (cells + mc) (slots + ms) Q (F0 m pc ls rest) q9)
    (kk : ∀ (r : UInt32) (u : S) (t : State) (H1 : Heap) (locs1 : List Loc), t.heap = H1 → s.vm.Alike t.vm → post r u → B u t → H.size ≤ H1.size → (∀ q : Nat, q < H.size → ¬ A1 q → H1[q]? = H[q]?) → va_S A0 H0 H1 locs1 → W p l e R s m args below meth c H1 locs1 (cells + mc) (slots + ms) Q (F0 m (pc + 3) ls (.float r :: rest))) : W p l e R s m args below meth c H locs cells slots Q (F0 m pc ls st0) := by
  intro T hT X
  rcases hr T hT X with ⟨v, st₀, t, T', L, h0, X', hL, e1, e2, ⟨⟨r, u, hv, hp, hb⟩, hF⟩, st⟩ | ⟨q, st₀, t, T', L, E, ce, h0, X', hL, e1, e2, ⟨u, hp, hb, hF⟩, hce, hcv, hcl, st⟩
  · cases hv
    obtain ⟨k1, k2, k3⟩ := vx_keep h0 e1 hS hA hf hL hF
    obtain ⟨t2, a1, b1⟩ := kk r u t T'.heap (locs ++ L) e1.symm (by rw [← e2]; exact X'.warmed.alike) hp hb k1 k2 k3 T' rfl X'
    exact ⟨t2, st t2 a1, b1⟩
  · obtain ⟨k1, k2, k3⟩ := vx_keep h0 e1 hS hAX hf hL hF
    obtain ⟨t2, a1, b1⟩ := kx E ce q u t T'.heap (locs ++ L) e1.symm (by rw [← e2]; exact X'.warmed.alike) hp hb k1 k2 k3 (by rw [e1]; exact hce) hcv hcl T' rfl X'
    exact ⟨t2, st.trans a1, b1⟩
theorem vx_calld {S SX : Type} {post : UInt64 → S → Prop} {px : SX → Prop} {B : S → State → Prop} {BX : String → SX → State → Prop} {AX : Nat → Prop} (hr : vx_Run p l e R s m args below meth c H locs cells slots mc ms (F0 m pc ls st0) rest (va_Qd post B A1 a) (vx_X px BX AX) free) (hS : va_S A0 H0 H locs) (hA : ∀ q, q < H.size → A1 q → A0 q) (hf : ∀ q, free q → A0 q) (hAX : ∀ q, q < H.size → AX q → A0 q)
    (kx : ∀ (E : String) (ce : Cell) (q9 : Addr) (u : SX) (t : State) (H1 : Heap) (locs1 : List Loc), t.heap = H1 → s.vm.Alike t.vm → px u → BX E u t → H.size ≤ H1.size → (∀ q : Nat, q < H.size → ¬ AX q → H1[q]? = H[q]?) → va_S A0 H0 H1 locs1 → H1[q9]? = some ce → ce.vm = .none → s.vm.findClass E = some ce.cls → vx_W p l e R s m args below meth c H1 locs1 (cells + mc) (slots + ms) Q (F0 m pc ls rest) q9)
    (kk : ∀ (r : UInt64) (u : S) (t : State) (H1 : Heap) (locs1 : List Loc), t.heap = H1 → s.vm.Alike t.vm → post r u → B u t → H.size ≤ H1.size → (∀ q : Nat, q < H.size → ¬ A1 q → H1[q]? = H[q]?) → va_S A0 H0 H1 locs1 → W p l e R s m args below meth c H1 locs1 (cells + mc) (slots + ms) Q (F0 m (pc + 3) ls (.double r :: rest))) : W p l e R s m args below meth c H locs cells slots Q (F0 m pc ls st0) := by
  intro T hT X
  rcases hr T hT X with ⟨v, st₀, t, T', L, h0, X', hL, e1, e2, ⟨⟨r, u, hv, hp, hb⟩, hF⟩, st⟩ | ⟨q, st₀, t, T', L, E, ce, h0, X', hL, e1, e2, ⟨u, hp, hb, hF⟩, hce, hcv, hcl, st⟩
  · cases hv
    obtain ⟨k1, k2, k3⟩ := vx_keep h0 e1 hS hA hf hL hF
    obtain ⟨t2, a1, b1⟩ := kk r u t T'.heap (locs ++ L) e1.symm (by rw [← e2]; exact X'.warmed.alike) hp hb k1 k2 k3 T' rfl X'
    exact ⟨t2, st t2 a1, b1⟩
  · obtain ⟨k1, k2, k3⟩ := vx_keep h0 e1 hS hAX hf hL hF
    obtain ⟨t2, a1, b1⟩ := kx E ce q u t T'.heap (locs ++ L) e1.symm (by rw [← e2]; exact X'.warmed.alike) hp hb k1 k2 k3 (by rw [e1]; exact hce) hcv hcl T' rfl X'
    exact ⟨t2, st.trans a1, b1⟩
theorem vx_callv {S SX : Type} {post : S → Prop} {px : SX → Prop} {B : S → State → Prop} {BX : String → SX → State → Prop} {AX : Nat → Prop} (hr : vx_Run p l e R s m args below meth c H locs cells slots mc ms (F0 m pc ls st0) rest (va_Qv post B A1 a) (vx_X px BX AX) free) (hS : va_S A0 H0 H locs) (hA : ∀ q, q < H.size → A1 q → A0 q) (hf : ∀ q, free q → A0 q) (hAX : ∀ q, q < H.size → AX q → A0 q)
    (kx : ∀ (E : String) (ce : Cell) (q9 : Addr) (u : SX) (t : State) (H1 : Heap) (locs1 : List Loc), t.heap = H1 → s.vm.Alike t.vm → px u → BX E u t → H.size ≤ H1.size → (∀ q : Nat, q < H.size → ¬ AX q → H1[q]? = H[q]?) → va_S A0 H0 H1 locs1 → H1[q9]? = some ce → ce.vm = .none → s.vm.findClass E = some ce.cls → vx_W p l e R s m args below meth c H1 locs1 (cells + mc) (slots + ms) Q (F0 m pc ls rest) q9)
    (kk : ∀ (u : S) (t : State) (H1 : Heap) (locs1 : List Loc), t.heap = H1 → s.vm.Alike t.vm → post u → B u t → H.size ≤ H1.size → (∀ q : Nat, q < H.size → ¬ A1 q → H1[q]? = H[q]?) → va_S A0 H0 H1 locs1 → W p l e R s m args below meth c H1 locs1 (cells + mc) (slots + ms) Q (F0 m (pc + 3) ls (rest))) : W p l e R s m args below meth c H locs cells slots Q (F0 m pc ls st0) := by
  intro T hT X
  rcases hr T hT X with ⟨v, st₀, t, T', L, h0, X', hL, e1, e2, ⟨⟨u, hv, hp, hb⟩, hF⟩, st⟩ | ⟨q, st₀, t, T', L, E, ce, h0, X', hL, e1, e2, ⟨u, hp, hb, hF⟩, hce, hcv, hcl, st⟩
  · cases hv
    obtain ⟨k1, k2, k3⟩ := vx_keep h0 e1 hS hA hf hL hF
    obtain ⟨t2, a1, b1⟩ := kk u t T'.heap (locs ++ L) e1.symm (by rw [← e2]; exact X'.warmed.alike) hp hb k1 k2 k3 T' rfl X'
    exact ⟨t2, st t2 a1, b1⟩
  · obtain ⟨k1, k2, k3⟩ := vx_keep h0 e1 hS hAX hf hL hF
    obtain ⟨t2, a1, b1⟩ := kx E ce q u t T'.heap (locs ++ L) e1.symm (by rw [← e2]; exact X'.warmed.alike) hp hb k1 k2 k3 (by rw [e1]; exact hce) hcv hcl T' rfl X'
    exact ⟨t2, st.trans a1, b1⟩
/-- caught by the row x of this method's table; the rows ahead don't take it -/
theorem vx_catch {own name : String} {E : String} {ce : Cell} {q : Addr} (hown : s.vm.findClass own = some m.cls) (pre : List ExceptionTableEntry) (x : ExceptionTableEntry) (suf : List ExceptionTableEntry) (hsplit : c.exceptionTable.toList = pre ++ x :: suf)
    (hpass : ∀ z ∈ pre, covers z pc = false ∨ (z.catchType ≠ 0 ∧ ∃ nm : String, (Cond.classLink own z.catchType nm).before args s = true ∧ va_Nc E nm s)) (hx : covers x pc = true) (h0 : x.catchType ≠ 0)
    (hlink : (Cond.classLink own x.catchType name).before args s = true) (hcast : (Cond.castable E name).before args s = true) (hcell : H[q]? = some ce) (hv : ce.vm = .none) (hcl : s.vm.findClass E = some ce.cls)
    (kk : W p l e R s m args below meth c H locs cells slots Q (F0 m x.handlerPc ls [.ref q])) : vx_W p l e R s m args below meth c H locs cells slots Q (F0 m pc ls rest) q := by
  intro T hT X
  have hpl : e.platform.magicAccessors = ({} : Platform).magicAccessors := by rw [X.admits.platform]
  obtain ⟨c3, c4, hc3, hc4, hasg⟩ := Cond.castable_spec hcast
  cases Option.some.inj (hc3.symm.trans hcl)
  obtain ⟨c5, hc5, hcl5⟩ := Cond.classLink_spec hown hlink e.platform hpl
  cases Option.some.inj (hc4.symm.trans hc5)
  obtain ⟨vm', X', st⟩ := X.thenCaughtThrough q (g := F0 m pc ls rest) rfl (Steps.refl _) (by rw [hT]; exact hcell) (by rw [hv]; rfl) (by obtain ⟨k9, h9, -⟩ := Vm.findClass_spec hcl; exact ⟨k9, h9⟩) pre x suf hsplit
    (fun z hz => by
      rcases hpass z hz with h | ⟨hz0, nm, hl1, hn1⟩
      · exact Or.inl h
      · obtain ⟨c6, hc6, hcl6⟩ := Cond.classLink_spec hown hl1 e.platform hpl
        obtain ⟨a8, b8, h1, h2, h3⟩ := hn1
        cases Option.some.inj (h1.symm.trans hcl)
        cases Option.some.inj (h2.symm.trans hc6)
        exact Or.inr ⟨hz0, _, hcl6, h3⟩) hx (Or.inr ⟨h0, c4, hcl5, hasg⟩)
  obtain ⟨t, a1, b1⟩ := kk (T.setVm vm') hT X'
  exact ⟨t, st.trans a1, b1⟩
end Rows
section Ends
variable {p : Program} {l : Launch} {e : Env} {R : Room} {s : State} {m : MethodId} {args : Array Value} {below : List Frame} {meth : Method} {c : Code} {H : Heap} {locs : List Loc} {cells slots : Nat} {Q : State → Prop}
variable {mc ms : Nat} {free : Addr → Prop} {A0 A1 : Nat → Prop} {H0 : Heap} {a : Array Value} {ls : Array Slot} {st0 rest : List Value}
variable {Qc : Array Value → State → Outcome → State → Prop} {XC : String → State → State → Prop}
/-- what a body that may throw owes at its end -/
def vx_MQ (below : List Frame) (Qc : Array Value → State → Outcome → State → Prop) (XC : String → State → State → Prop) (a : Array Value) (s : State) (mc ms : Nat) (free : Addr → Prop) : State → Prop := fun t =>
  ∃ o, t.status = .running ∧ Ended t below o ∧ vx_Q Qc XC mc ms free a s o t
theorem vx_ret {g : JFrame} {mc ms : Nat} (k : W p l e R s m args below meth c H locs cells slots (MQ below Qc args s mc ms free) g) : W p l e R s m args below meth c H locs cells slots (vx_MQ below Qc XC args s mc ms free) g := by
  intro T hT X
  obtain ⟨t, a1, o, b1, b2, b3, b4⟩ := k T hT X
  exact ⟨t, a1, o, b1, b2, Or.inl ⟨b3, b4⟩⟩
/-- not caught here: it goes on to the caller -/
theorem vx_widen {g : JFrame} {q : Addr} {k n : Nat} (h1 : cells ≤ k) (h2 : slots ≤ n) (kk : vx_W p l e R s m args below meth c H locs k n Q g q) : vx_W p l e R s m args below meth c H locs cells slots Q g q := fun T hT X => kk T hT (stand_widen X h1 h2)
theorem vx_out {pc : Nat} {E : String} {ce : Cell} {q : Addr} {mc ms : Nat} (hout : ∀ x ∈ c.exceptionTable.toList, covers x pc = false) (hlocks : meth.locks = false) (hcell : H[q]? = some ce) (hv : ce.vm = .none) (hcl : s.vm.findClass E = some ce.cls)
    (hx : ∀ t : State, t.heap = H → s.vm.Alike t.vm → XC E s t) (hf : ∀ z ∈ locs, free z.base) (hc : cells ≤ mc) (hs : slots ≤ ms) :
    vx_W p l e R s m args below meth c H locs cells slots (vx_MQ below Qc XC args s mc ms free) (F0 m pc ls rest) q := by
  intro T hT X
  obtain ⟨st1, hrun, hend, hW, hsm⟩ := X.leaveThrown q (g := F0 m pc ls rest) rfl rfl rfl hout hlocks
  have hcell9 : (T.setFrames (.throwing q :: below)).heap[q]? = some ce := by
    show T.heap[q]? = some ce
    rw [hT]; exact hcell
  exact ⟨_, st1, .threw q, hrun, hend, Or.inr ⟨q, rfl, E, ce, locs, hx _ hT hW.alike, hcell9, hv, hcl, hW, hsm.mono hc hs, hf⟩⟩
theorem vx_frame {U : State} {k n : Nat} (h : s.sameButNew ({ U with vm := s.vm } : State) locs k n) : s.heap.size ≤ U.heap.size ∧ ∀ q : Nat, q < s.heap.size → (∀ z ∈ locs, z.base ≠ q) → U.heap[q]? = s.heap[q]? := by
  obtain ⟨-, h2, -, -, -, h6⟩ := h
  refine ⟨h2, fun q hq hz => ?_⟩
  obtain ⟨c9, e1, e2, e3, e4⟩ := h6 q _ (Array.getElem?_eq_getElem hq)
  have hs : c9.slots = (s.heap[q]).slots := Array.ext_getElem? fun i => e4 i fun hm => hz _ hm rfl
  have h9 : c9 = s.heap[q] := by
    rw [hs] at e2
    exact e2
  have e5 : U.heap[q]? = some c9 := e1
  rw [e5, h9, Array.getElem?_eq_getElem hq]
/-- the words of a throw but the four that speak of the heap -/
def vx_no (w : Cond) : Bool := decide (w ≠ .isRef (.static Bundle.tN "UNASSIGNED_STACK" Bundle.steD)) && decide (w ≠ .isRef (.static Bundle.tN "SUPPRESSED_SENTINEL" Bundle.listD)) && decide (w ≠ .laysStatic Bundle.tN "UNASSIGNED_STACK" Bundle.steD) && decide (w ≠ .laysStatic Bundle.tN "SUPPRESSED_SENTINEL" Bundle.listD)
def vx_at0 (own : String) (ic : Nat) (X : String) (names : List String) : List Cond := (Bundle.ownAtoms0 own ic X names).filter vx_no
def vx_atS (own : String) (ic : Nat) (X : String) (names : List String) : List Cond := (Bundle.ownAtoms own ic X names).filter vx_no
/-- a word that the tables alone decide, or a good one -/
def vx_ot (w : Cond) : Bool := w.onTables || goodWord w
theorem vx_ot_at {args a' : Array Value} {s U : State} {w : Cond} (hW : s.WarmedH U.vm) (hvm : s.vm = U.vm) (hg : vx_ot w = true) (h : w.before args s = true) : w.before a' U = true := by
  simp only [vx_ot, Bool.or_eq_true] at hg
  rcases hg with hg | hg
  · exact va_tabs hg hvm h
  · exact word_at hW (good_of_word hg) h
/-- a list's words: the good ones out of the method's own list, the others by premises of their own -/
theorem vx_hat {args : Array Value} {s : State} {L B : List Cond} (h1 : ∀ w ∈ L.filter goodWord, w.before args s = true) (h2 : ∀ w ∈ L.filter (fun w => !goodWord w), w ∈ B) (h3 : ∀ w ∈ B, w.before args s = true) : ∀ w ∈ L, w.before args s = true := by
  intro w hw
  by_cases g : goodWord w = true
  · exact h1 w (List.mem_filter.mpr ⟨hw, g⟩)
  · refine h3 w (h2 w (List.mem_filter.mpr ⟨hw, ?_⟩))
    show (!goodWord w) = true
    cases hgw : goodWord w
    · rfl
    · exact absurd hgw g
theorem vx_c {args : Array Value} {s : State} {w : Cond} {B : List Cond} (h : w.before args s = true) (t : ∀ w ∈ B, w.before args s = true) : ∀ w' ∈ w :: B, w'.before args s = true := fun w' h' => (List.mem_cons.mp h').elim (fun e => by rw [e]; exact h) (t w')
theorem vx_n {args : Array Value} {s : State} : ∀ w ∈ ([] : List Cond), w.before args s = true := fun _ h => nomatch h
theorem vx_own {args : Array Value} {s : State} {L : List Cond} (h1 : ∀ w ∈ L.filter vx_no, w.before args s = true)
    (hU : (Cond.isRef (.static Bundle.tN "UNASSIGNED_STACK" Bundle.steD)).before args s = true) (hN : (Cond.isRef (.static Bundle.tN "SUPPRESSED_SENTINEL" Bundle.listD)).before args s = true)
    (lU : (Cond.laysStatic Bundle.tN "UNASSIGNED_STACK" Bundle.steD).before args s = true) (lN : (Cond.laysStatic Bundle.tN "SUPPRESSED_SENTINEL" Bundle.listD).before args s = true) : ∀ w ∈ L, w.before args s = true := by
  intro w hw
  by_cases e1 : w = .isRef (.static Bundle.tN "UNASSIGNED_STACK" Bundle.steD)
  · rw [e1]; exact hU
  · by_cases e2 : w = .isRef (.static Bundle.tN "SUPPRESSED_SENTINEL" Bundle.listD)
    · rw [e2]; exact hN
    · by_cases e3 : w = .laysStatic Bundle.tN "UNASSIGNED_STACK" Bundle.steD
      · rw [e3]; exact lU
      · by_cases e4 : w = .laysStatic Bundle.tN "SUPPRESSED_SENTINEL" Bundle.listD
        · rw [e4]; exact lN
        · exact h1 w (List.mem_filter.mpr ⟨hw, by unfold vx_no; rw [decide_eq_true e1, decide_eq_true e2, decide_eq_true e3, decide_eq_true e4]; rfl⟩)
/-- where a static field lies, its class's statics cell in H -/
def vx_L (C n d : String) (A : Nat → Prop) (U : State) (H : Heap) : Prop := ∃ (c : ClassId) (k : Class) (i : Nat) (f : Field) (a : Nat) (cell : Cell), U.vm.findClass C = some c ∧ U.fieldFound? C n d = some (c, k, i, f) ∧ f.isStatic = true ∧ k.statics = some a ∧ H[a]? = some cell ∧ cell.vm.isStatics = true ∧ cell.cls = c ∧ f.slot < cell.slots.size ∧ k.staticTypes[f.slot]? = some f.type ∧ ¬ A a
theorem vx_L.moved {C n d : String} {A : Nat → Prop} {u U : State} {H : Heap} (hvm : u.vm.Alike U.vm) (h : vx_L C n d A u H) : vx_L C n d A U H := by
  obtain ⟨c, k, i, f, a, cell, h1, h2, h3, h4, h5, h6, h7, h8, h9, h10⟩ := h
  obtain ⟨k', hi', he⟩ := State.fieldFound?_setVm hvm h2
  exact ⟨c, k', i, f, a, cell, by rw [hvm.findClass]; exact h1, hi', h3, by rw [he]; exact h4, h5, h6, h7, h8, by rw [he]; exact h9, h10⟩
theorem vx_L.kept {C n d : String} {A : Nat → Prop} {U : State} {H H1 : Heap} (h : vx_L C n d A U H) (hq : ∀ a : Nat, a < H.size → ¬ A a → H1[a]? = H[a]?) : vx_L C n d A U H1 := by
  obtain ⟨c, k, i, f, a, cell, h1, h2, h3, h4, h5, h6, h7, h8, h9, h10⟩ := h
  exact ⟨c, k, i, f, a, cell, h1, h2, h3, h4, by rw [hq a (Array.getElem?_eq_some_iff.mp h5).1 h10]; exact h5, h6, h7, h8, h9, h10⟩
theorem vx_L.narrow {C n d : String} {A B : Nat → Prop} {U : State} {H : Heap} (h : vx_L C n d A U H) (hAB : ∀ q, B q → A q) : vx_L C n d B U H := by
  obtain ⟨c, k, i, f, a, cell, h1, h2, h3, h4, h5, h6, h7, h8, h9, h10⟩ := h
  exact ⟨c, k, i, f, a, cell, h1, h2, h3, h4, h5, h6, h7, h8, h9, fun z => h10 (hAB _ z)⟩
theorem vx_L.word {C n d : String} {A : Nat → Prop} {s : State} {args : Array Value} (h : vx_L C n d A s s.heap) : (Cond.laysStatic C n d).before args s = true := by
  obtain ⟨c, k, i, f, a, cell, h1, h2, h3, h4, h5, h6, h7, h8, h9, -⟩ := h
  show (Cond.laysStatic C n d).holds args s none s [] = true
  exact Cond.laysStatic_of h1 h2 h3 h4 h5 h6 h7 h8 h9
/-- .. and what it holds: null or some reference -/
def vx_Zq (C n d : String) (A : Nat → Prop) (U : State) (H : Heap) : Prop := va_Zq C n d A U H ∧ vx_L C n d A U H
theorem vx_Zq.moved {C n d : String} {A : Nat → Prop} {u U : State} {H : Heap} (hvm : u.vm.Alike U.vm) (h : vx_Zq C n d A u H) : vx_Zq C n d A U H := ⟨va_Zq.moved hvm h.1, vx_L.moved hvm h.2⟩
theorem vx_Zq.kept {C n d : String} {A : Nat → Prop} {U : State} {H H1 : Heap} (h : vx_Zq C n d A U H) (hq : ∀ a : Nat, a < H.size → ¬ A a → H1[a]? = H[a]?) : vx_Zq C n d A U H1 := ⟨va_Zq.kept h.1 hq, vx_L.kept h.2 hq⟩
theorem vx_Zq.narrow {C n d : String} {A B : Nat → Prop} {U : State} {H : Heap} (h : vx_Zq C n d A U H) (hAB : ∀ q, B q → A q) : vx_Zq C n d B U H := ⟨va_Zq.narrow h.1 hAB, vx_L.narrow h.2 hAB⟩
theorem vx_Zqof {args : Array Value} {s : State} {C n d : String} {A : Nat → Prop} (hl : (Cond.laysStatic C n d).before args s = true) (hini : (Cond.initialized C).before args s = true) (h : (Cond.isRef (.static C n d)).before args s = true) (hA : ∀ a : Nat, a < s.heap.size → ¬ A a) : vx_Zq C n d A s s.heap := by
  refine ⟨va_Zqof hl hini h hA, ?_⟩
  obtain ⟨c, k, i, f, a, cell, h1, h2, h3, h4, h5, h6, h7, h8, h9⟩ := Cond.laysStatic_spec hl
  exact ⟨c, k, i, f, a, cell, h1, h2, h3, h4, h5, h6, h7, h8, h9, hA a (Array.getElem?_eq_some_iff.mp h5).1⟩
theorem vx_isRef {C n d : String} {v : Value} {A : Nat → Prop} {s : State} {args : Array Value} (h : va_Z C n d v A s s.heap) (hv : v.isRef = true) : (Cond.isRef (.static C n d)).before args s = true := by
  obtain ⟨cf, kf, fi, f, a, cell, h1, h2, h3, h4, h5, h6, h7, -⟩ := h
  have he : (Term.static C n d).eval args s none [] s = some v := by
    simp [Term.eval, State.fieldNamed?, h1, h2, h4, h5, h6, h7]
  simp only [Cond.before, Cond.holds, Cond.value, he]
  cases v <;> simp_all [Value.isRef]
theorem vx_isRefq {C n d : String} {A : Nat → Prop} {s : State} {args : Array Value} (h : va_Zq C n d A s s.heap) : (Cond.isRef (.static C n d)).before args s = true := by
  rcases h with h | ⟨t, h⟩
  · exact vx_isRef h rfl
  · exact vx_isRef h rfl
/-- the same frame, seen from here: as if the method were called anew in this heap -/
theorem vx_rebase {T : State} (X : Stand p l e R s m args below meth c T locs cells slots) {R' : Room} (hf : R'.frames ≤ R.frames) (hl : R'.locals ≤ R.locals) (hc : cells + R'.cells ≤ R.cells) (hs : slots + R'.slots ≤ R.slots) :
    Stand p l e R' ((T.setVm s.vm).setFrames (.invoking m args :: below)) m args below meth c T [] 0 0 := by
  have htop : (T.setVm s.vm).topJava?.isSome := X.here.top
  have hF : ((T.setVm s.vm).setFrames (.invoking m args :: below)).frames = .invoking m args :: below := State.frames_setFrames _ (State.cur_lt_of_top htop)
  obtain ⟨g₀, hg0⟩ := Option.isSome_iff_exists.mp htop
  obtain ⟨r, hr⟩ := State.topJava?_eq_some.mp hg0
  have hl9 : e.platform.stackLimits (T.setVm s.vm).me = e.platform.stackLimits s.me := X.limits
  have hb9 : (T.setVm s.vm).me.stackBytes = s.me.stackBytes := X.bytes
  refine ⟨X.admits, X.cas, X.clock, hF, ?_, X.hears, X.method, X.code, X.here, X.tail, X.warmed, ?_, ?_, ?_⟩
  · have h := X.room
    have hU : ((T.setVm s.vm).setFrames (.invoking m args :: below)).localsInUse = s.localsInUse := by
      rw [State.localsInUse_invoking hF (meth := meth) (c := c) X.method X.code, State.localsInUse_invoking X.frames X.method X.code]
    simp only [State.hasRoom, Bool.and_eq_true, decide_eq_true_eq] at h ⊢
    obtain ⟨⟨⟨⟨h1, h2, h3, h4, h5, h6⟩, h7⟩, h8⟩, h9⟩ := h
    rw [X.frames, List.length_cons] at h2 h3
    have q1 := X.heapSize
    have q2 := X.used
    simp only [hF, hU, List.length_cons, State.stackLimits_setFrames, State.stackBytes_setFrames, hl9, hb9]
    refine ⟨⟨⟨⟨by omega, by omega, by omega, by omega, by omega, h6⟩, ?_⟩, ?_⟩, X.book⟩
    · show T.heap.size + R'.cells ≤ e.platform.maxCells
      omega
    · show T.slotsUsed + R'.slots ≤ e.platform.maxSlots
      omega
  · rw [State.stackLimits_setFrames]; rfl
  · rw [State.stackBytes_setFrames]; rfl
  · refine ⟨?_, Nat.le_refl _, Nat.le_refl _, ?_, ?_, fun a c9 h9 => ⟨c9, h9, rfl, rfl, fun _ _ => rfl⟩⟩
    · obtain ⟨t, ht, -⟩ := State.frames_cons hr
      show T.setVm s.vm = { ((T.setVm s.vm).setFrames (.invoking m args :: below)).setFrames (T.setVm s.vm).frames with heap := T.heap, slotsUsed := T.slotsUsed }
      rw [State.setFrames_setFrames, State.setFrames_self ht]
      rfl
    · show T.slotsUsed = T.slotsUsed + ((T.heap.toList.drop T.heap.size).map (·.slots.size)).sum
      rw [List.drop_eq_nil_of_le (Nat.le_of_eq Array.length_toList)]
      rfl
    · show ((T.heap.toList.drop T.heap.size).map (·.slots.size)).sum ≤ 0
      rw [List.drop_eq_nil_of_le (Nat.le_of_eq Array.length_toList)]
      exact Nat.le_refl _
/-- 'throw new E()': new; dup; invokespecial; athrow -/
theorem vx_throw0 {cc : ByteArray} {pc : Nat} (hexec : p.tables.exec = Jvm.exec) (hb : c.code = cc) (hl : l.stackTraces = false) {own cls : String} {names : List String} {ik ic mc ms : Nat} {A : Nat → Prop}
    (hown : s.vm.findClass own = some m.cls) (hcls : Bundle.fit cls = true) (hnames : ∀ n ∈ names, Bundle.fit n = true)
    (hk : (Cond.classLink own ik cls).before args s = true) (hini : (Cond.initialized cls).before args s = true) (hat : ∀ w ∈ vx_at0 own ic cls names, w.before args s = true)
    (hgood : ∀ w ∈ Cond.classLink own ik cls :: Cond.initialized cls :: vx_at0 own ic cls names, vx_ot w = true)
    (hU : vx_Zq Bundle.tN "UNASSIGNED_STACK" Bundle.steD A s s.heap) (hN : vx_Zq Bundle.tN "SUPPRESSED_SENTINEL" Bundle.listD A s s.heap) (hS : va_S A s.heap H locs) (hsize : ls.size = c.maxLocals)
    (d0 : decode cc pc = .ok (.new ik, 3)) (d3 : decode cc (pc + 3) = .ok (.dup, 1)) (d4 : decode cc (pc + 4) = .ok (.invokespecial ic, 3)) (d7 : decode cc (pc + 7) = .ok (.athrow, 1))
    (hout : ∀ x ∈ c.exceptionTable.toList, covers x (pc + 7) = false)
    (hRframes : names.length + 3 < R.frames) (hRlocals : (rest.map fun v => v.category).sum + (13 * (names.length + 1) + 42) ≤ R.locals) (hRcells : cells + 1 ≤ R.cells) (hRslots : slots + 6 ≤ R.slots) (hlocks : meth.locks = false)
    (hx : ∀ t : State, s.vm.Alike t.vm → H.size ≤ t.heap.size → (∀ q : Nat, q < H.size → t.heap[q]? = H[q]?) → XC cls s t)
    (hf : ∀ z ∈ locs, free z.base) (hc : cells + 1 ≤ mc) (hs : slots + 6 ≤ ms) :
    W p l e R s m args below meth c H locs cells slots (vx_MQ below Qc XC args s mc ms free) (F0 m pc ls rest) := by
  intro T hT X
  have htr : e.platform.stackTraces = false := (show e.platform.stackTraces = l.stackTraces by rw [X.admits.platform]).trans hl
  have Y := vx_rebase X (R' := { frames := R.frames, locals := R.locals, cells := 1, slots := 6 }) (Nat.le_refl _) (Nat.le_refl _) hRcells hRslots
  obtain ⟨s', hA⟩ : ∃ z, z = (T.setVm s.vm).setFrames (.invoking m args :: below) := ⟨_, rfl⟩
  rw [← hA] at Y
  have hvm : s'.vm = s.vm := by rw [hA]; rfl
  have hhp : s'.heap = H := by rw [hA]; exact hT
  have hW0 : s.WarmedH s'.vm := by rw [hvm]; exact State.WarmedH.refl s
  have hat' : ∀ w ∈ vx_at0 own ic cls names, w.before args s' = true := fun w hw => vx_ot_at hW0 hvm.symm (hgood w (List.mem_cons_of_mem _ (List.mem_cons_of_mem _ hw))) (hat w hw)
  have hk' : (Cond.classLink own ik cls).before args s' = true := vx_ot_at hW0 hvm.symm (hgood _ List.mem_cons_self) hk
  have hini' : (Cond.initialized cls).before args s' = true := vx_ot_at hW0 hvm.symm (hgood _ (List.mem_cons_of_mem _ List.mem_cons_self)) hini
  have hU' : vx_Zq Bundle.tN "UNASSIGNED_STACK" Bundle.steD A s' s'.heap := by rw [hhp]; exact vx_Zq.moved hW0.alike (hU.kept hS.2.1)
  have hN' : vx_Zq Bundle.tN "SUPPRESSED_SENTINEL" Bundle.listD A s' s'.heap := by rw [hhp]; exact vx_Zq.moved hW0.alike (hN.kept hS.2.1)
  have h : ∀ w ∈ Bundle.ownAtoms0 own ic cls names, w.before args s' = true := vx_own hat' (vx_isRefq hU'.1) (vx_isRefq hN'.1) hU'.2.word hN'.2.word
  have hown' : s'.vm.findClass own = some m.cls := by rw [hvm]; exact hown
  have hins : (Cond.instantiable cls 6).before args s' = true := h _ (by simp [Bundle.ownAtoms0])
  obtain ⟨vm₁, cX, kX, hfX, hkX, -, -, X₁, st1⟩ := Y.newCold hexec (own := own) (C := cls) (index := ik) (n := 6) hown' hk' hins hini'
    (g := F0 m pc ls rest) rfl (by rw [hb]; exact d0) (Nat.le_refl _) (Nat.le_refl _)
  generalize hT1 : (T.setVm vm₁).pushCell { cls := cX, slots := kX.instanceTypes.map defaultValue, vm := .none } = T1 at X₁ st1
  have hcat : (Value.ref T.heap.size).category = 1 := rfl
  have hcellA : T1.heap[T.heap.size]? = some (freshCell cX kX) := by rw [← hT1]; exact State.heap_pushCell_size _ _
  have d3' : decode c.code (pc + 3) = .ok (.dup, 1) := by rw [hb]; exact d3
  obtain ⟨U, hsteps, hrun, hend, hW, hsame, ce, hce, hO⟩ := X₁.ctorThrow0 hexec htr (own := own) (cls := cls) (names := names) (ic := ic) hown' hcls hnames h (fun x hx => nomatch hx) hfX hkX hcellA (by rw [hhp, hT]; exact Nat.le_refl _)
    (g := { method := m, pc := pc + 4, locals := ls, stack := .ref T.heap.size :: .ref T.heap.size :: rest, locked := none }) rfl hsize rfl rfl (rest := rest) rfl
    (by rw [hb]; exact d4) (by rw [hb]; exact d7) hout hRframes (by simp only [List.map_cons, List.sum_cons, hcat]; omega) hlocks
  obtain ⟨f1, f2⟩ := vx_frame hsame
  rw [hhp] at f1 f2
  have hWs : s.WarmedH U.vm := State.WarmedH.trans hW0 hW
  have hcl : s.vm.findClass cls = some ce.cls := by
    have h9 := hO.cls
    rw [hvm] at h9
    exact h9
  have hall : s.sameButNew ({ U with vm := s.vm } : State) locs mc ms := by
    subst hA
    obtain ⟨e1, e2⟩ := hsame
    rw [State.setFrames_setFrames] at e1
    have h2 : (T.setVm s.vm).sameButNew ({ U with vm := s.vm } : State) [] (0 + 1) (0 + 6) := ⟨e1, e2⟩
    have h3 := X.same.trans h2
    rw [List.append_nil] at h3
    exact h3.mono hc hs
  refine ⟨U, ?_, .threw T.heap.size, hrun, hend, Or.inr ⟨T.heap.size, rfl, cls, ce, locs, hx U hWs.alike f1 (fun q hq => f2 q hq (fun z hz => nomatch hz)), hce, hO.vm, hcl, hWs, hall, hf⟩⟩
  refine st1 _ ?_
  show Steps p.tables e below (T1.setTop { method := m, pc := pc + 3, locals := ls, stack := .ref T.heap.size :: rest, locked := none }) _
  jvm_step X₁.here [X₁.here.top, hexec, d3', Value.category]
  exact hsteps
/-- 'throw new E("text")': new; dup; ldc; invokespecial; athrow -/
theorem vx_throwS {cc : ByteArray} {pc : Nat} (hexec : p.tables.exec = Jvm.exec) (hb : c.code = cc) (hl : l.stackTraces = false) {own cls text : String} {names : List String} {ik is ic mc ms sa : Nat} {A : Nat → Prop}
    (hown : s.vm.findClass own = some m.cls) (hcls : Bundle.fit cls = true) (hnames : ∀ n ∈ names, Bundle.fit n = true)
    (hk : (Cond.classLink own ik cls).before args s = true) (hini : (Cond.initialized cls).before args s = true) (hstr : vk_R own is text sa s) (hat : ∀ w ∈ vx_atS own ic cls names, w.before args s = true)
    (hgood : ∀ w ∈ Cond.classLink own ik cls :: Cond.initialized cls :: vx_atS own ic cls names, vx_ot w = true)
    (hU : vx_Zq Bundle.tN "UNASSIGNED_STACK" Bundle.steD A s s.heap) (hN : vx_Zq Bundle.tN "SUPPRESSED_SENTINEL" Bundle.listD A s s.heap) (hS : va_S A s.heap H locs) (hsize : ls.size = c.maxLocals)
    (d0 : decode cc pc = .ok (.new ik, 3)) (d3 : decode cc (pc + 3) = .ok (.dup, 1)) (d4 : decode cc (pc + 4) = .ok (.ldc is, 2)) (d6 : decode cc (pc + 6) = .ok (.invokespecial ic, 3)) (d9 : decode cc (pc + 9) = .ok (.athrow, 1))
    (hout : ∀ x ∈ c.exceptionTable.toList, covers x (pc + 9) = false)
    (hRframes : names.length + 3 < R.frames) (hRlocals : (rest.map fun v => v.category).sum + (13 * (names.length + 1) + 43) ≤ R.locals) (hRcells : cells + 1 ≤ R.cells) (hRslots : slots + 6 ≤ R.slots) (hlocks : meth.locks = false)
    (hx : ∀ t : State, s.vm.Alike t.vm → H.size ≤ t.heap.size → (∀ q : Nat, q < H.size → t.heap[q]? = H[q]?) → XC cls s t)
    (hf : ∀ z ∈ locs, free z.base) (hc : cells + 1 ≤ mc) (hs : slots + 6 ≤ ms) :
    W p l e R s m args below meth c H locs cells slots (vx_MQ below Qc XC args s mc ms free) (F0 m pc ls rest) := by
  intro T hT X
  have htr : e.platform.stackTraces = false := (show e.platform.stackTraces = l.stackTraces by rw [X.admits.platform]).trans hl
  have Y := vx_rebase X (R' := { frames := R.frames, locals := R.locals, cells := 1, slots := 6 }) (Nat.le_refl _) (Nat.le_refl _) hRcells hRslots
  obtain ⟨s', hA⟩ : ∃ z, z = (T.setVm s.vm).setFrames (.invoking m args :: below) := ⟨_, rfl⟩
  rw [← hA] at Y
  have hvm : s'.vm = s.vm := by rw [hA]; rfl
  have hhp : s'.heap = H := by rw [hA]; exact hT
  have hW0 : s.WarmedH s'.vm := by rw [hvm]; exact State.WarmedH.refl s
  have hat' : ∀ w ∈ vx_atS own ic cls names, w.before args s' = true := fun w hw => vx_ot_at hW0 hvm.symm (hgood w (List.mem_cons_of_mem _ (List.mem_cons_of_mem _ hw))) (hat w hw)
  have hk' : (Cond.classLink own ik cls).before args s' = true := vx_ot_at hW0 hvm.symm (hgood _ List.mem_cons_self) hk
  have hini' : (Cond.initialized cls).before args s' = true := vx_ot_at hW0 hvm.symm (hgood _ (List.mem_cons_of_mem _ List.mem_cons_self)) hini
  have hU' : vx_Zq Bundle.tN "UNASSIGNED_STACK" Bundle.steD A s' s'.heap := by rw [hhp]; exact vx_Zq.moved hW0.alike (hU.kept hS.2.1)
  have hN' : vx_Zq Bundle.tN "SUPPRESSED_SENTINEL" Bundle.listD A s' s'.heap := by rw [hhp]; exact vx_Zq.moved hW0.alike (hN.kept hS.2.1)
  have h : ∀ w ∈ Bundle.ownAtoms own ic cls names, w.before args s' = true := vx_own hat' (vx_isRefq hU'.1) (vx_isRefq hN'.1) hU'.2.word hN'.2.word
  have hown' : s'.vm.findClass own = some m.cls := by rw [hvm]; exact hown
  have hins : (Cond.instantiable cls 6).before args s' = true := h _ (by simp [Bundle.ownAtoms])
  obtain ⟨vm₁, cX, kX, hfX, hkX, -, -, X₁, st1⟩ := Y.newCold hexec (own := own) (C := cls) (index := ik) (n := 6) hown' hk' hins hini'
    (g := F0 m pc ls rest) rfl (by rw [hb]; exact d0) (Nat.le_refl _) (Nat.le_refl _)
  generalize hT1 : (T.setVm vm₁).pushCell { cls := cX, slots := kX.instanceTypes.map defaultValue, vm := .none } = T1 at X₁ st1
  have hcat : (Value.ref T.heap.size).category = 1 := rfl
  have hcellA : T1.heap[T.heap.size]? = some (freshCell cX kX) := by rw [← hT1]; exact State.heap_pushCell_size _ _
  have d3' : decode c.code (pc + 3) = .ok (.dup, 1) := by rw [hb]; exact d3
  have d4' : decode c.code (pc + 4) = .ok (.ldc is, 2) := by rw [hb]; exact d4
  have hstr' : vk_R own is text sa s' := vk_R.warm hW0 hstr
  obtain ⟨U, hsteps, hrun, hend, hW, hsame, ce, hce, hO⟩ := X₁.ctorThrowS hexec htr (own := own) (cls := cls) (names := names) (ic := ic) hown' hcls hnames h (fun x hx => nomatch hx) hfX hkX hcellA (by rw [hhp, hT]; exact Nat.le_refl _) (msg := .ref sa) rfl
    (g := { method := m, pc := pc + 6, locals := ls, stack := .ref sa :: .ref T.heap.size :: .ref T.heap.size :: rest, locked := none }) rfl hsize rfl rfl (rest := rest) rfl
    (by rw [hb]; exact d6) (by rw [hb]; exact d9) hout hRframes (by simp only [List.map_cons, List.sum_cons, hcat]; omega) hlocks
  obtain ⟨f1, f2⟩ := vx_frame hsame
  rw [hhp] at f1 f2
  have hWs : s.WarmedH U.vm := State.WarmedH.trans hW0 hW
  have hcl : s.vm.findClass cls = some ce.cls := by
    have h9 := hO.cls
    rw [hvm] at h9
    exact h9
  have hall : s.sameButNew ({ U with vm := s.vm } : State) locs mc ms := by
    subst hA
    obtain ⟨e1, e2⟩ := hsame
    rw [State.setFrames_setFrames] at e1
    have h2 : (T.setVm s.vm).sameButNew ({ U with vm := s.vm } : State) [] (0 + 1) (0 + 6) := ⟨e1, e2⟩
    have h3 := X.same.trans h2
    rw [List.append_nil] at h3
    exact h3.mono hc hs
  refine ⟨U, ?_, .threw T.heap.size, hrun, hend, Or.inr ⟨T.heap.size, rfl, cls, ce, locs, hx U hWs.alike f1 (fun q hq => f2 q hq (fun z hz => nomatch hz)), hce, hO.vm, hcl, hWs, hall, hf⟩⟩
  refine st1 _ ?_
  show Steps p.tables e below (T1.setTop { method := m, pc := pc + 3, locals := ls, stack := .ref T.heap.size :: rest, locked := none }) _
  jvm_step X₁.here [X₁.here.top, hexec, d3', Value.category]
  exact X₁.ldcString hexec (own := own) (text := text) (index := is) (a := sa) hown' hstr'.1 hstr'.2
    (g := { method := m, pc := pc + 4, locals := ls, stack := .ref T.heap.size :: .ref T.heap.size :: rest, locked := none }) rfl d4' _ hsteps
/-- 'throw new E("text")', the text by a wide index -/
theorem vx_throwSW {cc : ByteArray} {pc : Nat} (hexec : p.tables.exec = Jvm.exec) (hb : c.code = cc) (hl : l.stackTraces = false) {own cls text : String} {names : List String} {ik is ic mc ms sa : Nat} {A : Nat → Prop}
    (hown : s.vm.findClass own = some m.cls) (hcls : Bundle.fit cls = true) (hnames : ∀ n ∈ names, Bundle.fit n = true)
    (hk : (Cond.classLink own ik cls).before args s = true) (hini : (Cond.initialized cls).before args s = true) (hstr : vk_R own is text sa s) (hat : ∀ w ∈ vx_atS own ic cls names, w.before args s = true)
    (hgood : ∀ w ∈ Cond.classLink own ik cls :: Cond.initialized cls :: vx_atS own ic cls names, vx_ot w = true)
    (hU : vx_Zq Bundle.tN "UNASSIGNED_STACK" Bundle.steD A s s.heap) (hN : vx_Zq Bundle.tN "SUPPRESSED_SENTINEL" Bundle.listD A s s.heap) (hS : va_S A s.heap H locs) (hsize : ls.size = c.maxLocals)
    (d0 : decode cc pc = .ok (.new ik, 3)) (d3 : decode cc (pc + 3) = .ok (.dup, 1)) (d4 : decode cc (pc + 4) = .ok (.ldc_w is, 3)) (d7 : decode cc (pc + 7) = .ok (.invokespecial ic, 3)) (d10 : decode cc (pc + 10) = .ok (.athrow, 1))
    (hout : ∀ x ∈ c.exceptionTable.toList, covers x (pc + 10) = false)
    (hRframes : names.length + 3 < R.frames) (hRlocals : (rest.map fun v => v.category).sum + (13 * (names.length + 1) + 43) ≤ R.locals) (hRcells : cells + 1 ≤ R.cells) (hRslots : slots + 6 ≤ R.slots) (hlocks : meth.locks = false)
    (hx : ∀ t : State, s.vm.Alike t.vm → H.size ≤ t.heap.size → (∀ q : Nat, q < H.size → t.heap[q]? = H[q]?) → XC cls s t)
    (hf : ∀ z ∈ locs, free z.base) (hc : cells + 1 ≤ mc) (hs : slots + 6 ≤ ms) :
    W p l e R s m args below meth c H locs cells slots (vx_MQ below Qc XC args s mc ms free) (F0 m pc ls rest) := by
  intro T hT X
  have htr : e.platform.stackTraces = false := (show e.platform.stackTraces = l.stackTraces by rw [X.admits.platform]).trans hl
  have Y := vx_rebase X (R' := { frames := R.frames, locals := R.locals, cells := 1, slots := 6 }) (Nat.le_refl _) (Nat.le_refl _) hRcells hRslots
  obtain ⟨s', hA⟩ : ∃ z, z = (T.setVm s.vm).setFrames (.invoking m args :: below) := ⟨_, rfl⟩
  rw [← hA] at Y
  have hvm : s'.vm = s.vm := by rw [hA]; rfl
  have hhp : s'.heap = H := by rw [hA]; exact hT
  have hW0 : s.WarmedH s'.vm := by rw [hvm]; exact State.WarmedH.refl s
  have hat' : ∀ w ∈ vx_atS own ic cls names, w.before args s' = true := fun w hw => vx_ot_at hW0 hvm.symm (hgood w (List.mem_cons_of_mem _ (List.mem_cons_of_mem _ hw))) (hat w hw)
  have hk' : (Cond.classLink own ik cls).before args s' = true := vx_ot_at hW0 hvm.symm (hgood _ List.mem_cons_self) hk
  have hini' : (Cond.initialized cls).before args s' = true := vx_ot_at hW0 hvm.symm (hgood _ (List.mem_cons_of_mem _ List.mem_cons_self)) hini
  have hU' : vx_Zq Bundle.tN "UNASSIGNED_STACK" Bundle.steD A s' s'.heap := by rw [hhp]; exact vx_Zq.moved hW0.alike (hU.kept hS.2.1)
  have hN' : vx_Zq Bundle.tN "SUPPRESSED_SENTINEL" Bundle.listD A s' s'.heap := by rw [hhp]; exact vx_Zq.moved hW0.alike (hN.kept hS.2.1)
  have h : ∀ w ∈ Bundle.ownAtoms own ic cls names, w.before args s' = true := vx_own hat' (vx_isRefq hU'.1) (vx_isRefq hN'.1) hU'.2.word hN'.2.word
  have hown' : s'.vm.findClass own = some m.cls := by rw [hvm]; exact hown
  have hins : (Cond.instantiable cls 6).before args s' = true := h _ (by simp [Bundle.ownAtoms])
  obtain ⟨vm₁, cX, kX, hfX, hkX, -, -, X₁, st1⟩ := Y.newCold hexec (own := own) (C := cls) (index := ik) (n := 6) hown' hk' hins hini'
    (g := F0 m pc ls rest) rfl (by rw [hb]; exact d0) (Nat.le_refl _) (Nat.le_refl _)
  generalize hT1 : (T.setVm vm₁).pushCell { cls := cX, slots := kX.instanceTypes.map defaultValue, vm := .none } = T1 at X₁ st1
  have hcat : (Value.ref T.heap.size).category = 1 := rfl
  have hcellA : T1.heap[T.heap.size]? = some (freshCell cX kX) := by rw [← hT1]; exact State.heap_pushCell_size _ _
  have d3' : decode c.code (pc + 3) = .ok (.dup, 1) := by rw [hb]; exact d3
  have d4' : decode c.code (pc + 4) = .ok (.ldc_w is, 3) := by rw [hb]; exact d4
  have hstr' : vk_R own is text sa s' := vk_R.warm hW0 hstr
  obtain ⟨U, hsteps, hrun, hend, hW, hsame, ce, hce, hO⟩ := X₁.ctorThrowS hexec htr (own := own) (cls := cls) (names := names) (ic := ic) hown' hcls hnames h (fun x hx => nomatch hx) hfX hkX hcellA (by rw [hhp, hT]; exact Nat.le_refl _) (msg := .ref sa) rfl
    (g := { method := m, pc := pc + 7, locals := ls, stack := .ref sa :: .ref T.heap.size :: .ref T.heap.size :: rest, locked := none }) rfl hsize rfl rfl (rest := rest) rfl
    (by rw [hb]; exact d7) (by rw [hb]; exact d10) hout hRframes (by simp only [List.map_cons, List.sum_cons, hcat]; omega) hlocks
  obtain ⟨f1, f2⟩ := vx_frame hsame
  rw [hhp] at f1 f2
  have hWs : s.WarmedH U.vm := State.WarmedH.trans hW0 hW
  have hcl : s.vm.findClass cls = some ce.cls := by
    have h9 := hO.cls
    rw [hvm] at h9
    exact h9
  have hall : s.sameButNew ({ U with vm := s.vm } : State) locs mc ms := by
    subst hA
    obtain ⟨e1, e2⟩ := hsame
    rw [State.setFrames_setFrames] at e1
    have h2 : (T.setVm s.vm).sameButNew ({ U with vm := s.vm } : State) [] (0 + 1) (0 + 6) := ⟨e1, e2⟩
    have h3 := X.same.trans h2
    rw [List.append_nil] at h3
    exact h3.mono hc hs
  refine ⟨U, ?_, .threw T.heap.size, hrun, hend, Or.inr ⟨T.heap.size, rfl, cls, ce, locs, hx U hWs.alike f1 (fun q hq => f2 q hq (fun z hz => nomatch hz)), hce, hO.vm, hcl, hWs, hall, hf⟩⟩
  refine st1 _ ?_
  show Steps p.tables e below (T1.setTop { method := m, pc := pc + 3, locals := ls, stack := .ref T.heap.size :: rest, locked := none }) _
  jvm_step X₁.here [X₁.here.top, hexec, d3', Value.category]
  exact X₁.ldcStringW hexec (own := own) (text := text) (index := is) (a := sa) hown' hstr'.1 hstr'.2
    (g := { method := m, pc := pc + 4, locals := ls, stack := .ref T.heap.size :: .ref T.heap.size :: rest, locked := none }) rfl d4' _ hsteps
end Ends
section Bodies
variable {l : Launch}
theorem vx_ofW {y : MethodName} {ws ws' : List Cond} {rm : Room} {Pc : Array Value → State → Prop} {Qc : Array Value → State → Outcome → State → Prop} {XC : String → State → State → Prop} {mc ms : Nat} {free : Addr → Prop} {cc : ByteArray} {maxL : Nat} {ret : Option FieldType}
    (hy : plainName y.cls = true) (hw : ws = Cond.code y cc maxL ret :: ws')
    (body : ∀ p e s m args below meth c s₁, BodyLoose p l y (headSpec ws rm) cc maxL ret e s m args below meth c s₁ → c.maxLocals = maxL → (∀ x ∈ c.exceptionTable.toList, False) → Pc args s →
      W p l e (headSpec ws rm).room s m args below meth c s.heap [] 0 0 (vx_MQ below Qc XC args s mc ms free) (entryFrame m args maxL)) : vx_Met l y ws rm Pc Qc XC mc ms free := by
  refine MetFree.of_bodyS (code := cc) (maxLocals := maxL) (ret := ret) hy ?_ ?_
  · intro args s m h hn
    obtain ⟨meth, c, h1, h2, h3, h4, h5, h6, -, -⟩ := Cond.code_spec hn (atoms_spec (ws := ws) h _ (by rw [hw]; exact List.mem_cons_self))
    exact ⟨meth, c, h1, h2, h3, h4, h5, h6⟩
  · intro p e s m args below meth c s₁ B hml hP _
    have hh0 : s₁.heap = s.heap := by rw [B.state]; rfl
    have ht : ∀ x ∈ c.exceptionTable.toList, False := by
      obtain ⟨meth9, c9, h1, h2, -, -, -, -, h7, -⟩ := Cond.code_spec B.named (atoms_spec (ws := ws) B.pre _ (by rw [hw]; exact List.mem_cons_self))
      cases Option.some.inj (h1.symm.trans B.method)
      cases Option.some.inj (h2.symm.trans (Stand.of_body B).code)
      intro x hx
      rw [Array.isEmpty_iff.mp h7] at hx
      cases hx
    obtain ⟨t, a1, o, b1, b2, b3⟩ := body p e s m args below meth c s₁ B hml ht hP s₁ hh0 (Stand.of_body B)
    exact ⟨t, o, a1, b1, b2, b3⟩
/-- the table of a body with handlers -/
theorem vx_table {p : Program} {x y : MethodName} {S : Spec} {cc bytes : ByteArray} {maxL maxL' : Nat} {ret ret' : Option FieldType} {e : Env} {s s₁ : State} {m : MethodId} {args : Array Value} {below : List Frame} {meth : Method} {c : Code} {hh : List (Nat × Nat × Nat × Nat)}
    (B : BodyLoose p l y S cc maxL ret e s m args below meth c s₁) (h : (Cond.codeWith y bytes maxL' ret' hh).before args s = true) : c.exceptionTable.toList = tableOf hh := by
  obtain ⟨m9, meth9, c9, hn9, h1, h2, -, -, h6, -⟩ := Cond.codeWith_spec h
  cases Option.some.inj (hn9.symm.trans B.named)
  cases Option.some.inj (h1.symm.trans B.method)
  cases Option.some.inj (h2.symm.trans (Stand.of_body B).code)
  rw [← h6, table_eq]
end Bodies
end VXA
/-! ===== END ===== -/
/-! ===== BEGIN a static call of a method with an exception table ===== -/
section VXS
variable {p : Program} {l : Launch} {e : Env} {R : Room} {s : State} {m : MethodId} {args : Array Value} {below : List Frame} {meth : Method} {c : Code} {T : State} {H : Heap} {locs : List Loc} {cells slots : Nat}
abbrev vx_CSW (R : Room) (s : State) (args : Array Value) (own : String) (index : Nat) (y : MethodName) (bytes : ByteArray) (maxL : Nat) (ret : Option FieldType) (hh : List (Nat × Nat × Nat × Nat)) (ws : List Cond) (rm : Room) (mc ms n : Nat) : Prop :=
  (rm.cells = mc ∧ rm.slots = ms ∧ rm.frames + 1 ≤ R.frames ∧ 8 + (maxL + 11) + rm.locals ≤ R.locals ∧ (∀ w ∈ ws, ∀ (a' : Array Value) (U : State), s.WarmedH U.vm → w.before a' U = true) ∧ Cond.codeWith y bytes maxL ret hh ∈ ws) ∧
  (Cond.codeWith y bytes maxL ret hh).before args s = true ∧ (Cond.initialized y.cls).before args s = true ∧ (y.cls ≠ "java/lang/invoke/MethodHandle" ∧ y.cls ≠ "java/lang/invoke/VarHandle") ∧
  (∀ sig, parseMethodDescriptor y.desc = some sig → n = sig.parameters.length) ∧ (Cond.methodLink own index y).before args s = true ∧ (Cond.static y).before args s = true
theorem vx_cwSW {own : String} {index maxL mc ms : Nat} {y : MethodName} {bytes : ByteArray} {ret : Option FieldType} {hh : List (Nat × Nat × Nat × Nat)} {Ts ws ws' : List Cond} {rm : Room} (n : Nat) (ht : ∀ w ∈ Ts, w.before args s = true) (hT : GoodIn Ts (va_wsS own index y ws)) (hw : ws = Cond.codeWith y bytes maxL ret hh :: ws') (hrc : rm.cells = mc) (hrs : rm.slots = ms)
    (hd : y.cls ≠ "java/lang/invoke/MethodHandle" ∧ y.cls ≠ "java/lang/invoke/VarHandle" ∧ (parseMethodDescriptor y.desc).map (fun d => d.parameters.length) = some n) (hR : rm.frames + 1 ≤ R.frames ∧ 8 + (maxL + 11) + rm.locals ≤ R.locals) :
    vx_CSW R s args own index y bytes maxL ret hh ws rm mc ms n := by
  have ok : ∀ w ∈ va_wsS own index y ws, w.before args s = true := fun w h => ht w (hT w h).1
  have hG : GoodIn Ts ws := fun w h => hT w (by unfold va_wsS; exact List.mem_append_right _ h)
  have hc : Cond.codeWith y bytes maxL ret hh ∈ ws := by rw [hw]; exact List.mem_cons_self
  refine ⟨⟨hrc, hrs, hR.1, hR.2, pay_in ht hG, hc⟩, ht _ (hG _ hc).1, ok _ (by simp [va_wsS]), ⟨hd.1, hd.2.1⟩, fun sig h => ?_, ok _ (by simp [va_wsS]), ok _ (by simp [va_wsS])⟩
  have h2 := hd.2.2
  rw [h] at h2
  exact (Option.some.inj h2).symm
theorem vx_callSW (X : Stand p l e R s m args below meth c T locs cells slots) (hexec : p.tables.exec = Jvm.exec) {own : String} {index : Nat} {y : MethodName} {bytes : ByteArray} {maxL : Nat} {ret : Option FieldType} {hh : List (Nat × Nat × Nat × Nat)}
    (hown : s.vm.findClass own = some m.cls) (hlink : (Cond.methodLink own index y).before args s = true) (hstat : (Cond.static y).before args s = true) (hinit : (Cond.initialized y.cls).before args s = true)
    (hcode : (Cond.codeWith y bytes maxL ret hh).before args s = true) (hy : y.cls ≠ "java/lang/invoke/MethodHandle" ∧ y.cls ≠ "java/lang/invoke/VarHandle")
    {W9 : Nat} {Pre : Pt → Array Value → Prop} {Post : Pt → Array Value → Option Value → Pt → Prop} (hK : Back l R p e below s args y 3 W9 Pre Post)
    {g : JFrame} (hg : g.method = m) (hsize : g.locals.size = c.maxLocals) {argsL rest : List Value} (hlen : ∀ sig, parseMethodDescriptor y.desc = some sig → argsL.length = sig.parameters.length)
    (hstack : g.stack = argsL.reverse ++ rest) (hW : 2 * g.monitorRoom + (rest.map fun v => v.category).sum ≤ W9) (hdg : decode c.code g.pc = .ok (.invokestatic index, 3))
    (hpre : ∀ vm₁, s.WarmedH vm₁ → Pre ⟨T.setVm vm₁, locs, cells, slots⟩ argsL.toArray) :
    ∃ (v : Option Value) (vm₁ : Vm) (B : Pt), s.WarmedH vm₁ ∧ Stand p l e R s m args below meth c B.U B.locs B.cells B.slots ∧ Post ⟨T.setVm vm₁, locs, cells, slots⟩ argsL.toArray v B ∧
      ∀ target, Steps p.tables e below (B.U.setTop { g with pc := g.pc + 3, stack := v.toList ++ rest }) target → Steps p.tables e below (T.setTop g) target := by
  obtain ⟨mk, methM, cM, hnamed, hmethM, -, -, -, -, -, -, hsigM⟩ := Cond.codeWith_spec hcode
  have hstatic : methM.isStatic = true := Cond.static_spec hnamed hmethM hstat
  obtain ⟨kP, hkP, -⟩ := className_of_methodNamed hnamed
  have hinitP : kP.init = .initialized := Cond.initialized_spec (findClass_of_methodNamed hnamed) hkP hinit
  obtain ⟨vm₁, X₁, hstep₁⟩ := X.invokestatic hexec hown hlink hnamed hmethM hstatic hkP hinitP hy (g := g) hg (argsL := argsL) (rest := rest) (hlen _ hsigM) hstack hdg
  obtain ⟨v, B, X', hpost, hsteps⟩ := hK m meth c ⟨T.setVm vm₁, locs, cells, slots⟩ { g with stack := rest } (.invokestatic index) mk argsL.toArray X₁ hg hsize hdg hW (X₁.named hnamed) (hpre vm₁ X₁.warmed)
  exact ⟨v, vm₁, B, X₁.warmed, X', hpost, fun target h => hstep₁ _ fun acts => by rw [doInvoke_state]; exact hsteps.trans h⟩
theorem vx_runSW {y : MethodName} {bytes cc : ByteArray} {maxL nL mc ms n index : Nat} {ret : Option FieldType} {hh : List (Nat × Nat × Nat × Nat)} {ws : List Cond} {rm : Room} {Pc : Array Value → State → Prop} {Qc : Array Value → State → Outcome → State → Prop} {free : Addr → Prop} {Ts : List Cond} {own : String} {As rest : List Value} {g : JFrame}
    (S : CallFix p m c cc nL s args Ts own) (hM : Met l y ws rm Pc Qc mc ms free) (cw : vx_CSW R s args own index y bytes maxL ret hh ws rm mc ms n) (hp : PreS s H Pc As)
    (hg : g.method = m) (hn : As.length = n) (hsize : g.locals.size = nL) (hstack : g.stack = As.reverse ++ rest) (hW : 2 * g.monitorRoom + (rest.map fun v => v.category).sum ≤ 8) (hdg : decode cc g.pc = .ok (.invokestatic index, 3)) (hf : cells + mc ≤ R.cells ∧ slots + ms ≤ R.slots) :
    va_Run p l e R s m args below meth c H locs cells slots mc ms g rest (Qc As.toArray) (free) := by
  obtain ⟨⟨hrc, hrs, hfr, hlo, hws, hcw⟩, hcode, hini, hy, hlen, hl, hstt⟩ := cw
  have hK : Back l R p e below s args y 3 8 (PreOf R mc ms Pc) (PostOf Qc mc ms free) := va_backW (hh := hh) (bytes := bytes) (maxL := maxL) (ret := ret) hM hp.1 hrc hrs hfr hlo hws hcw (fun a' U hW => word_at hW (Or.inl (by first | rfl | simp [Cond.onTables, Cond.keeps, Cond.steady])) hini)
  obtain ⟨hx, hb, hml, ho, -⟩ := S
  intro T hT X
  obtain ⟨v, vm₁, ⟨U', l2, c2, s2⟩, hW₁, X', ⟨g', mk, t, L, e1, e2, hq, h1, hL, h2, h3⟩, st⟩ := vx_callSW X hx (hh := hh) (bytes := bytes) (maxL := maxL) (ret := ret) ho hl hstt hini hcode hy hK hg (hsize.trans hml.symm) (argsL := As) (rest := rest) (fun sig h => hn.trans (hlen sig h)) hstack hW (by rw [hb]; exact hdg)
    (fun vm₁ hW₁ => ⟨hf.1, hf.2, hp.2 (T.setVm vm₁) hT hW₁⟩)
  dsimp only [Pt.U, Pt.locs, Pt.cells, Pt.slots] at X' e1 e2 h1 h2 h3 st
  subst h1; subst h2; subst h3
  exact ⟨v, (T.setVm vm₁).calling g' mk As.toArray, t, U', L, hT, X', hL, e1, e2, hq, st⟩
/-- not caught here, past rows that name other classes: it goes on to the caller -/
theorem vx_outP {p : Program} {l : Launch} {e : Env} {R : Room} {s : State} {m : MethodId} {args : Array Value} {below : List Frame} {meth : Method} {c : Code} {H : Heap} {locs : List Loc} {cells slots : Nat} {free : Addr → Prop} {ls : Array Slot} {rest : List Value} {Qc : Array Value → State → Outcome → State → Prop} {XC : String → State → State → Prop}
    {pc : Nat} {own E : String} {ce : Cell} {q : Addr} {mc ms : Nat} (hown : s.vm.findClass own = some m.cls) (hlocks : meth.locks = false)
    (hpass : ∀ z ∈ c.exceptionTable.toList, covers z pc = false ∨ (z.catchType ≠ 0 ∧ ∃ nm : String, (Cond.classLink own z.catchType nm).before args s = true ∧ va_Nc E nm s)) (hcell : H[q]? = some ce) (hv : ce.vm = .none) (hcl : s.vm.findClass E = some ce.cls)
    (hx : ∀ t : State, t.heap = H → s.vm.Alike t.vm → XC E s t) (hf : ∀ z ∈ locs, free z.base) (hc : cells ≤ mc) (hs : slots ≤ ms) :
    vx_W p l e R s m args below meth c H locs cells slots (vx_MQ below Qc XC args s mc ms free) (F0 m pc ls rest) q := by
  intro T hT X
  have hpl : e.platform.magicAccessors = ({} : Platform).magicAccessors := by rw [X.admits.platform]
  obtain ⟨vm', hW', X', st⟩ := X.outThrough hlocks q (g := F0 m pc ls rest) rfl rfl rfl (cell := ce) (by rw [hT]; exact hcell) (by rw [hv]; rfl)
    (by obtain ⟨k9, h9, -⟩ := Vm.findClass_spec hcl; exact ⟨k9, h9⟩) (fun z hz => by
      rcases hpass z hz with h | ⟨hz0, nm, hl1, hn1⟩
      · exact Or.inl h
      · obtain ⟨c6, hc6, hcl6⟩ := Cond.classLink_spec hown hl1 e.platform hpl
        obtain ⟨a8, b8, h1, h2, h3⟩ := hn1
        cases Option.some.inj (h1.symm.trans hcl)
        cases Option.some.inj (h2.symm.trans hc6)
        exact Or.inr ⟨hz0, _, hcl6, h3⟩)
  obtain ⟨g₀, hfr⟩ := X'.frames_eq
  have hcell9 : ((T.setVm vm').setFrames (.throwing q :: below)).heap[q]? = some ce := by
    show T.heap[q]? = some ce
    rw [hT]; exact hcell
  have hend : Ended ((T.setVm vm').setFrames (.throwing q :: below)) below (.threw q) := State.frames_setFrames _ (State.cur_lt_of_frames hfr)
  refine ⟨(T.setVm vm').setFrames (.throwing q :: below), ?_, .threw q, X'.here.running, hend, Or.inr ⟨q, rfl, E, ce, locs, hx _ hT (X'.ends _).1.alike, hcell9, hv, hcl, (X'.ends _).1, (X'.ends _).2.mono hc hs, hf⟩⟩
  rw [X.pushThrowing_eq]
  exact st
/-- a thing of a world lies in the heap -/
theorem vx_lt {D : va_G} {cl : List vw_C} {ws : va_W} {H1 : Heap} (h : va_P D cl ws H1) {k : Nat} {q : Nat × va_E} (hk : ws[k]? = some q) : q.1 < H1.size := (h k q hk).lt
end VXS
/-! ===== END ===== -/
/-! ===== BEGIN methods with a table of their own: called by a name, returning or throwing ===== -/
section VXH
/-! vx_backW, vx_callVX, vx_callSX, vx_callVW, vx_runVW, vx_runVX, vx_runSX, vx_ofWH follow the same proofs as their sisters above (Free/Laws.lean, Shelf42/LK1.lean); vx_outP calls Shelf42/NT130.lean (outThrough). -/
section
variable {l : Launch} {R : Room} {p : Program} {e : Env} {below : List Frame} {s : State} {sargs : Array Value} {y : MethodName} {len W9 : Nat}
theorem vx_backW {ws : List Cond} {rm : Room} {Pc : Array Value → State → Prop} {Qc : Array Value → State → Outcome → State → Prop} {XC : String → State → State → Prop} {mc ms : Nat} {free : Addr → Prop} {bytes : ByteArray} {maxL : Nat} {ret : Option FieldType} {hh : List (Nat × Nat × Nat × Nat)}
    (hM : vx_Met l y ws rm Pc Qc XC mc ms free) (hblind : FrameBlind Pc) (hrc : rm.cells = mc) (hrs : rm.slots = ms)
    (hframes : rm.frames + 1 ≤ R.frames) (hlocals : W9 + (maxL + 11) + rm.locals ≤ R.locals)
    (hws : ∀ w ∈ ws, ∀ a' U, s.WarmedH U.vm → w.before a' U = true) (hcode : Cond.codeWith y bytes maxL ret hh ∈ ws) (hinit : ∀ a' U, s.WarmedH U.vm → (Cond.initialized y.cls).before a' U = true) :
    vx_Back l R p e below s sargs y len W9 (PreOf R mc ms Pc) (PostOf Qc mc ms free) (vx_Post XC mc ms free) := by
  intro m meth c A g ig mk a X hg hsize hdg hW hn hp
  have h1 : (headSpec ws rm).pre.before a A.U = true := atoms_intro fun w hw => hws w hw _ _ X.warmed
  have h2 : (Cond.codeWith y bytes maxL ret hh).before a A.U = true := hws _ hcode _ _ X.warmed
  have h3 : (Cond.initialized y.cls).before a A.U = true := hinit _ _ X.warmed
  have h4 : A.cells + (headSpec ws rm).room.cells ≤ R.cells := by rw [show (headSpec ws rm).room.cells = mc from hrc]; exact hp.1
  have h5 : A.slots + (headSpec ws rm).room.slots ≤ R.slots := by rw [show (headSpec ws rm).room.slots = ms from hrs]; exact hp.2.1
  have hPc : Pc a (A.U.calling g mk a) := hblind _ _ _ _ hp.2.2
  obtain ⟨U, Ls, c0, s0⟩ := A
  dsimp only [Pt.U, Pt.locs, Pt.cells, Pt.slots] at h1 h2 h3 h4 h5 X hn hPc ⊢
  obtain ⟨m9, methY, cY, hn9, hmY, hcY, -, hlY, -⟩ := Cond.codeWith_spec h2
  cases Option.some.inj (hn9.symm.trans hn)
  obtain ⟨kY, hkY, -⟩ := className_of_methodNamed hn
  have hinitY : kY.init = .initialized := Cond.initialized_spec (findClass_of_methodNamed hn) hkY h3
  have h : At U g.method c below := by rw [hg]; exact X.here
  have hlocals9 : W9 + (maxL + 11) + (headSpec ws rm).room.locals ≤ R.locals := hlocals
  have happ : (headSpec ws rm).appliesLoose y e.platform (U.calling g mk a) = true :=
    Spec.appliesLoose_calling (g := g) h hdg hn hkY hinitY
      (X.room_calling (g := g) (R' := (headSpec ws rm).room) hsize hmY hcY hframes (by rw [hlY]; omega) h4 h5) h1
  obtain ⟨mid, hmid⟩ := h.above
  have hfr : (U.setTop g).frames = (.java g :: mid) ++ below := by rw [State.frames_setTop' g h.top, hmid]; rfl
  obtain ⟨o, s₂, hsteps, -, hend, hq⟩ := Steps.callFree hM p X.admits X.cas X.clock (acts := []) hfr happ hPc trivial
  have hq' : vx_Q Qc XC mc ms free a (U.calling g mk a) o s₂ := hq
  rw [State.frames_setTop' g h.top] at hend
  obtain ⟨g₀, hg0⟩ := Option.isSome_iff_exists.mp h.top
  obtain ⟨r, hr⟩ := State.topJava?_eq_some.mp hg0
  have hr' : (({ U with heap := s₂.heap, slotsUsed := s₂.slotsUsed } : State).setVm s₂.vm).frames = .java g₀ :: r := hr
  rcases hq' with ⟨hqc, L, hfe, hL⟩ | ⟨q, rfl, E, ce, L, hx, hce, hcv, hcl, hW₂, hsm, hL⟩
  · obtain ⟨⟨v, rfl⟩, hW₂, e2, q2, q3, q4, q5, q6⟩ := id hfe
    have e3 : s₂ = ({ (U.calling g mk a).setFrames s₂.frames with heap := s₂.heap, slotsUsed := s₂.slotsUsed } : State).setVm s₂.vm := by
      have : s₂ = ({ s₂ with vm := (U.calling g mk a).vm } : State).setVm s₂.vm := rfl
      rw [e2] at this
      exact this
    obtain ⟨c₂, i₂, len₂, hc₂, hd₂, hf₂⟩ := hend
    have hW' : U.WarmedH s₂.vm := hW₂
    have hcc : c₂ = c := by
      have h1 : s₂.code? g.method = U.code? g.method := by
        rw [State.code?_eq, State.code?_eq, hW'.alike.method?]
      exact Option.some.inj (hc₂.symm.trans (h1.trans h.code))
    subst hcc
    have hlen : len₂ = len := by rw [hdg] at hd₂; cases hd₂; rfl
    subst hlen
    have hs₂ : s₂ = (({ U with heap := s₂.heap, slotsUsed := s₂.slotsUsed } : State).setVm s₂.vm).setTop { g with pc := g.pc + len₂, stack := v.toList ++ g.stack } := by
      refine e3.trans ?_
      rw [hf₂, State.calling_eq h.top, State.setFrames_setFrames, State.setTop_of_frames _ hr', hr]
      rfl
    have hsame : U.sameButNew ({ U with heap := s₂.heap, slotsUsed := s₂.slotsUsed } : State) L mc ms := by
      refine ⟨?_, q2, q3, q4, q5, q6⟩
      obtain ⟨t, ht, -⟩ := State.frames_cons hr
      show ({ U with heap := s₂.heap, slotsUsed := s₂.slotsUsed } : State) = { U.setFrames U.frames with heap := s₂.heap, slotsUsed := s₂.slotsUsed }
      rw [State.setFrames_self ht]
    subst hg
    refine Or.inl ⟨v, ⟨(({ U with heap := s₂.heap, slotsUsed := s₂.slotsUsed } : State).setVm s₂.vm), Ls ++ L, c0 + mc, s0 + ms⟩,
      ⟨X.admits, X.cas, X.clock, X.frames, X.room, X.hears, X.method, X.code, (X.here.setHeapUsed s₂.heap s₂.slotsUsed).setVm hW'.alike, X.tail, State.WarmedH.trans X.warmed hW', X.limits, X.bytes, X.same.trans (hsame.setVm s.vm)⟩,
      ⟨g, mk, s₂, L, rfl, rfl, hqc, rfl, hL, rfl, rfl⟩, ?_⟩
    show Steps p.tables e below _ ((({ U with heap := s₂.heap, slotsUsed := s₂.slotsUsed } : State).setVm s₂.vm).setTop { g with pc := g.pc + len₂, stack := v.toList ++ g.stack })
    rw [← hs₂]
    exact hsteps
  · obtain ⟨e2, q2, q3, q4, q5, q6⟩ := id hsm
    have e3 : s₂ = ({ (U.calling g mk a).setFrames s₂.frames with heap := s₂.heap, slotsUsed := s₂.slotsUsed } : State).setVm s₂.vm := by
      have : s₂ = ({ s₂ with vm := (U.calling g mk a).vm } : State).setVm s₂.vm := rfl
      rw [e2] at this
      exact this
    have hf₂ : s₂.frames = .throwing q :: .java g :: U.frames.tail := hend
    have hW' : U.WarmedH s₂.vm := hW₂
    have hs₂ : s₂ = ((({ U with heap := s₂.heap, slotsUsed := s₂.slotsUsed } : State).setVm s₂.vm).setTop g).pushFrame (.throwing q) := by
      refine e3.trans ?_
      rw [hf₂, State.calling_eq h.top, State.setFrames_setFrames, State.pushFrame, State.frames_setTop _ hr', State.setTop_of_frames _ hr', State.setFrames_setFrames, hr]
      rfl
    have hsame : U.sameButNew ({ U with heap := s₂.heap, slotsUsed := s₂.slotsUsed } : State) L mc ms := by
      refine ⟨?_, q2, q3, q4, q5, q6⟩
      obtain ⟨t, ht, -⟩ := State.frames_cons hr
      show ({ U with heap := s₂.heap, slotsUsed := s₂.slotsUsed } : State) = { U.setFrames U.frames with heap := s₂.heap, slotsUsed := s₂.slotsUsed }
      rw [State.setFrames_self ht]
    subst hg
    refine Or.inr ⟨q, ⟨(({ U with heap := s₂.heap, slotsUsed := s₂.slotsUsed } : State).setVm s₂.vm), Ls ++ L, c0 + mc, s0 + ms⟩,
      ⟨X.admits, X.cas, X.clock, X.frames, X.room, X.hears, X.method, X.code, (X.here.setHeapUsed s₂.heap s₂.slotsUsed).setVm hW'.alike, X.tail, State.WarmedH.trans X.warmed hW', X.limits, X.bytes, X.same.trans (hsame.setVm s.vm)⟩,
      ⟨g, mk, s₂, L, E, ce, rfl, rfl, hx, hce, hcv, hcl, rfl, hL, rfl, rfl⟩, ?_⟩
    show Steps p.tables e below _ (((({ U with heap := s₂.heap, slotsUsed := s₂.slotsUsed } : State).setVm s₂.vm).setTop g).pushFrame (.throwing q))
    rw [← hs₂]
    exact hsteps
end
variable {p : Program} {l : Launch} {e : Env} {R : Room} {s : State} {m : MethodId} {args : Array Value} {below : List Frame} {meth : Method} {c : Code} {T : State} {H : Heap} {locs : List Loc} {cells slots : Nat}
theorem vx_callVX (X : Stand p l e R s m args below meth c T locs cells slots) (hexec : p.tables.exec = Jvm.exec) {own C : String} {index : Nat} {y : MethodName} {bytes : ByteArray} {maxL : Nat} {ret : Option FieldType} {hh : List (Nat × Nat × Nat × Nat)}
    (hown : s.vm.findClass own = some m.cls) (hlink : (Cond.methodLink own index y).before args s = true) (hinst : (Cond.instanceMethod y).before args s = true) (hsel : (Cond.selects C y y).before args s = true)
    (hcode : (Cond.codeWith y bytes maxL ret hh).before args s = true) (hy : y.cls ≠ "java/lang/invoke/MethodHandle" ∧ y.cls ≠ "java/lang/invoke/VarHandle")
    {W9 : Nat} {Pre : Pt → Array Value → Prop} {Post : Pt → Array Value → Option Value → Pt → Prop} {PostX : Pt → Array Value → Addr → Pt → Prop} (hK : vx_Back l R p e below s args y 3 W9 Pre Post PostX)
    {b : Addr} {cellB : Cell} (hcell : T.heap[b]? = some cellB) (hobj : cellB.vm.isStatics = false) (hcls : s.vm.findClass C = some cellB.cls)
    {g : JFrame} (hg : g.method = m) (hsize : g.locals.size = c.maxLocals) {argsL rest : List Value} (hlen : ∀ sig, parseMethodDescriptor y.desc = some sig → argsL.length = sig.parameters.length)
    (hstack : g.stack = argsL.reverse ++ .ref b :: rest) (hW : 2 * g.monitorRoom + (rest.map fun v => v.category).sum ≤ W9) (hdg : decode c.code g.pc = .ok (.invokevirtual index, 3))
    (hpre : ∀ vm₁, s.WarmedH vm₁ → Pre ⟨T.setVm vm₁, locs, cells, slots⟩ (Value.ref b :: argsL).toArray) :
    (∃ (v : Option Value) (vm₁ : Vm) (B : Pt), s.WarmedH vm₁ ∧ Stand p l e R s m args below meth c B.U B.locs B.cells B.slots ∧ Post ⟨T.setVm vm₁, locs, cells, slots⟩ (Value.ref b :: argsL).toArray v B ∧
      ∀ target, Steps p.tables e below (B.U.setTop { g with pc := g.pc + 3, stack := v.toList ++ rest }) target → Steps p.tables e below (T.setTop g) target) ∨
    (∃ (q : Addr) (vm₁ : Vm) (B : Pt), s.WarmedH vm₁ ∧ Stand p l e R s m args below meth c B.U B.locs B.cells B.slots ∧ PostX ⟨T.setVm vm₁, locs, cells, slots⟩ (Value.ref b :: argsL).toArray q B ∧
      Steps p.tables e below (T.setTop g) ((B.U.setTop { g with stack := rest }).pushFrame (.throwing q))) := by
  obtain ⟨mk, methM, hnamed, hmethM, hstM, habM⟩ := Cond.instanceMethod_spec hinst
  obtain ⟨m8, methM', cM, hn8, hmethM', -, -, -, -, -, -, hsigM⟩ := Cond.codeWith_spec hcode
  cases Option.some.inj (hn8.symm.trans hnamed)
  cases hmethM.symm.trans hmethM'
  obtain ⟨c2, r2, m2, q1, q2, q3, q4, kP, hkP, hkPi⟩ := Cond.selects_spec hsel
  cases hcls.symm.trans q1
  cases (State.methodFound?_of_named hnamed hy).symm.trans q2
  cases hnamed.symm.trans q3
  have hselP : selectMethod e.platform s.vm cellB.cls mk = .method mk := by rw [Launch.admits_selectMethod X.admits]; exact q4
  obtain ⟨vm₁, X₁, hstep₁⟩ := X.invokevirtual hexec hown hlink hnamed hmethM hstM hkP hkPi hy (a := b) (cell := cellB) hcell
    (fun z h => by rw [h] at hobj; cases hobj) hselP hmethM habM hkP hkPi (g := g) hg (argsL := argsL) (rest := rest) (hlen _ hsigM) hstack hdg
  rcases hK m meth c ⟨T.setVm vm₁, locs, cells, slots⟩ { g with stack := rest } (.invokevirtual index) mk (Value.ref b :: argsL).toArray X₁ hg hsize hdg hW (X₁.named hnamed) (hpre vm₁ X₁.warmed) with ⟨v, B, X', hpost, hsteps⟩ | ⟨q, B, X', hpost, hsteps⟩
  · exact Or.inl ⟨v, vm₁, B, X₁.warmed, X', hpost, fun target h => hstep₁ _ fun acts => by rw [doInvoke_state]; exact hsteps.trans h⟩
  · exact Or.inr ⟨q, vm₁, B, X₁.warmed, X', hpost, hstep₁ _ fun acts => by rw [doInvoke_state]; exact hsteps⟩
theorem vx_callSX (X : Stand p l e R s m args below meth c T locs cells slots) (hexec : p.tables.exec = Jvm.exec) {own : String} {index : Nat} {y : MethodName} {bytes : ByteArray} {maxL : Nat} {ret : Option FieldType} {hh : List (Nat × Nat × Nat × Nat)}
    (hown : s.vm.findClass own = some m.cls) (hlink : (Cond.methodLink own index y).before args s = true) (hstat : (Cond.static y).before args s = true) (hinit : (Cond.initialized y.cls).before args s = true)
    (hcode : (Cond.codeWith y bytes maxL ret hh).before args s = true) (hy : y.cls ≠ "java/lang/invoke/MethodHandle" ∧ y.cls ≠ "java/lang/invoke/VarHandle")
    {W9 : Nat} {Pre : Pt → Array Value → Prop} {Post : Pt → Array Value → Option Value → Pt → Prop} {PostX : Pt → Array Value → Addr → Pt → Prop} (hK : vx_Back l R p e below s args y 3 W9 Pre Post PostX)
    {g : JFrame} (hg : g.method = m) (hsize : g.locals.size = c.maxLocals) {argsL rest : List Value} (hlen : ∀ sig, parseMethodDescriptor y.desc = some sig → argsL.length = sig.parameters.length)
    (hstack : g.stack = argsL.reverse ++ rest) (hW : 2 * g.monitorRoom + (rest.map fun v => v.category).sum ≤ W9) (hdg : decode c.code g.pc = .ok (.invokestatic index, 3))
    (hpre : ∀ vm₁, s.WarmedH vm₁ → Pre ⟨T.setVm vm₁, locs, cells, slots⟩ argsL.toArray) :
    (∃ (v : Option Value) (vm₁ : Vm) (B : Pt), s.WarmedH vm₁ ∧ Stand p l e R s m args below meth c B.U B.locs B.cells B.slots ∧ Post ⟨T.setVm vm₁, locs, cells, slots⟩ argsL.toArray v B ∧
      ∀ target, Steps p.tables e below (B.U.setTop { g with pc := g.pc + 3, stack := v.toList ++ rest }) target → Steps p.tables e below (T.setTop g) target) ∨
    (∃ (q : Addr) (vm₁ : Vm) (B : Pt), s.WarmedH vm₁ ∧ Stand p l e R s m args below meth c B.U B.locs B.cells B.slots ∧ PostX ⟨T.setVm vm₁, locs, cells, slots⟩ argsL.toArray q B ∧
      Steps p.tables e below (T.setTop g) ((B.U.setTop { g with stack := rest }).pushFrame (.throwing q))) := by
  obtain ⟨mk, methM, cM, hnamed, hmethM, -, -, -, -, -, -, hsigM⟩ := Cond.codeWith_spec hcode
  have hstatic : methM.isStatic = true := Cond.static_spec hnamed hmethM hstat
  obtain ⟨kP, hkP, -⟩ := className_of_methodNamed hnamed
  have hinitP : kP.init = .initialized := Cond.initialized_spec (findClass_of_methodNamed hnamed) hkP hinit
  obtain ⟨vm₁, X₁, hstep₁⟩ := X.invokestatic hexec hown hlink hnamed hmethM hstatic hkP hinitP hy (g := g) hg (argsL := argsL) (rest := rest) (hlen _ hsigM) hstack hdg
  rcases hK m meth c ⟨T.setVm vm₁, locs, cells, slots⟩ { g with stack := rest } (.invokestatic index) mk argsL.toArray X₁ hg hsize hdg hW (X₁.named hnamed) (hpre vm₁ X₁.warmed) with ⟨v, B, X', hpost, hsteps⟩ | ⟨q, B, X', hpost, hsteps⟩
  · exact Or.inl ⟨v, vm₁, B, X₁.warmed, X', hpost, fun target h => hstep₁ _ fun acts => by rw [doInvoke_state]; exact hsteps.trans h⟩
  · exact Or.inr ⟨q, vm₁, B, X₁.warmed, X', hpost, hstep₁ _ fun acts => by rw [doInvoke_state]; exact hsteps⟩
theorem vx_callVW (X : Stand p l e R s m args below meth c T locs cells slots) (hexec : p.tables.exec = Jvm.exec) {own C : String} {index : Nat} {y : MethodName} {bytes : ByteArray} {maxL : Nat} {ret : Option FieldType} {hh : List (Nat × Nat × Nat × Nat)}
    (hown : s.vm.findClass own = some m.cls) (hlink : (Cond.methodLink own index y).before args s = true) (hinst : (Cond.instanceMethod y).before args s = true) (hsel : (Cond.selects C y y).before args s = true)
    (hcode : (Cond.codeWith y bytes maxL ret hh).before args s = true) (hy : y.cls ≠ "java/lang/invoke/MethodHandle" ∧ y.cls ≠ "java/lang/invoke/VarHandle")
    {W9 : Nat} {Pre : Pt → Array Value → Prop} {Post : Pt → Array Value → Option Value → Pt → Prop} (hK : Back l R p e below s args y 3 W9 Pre Post)
    {b : Addr} {cellB : Cell} (hcell : T.heap[b]? = some cellB) (hobj : cellB.vm.isStatics = false) (hcls : s.vm.findClass C = some cellB.cls)
    {g : JFrame} (hg : g.method = m) (hsize : g.locals.size = c.maxLocals) {argsL rest : List Value} (hlen : ∀ sig, parseMethodDescriptor y.desc = some sig → argsL.length = sig.parameters.length)
    (hstack : g.stack = argsL.reverse ++ .ref b :: rest) (hW : 2 * g.monitorRoom + (rest.map fun v => v.category).sum ≤ W9) (hdg : decode c.code g.pc = .ok (.invokevirtual index, 3))
    (hpre : ∀ vm₁, s.WarmedH vm₁ → Pre ⟨T.setVm vm₁, locs, cells, slots⟩ (Value.ref b :: argsL).toArray) :
    ∃ (v : Option Value) (vm₁ : Vm) (B : Pt), s.WarmedH vm₁ ∧ Stand p l e R s m args below meth c B.U B.locs B.cells B.slots ∧ Post ⟨T.setVm vm₁, locs, cells, slots⟩ (Value.ref b :: argsL).toArray v B ∧
      ∀ target, Steps p.tables e below (B.U.setTop { g with pc := g.pc + 3, stack := v.toList ++ rest }) target → Steps p.tables e below (T.setTop g) target := by
  obtain ⟨mk, methM, hnamed, hmethM, hstM, habM⟩ := Cond.instanceMethod_spec hinst
  obtain ⟨m8, methM', cM, hn8, hmethM', -, -, -, -, -, -, hsigM⟩ := Cond.codeWith_spec hcode
  cases Option.some.inj (hn8.symm.trans hnamed)
  cases hmethM.symm.trans hmethM'
  obtain ⟨c2, r2, m2, q1, q2, q3, q4, kP, hkP, hkPi⟩ := Cond.selects_spec hsel
  cases hcls.symm.trans q1
  cases (State.methodFound?_of_named hnamed hy).symm.trans q2
  cases hnamed.symm.trans q3
  have hselP : selectMethod e.platform s.vm cellB.cls mk = .method mk := by rw [Launch.admits_selectMethod X.admits]; exact q4
  obtain ⟨vm₁, X₁, hstep₁⟩ := X.invokevirtual hexec hown hlink hnamed hmethM hstM hkP hkPi hy (a := b) (cell := cellB) hcell
    (fun z h => by rw [h] at hobj; cases hobj) hselP hmethM habM hkP hkPi (g := g) hg (argsL := argsL) (rest := rest) (hlen _ hsigM) hstack hdg
  obtain ⟨v, B, X', hpost, hsteps⟩ := hK m meth c ⟨T.setVm vm₁, locs, cells, slots⟩ { g with stack := rest } (.invokevirtual index) mk (Value.ref b :: argsL).toArray X₁ hg hsize hdg hW (X₁.named hnamed) (hpre vm₁ X₁.warmed)
  exact ⟨v, vm₁, B, X₁.warmed, X', hpost, fun target h => hstep₁ _ fun acts => by rw [doInvoke_state]; exact hsteps.trans h⟩
abbrev vx_CVW (R : Room) (s : State) (args : Array Value) (own C : String) (index : Nat) (y : MethodName) (bytes : ByteArray) (maxL : Nat) (ret : Option FieldType) (hh : List (Nat × Nat × Nat × Nat)) (ws : List Cond) (rm : Room) (mc ms n : Nat) : Prop :=
  (rm.cells = mc ∧ rm.slots = ms ∧ rm.frames + 1 ≤ R.frames ∧ 8 + (maxL + 11) + rm.locals ≤ R.locals ∧ (∀ w ∈ ws, ∀ (a' : Array Value) (U : State), s.WarmedH U.vm → w.before a' U = true) ∧ Cond.codeWith y bytes maxL ret hh ∈ ws) ∧
  (Cond.codeWith y bytes maxL ret hh).before args s = true ∧ (Cond.initialized y.cls).before args s = true ∧ (y.cls ≠ "java/lang/invoke/MethodHandle" ∧ y.cls ≠ "java/lang/invoke/VarHandle") ∧
  (∀ sig, parseMethodDescriptor y.desc = some sig → n = sig.parameters.length) ∧ (Cond.methodLink own index y).before args s = true ∧ (Cond.instanceMethod y).before args s = true ∧ (Cond.selects C y y).before args s = true
theorem vx_cwVW {own C : String} {index maxL mc ms : Nat} {y : MethodName} {bytes : ByteArray} {ret : Option FieldType} {hh : List (Nat × Nat × Nat × Nat)} {Ts ws ws' : List Cond} {rm : Room} (n : Nat) (ht : ∀ w ∈ Ts, w.before args s = true) (hT : GoodIn Ts (wsV own index C y ws)) (hw : ws = Cond.codeWith y bytes maxL ret hh :: ws') (hrc : rm.cells = mc) (hrs : rm.slots = ms)
    (hd : y.cls = C ∧ y.cls ≠ "java/lang/invoke/MethodHandle" ∧ y.cls ≠ "java/lang/invoke/VarHandle" ∧ (parseMethodDescriptor y.desc).map (fun d => d.parameters.length) = some n) (hR : rm.frames + 1 ≤ R.frames ∧ 8 + (maxL + 11) + rm.locals ≤ R.locals) :
    vx_CVW R s args own C index y bytes maxL ret hh ws rm mc ms n := by
  obtain ⟨hC, hd⟩ := hd
  subst hC
  have ok : ∀ w ∈ wsV own index y.cls y ws, w.before args s = true := fun w h => ht w (hT w h).1
  have hG : GoodIn Ts ws := fun w h => hT w (by unfold wsV; exact List.mem_append_right _ h)
  have hc : Cond.codeWith y bytes maxL ret hh ∈ ws := by rw [hw]; exact List.mem_cons_self
  refine ⟨⟨hrc, hrs, hR.1, hR.2, pay_in ht hG, hc⟩, ht _ (hG _ hc).1, ok _ (by simp [wsV]), ⟨hd.1, hd.2.1⟩, fun sig h => ?_, ok _ (by simp [wsV]), ok _ (by simp [wsV]), ok _ (by simp [wsV])⟩
  have h2 := hd.2.2
  rw [h] at h2
  exact (Option.some.inj h2).symm
theorem vx_runVW {y : MethodName} {bytes cc : ByteArray} {maxL nL mc ms n index : Nat} {ret : Option FieldType} {hh : List (Nat × Nat × Nat × Nat)} {ws : List Cond} {rm : Room} {Pc : Array Value → State → Prop} {Qc : Array Value → State → Outcome → State → Prop} {free : Addr → Prop} {Ts : List Cond} {own C : String} {b : Addr} {As rest : List Value} {g : JFrame}
    (S : CallFix p m c cc nL s args Ts own) (hM : Met l y ws rm Pc Qc mc ms free) (cw : vx_CVW R s args own C index y bytes maxL ret hh ws rm mc ms n) (hp : PreV s H C b Pc As)
    (hg : g.method = m) (hn : As.length = n) (hsize : g.locals.size = nL) (hstack : g.stack = As.reverse ++ .ref b :: rest) (hW : 2 * g.monitorRoom + (rest.map fun v => v.category).sum ≤ 8) (hdg : decode cc g.pc = .ok (.invokevirtual index, 3)) (hf : cells + mc ≤ R.cells ∧ slots + ms ≤ R.slots) :
    va_Run p l e R s m args below meth c H locs cells slots mc ms g rest (Qc (Value.ref b :: As).toArray) free := by
  obtain ⟨⟨hrc, hrs, hfr, hlo, hws, hcw⟩, hcode, hini, hy, hlen, hl, hin, hse⟩ := cw
  have hK : Back l R p e below s args y 3 8 (PreOf R mc ms Pc) (PostOf Qc mc ms free) := va_backW (hh := hh) (bytes := bytes) (maxL := maxL) (ret := ret) hM hp.1 hrc hrs hfr hlo hws hcw (fun a' U hW => word_at hW (Or.inl (by first | rfl | simp [Cond.onTables, Cond.keeps, Cond.steady])) hini)
  obtain ⟨hx, hb, hml, ho, -⟩ := S
  obtain ⟨-, ⟨cellB, hcB, hoB, hclB⟩, hPc⟩ := hp
  intro T hT X
  obtain ⟨v, vm₁, ⟨U', l2, c2, s2⟩, hW₁, X', ⟨g', mk, t, L, e1, e2, hq, h1, hL, h2, h3⟩, st⟩ := vx_callVW X hx (C := C) (hh := hh) (bytes := bytes) (maxL := maxL) (ret := ret) ho hl hin hse hcode hy hK (by rw [hT]; exact hcB) hoB hclB hg (hsize.trans hml.symm) (argsL := As) (rest := rest) (fun sig h => hn.trans (hlen sig h)) hstack hW (by rw [hb]; exact hdg)
    (fun vm₁ hW₁ => ⟨hf.1, hf.2, hPc (T.setVm vm₁) hT hW₁⟩)
  dsimp only [Pt.U, Pt.locs, Pt.cells, Pt.slots] at X' e1 e2 h1 h2 h3 st
  subst h1; subst h2; subst h3
  exact ⟨v, (T.setVm vm₁).calling g' mk (Value.ref b :: As).toArray, t, U', L, hT, X', hL, e1, e2, hq, st⟩
section
variable {y : MethodName} {bytes cc : ByteArray} {maxL nL mc ms n index : Nat} {ret : Option FieldType} {ws : List Cond} {rm : Room} {Pc : Array Value → State → Prop} {Qc : Array Value → State → Outcome → State → Prop} {XC : String → State → State → Prop} {free : Addr → Prop} {Ts : List Cond} {own C : String} {b : Addr} {As rest : List Value} {g : JFrame}
theorem vx_runVX {hh : List (Nat × Nat × Nat × Nat)} (S : CallFix p m c cc nL s args Ts own) (hM : vx_Met l y ws rm Pc Qc XC mc ms free) (cw : vx_CVW R s args own C index y bytes maxL ret hh ws rm mc ms n) (hp : PreV s H C b Pc As)
    (hg : g.method = m) (hn : As.length = n) (hsize : g.locals.size = nL) (hstack : g.stack = As.reverse ++ .ref b :: rest) (hW : 2 * g.monitorRoom + (rest.map fun v => v.category).sum ≤ 8) (hdg : decode cc g.pc = .ok (.invokevirtual index, 3)) (hf : cells + mc ≤ R.cells ∧ slots + ms ≤ R.slots) :
    vx_Run p l e R s m args below meth c H locs cells slots mc ms g rest (Qc (Value.ref b :: As).toArray) XC free := by
  obtain ⟨⟨hrc, hrs, hfr, hlo, hws, hcw⟩, hcode, hini, hy, hlen, hl, hin, hse⟩ := cw
  have hK : vx_Back l R p e below s args y 3 8 (PreOf R mc ms Pc) (PostOf Qc mc ms free) (vx_Post XC mc ms free) := vx_backW (hh := hh) (bytes := bytes) (maxL := maxL) (ret := ret) hM hp.1 hrc hrs hfr hlo hws hcw (fun a' U hW => word_at hW (Or.inl (by first | rfl | simp [Cond.onTables, Cond.keeps, Cond.steady])) hini)
  obtain ⟨hx, hb, hml, ho, -⟩ := S
  obtain ⟨-, ⟨cellB, hcB, hoB, hclB⟩, hPc⟩ := hp
  intro T hT X
  rcases vx_callVX X hx (C := C) (hh := hh) (bytes := bytes) (maxL := maxL) (ret := ret) ho hl hin hse hcode hy hK (by rw [hT]; exact hcB) hoB hclB hg (hsize.trans hml.symm) (argsL := As) (rest := rest) (fun sig h => hn.trans (hlen sig h)) hstack hW (by rw [hb]; exact hdg)
    (fun vm₁ hW₁ => ⟨hf.1, hf.2, hPc (T.setVm vm₁) hT hW₁⟩) with ⟨v, vm₁, ⟨U', l2, c2, s2⟩, hW₁, X', ⟨g', mk, t, L, e1, e2, hq, h1, hL, h2, h3⟩, st⟩ | ⟨q, vm₁, ⟨U', l2, c2, s2⟩, hW₁, X', ⟨g', mk, t, L, E, ce, e1, e2, hq, hce, hcv, hcl, h1, hL, h2, h3⟩, st⟩
  · dsimp only [Pt.U, Pt.locs, Pt.cells, Pt.slots] at X' e1 e2 h1 h2 h3 st
    subst h1; subst h2; subst h3
    exact Or.inl ⟨v, (T.setVm vm₁).calling g' mk (Value.ref b :: As).toArray, t, U', L, hT, X', hL, e1, e2, hq, st⟩
  · dsimp only [Pt.U, Pt.locs, Pt.cells, Pt.slots] at X' e1 e2 h1 h2 h3 st hcl
    subst h1; subst h2; subst h3
    exact Or.inr ⟨q, (T.setVm vm₁).calling g' mk (Value.ref b :: As).toArray, t, U', L, E, ce, hT, X', hL, e1, e2, hq, hce, hcv, vx_cls hW₁ hcl, st⟩
theorem vx_runSX {hh : List (Nat × Nat × Nat × Nat)} (S : CallFix p m c cc nL s args Ts own) (hM : vx_Met l y ws rm Pc Qc XC mc ms free) (cw : vx_CSW R s args own index y bytes maxL ret hh ws rm mc ms n) (hp : PreS s H Pc As)
    (hg : g.method = m) (hn : As.length = n) (hsize : g.locals.size = nL) (hstack : g.stack = As.reverse ++ rest) (hW : 2 * g.monitorRoom + (rest.map fun v => v.category).sum ≤ 8) (hdg : decode cc g.pc = .ok (.invokestatic index, 3)) (hf : cells + mc ≤ R.cells ∧ slots + ms ≤ R.slots) :
    vx_Run p l e R s m args below meth c H locs cells slots mc ms g rest (Qc As.toArray) XC free := by
  obtain ⟨⟨hrc, hrs, hfr, hlo, hws, hcw⟩, hcode, hini, hy, hlen, hl, hstt⟩ := cw
  have hK : vx_Back l R p e below s args y 3 8 (PreOf R mc ms Pc) (PostOf Qc mc ms free) (vx_Post XC mc ms free) := vx_backW (hh := hh) (bytes := bytes) (maxL := maxL) (ret := ret) hM hp.1 hrc hrs hfr hlo hws hcw (fun a' U hW => word_at hW (Or.inl (by first | rfl | simp [Cond.onTables, Cond.keeps, Cond.steady])) hini)
  obtain ⟨hx, hb, hml, ho, -⟩ := S
  intro T hT X
  rcases vx_callSX X hx (hh := hh) (bytes := bytes) (maxL := maxL) (ret := ret) ho hl hstt hini hcode hy hK hg (hsize.trans hml.symm) (argsL := As) (rest := rest) (fun sig h => hn.trans (hlen sig h)) hstack hW (by rw [hb]; exact hdg)
    (fun vm₁ hW₁ => ⟨hf.1, hf.2, hp.2 (T.setVm vm₁) hT hW₁⟩) with ⟨v, vm₁, ⟨U', l2, c2, s2⟩, hW₁, X', ⟨g', mk, t, L, e1, e2, hq, h1, hL, h2, h3⟩, st⟩ | ⟨q, vm₁, ⟨U', l2, c2, s2⟩, hW₁, X', ⟨g', mk, t, L, E, ce, e1, e2, hq, hce, hcv, hcl, h1, hL, h2, h3⟩, st⟩
  · dsimp only [Pt.U, Pt.locs, Pt.cells, Pt.slots] at X' e1 e2 h1 h2 h3 st
    subst h1; subst h2; subst h3
    exact Or.inl ⟨v, (T.setVm vm₁).calling g' mk As.toArray, t, U', L, hT, X', hL, e1, e2, hq, st⟩
  · dsimp only [Pt.U, Pt.locs, Pt.cells, Pt.slots] at X' e1 e2 h1 h2 h3 st hcl
    subst h1; subst h2; subst h3
    exact Or.inr ⟨q, (T.setVm vm₁).calling g' mk As.toArray, t, U', L, E, ce, hT, X', hL, e1, e2, hq, hce, hcv, vx_cls hW₁ hcl, st⟩
end
end VXH
theorem vx_ofWH {l : Launch} {y : MethodName} {ws ws' : List Cond} {rm : Room} {Pc : Array Value → State → Prop} {Qc : Array Value → State → Outcome → State → Prop} {XC : String → State → State → Prop} {mc ms : Nat} {free : Addr → Prop} {cc : ByteArray} {maxL : Nat} {ret : Option FieldType} {hh : List (Nat × Nat × Nat × Nat)}
    (hy : plainName y.cls = true) (hw : ws = Cond.codeWith y cc maxL ret hh :: ws')
    (body : ∀ p e s m args below meth c s₁, BodyLoose p l y (headSpec ws rm) cc maxL ret e s m args below meth c s₁ → c.maxLocals = maxL → Pc args s →
      W p l e (headSpec ws rm).room s m args below meth c s.heap [] 0 0 (vx_MQ below Qc XC args s mc ms free) (entryFrame m args maxL)) : vx_Met l y ws rm Pc Qc XC mc ms free := by
  refine MetFree.of_bodyS (code := cc) (maxLocals := maxL) (ret := ret) hy ?_ ?_
  · intro args s m h hn
    obtain ⟨m9, meth, c, hn9, h1, h2, h3, h4, -, h5, h6, -⟩ := Cond.codeWith_spec (atoms_spec (ws := ws) h _ (by rw [hw]; exact List.mem_cons_self))
    cases hn.symm.trans hn9
    exact ⟨meth, c, h1, h2, h3, h4, h5, h6⟩
  · intro p e s m args below meth c s₁ B hml hP _
    have hh0 : s₁.heap = s.heap := by rw [B.state]; rfl
    obtain ⟨t, a1, o, b1, b2, b3⟩ := body p e s m args below meth c s₁ B hml hP s₁ hh0 (Stand.of_body B)
    exact ⟨t, o, a1, b1, b2, b3⟩
/-! ===== END ===== -/

/-! ===== BEGIN a constructor that throws (launches without stack traces) ===== -/
section VXIA
variable {p : Program} {l : Launch} {e : Env} {R : Room} {s : State} {m : MethodId} {args : Array Value} {below : List Frame} {meth : Method} {c : Code} {T : State} {locs : List Loc} {cells slots : Nat}
theorem vx_callI (X : Stand p l e R s m args below meth c T locs cells slots) (hexec : p.tables.exec = Jvm.exec) {own : String} {index : Nat} {y : MethodName} {bytes : ByteArray} {maxL : Nat}
    (hown : s.vm.findClass own = some m.cls) (hy1 : y.name = "<init>") (hlink : (Cond.methodLink own index y).before args s = true) (hinst : (Cond.instanceMethod y).before args s = true)
    (hcode : (Cond.code y bytes maxL none).before args s = true) (hy : y.cls ≠ "java/lang/invoke/MethodHandle" ∧ y.cls ≠ "java/lang/invoke/VarHandle")
    {W9 : Nat} {Pre : Pt → Array Value → Prop} {Post : Pt → Array Value → Option Value → Pt → Prop} {PostX : Pt → Array Value → Addr → Pt → Prop} (hK : vx_Back l R p e below s args y 3 W9 Pre Post PostX)
    {g : JFrame} (hg : g.method = m) (hsize : g.locals.size = c.maxLocals) {a : Addr} {argsL rest : List Value} (hlen : ∀ sig, parseMethodDescriptor y.desc = some sig → argsL.length = sig.parameters.length)
    (hstack : g.stack = argsL.reverse ++ .ref a :: rest) (hW : 2 * g.monitorRoom + (rest.map fun v => v.category).sum ≤ W9) (hdg : decode c.code g.pc = .ok (.invokespecial index, 3))
    (hpre : ∀ vm₁, s.WarmedH vm₁ → Pre ⟨T.setVm vm₁, locs, cells, slots⟩ (Value.ref a :: argsL).toArray) :
    (∃ (v : Option Value) (vm₁ : Vm) (B : Pt), s.WarmedH vm₁ ∧ Stand p l e R s m args below meth c B.U B.locs B.cells B.slots ∧ Post ⟨T.setVm vm₁, locs, cells, slots⟩ (Value.ref a :: argsL).toArray v B ∧
      ∀ target, Steps p.tables e below (B.U.setTop { g with pc := g.pc + 3, stack := v.toList ++ rest }) target → Steps p.tables e below (T.setTop g) target) ∨
    (∃ (q : Addr) (vm₁ : Vm) (B : Pt), s.WarmedH vm₁ ∧ Stand p l e R s m args below meth c B.U B.locs B.cells B.slots ∧ PostX ⟨T.setVm vm₁, locs, cells, slots⟩ (Value.ref a :: argsL).toArray q B ∧
      Steps p.tables e below (T.setTop g) ((B.U.setTop { g with stack := rest }).pushFrame (.throwing q))) := by
  subst hg
  have hpl : e.platform.magicAccessors = ({} : Platform).magicAccessors := by rw [X.admits.platform]
  obtain ⟨mk, methM, cM, kP, vm₁, hnamed, hmethM, hcodeM, -, hlocalsM, -, hkP, -, hW₁, hstep₁⟩ := Steps.initColdArgs (e := e) X.here hexec X.warmed hpl hown hy1 hy hlink hinst hcode (f := g) rfl hlen hstack hdg
  have X₁ := X.noted hW₁
  rcases hK g.method meth c ⟨T.setVm vm₁, locs, cells, slots⟩ { g with stack := rest } (.invokespecial index) mk (Value.ref a :: argsL).toArray X₁ rfl hsize hdg hW (X₁.named hnamed) (hpre vm₁ X₁.warmed) with ⟨v, B, X', hpost, hsteps⟩ | ⟨q, B, X', hpost, hsteps⟩
  · exact Or.inl ⟨v, vm₁, B, X₁.warmed, X', hpost, fun target h => hstep₁ _ fun acts => by rw [doInvoke_state]; exact hsteps.trans h⟩
  · exact Or.inr ⟨q, vm₁, B, X₁.warmed, X', hpost, hstep₁ _ fun acts => by rw [doInvoke_state]; exact hsteps⟩
end VXIA
section VXIB
variable {p : Program} {l : Launch} {e : Env} {R : Room} {s : State} {m : MethodId} {args : Array Value} {below : List Frame} {meth : Method} {c : Code} {H : Heap} {locs : List Loc} {cells slots : Nat}
variable {y : MethodName} {bytes cc : ByteArray} {maxL nL mc ms n index : Nat} {ret : Option FieldType} {ws : List Cond} {rm : Room} {Pc : Array Value → State → Prop} {Qc : Array Value → State → Outcome → State → Prop} {XC : String → State → State → Prop} {free : Addr → Prop} {Ts : List Cond} {own C : String} {b : Addr} {As rest : List Value} {g : JFrame}
theorem vx_runI (S : CallFix p m c cc nL s args Ts own) (hM : vx_Met l y ws rm Pc Qc XC mc ms free) (cw : CallB R s args own index y bytes maxL none ws rm mc ms n ∧ y.name = "<init>" ∧ (Cond.instanceMethod y).before args s = true) (hp : PreS s H Pc (.ref b :: As))
    (hg : g.method = m) (hn : As.length = n) (hsize : g.locals.size = nL) (hstack : g.stack = As.reverse ++ .ref b :: rest) (hW : 2 * g.monitorRoom + (rest.map fun v => v.category).sum ≤ 8) (hdg : decode cc g.pc = .ok (.invokespecial index, 3)) (hf : cells + mc ≤ R.cells ∧ slots + ms ≤ R.slots) :
    vx_Run p l e R s m args below meth c H locs cells slots mc ms g rest (Qc (Value.ref b :: As).toArray) XC free := by
  have hK : vx_Back l R p e below s args y 3 8 (PreOf R mc ms Pc) (PostOf Qc mc ms free) (vx_Post XC mc ms free) := vx_callBack cw.1 hM hp.1
  obtain ⟨⟨-, -, -, -, -, -, hcode, -, hy, hlen, hl⟩, hy1, hin⟩ := cw
  obtain ⟨hx, hb, hml, ho, -⟩ := S
  have hPc := hp.2
  intro T hT X
  rcases vx_callI X hx (bytes := bytes) (maxL := maxL) ho hy1 hl hin hcode hy hK hg (hsize.trans hml.symm) (a := b) (argsL := As) (rest := rest) (fun sig h => hn.trans (hlen sig h)) hstack hW (by rw [hb]; exact hdg)
    (fun vm₁ hW₁ => ⟨hf.1, hf.2, hPc (T.setVm vm₁) hT hW₁⟩) with ⟨v, vm₁, ⟨U', l2, c2, s2⟩, hW₁, X', ⟨g', mk, t, L, e1, e2, hq, h1, hL, h2, h3⟩, st⟩ | ⟨q, vm₁, ⟨U', l2, c2, s2⟩, hW₁, X', ⟨g', mk, t, L, E, ce, e1, e2, hq, hce, hcv, hcl, h1, hL, h2, h3⟩, st⟩
  · dsimp only [Pt.U, Pt.locs, Pt.cells, Pt.slots] at X' e1 e2 h1 h2 h3 st
    subst h1; subst h2; subst h3
    exact Or.inl ⟨v, (T.setVm vm₁).calling g' mk (Value.ref b :: As).toArray, t, U', L, hT, X', hL, e1, e2, hq, st⟩
  · dsimp only [Pt.U, Pt.locs, Pt.cells, Pt.slots] at X' e1 e2 h1 h2 h3 st hcl
    subst h1; subst h2; subst h3
    exact Or.inr ⟨q, (T.setVm vm₁).calling g' mk (Value.ref b :: As).toArray, t, U', L, E, ce, hT, X', hL, e1, e2, hq, hce, hcv, vx_cls hW₁ hcl, st⟩
end VXIB
/-! ===== END ===== -/
end
section
/-! ===== BEGIN printed: names, fields, word lists, decode rows ===== -/
def RX0 : String := "Signkinds$Line"
def TX0 : u_T := fun k => match k with
  | 0 => ("Signkinds$Line", "numbers", "[I", true)
  | _ => ("Signkinds$Line", "size", "I", false)
def tyX0 : Nat → FieldType := fun k => match k with
  | 0 => .array .int
  | _ => .int
abbrev wsX00 : List Cond := u_ws RX0 TX0 2
theorem nmX0 : ∀ a, a < 2 → ∀ b, b < 2 → a ≠ b → (TX0 a).2.1 ≠ (TX0 b).2.1 := by decide +kernel
theorem tyX0_ok : ∀ k, k < 2 → parseFieldDescriptor (TX0 k).2.2.1 = some (tyX0 k) := by decide +kernel
abbrev cX0_init : ByteArray := prog_2_method_1_code
def yX0_init : MethodName := ⟨RX0, "<init>", "(I)V"⟩
abbrev cX0_size : ByteArray := prog_2_method_2_code
def yX0_size : MethodName := ⟨RX0, "size", "()I"⟩
abbrev cX0_hasPlace : ByteArray := prog_2_method_3_code
def yX0_hasPlace : MethodName := ⟨RX0, "hasPlace", "(I)Z"⟩
abbrev cX0_hasRoomFor : ByteArray := prog_2_method_4_code
def yX0_hasRoomFor : MethodName := ⟨RX0, "hasRoomFor", "(I)Z"⟩
abbrev cX0_get : ByteArray := prog_2_method_5_code
def yX0_get : MethodName := ⟨RX0, "get", "(I)I"⟩
abbrev cX0_set : ByteArray := prog_2_method_6_code
def yX0_set : MethodName := ⟨RX0, "set", "(II)V"⟩
abbrev cX0_add : ByteArray := prog_2_method_7_code
def yX0_add : MethodName := ⟨RX0, "add", "(I)V"⟩
abbrev cX0_clear : ByteArray := prog_2_method_8_code
def yX0_clear : MethodName := ⟨RX0, "clear", "()V"⟩
abbrev cX0_takeAway : ByteArray := prog_2_method_9_code
def yX0_takeAway : MethodName := ⟨RX0, "takeAway", "(I)V"⟩
abbrev cX0_narrow : ByteArray := prog_2_method_10_code
def yX0_narrow : MethodName := ⟨RX0, "narrow", "(II)V"⟩
abbrev cX0_turnRound : ByteArray := prog_2_method_11_code
def yX0_turnRound : MethodName := ⟨RX0, "turnRound", "()V"⟩
abbrev cX0_become : ByteArray := prog_2_method_12_code
def yX0_become : MethodName := ⟨RX0, "become", "(LSignkinds$Line;)V"⟩
def RX1 : String := "Signkinds$Past"
def TX1 : u_T := fun k => match k with
  | 0 => ("Signkinds$Past", "states", "[LSignkinds$State;", true)
  | _ => ("Signkinds$Past", "size", "I", false)
def tyX1 : Nat → FieldType := fun k => match k with
  | 0 => .array (.object "Signkinds$State")
  | _ => .int
abbrev wsX10 : List Cond := u_ws RX1 TX1 2
theorem nmX1 : ∀ a, a < 2 → ∀ b, b < 2 → a ≠ b → (TX1 a).2.1 ≠ (TX1 b).2.1 := by decide +kernel
theorem tyX1_ok : ∀ k, k < 2 → parseFieldDescriptor (TX1 k).2.2.1 = some (tyX1 k) := by decide +kernel
abbrev cX1_init : ByteArray := prog_3_method_1_code
def yX1_init : MethodName := ⟨RX1, "<init>", "()V"⟩
abbrev cX1_size : ByteArray := prog_3_method_2_code
def yX1_size : MethodName := ⟨RX1, "size", "()I"⟩
abbrev cX1_keep : ByteArray := prog_3_method_3_code
def yX1_keep : MethodName := ⟨RX1, "keep", "(LSignkinds$State;)V"⟩
abbrev cX1_bringBack : ByteArray := prog_3_method_4_code
def yX1_bringBack : MethodName := ⟨RX1, "bringBack", "(LSignkinds$State;)V"⟩
def RX2 : String := "Signkinds$Signs"
def TX2 : u_T := fun k => match k with
  | _ => ("", "", "", false)
def tyX2 : Nat → FieldType := fun k => match k with
  | _ => .int
abbrev wsX20 : List Cond := u_ws RX2 TX2 0
theorem nmX2 : ∀ a, a < 0 → ∀ b, b < 0 → a ≠ b → (TX2 a).2.1 ≠ (TX2 b).2.1 := by decide +kernel
theorem tyX2_ok : ∀ k, k < 0 → parseFieldDescriptor (TX2 k).2.2.1 = some (tyX2 k) := by decide +kernel
abbrev cX2_isSign : ByteArray := prog_4_method_2_code
def yX2_isSign : MethodName := ⟨RX2, "isSign", "(I)Z"⟩
abbrev cX2_isRadix : ByteArray := prog_4_method_3_code
def yX2_isRadix : MethodName := ⟨RX2, "isRadix", "(I)Z"⟩
abbrev cX2_isOf : ByteArray := prog_4_method_4_code
def yX2_isOf : MethodName := ⟨RX2, "isOf", "(II)Z"⟩
abbrev cX2_kindsOf : ByteArray := prog_4_method_5_code
def yX2_kindsOf : MethodName := ⟨RX2, "kindsOf", "(I)I"⟩
abbrev cX2_upperOf : ByteArray := prog_4_method_6_code
def yX2_upperOf : MethodName := ⟨RX2, "upperOf", "(I)I"⟩
abbrev cX2_lowerOf : ByteArray := prog_4_method_7_code
def yX2_lowerOf : MethodName := ⟨RX2, "lowerOf", "(I)I"⟩
abbrev cX2_signValue : ByteArray := prog_4_method_8_code
def yX2_signValue : MethodName := ⟨RX2, "signValue", "(I)I"⟩
abbrev cX2_numberOf : ByteArray := prog_4_method_9_code
def yX2_numberOf : MethodName := ⟨RX2, "numberOf", "(II)I"⟩
abbrev cX2_digitOf : ByteArray := prog_4_method_10_code
def yX2_digitOf : MethodName := ⟨RX2, "digitOf", "(II)I"⟩
abbrev cX2_digitsOf : ByteArray := prog_4_method_11_code
def yX2_digitsOf : MethodName := ⟨RX2, "digitsOf", "(II)I"⟩
abbrev cX2_digitNumber : ByteArray := prog_4_method_12_code
def yX2_digitNumber : MethodName := ⟨RX2, "digitNumber", "(III)I"⟩
abbrev cX2_shifted : ByteArray := prog_4_method_13_code
def yX2_shifted : MethodName := ⟨RX2, "shifted", "(III)I"⟩
abbrev cX2_firstSpelled : ByteArray := prog_4_method_14_code
def yX2_firstSpelled : MethodName := ⟨RX2, "firstSpelled", "(I)I"⟩
abbrev cX2_secondSpelled : ByteArray := prog_4_method_15_code
def yX2_secondSpelled : MethodName := ⟨RX2, "secondSpelled", "(I)I"⟩
abbrev cX2_formOf : ByteArray := prog_4_method_16_code
def yX2_formOf : MethodName := ⟨RX2, "formOf", "(I)C"⟩
abbrev cX2_isSoundSign : ByteArray := prog_4_method_17_code
def yX2_isSoundSign : MethodName := ⟨RX2, "isSoundSign", "(I)Z"⟩
abbrev cX2_plainValueOf : ByteArray := prog_4_method_18_code
def yX2_plainValueOf : MethodName := ⟨RX2, "plainValueOf", "(I)I"⟩
abbrev cX2_isPlainDigit : ByteArray := prog_4_method_19_code
def yX2_isPlainDigit : MethodName := ⟨RX2, "isPlainDigit", "(I)Z"⟩
abbrev cX2_isGreatPlain : ByteArray := prog_4_method_20_code
def yX2_isGreatPlain : MethodName := ⟨RX2, "isGreatPlain", "(I)Z"⟩
abbrev cX2_isSmallPlain : ByteArray := prog_4_method_21_code
def yX2_isSmallPlain : MethodName := ⟨RX2, "isSmallPlain", "(I)Z"⟩
abbrev cX2_isAnyGreat : ByteArray := prog_4_method_22_code
def yX2_isAnyGreat : MethodName := ⟨RX2, "isAnyGreat", "(I)Z"⟩
abbrev cX2_isAnyLetter : ByteArray := prog_4_method_23_code
def yX2_isAnyLetter : MethodName := ⟨RX2, "isAnyLetter", "(I)Z"⟩
abbrev cX2_isBetween : ByteArray := prog_4_method_24_code
def yX2_isBetween : MethodName := ⟨RX2, "isBetween", "(III)Z"⟩
def RX3 : String := "Signkinds$State"
def TX3 : u_T := fun k => match k with
  | 0 => ("Signkinds$State", "rows", "[LSignkinds$Line;", true)
  | _ => ("Signkinds$State", "tracks", "[LSignkinds$Line;", true)
def tyX3 : Nat → FieldType := fun k => match k with
  | 0 => .array (.object "Signkinds$Line")
  | _ => .array (.object "Signkinds$Line")
abbrev wsX30 : List Cond := u_ws RX3 TX3 2
theorem nmX3 : ∀ a, a < 2 → ∀ b, b < 2 → a ≠ b → (TX3 a).2.1 ≠ (TX3 b).2.1 := by decide +kernel
theorem tyX3_ok : ∀ k, k < 2 → parseFieldDescriptor (TX3 k).2.2.1 = some (tyX3 k) := by decide +kernel
abbrev cX3_init : ByteArray := prog_5_method_1_code
def yX3_init : MethodName := ⟨RX3, "<init>", "()V"⟩
abbrev cX3_howManySigns : ByteArray := prog_5_method_2_code
def yX3_howManySigns : MethodName := ⟨RX3, "howManySigns", "()I"⟩
abbrev cX3_howManyUnits : ByteArray := prog_5_method_3_code
def yX3_howManyUnits : MethodName := ⟨RX3, "howManyUnits", "()I"⟩
abbrev cX3_become : ByteArray := prog_5_method_4_code
def yX3_become : MethodName := ⟨RX3, "become", "(LSignkinds$State;)V"⟩
def RX4 : String := "Signkinds$Units"
def TX4 : u_T := fun k => match k with
  | _ => ("", "", "", false)
def tyX4 : Nat → FieldType := fun k => match k with
  | _ => .int
abbrev wsX40 : List Cond := u_ws RX4 TX4 0
theorem nmX4 : ∀ a, a < 0 → ∀ b, b < 0 → a ≠ b → (TX4 a).2.1 ≠ (TX4 b).2.1 := by decide +kernel
theorem tyX4_ok : ∀ k, k < 0 → parseFieldDescriptor (TX4 k).2.2.1 = some (tyX4 k) := by decide +kernel
abbrev cX4_isUnit : ByteArray := prog_6_method_2_code
def yX4_isUnit : MethodName := ⟨RX4, "isUnit", "(I)Z"⟩
abbrev cX4_isHigh : ByteArray := prog_6_method_3_code
def yX4_isHigh : MethodName := ⟨RX4, "isHigh", "(I)Z"⟩
abbrev cX4_isLow : ByteArray := prog_6_method_4_code
def yX4_isLow : MethodName := ⟨RX4, "isLow", "(I)Z"⟩
abbrev cX4_isHalf : ByteArray := prog_6_method_5_code
def yX4_isHalf : MethodName := ⟨RX4, "isHalf", "(I)Z"⟩
abbrev cX4_isAnyCode : ByteArray := prog_6_method_6_code
def yX4_isAnyCode : MethodName := ⟨RX4, "isAnyCode", "(I)Z"⟩
abbrev cX4_isWideCode : ByteArray := prog_6_method_7_code
def yX4_isWideCode : MethodName := ⟨RX4, "isWideCode", "(I)Z"⟩
abbrev cX4_unitsOf : ByteArray := prog_6_method_8_code
def yX4_unitsOf : MethodName := ⟨RX4, "unitsOf", "(I)I"⟩
abbrev cX4_highOf : ByteArray := prog_6_method_9_code
def yX4_highOf : MethodName := ⟨RX4, "highOf", "(I)I"⟩
abbrev cX4_lowOf : ByteArray := prog_6_method_10_code
def yX4_lowOf : MethodName := ⟨RX4, "lowOf", "(I)I"⟩
abbrev cX4_codeOf : ByteArray := prog_6_method_11_code
def yX4_codeOf : MethodName := ⟨RX4, "codeOf", "(II)I"⟩
abbrev cX4_turned : ByteArray := prog_6_method_12_code
def yX4_turned : MethodName := ⟨RX4, "turned", "(I)I"⟩
abbrev cX4_addCode : ByteArray := prog_6_method_13_code
def yX4_addCode : MethodName := ⟨RX4, "addCode", "(LSignkinds$Line;I)V"⟩
abbrev cX4_codeFrom : ByteArray := prog_6_method_14_code
def yX4_codeFrom : MethodName := ⟨RX4, "codeFrom", "(LSignkinds$Line;I)I"⟩
abbrev cX4_isCodeBegin : ByteArray := prog_6_method_15_code
def yX4_isCodeBegin : MethodName := ⟨RX4, "isCodeBegin", "(LSignkinds$Line;I)Z"⟩
abbrev cX4_codeBegin : ByteArray := prog_6_method_16_code
def yX4_codeBegin : MethodName := ⟨RX4, "codeBegin", "(LSignkinds$Line;I)I"⟩
abbrev cX4_listCodes : ByteArray := prog_6_method_17_code
def yX4_listCodes : MethodName := ⟨RX4, "listCodes", "(LSignkinds$Line;LSignkinds$Line;)V"⟩
abbrev cX4_howMany : ByteArray := prog_6_method_18_code
def yX4_howMany : MethodName := ⟨RX4, "howMany", "(LSignkinds$Line;I)I"⟩
abbrev cX4_isCounted : ByteArray := prog_6_method_19_code
def yX4_isCounted : MethodName := ⟨RX4, "isCounted", "(II)Z"⟩
abbrev cX4_areSentAgain : ByteArray := prog_6_method_20_code
def yX4_areSentAgain : MethodName := ⟨RX4, "areSentAgain", "(LSignkinds$Line;)Z"⟩
abbrev cX4_standsAt : ByteArray := prog_6_method_21_code
def yX4_standsAt : MethodName := ⟨RX4, "standsAt", "(LSignkinds$Line;II)Z"⟩
def RX5 : String := "Signkinds"
def TX5 : u_T := fun k => match k with
  | 0 => ("Signkinds", "now", "LSignkinds$State;", true)
  | 1 => ("Signkinds", "past", "LSignkinds$Past;", true)
  | 2 => ("Signkinds", "reversed", "LSignkinds$Line;", true)
  | _ => ("Signkinds", "knocks", "I", false)
def tyX5 : Nat → FieldType := fun k => match k with
  | 0 => .object "Signkinds$State"
  | 1 => .object "Signkinds$Past"
  | 2 => .object "Signkinds$Line"
  | _ => .int
abbrev wsX50 : List Cond := u_ws RX5 TX5 4
theorem nmX5 : ∀ a, a < 4 → ∀ b, b < 4 → a ≠ b → (TX5 a).2.1 ≠ (TX5 b).2.1 := by decide +kernel
theorem tyX5_ok : ∀ k, k < 4 → parseFieldDescriptor (TX5 k).2.2.1 = some (tyX5 k) := by decide +kernel
abbrev cX5_init : ByteArray := prog_1_method_1_code
def yX5_init : MethodName := ⟨RX5, "<init>", "()V"⟩
abbrev cX5_lay : ByteArray := prog_1_method_2_code
def yX5_lay : MethodName := ⟨RX5, "lay", "(IIIII)I"⟩
abbrev cX5_drop : ByteArray := prog_1_method_3_code
def yX5_drop : MethodName := ⟨RX5, "drop", "(II)I"⟩
abbrev cX5_copy : ByteArray := prog_1_method_4_code
def yX5_copy : MethodName := ⟨RX5, "copy", "(II)I"⟩
abbrev cX5_raise : ByteArray := prog_1_method_5_code
def yX5_raise : MethodName := ⟨RX5, "raise", "(I)I"⟩
abbrev cX5_sink : ByteArray := prog_1_method_6_code
def yX5_sink : MethodName := ⟨RX5, "sink", "(I)I"⟩
abbrev cX5_sieve : ByteArray := prog_1_method_7_code
def yX5_sieve : MethodName := ⟨RX5, "sieve", "(IIZ)I"⟩
abbrev cX5_strip : ByteArray := prog_1_method_8_code
def yX5_strip : MethodName := ⟨RX5, "strip", "(I)I"⟩
abbrev cX5_turn : ByteArray := prog_1_method_9_code
def yX5_turn : MethodName := ⟨RX5, "turn", "(I)I"⟩
abbrev cX5_write : ByteArray := prog_1_method_10_code
def yX5_write : MethodName := ⟨RX5, "write", "(III)I"⟩
abbrev cX5_spell : ByteArray := prog_1_method_11_code
def yX5_spell : MethodName := ⟨RX5, "spell", "(II)I"⟩
abbrev cX5_read : ByteArray := prog_1_method_12_code
def yX5_read : MethodName := ⟨RX5, "read", "(II)I"⟩
abbrev cX5_send : ByteArray := prog_1_method_13_code
def yX5_send : MethodName := ⟨RX5, "send", "(II)I"⟩
abbrev cX5_put : ByteArray := prog_1_method_14_code
def yX5_put : MethodName := ⟨RX5, "put", "(II)I"⟩
abbrev cX5_cut : ByteArray := prog_1_method_15_code
def yX5_cut : MethodName := ⟨RX5, "cut", "(II)I"⟩
abbrev cX5_flip : ByteArray := prog_1_method_16_code
def yX5_flip : MethodName := ⟨RX5, "flip", "(I)I"⟩
abbrev cX5_reverse : ByteArray := prog_1_method_17_code
def yX5_reverse : MethodName := ⟨RX5, "reverse", "(I)I"⟩
abbrev cX5_undo : ByteArray := prog_1_method_18_code
def yX5_undo : MethodName := ⟨RX5, "undo", "()I"⟩
abbrev cX5_knock : ByteArray := prog_1_method_19_code
def yX5_knock : MethodName := ⟨RX5, "knock", "()I"⟩
abbrev cX5_isDigit : ByteArray := prog_1_method_20_code
def yX5_isDigit : MethodName := ⟨RX5, "isDigit", "(I)Z"⟩
abbrev cX5_isLetter : ByteArray := prog_1_method_21_code
def yX5_isLetter : MethodName := ⟨RX5, "isLetter", "(I)Z"⟩
abbrev cX5_isLetterOrDigit : ByteArray := prog_1_method_22_code
def yX5_isLetterOrDigit : MethodName := ⟨RX5, "isLetterOrDigit", "(I)Z"⟩
abbrev cX5_isWhite : ByteArray := prog_1_method_23_code
def yX5_isWhite : MethodName := ⟨RX5, "isWhite", "(I)Z"⟩
abbrev cX5_isGreat : ByteArray := prog_1_method_24_code
def yX5_isGreat : MethodName := ⟨RX5, "isGreat", "(I)Z"⟩
abbrev cX5_kinds : ByteArray := prog_1_method_25_code
def yX5_kinds : MethodName := ⟨RX5, "kinds", "(I)I"⟩
abbrev cX5_upper : ByteArray := prog_1_method_26_code
def yX5_upper : MethodName := ⟨RX5, "upper", "(IZ)I"⟩
abbrev cX5_lower : ByteArray := prog_1_method_27_code
def yX5_lower : MethodName := ⟨RX5, "lower", "(IZ)I"⟩
abbrev cX5_value : ByteArray := prog_1_method_28_code
def yX5_value : MethodName := ⟨RX5, "value", "(IZ)I"⟩
abbrev cX5_number : ByteArray := prog_1_method_29_code
def yX5_number : MethodName := ⟨RX5, "number", "(IIZ)I"⟩
abbrev cX5_digit : ByteArray := prog_1_method_30_code
def yX5_digit : MethodName := ⟨RX5, "digit", "(II)I"⟩
abbrev cX5_length : ByteArray := prog_1_method_31_code
def yX5_length : MethodName := ⟨RX5, "length", "(I)I"⟩
abbrev cX5_at : ByteArray := prog_1_method_32_code
def yX5_at : MethodName := ⟨RX5, "at", "(II)I"⟩
abbrev cX5_count : ByteArray := prog_1_method_33_code
def yX5_count : MethodName := ⟨RX5, "count", "(II)I"⟩
abbrev cX5_first : ByteArray := prog_1_method_34_code
def yX5_first : MethodName := ⟨RX5, "first", "(III)I"⟩
abbrev cX5_last : ByteArray := prog_1_method_35_code
def yX5_last : MethodName := ⟨RX5, "last", "(II)I"⟩
abbrev cX5_forms : ByteArray := prog_1_method_36_code
def yX5_forms : MethodName := ⟨RX5, "forms", "(I)Ljava/lang/String;"⟩
abbrev cX5_spelled : ByteArray := prog_1_method_37_code
def yX5_spelled : MethodName := ⟨RX5, "spelled", "(I)Ljava/lang/String;"⟩
abbrev cX5_told : ByteArray := prog_1_method_38_code
def yX5_told : MethodName := ⟨RX5, "told", "(II)I"⟩
abbrev cX5_sum : ByteArray := prog_1_method_39_code
def yX5_sum : MethodName := ⟨RX5, "sum", "(II)I"⟩
abbrev cX5_values : ByteArray := prog_1_method_40_code
def yX5_values : MethodName := ⟨RX5, "values", "(I)I"⟩
abbrev cX5_words : ByteArray := prog_1_method_41_code
def yX5_words : MethodName := ⟨RX5, "words", "(I)I"⟩
abbrev cX5_word : ByteArray := prog_1_method_42_code
def yX5_word : MethodName := ⟨RX5, "word", "(IIZ)I"⟩
abbrev cX5_isAlike : ByteArray := prog_1_method_43_code
def yX5_isAlike : MethodName := ⟨RX5, "isAlike", "(II)Z"⟩
abbrev cX5_order : ByteArray := prog_1_method_44_code
def yX5_order : MethodName := ⟨RX5, "order", "(II)I"⟩
abbrev cX5_isCode : ByteArray := prog_1_method_45_code
def yX5_isCode : MethodName := ⟨RX5, "isCode", "(I)Z"⟩
abbrev cX5_isPlain : ByteArray := prog_1_method_46_code
def yX5_isPlain : MethodName := ⟨RX5, "isPlain", "(I)Z"⟩
abbrev cX5_isWide : ByteArray := prog_1_method_47_code
def yX5_isWide : MethodName := ⟨RX5, "isWide", "(I)Z"⟩
abbrev cX5_units : ByteArray := prog_1_method_48_code
def yX5_units : MethodName := ⟨RX5, "units", "(I)I"⟩
abbrev cX5_half : ByteArray := prog_1_method_49_code
def yX5_half : MethodName := ⟨RX5, "half", "(IZ)I"⟩
abbrev cX5_code : ByteArray := prog_1_method_50_code
def yX5_code : MethodName := ⟨RX5, "code", "(II)I"⟩
abbrev cX5_ofUnit : ByteArray := prog_1_method_51_code
def yX5_ofUnit : MethodName := ⟨RX5, "ofUnit", "(II)I"⟩
abbrev cX5_compare : ByteArray := prog_1_method_52_code
def yX5_compare : MethodName := ⟨RX5, "compare", "(II)I"⟩
abbrev cX5_ofTrack : ByteArray := prog_1_method_53_code
def yX5_ofTrack : MethodName := ⟨RX5, "ofTrack", "(II)I"⟩
abbrev cX5_unit : ByteArray := prog_1_method_54_code
def yX5_unit : MethodName := ⟨RX5, "unit", "(II)I"⟩
abbrev cX5_codeAt : ByteArray := prog_1_method_55_code
def yX5_codeAt : MethodName := ⟨RX5, "codeAt", "(II)I"⟩
abbrev cX5_nth : ByteArray := prog_1_method_56_code
def yX5_nth : MethodName := ⟨RX5, "nth", "(II)I"⟩
abbrev cX5_house : ByteArray := prog_1_method_57_code
def yX5_house : MethodName := ⟨RX5, "house", "(I)I"⟩
abbrev cX5_isSound : ByteArray := prog_1_method_58_code
def yX5_isSound : MethodName := ⟨RX5, "isSound", "()Z"⟩
abbrev cX5_digest : ByteArray := prog_1_method_59_code
def yX5_digest : MethodName := ⟨RX5, "digest", "()J"⟩
abbrev cX5_rowOf : ByteArray := prog_1_method_60_code
def yX5_rowOf : MethodName := ⟨RX5, "rowOf", "(I)LSignkinds$Line;"⟩
abbrev cX5_trackOf : ByteArray := prog_1_method_61_code
def yX5_trackOf : MethodName := ⟨RX5, "trackOf", "(I)LSignkinds$Line;"⟩
abbrev cX5_numberAt : ByteArray := prog_1_method_62_code
def yX5_numberAt : MethodName := ⟨RX5, "numberAt", "(LSignkinds$Line;I)I"⟩
abbrev cX5_checkSign : ByteArray := prog_1_method_63_code
def yX5_checkSign : MethodName := ⟨RX5, "checkSign", "(I)V"⟩
abbrev cX5_checkKind : ByteArray := prog_1_method_64_code
def yX5_checkKind : MethodName := ⟨RX5, "checkKind", "(I)V"⟩
abbrev cX5_checkRadix : ByteArray := prog_1_method_65_code
def yX5_checkRadix : MethodName := ⟨RX5, "checkRadix", "(I)V"⟩
abbrev cX5_checkUnit : ByteArray := prog_1_method_66_code
def yX5_checkUnit : MethodName := ⟨RX5, "checkUnit", "(I)V"⟩
abbrev cX5_checkAreTwo : ByteArray := prog_1_method_67_code
def yX5_checkAreTwo : MethodName := ⟨RX5, "checkAreTwo", "(II)V"⟩
abbrev cX5_laid : ByteArray := prog_1_method_68_code
def yX5_laid : MethodName := ⟨RX5, "laid", "(I)I"⟩
abbrev cX5_addLaid : ByteArray := prog_1_method_69_code
def yX5_addLaid : MethodName := ⟨RX5, "addLaid", "(LSignkinds$Line;I)V"⟩
abbrev cX5_shorten : ByteArray := prog_1_method_70_code
def yX5_shorten : MethodName := ⟨RX5, "shorten", "(LSignkinds$Line;I)I"⟩
abbrev cX5_canBeRead : ByteArray := prog_1_method_71_code
def yX5_canBeRead : MethodName := ⟨RX5, "canBeRead", "(LSignkinds$Line;)Z"⟩
abbrev cX5_isWordBegin : ByteArray := prog_1_method_72_code
def yX5_isWordBegin : MethodName := ⟨RX5, "isWordBegin", "(LSignkinds$Line;I)Z"⟩
abbrev cX5_wordBegin : ByteArray := prog_1_method_73_code
def yX5_wordBegin : MethodName := ⟨RX5, "wordBegin", "(LSignkinds$Line;I)I"⟩
abbrev cX5_ahead : ByteArray := prog_1_method_74_code
def yX5_ahead : MethodName := ⟨RX5, "ahead", "(II)I"⟩
abbrev cX5_isSoundRow : ByteArray := prog_1_method_75_code
def yX5_isSoundRow : MethodName := ⟨RX5, "isSoundRow", "(LSignkinds$Line;)Z"⟩
abbrev cX5_isSoundTrack : ByteArray := prog_1_method_76_code
def yX5_isSoundTrack : MethodName := ⟨RX5, "isSoundTrack", "(LSignkinds$Line;)Z"⟩
abbrev cX5_with : ByteArray := prog_1_method_77_code
def yX5_with : MethodName := ⟨RX5, "with", "(JJ)J"⟩
abbrev cX5_withRow : ByteArray := prog_1_method_78_code
def yX5_withRow : MethodName := ⟨RX5, "withRow", "(JI)J"⟩
abbrev cX5_withTrack : ByteArray := prog_1_method_79_code
def yX5_withTrack : MethodName := ⟨RX5, "withTrack", "(JI)J"⟩
def RX6 : String := "SignkindsLaw$Out"
def TX6 : u_T := fun k => match k with
  | 0 => ("SignkindsLaw$Out", "n", "J", false)
  | _ => ("SignkindsLaw$Out", "s", "Ljava/lang/String;", false)
def tyX6 : Nat → FieldType := fun k => match k with
  | 0 => .long
  | _ => .object "java/lang/String"
abbrev wsX60 : List Cond := u_ws RX6 TX6 2
theorem nmX6 : ∀ a, a < 2 → ∀ b, b < 2 → a ≠ b → (TX6 a).2.1 ≠ (TX6 b).2.1 := by decide +kernel
theorem tyX6_ok : ∀ k, k < 2 → parseFieldDescriptor (TX6 k).2.2.1 = some (tyX6 k) := by decide +kernel
abbrev cX6_init : ByteArray := prog_8_method_1_code
def yX6_init : MethodName := ⟨RX6, "<init>", "()V"⟩
def RX7 : String := "SignkindsModel"
def TX7 : u_T := fun k => match k with
  | 0 => ("SignkindsModel", "thrown", "I", false)
  | 1 => ("SignkindsModel", "rows", "[[I", false)
  | 2 => ("SignkindsModel", "before", "Ljava/util/ArrayList;", true)
  | _ => ("SignkindsModel", "knocks", "I", false)
def tyX7 : Nat → FieldType := fun k => match k with
  | 0 => .int
  | 1 => .array (.array .int)
  | 2 => .object "java/util/ArrayList"
  | _ => .int
abbrev wsX70 : List Cond := u_ws RX7 TX7 4
theorem nmX7 : ∀ a, a < 4 → ∀ b, b < 4 → a ≠ b → (TX7 a).2.1 ≠ (TX7 b).2.1 := by decide +kernel
theorem tyX7_ok : ∀ k, k < 4 → parseFieldDescriptor (TX7 k).2.2.1 = some (tyX7 k) := by decide +kernel
abbrev cX7_init : ByteArray := prog_9_method_1_code
def yX7_init : MethodName := ⟨RX7, "<init>", "()V"⟩
abbrev cX7_isOf : ByteArray := prog_9_method_2_code
def yX7_isOf : MethodName := ⟨RX7, "isOf", "(III)Z"⟩
abbrev cX7_one : ByteArray := prog_9_method_3_code
def yX7_one : MethodName := ⟨RX7, "one", "(Z)I"⟩
abbrev cX7_isSign : ByteArray := prog_9_method_4_code
def yX7_isSign : MethodName := ⟨RX7, "isSign", "(I)Z"⟩
abbrev cX7_isKind : ByteArray := prog_9_method_5_code
def yX7_isKind : MethodName := ⟨RX7, "isKind", "(II)Z"⟩
abbrev cX7_upperOf : ByteArray := prog_9_method_6_code
def yX7_upperOf : MethodName := ⟨RX7, "upperOf", "(I)I"⟩
abbrev cX7_lowerOf : ByteArray := prog_9_method_7_code
def yX7_lowerOf : MethodName := ⟨RX7, "lowerOf", "(I)I"⟩
abbrev cX7_valueOf : ByteArray := prog_9_method_8_code
def yX7_valueOf : MethodName := ⟨RX7, "valueOf", "(I)I"⟩
abbrev cX7_isRadix : ByteArray := prog_9_method_9_code
def yX7_isRadix : MethodName := ⟨RX7, "isRadix", "(I)Z"⟩
abbrev cX7_numberOf : ByteArray := prog_9_method_10_code
def yX7_numberOf : MethodName := ⟨RX7, "numberOf", "(II)I"⟩
abbrev cX7_digitOf : ByteArray := prog_9_method_11_code
def yX7_digitOf : MethodName := ⟨RX7, "digitOf", "(II)I"⟩
abbrev cX7_refuse : ByteArray := prog_9_method_13_code
def yX7_refuse : MethodName := ⟨RX7, "refuse", "(ZI)Z"⟩
abbrev cX7_start : ByteArray := prog_9_method_14_code
def yX7_start : MethodName := ⟨RX7, "start", "(ZI)Z"⟩
abbrev cX7_isNoRow : ByteArray := prog_9_method_15_code
def yX7_isNoRow : MethodName := ⟨RX7, "isNoRow", "(I)Z"⟩
abbrev cX7_isNoTrack : ByteArray := prog_9_method_16_code
def yX7_isNoTrack : MethodName := ⟨RX7, "isNoTrack", "(I)Z"⟩
abbrev cX7_isNoKind : ByteArray := prog_9_method_17_code
def yX7_isNoKind : MethodName := ⟨RX7, "isNoKind", "(I)Z"⟩
abbrev cX7_set : ByteArray := prog_9_method_18_code
def yX7_set : MethodName := ⟨RX7, "set", "(I[I)I"⟩
abbrev cX7_part : ByteArray := prog_9_method_19_code
def yX7_part : MethodName := ⟨RX7, "part", "([III)[I"⟩
abbrev cX7_joined : ByteArray := prog_9_method_20_code
def yX7_joined : MethodName := ⟨RX7, "joined", "([I[I)[I"⟩
abbrev cX7_only : ByteArray := prog_9_method_21_code
def yX7_only : MethodName := ⟨RX7, "only", "([I[Z)[I"⟩
abbrev cX7_turned : ByteArray := prog_9_method_22_code
def yX7_turned : MethodName := ⟨RX7, "turned", "([I)[I"⟩
abbrev cX7_lay : ByteArray := prog_9_method_23_code
def yX7_lay : MethodName := ⟨RX7, "lay", "(IIIII)I"⟩
abbrev cX7_drop : ByteArray := prog_9_method_24_code
def yX7_drop : MethodName := ⟨RX7, "drop", "(II)I"⟩
abbrev cX7_copy : ByteArray := prog_9_method_25_code
def yX7_copy : MethodName := ⟨RX7, "copy", "(II)I"⟩
abbrev cX7_cased : ByteArray := prog_9_method_26_code
def yX7_cased : MethodName := ⟨RX7, "cased", "(IZ)I"⟩
abbrev cX7_raise : ByteArray := prog_9_method_27_code
def yX7_raise : MethodName := ⟨RX7, "raise", "(I)I"⟩
abbrev cX7_sink : ByteArray := prog_9_method_28_code
def yX7_sink : MethodName := ⟨RX7, "sink", "(I)I"⟩
abbrev cX7_sieve : ByteArray := prog_9_method_29_code
def yX7_sieve : MethodName := ⟨RX7, "sieve", "(IIZ)I"⟩
abbrev cX7_strip : ByteArray := prog_9_method_30_code
def yX7_strip : MethodName := ⟨RX7, "strip", "(I)I"⟩
abbrev cX7_turn : ByteArray := prog_9_method_31_code
def yX7_turn : MethodName := ⟨RX7, "turn", "(I)I"⟩
abbrev cX7_write : ByteArray := prog_9_method_32_code
def yX7_write : MethodName := ⟨RX7, "write", "(III)I"⟩
abbrev cX7_spelledOf : ByteArray := prog_9_method_33_code
def yX7_spelledOf : MethodName := ⟨RX7, "spelledOf", "([I)[I"⟩
abbrev cX7_spell : ByteArray := prog_9_method_34_code
def yX7_spell : MethodName := ⟨RX7, "spell", "(II)I"⟩
abbrev cX7_read : ByteArray := prog_9_method_35_code
def yX7_read : MethodName := ⟨RX7, "read", "(II)I"⟩
abbrev cX7_isHigh : ByteArray := prog_9_method_36_code
def yX7_isHigh : MethodName := ⟨RX7, "isHigh", "(I)Z"⟩
abbrev cX7_isLow : ByteArray := prog_9_method_37_code
def yX7_isLow : MethodName := ⟨RX7, "isLow", "(I)Z"⟩
abbrev cX7_isHalf : ByteArray := prog_9_method_38_code
def yX7_isHalf : MethodName := ⟨RX7, "isHalf", "(I)Z"⟩
abbrev cX7_sent : ByteArray := prog_9_method_39_code
def yX7_sent : MethodName := ⟨RX7, "sent", "(I)[I"⟩
abbrev cX7_both : ByteArray := prog_9_method_40_code
def yX7_both : MethodName := ⟨RX7, "both", "(II)I"⟩
abbrev cX7_turnedUnit : ByteArray := prog_9_method_41_code
def yX7_turnedUnit : MethodName := ⟨RX7, "turnedUnit", "(I)I"⟩
abbrev cX7_behind : ByteArray := prog_9_method_42_code
def yX7_behind : MethodName := ⟨RX7, "behind", "(I[I)I"⟩
abbrev cX7_send : ByteArray := prog_9_method_43_code
def yX7_send : MethodName := ⟨RX7, "send", "(II)I"⟩
abbrev cX7_put : ByteArray := prog_9_method_44_code
def yX7_put : MethodName := ⟨RX7, "put", "(II)I"⟩
abbrev cX7_cut : ByteArray := prog_9_method_45_code
def yX7_cut : MethodName := ⟨RX7, "cut", "(II)I"⟩
abbrev cX7_flip : ByteArray := prog_9_method_46_code
def yX7_flip : MethodName := ⟨RX7, "flip", "(I)I"⟩
abbrev cX7_codeOf : ByteArray := prog_9_method_47_code
def yX7_codeOf : MethodName := ⟨RX7, "codeOf", "(II)I"⟩
abbrev cX7_codes : ByteArray := prog_9_method_48_code
def yX7_codes : MethodName := ⟨RX7, "codes", "(I)[I"⟩
abbrev cX7_reverse : ByteArray := prog_9_method_49_code
def yX7_reverse : MethodName := ⟨RX7, "reverse", "(I)I"⟩
abbrev cX7_undo : ByteArray := prog_9_method_50_code
def yX7_undo : MethodName := ⟨RX7, "undo", "()I"⟩
abbrev cX7_knock : ByteArray := prog_9_method_51_code
def yX7_knock : MethodName := ⟨RX7, "knock", "()I"⟩
abbrev cX7_kindTold : ByteArray := prog_9_method_52_code
def yX7_kindTold : MethodName := ⟨RX7, "kindTold", "(II)Z"⟩
abbrev cX7_isDigit : ByteArray := prog_9_method_53_code
def yX7_isDigit : MethodName := ⟨RX7, "isDigit", "(I)Z"⟩
abbrev cX7_isLetter : ByteArray := prog_9_method_54_code
def yX7_isLetter : MethodName := ⟨RX7, "isLetter", "(I)Z"⟩
abbrev cX7_isLetterOrDigit : ByteArray := prog_9_method_55_code
def yX7_isLetterOrDigit : MethodName := ⟨RX7, "isLetterOrDigit", "(I)Z"⟩
abbrev cX7_isWhite : ByteArray := prog_9_method_56_code
def yX7_isWhite : MethodName := ⟨RX7, "isWhite", "(I)Z"⟩
abbrev cX7_isGreat : ByteArray := prog_9_method_57_code
def yX7_isGreat : MethodName := ⟨RX7, "isGreat", "(I)Z"⟩
abbrev cX7_kindsOf : ByteArray := prog_9_method_58_code
def yX7_kindsOf : MethodName := ⟨RX7, "kindsOf", "(I)I"⟩
abbrev cX7_kinds : ByteArray := prog_9_method_59_code
def yX7_kinds : MethodName := ⟨RX7, "kinds", "(I)I"⟩
abbrev cX7_upper : ByteArray := prog_9_method_60_code
def yX7_upper : MethodName := ⟨RX7, "upper", "(IZ)I"⟩
abbrev cX7_lower : ByteArray := prog_9_method_61_code
def yX7_lower : MethodName := ⟨RX7, "lower", "(IZ)I"⟩
abbrev cX7_value : ByteArray := prog_9_method_62_code
def yX7_value : MethodName := ⟨RX7, "value", "(IZ)I"⟩
abbrev cX7_number : ByteArray := prog_9_method_63_code
def yX7_number : MethodName := ⟨RX7, "number", "(IIZ)I"⟩
abbrev cX7_digit : ByteArray := prog_9_method_64_code
def yX7_digit : MethodName := ⟨RX7, "digit", "(II)I"⟩
abbrev cX7_length : ByteArray := prog_9_method_65_code
def yX7_length : MethodName := ⟨RX7, "length", "(I)I"⟩
abbrev cX7_at : ByteArray := prog_9_method_66_code
def yX7_at : MethodName := ⟨RX7, "at", "(II)I"⟩
abbrev cX7_countOf : ByteArray := prog_9_method_67_code
def yX7_countOf : MethodName := ⟨RX7, "countOf", "(II)I"⟩
abbrev cX7_count : ByteArray := prog_9_method_68_code
def yX7_count : MethodName := ⟨RX7, "count", "(II)I"⟩
abbrev cX7_first : ByteArray := prog_9_method_69_code
def yX7_first : MethodName := ⟨RX7, "first", "(III)I"⟩
abbrev cX7_last : ByteArray := prog_9_method_70_code
def yX7_last : MethodName := ⟨RX7, "last", "(II)I"⟩
abbrev cX7_forms : ByteArray := prog_9_method_71_code
def yX7_forms : MethodName := ⟨RX7, "forms", "(I)Ljava/lang/String;"⟩
abbrev cX7_spelled : ByteArray := prog_9_method_72_code
def yX7_spelled : MethodName := ⟨RX7, "spelled", "(I)Ljava/lang/String;"⟩
abbrev cX7_toldOf : ByteArray := prog_9_method_73_code
def yX7_toldOf : MethodName := ⟨RX7, "toldOf", "(II)I"⟩
abbrev cX7_told : ByteArray := prog_9_method_74_code
def yX7_told : MethodName := ⟨RX7, "told", "(II)I"⟩
abbrev cX7_sum : ByteArray := prog_9_method_75_code
def yX7_sum : MethodName := ⟨RX7, "sum", "(II)I"⟩
abbrev cX7_valuesOf : ByteArray := prog_9_method_76_code
def yX7_valuesOf : MethodName := ⟨RX7, "valuesOf", "(I)I"⟩
abbrev cX7_values : ByteArray := prog_9_method_77_code
def yX7_values : MethodName := ⟨RX7, "values", "(I)I"⟩
abbrev cX7_wordsOf : ByteArray := prog_9_method_78_code
def yX7_wordsOf : MethodName := ⟨RX7, "wordsOf", "(I)Ljava/util/ArrayList;"⟩
abbrev cX7_words : ByteArray := prog_9_method_79_code
def yX7_words : MethodName := ⟨RX7, "words", "(I)I"⟩
abbrev cX7_word : ByteArray := prog_9_method_80_code
def yX7_word : MethodName := ⟨RX7, "word", "(IIZ)I"⟩
abbrev cX7_areAlike : ByteArray := prog_9_method_81_code
def yX7_areAlike : MethodName := ⟨RX7, "areAlike", "(II)Z"⟩
abbrev cX7_isAlike : ByteArray := prog_9_method_82_code
def yX7_isAlike : MethodName := ⟨RX7, "isAlike", "(II)Z"⟩
abbrev cX7_orderOf : ByteArray := prog_9_method_83_code
def yX7_orderOf : MethodName := ⟨RX7, "orderOf", "([I[I)I"⟩
abbrev cX7_order : ByteArray := prog_9_method_84_code
def yX7_order : MethodName := ⟨RX7, "order", "(II)I"⟩
abbrev cX7_isCode : ByteArray := prog_9_method_85_code
def yX7_isCode : MethodName := ⟨RX7, "isCode", "(I)Z"⟩
abbrev cX7_isPlain : ByteArray := prog_9_method_86_code
def yX7_isPlain : MethodName := ⟨RX7, "isPlain", "(I)Z"⟩
abbrev cX7_isWide : ByteArray := prog_9_method_87_code
def yX7_isWide : MethodName := ⟨RX7, "isWide", "(I)Z"⟩
abbrev cX7_units : ByteArray := prog_9_method_88_code
def yX7_units : MethodName := ⟨RX7, "units", "(I)I"⟩
abbrev cX7_half : ByteArray := prog_9_method_89_code
def yX7_half : MethodName := ⟨RX7, "half", "(IZ)I"⟩
abbrev cX7_code : ByteArray := prog_9_method_90_code
def yX7_code : MethodName := ⟨RX7, "code", "(II)I"⟩
abbrev cX7_ofUnitTold : ByteArray := prog_9_method_91_code
def yX7_ofUnitTold : MethodName := ⟨RX7, "ofUnitTold", "(II)I"⟩
abbrev cX7_ofUnit : ByteArray := prog_9_method_92_code
def yX7_ofUnit : MethodName := ⟨RX7, "ofUnit", "(II)I"⟩
abbrev cX7_compare : ByteArray := prog_9_method_93_code
def yX7_compare : MethodName := ⟨RX7, "compare", "(II)I"⟩
abbrev cX7_trackTold : ByteArray := prog_9_method_94_code
def yX7_trackTold : MethodName := ⟨RX7, "trackTold", "(II)I"⟩
abbrev cX7_ofTrack : ByteArray := prog_9_method_95_code
def yX7_ofTrack : MethodName := ⟨RX7, "ofTrack", "(II)I"⟩
abbrev cX7_isNoPlace : ByteArray := prog_9_method_96_code
def yX7_isNoPlace : MethodName := ⟨RX7, "isNoPlace", "(II)Z"⟩
abbrev cX7_unit : ByteArray := prog_9_method_97_code
def yX7_unit : MethodName := ⟨RX7, "unit", "(II)I"⟩
abbrev cX7_codeAt : ByteArray := prog_9_method_98_code
def yX7_codeAt : MethodName := ⟨RX7, "codeAt", "(II)I"⟩
abbrev cX7_nth : ByteArray := prog_9_method_99_code
def yX7_nth : MethodName := ⟨RX7, "nth", "(II)I"⟩
abbrev cX7_houseOf : ByteArray := prog_9_method_100_code
def yX7_houseOf : MethodName := ⟨RX7, "houseOf", "(I)I"⟩
abbrev cX7_house : ByteArray := prog_9_method_101_code
def yX7_house : MethodName := ⟨RX7, "house", "(I)I"⟩
abbrev cX7_isSound : ByteArray := prog_9_method_102_code
def yX7_isSound : MethodName := ⟨RX7, "isSound", "()Z"⟩
abbrev cX7_digest : ByteArray := prog_9_method_103_code
def yX7_digest : MethodName := ⟨RX7, "digest", "()J"⟩
def RJx145de : String := "java/io/Serializable"
def TJx145de : u_T := fun k => match k with
  | _ => ("", "", "", false)
def tyJx145de : Nat → FieldType := fun k => match k with
  | _ => .int
abbrev wsJx145de0 : List Cond := u_ws RJx145de TJx145de 0
theorem nmJx145de : ∀ a, a < 0 → ∀ b, b < 0 → a ≠ b → (TJx145de a).2.1 ≠ (TJx145de b).2.1 := by decide +kernel
theorem tyJx145de_ok : ∀ k, k < 0 → parseFieldDescriptor (TJx145de k).2.2.1 = some (tyJx145de k) := by decide +kernel
def RJ5 : String := "java/lang/AbstractStringBuilder"
def TJ5 : u_T := fun k => match k with
  | _ => ("", "", "", false)
def tyJ5 : Nat → FieldType := fun k => match k with
  | _ => .int
abbrev wsJ50 : List Cond := u_ws RJ5 TJ5 0
theorem nmJ5 : ∀ a, a < 0 → ∀ b, b < 0 → a ≠ b → (TJ5 a).2.1 ≠ (TJ5 b).2.1 := by decide +kernel
theorem tyJ5_ok : ∀ k, k < 0 → parseFieldDescriptor (TJ5 k).2.2.1 = some (tyJ5 k) := by decide +kernel
abbrev cJ5_init_d00df : ByteArray := prog_11_method_2_code
def yJ5_init_d00df : MethodName := ⟨RJ5, "<init>", "(I)V"⟩
abbrev cJ5_length_8abf5 : ByteArray := prog_11_method_6_code
def yJ5_length_8abf5 : MethodName := ⟨RJ5, "length", "()I"⟩
abbrev cJ5_ensureCapacityInternal_d00df : ByteArray := prog_11_method_9_code
def yJ5_ensureCapacityInternal_d00df : MethodName := ⟨RJ5, "ensureCapacityInternal", "(I)V"⟩
abbrev cJ5_newCapacity_0f7a4 : ByteArray := prog_11_method_10_code
def yJ5_newCapacity_0f7a4 : MethodName := ⟨RJ5, "newCapacity", "(I)I"⟩
abbrev cJ5_inflate_da8c8 : ByteArray := prog_11_method_11_code
def yJ5_inflate_da8c8 : MethodName := ⟨RJ5, "inflate", "()V"⟩
abbrev cJ5_append_cf1ce : ByteArray := prog_11_method_22_code
def yJ5_append_cf1ce : MethodName := ⟨RJ5, "append", "(Ljava/lang/String;)Ljava/lang/AbstractStringBuilder;"⟩
abbrev cJ5_appendNull_278bc : ByteArray := prog_11_method_26_code
def yJ5_appendNull_278bc : MethodName := ⟨RJ5, "appendNull", "()Ljava/lang/AbstractStringBuilder;"⟩
abbrev cJ5_append_3fe6f : ByteArray := prog_11_method_31_code
def yJ5_append_3fe6f : MethodName := ⟨RJ5, "append", "(C)Ljava/lang/AbstractStringBuilder;"⟩
abbrev cJ5_append_c97b9 : ByteArray := prog_11_method_32_code
def yJ5_append_c97b9 : MethodName := ⟨RJ5, "append", "(I)Ljava/lang/AbstractStringBuilder;"⟩
abbrev cJ5_getValue_6d5f1 : ByteArray := prog_11_method_64_code
def yJ5_getValue_6d5f1 : MethodName := ⟨RJ5, "getValue", "()[B"⟩
abbrev cJ5_isLatin1_aae02 : ByteArray := prog_11_method_68_code
def yJ5_isLatin1_aae02 : MethodName := ⟨RJ5, "isLatin1", "()Z"⟩
abbrev cJ5_inflateIfNeededFor_a7421 : ByteArray := prog_11_method_71_code
def yJ5_inflateIfNeededFor_a7421 : MethodName := ⟨RJ5, "inflateIfNeededFor", "(Ljava/lang/String;)V"⟩
abbrev cJ5_putStringAt_47b60 : ByteArray := prog_11_method_73_code
def yJ5_putStringAt_47b60 : MethodName := ⟨RJ5, "putStringAt", "(ILjava/lang/String;)V"⟩
def RJx2cfe8 : String := "java/lang/Appendable"
def TJx2cfe8 : u_T := fun k => match k with
  | _ => ("", "", "", false)
def tyJx2cfe8 : Nat → FieldType := fun k => match k with
  | _ => .int
abbrev wsJx2cfe80 : List Cond := u_ws RJx2cfe8 TJx2cfe8 0
theorem nmJx2cfe8 : ∀ a, a < 0 → ∀ b, b < 0 → a ≠ b → (TJx2cfe8 a).2.1 ≠ (TJx2cfe8 b).2.1 := by decide +kernel
theorem tyJx2cfe8_ok : ∀ k, k < 0 → parseFieldDescriptor (TJx2cfe8 k).2.2.1 = some (tyJx2cfe8 k) := by decide +kernel
def RJx9f9b0 : String := "java/lang/CharSequence"
def TJx9f9b0 : u_T := fun k => match k with
  | _ => ("", "", "", false)
def tyJx9f9b0 : Nat → FieldType := fun k => match k with
  | _ => .int
abbrev wsJx9f9b00 : List Cond := u_ws RJx9f9b0 TJx9f9b0 0
theorem nmJx9f9b0 : ∀ a, a < 0 → ∀ b, b < 0 → a ≠ b → (TJx9f9b0 a).2.1 ≠ (TJx9f9b0 b).2.1 := by decide +kernel
theorem tyJx9f9b0_ok : ∀ k, k < 0 → parseFieldDescriptor (TJx9f9b0 k).2.2.1 = some (tyJx9f9b0 k) := by decide +kernel
def RJx8e188 : String := "java/lang/Cloneable"
def TJx8e188 : u_T := fun k => match k with
  | _ => ("", "", "", false)
def tyJx8e188 : Nat → FieldType := fun k => match k with
  | _ => .int
abbrev wsJx8e1880 : List Cond := u_ws RJx8e188 TJx8e188 0
theorem nmJx8e188 : ∀ a, a < 0 → ∀ b, b < 0 → a ≠ b → (TJx8e188 a).2.1 ≠ (TJx8e188 b).2.1 := by decide +kernel
theorem tyJx8e188_ok : ∀ k, k < 0 → parseFieldDescriptor (TJx8e188 k).2.2.1 = some (tyJx8e188 k) := by decide +kernel
def RJxb160c : String := "java/lang/Comparable"
def TJxb160c : u_T := fun k => match k with
  | _ => ("", "", "", false)
def tyJxb160c : Nat → FieldType := fun k => match k with
  | _ => .int
abbrev wsJxb160c0 : List Cond := u_ws RJxb160c TJxb160c 0
theorem nmJxb160c : ∀ a, a < 0 → ∀ b, b < 0 → a ≠ b → (TJxb160c a).2.1 ≠ (TJxb160c b).2.1 := by decide +kernel
theorem tyJxb160c_ok : ∀ k, k < 0 → parseFieldDescriptor (TJxb160c k).2.2.1 = some (tyJxb160c k) := by decide +kernel
def RJ6 : String := "java/lang/Integer"
def TJ6 : u_T := fun k => match k with
  | _ => ("", "", "", false)
def tyJ6 : Nat → FieldType := fun k => match k with
  | _ => .int
abbrev wsJ60 : List Cond := u_ws RJ6 TJ6 0
theorem nmJ6 : ∀ a, a < 0 → ∀ b, b < 0 → a ≠ b → (TJ6 a).2.1 ≠ (TJ6 b).2.1 := by decide +kernel
theorem tyJ6_ok : ∀ k, k < 0 → parseFieldDescriptor (TJ6 k).2.2.1 = some (tyJ6 k) := by decide +kernel
abbrev cJ6_getChars_ba4f3 : ByteArray := prog_20_method_12_code
def yJ6_getChars_ba4f3 : MethodName := ⟨RJ6, "getChars", "(II[B)I"⟩
abbrev cJ6_stringSize_0f7a4 : ByteArray := prog_20_method_13_code
def yJ6_stringSize_0f7a4 : MethodName := ⟨RJ6, "stringSize", "(I)I"⟩
def RJxab1ab : String := "java/lang/Iterable"
def TJxab1ab : u_T := fun k => match k with
  | _ => ("", "", "", false)
def tyJxab1ab : Nat → FieldType := fun k => match k with
  | _ => .int
abbrev wsJxab1ab0 : List Cond := u_ws RJxab1ab TJxab1ab 0
theorem nmJxab1ab : ∀ a, a < 0 → ∀ b, b < 0 → a ≠ b → (TJxab1ab a).2.1 ≠ (TJxab1ab b).2.1 := by decide +kernel
theorem tyJxab1ab_ok : ∀ k, k < 0 → parseFieldDescriptor (TJxab1ab k).2.2.1 = some (tyJxab1ab k) := by decide +kernel
def RJ9 : String := "java/lang/Math"
def TJ9 : u_T := fun k => match k with
  | _ => ("", "", "", false)
def tyJ9 : Nat → FieldType := fun k => match k with
  | _ => .int
abbrev wsJ90 : List Cond := u_ws RJ9 TJ9 0
theorem nmJ9 : ∀ a, a < 0 → ∀ b, b < 0 → a ≠ b → (TJ9 a).2.1 ≠ (TJ9 b).2.1 := by decide +kernel
theorem tyJ9_ok : ∀ k, k < 0 → parseFieldDescriptor (TJ9 k).2.2.1 = some (tyJ9 k) := by decide +kernel
abbrev cJ9_max_7cf53 : ByteArray := prog_22_method_65_code
def yJ9_max_7cf53 : MethodName := ⟨RJ9, "max", "(II)I"⟩
abbrev cJ9_min_7cf53 : ByteArray := prog_22_method_69_code
def yJ9_min_7cf53 : MethodName := ⟨RJ9, "min", "(II)I"⟩
def RJxd2413 : String := "java/lang/Number"
def TJxd2413 : u_T := fun k => match k with
  | _ => ("", "", "", false)
def tyJxd2413 : Nat → FieldType := fun k => match k with
  | _ => .int
abbrev wsJxd24130 : List Cond := u_ws RJxd2413 TJxd2413 0
theorem nmJxd2413 : ∀ a, a < 0 → ∀ b, b < 0 → a ≠ b → (TJxd2413 a).2.1 ≠ (TJxd2413 b).2.1 := by decide +kernel
theorem tyJxd2413_ok : ∀ k, k < 0 → parseFieldDescriptor (TJxd2413 k).2.2.1 = some (tyJxd2413 k) := by decide +kernel
def RJ0 : String := "java/lang/String"
def TJ0 : u_T := fun k => match k with
  | 0 => ("java/lang/String", "value", "[B", true)
  | 1 => ("java/lang/String", "coder", "B", true)
  | 2 => ("java/lang/String", "hash", "I", false)
  | _ => ("java/lang/String", "hashIsZero", "Z", false)
def tyJ0 : Nat → FieldType := fun k => match k with
  | 0 => .array .byte
  | 1 => .byte
  | 2 => .int
  | _ => .boolean
abbrev wsJ00 : List Cond := u_ws RJ0 TJ0 4
theorem nmJ0 : ∀ a, a < 4 → ∀ b, b < 4 → a ≠ b → (TJ0 a).2.1 ≠ (TJ0 b).2.1 := by decide +kernel
theorem tyJ0_ok : ∀ k, k < 4 → parseFieldDescriptor (TJ0 k).2.2.1 = some (tyJ0 k) := by decide +kernel
abbrev cJ0_init_81219 : ByteArray := prog_25_method_53_code
def yJ0_init_81219 : MethodName := ⟨RJ0, "<init>", "(Ljava/lang/StringBuilder;)V"⟩
abbrev cJ0_length_8abf5 : ByteArray := prog_25_method_54_code
def yJ0_length_8abf5 : MethodName := ⟨RJ0, "length", "()I"⟩
abbrev cJ0_getBytes_840e7 : ByteArray := prog_25_method_147_code
def yJ0_getBytes_840e7 : MethodName := ⟨RJ0, "getBytes", "([BIB)V"⟩
abbrev cJ0_init_db425 : ByteArray := prog_25_method_150_code
def yJ0_init_db425 : MethodName := ⟨RJ0, "<init>", "(Ljava/lang/AbstractStringBuilder;Ljava/lang/Void;)V"⟩
abbrev cJ0_coder_7d493 : ByteArray := prog_25_method_152_code
def yJ0_coder_7d493 : MethodName := ⟨RJ0, "coder", "()B"⟩
abbrev cJ0_checkIndex_df160 : ByteArray := prog_25_method_155_code
def yJ0_checkIndex_df160 : MethodName := ⟨RJ0, "checkIndex", "(II)V"⟩
abbrev cJ0_checkBoundsOffCount_cabcc : ByteArray := prog_25_method_157_code
def yJ0_checkBoundsOffCount_cabcc : MethodName := ⟨RJ0, "checkBoundsOffCount", "(III)I"⟩
abbrev cJ0_checkBoundsBeginEnd_23922 : ByteArray := prog_25_method_158_code
def yJ0_checkBoundsBeginEnd_23922 : MethodName := ⟨RJ0, "checkBoundsBeginEnd", "(III)V"⟩
def RJ4 : String := "java/lang/StringBuilder"
def TJ4 : u_T := fun k => match k with
  | 0 => ("java/lang/AbstractStringBuilder", "value", "[B", false)
  | 1 => ("java/lang/AbstractStringBuilder", "coder", "B", false)
  | 2 => ("java/lang/AbstractStringBuilder", "maybeLatin1", "Z", false)
  | _ => ("java/lang/AbstractStringBuilder", "count", "I", false)
def tyJ4 : Nat → FieldType := fun k => match k with
  | 0 => .array .byte
  | 1 => .byte
  | 2 => .boolean
  | _ => .int
abbrev wsJ40 : List Cond := u_ws RJ4 TJ4 4
theorem nmJ4 : ∀ a, a < 4 → ∀ b, b < 4 → a ≠ b → (TJ4 a).2.1 ≠ (TJ4 b).2.1 := by decide +kernel
theorem tyJ4_ok : ∀ k, k < 4 → parseFieldDescriptor (TJ4 k).2.2.1 = some (tyJ4 k) := by decide +kernel
abbrev cJ4_init_da8c8 : ByteArray := prog_26_method_1_code
def yJ4_init_da8c8 : MethodName := ⟨RJ4, "<init>", "()V"⟩
abbrev cJ4_append_15ec4 : ByteArray := prog_26_method_7_code
def yJ4_append_15ec4 : MethodName := ⟨RJ4, "append", "(Ljava/lang/String;)Ljava/lang/StringBuilder;"⟩
abbrev cJ4_append_cf468 : ByteArray := prog_26_method_14_code
def yJ4_append_cf468 : MethodName := ⟨RJ4, "append", "(C)Ljava/lang/StringBuilder;"⟩
abbrev cJ4_append_bf812 : ByteArray := prog_26_method_15_code
def yJ4_append_bf812 : MethodName := ⟨RJ4, "append", "(I)Ljava/lang/StringBuilder;"⟩
abbrev cJ4_toString_0e30d : ByteArray := prog_26_method_42_code
def yJ4_toString_0e30d : MethodName := ⟨RJ4, "toString", "()Ljava/lang/String;"⟩
abbrev cJ4_length_8abf5 : ByteArray := prog_26_method_93_code
def yJ4_length_8abf5 : MethodName := ⟨RJ4, "length", "()I"⟩
def RJ1 : String := "java/lang/StringLatin1"
def TJ1 : u_T := fun k => match k with
  | _ => ("", "", "", false)
def tyJ1 : Nat → FieldType := fun k => match k with
  | _ => .int
abbrev wsJ10 : List Cond := u_ws RJ1 TJ1 0
theorem nmJ1 : ∀ a, a < 0 → ∀ b, b < 0 → a ≠ b → (TJ1 a).2.1 ≠ (TJ1 b).2.1 := by decide +kernel
theorem tyJ1_ok : ∀ k, k < 0 → parseFieldDescriptor (TJ1 k).2.2.1 = some (tyJ1 k) := by decide +kernel
abbrev cJ1_canEncode_fc78d : ByteArray := prog_27_method_3_code
def yJ1_canEncode_fc78d : MethodName := ⟨RJ1, "canEncode", "(C)Z"⟩
abbrev cJ1_inflate_0e8fd : ByteArray := prog_27_method_50_code
def yJ1_inflate_0e8fd : MethodName := ⟨RJ1, "inflate", "([BI[BII)V"⟩
def RJ2 : String := "java/lang/StringUTF16"
def TJ2 : u_T := fun k => match k with
  | _ => ("", "", "", false)
def tyJ2 : Nat → FieldType := fun k => match k with
  | _ => .int
abbrev wsJ20 : List Cond := u_ws RJ2 TJ2 0
theorem nmJ2 : ∀ a, a < 0 → ∀ b, b < 0 → a ≠ b → (TJ2 a).2.1 ≠ (TJ2 b).2.1 := by decide +kernel
theorem tyJ2_ok : ∀ k, k < 0 → parseFieldDescriptor (TJ2 k).2.2.1 = some (tyJ2 k) := by decide +kernel
abbrev cJ2_newBytesFor_77867 : ByteArray := prog_28_method_2_code
def yJ2_newBytesFor_77867 : MethodName := ⟨RJ2, "newBytesFor", "(I)[B"⟩
abbrev cJ2_newBytesLength_0f7a4 : ByteArray := prog_28_method_3_code
def yJ2_newBytesLength_0f7a4 : MethodName := ⟨RJ2, "newBytesLength", "(I)I"⟩
abbrev cJ2_putChar_b72d1 : ByteArray := prog_28_method_4_code
def yJ2_putChar_b72d1 : MethodName := ⟨RJ2, "putChar", "([BII)V"⟩
abbrev cJ2_getChar_3b067 : ByteArray := prog_28_method_5_code
def yJ2_getChar_3b067 : MethodName := ⟨RJ2, "getChar", "([BI)C"⟩
abbrev cJ2_length_9d52b : ByteArray := prog_28_method_6_code
def yJ2_length_9d52b : MethodName := ⟨RJ2, "length", "([B)I"⟩
abbrev cJ2_coderFromArrayLen_85cad : ByteArray := prog_28_method_15_code
def yJ2_coderFromArrayLen_85cad : MethodName := ⟨RJ2, "coderFromArrayLen", "([BI)B"⟩
abbrev cJ2_compress_39247 : ByteArray := prog_28_method_17_code
def yJ2_compress_39247 : MethodName := ⟨RJ2, "compress", "([BII)[B"⟩
abbrev cJ2_compress_5af95 : ByteArray := prog_28_method_22_code
def yJ2_compress_5af95 : MethodName := ⟨RJ2, "compress", "([BI[BII)I"⟩
abbrev cJ2_putCharSB_b72d1 : ByteArray := prog_28_method_71_code
def yJ2_putCharSB_b72d1 : MethodName := ⟨RJ2, "putCharSB", "([BII)V"⟩
abbrev cJ2_getChars_46870 : ByteArray := prog_28_method_77_code
def yJ2_getChars_46870 : MethodName := ⟨RJ2, "getChars", "(III[B)I"⟩
abbrev cJ2_putCharsAt_cd4e5 : ByteArray := prog_28_method_81_code
def yJ2_putCharsAt_cd4e5 : MethodName := ⟨RJ2, "putCharsAt", "([BICCCC)I"⟩
abbrev cJ2_inflate_0e8fd : ByteArray := prog_28_method_86_code
def yJ2_inflate_0e8fd : MethodName := ⟨RJ2, "inflate", "([BI[BII)V"⟩
abbrev cJ2_getChars_ba4f3 : ByteArray := prog_28_method_89_code
def yJ2_getChars_ba4f3 : MethodName := ⟨RJ2, "getChars", "(II[B)I"⟩
abbrev cJ2_checkIndex_2214a : ByteArray := prog_28_method_91_code
def yJ2_checkIndex_2214a : MethodName := ⟨RJ2, "checkIndex", "(I[B)V"⟩
abbrev cJ2_checkBoundsBeginEnd_d044e : ByteArray := prog_28_method_93_code
def yJ2_checkBoundsBeginEnd_d044e : MethodName := ⟨RJ2, "checkBoundsBeginEnd", "(II[B)V"⟩
abbrev cJ2_checkBoundsOffCount_d044e : ByteArray := prog_28_method_94_code
def yJ2_checkBoundsOffCount_d044e : MethodName := ⟨RJ2, "checkBoundsOffCount", "(II[B)V"⟩
def RJ10 : String := "java/lang/System"
def TJ10 : u_T := fun k => match k with
  | _ => ("", "", "", false)
def tyJ10 : Nat → FieldType := fun k => match k with
  | _ => .int
abbrev wsJ100 : List Cond := u_ws RJ10 TJ10 0
theorem nmJ10 : ∀ a, a < 0 → ∀ b, b < 0 → a ≠ b → (TJ10 a).2.1 ≠ (TJ10 b).2.1 := by decide +kernel
theorem tyJ10_ok : ∀ k, k < 0 → parseFieldDescriptor (TJ10 k).2.2.1 = some (tyJ10 k) := by decide +kernel
def RJxfd54e : String := "java/lang/constant/Constable"
def TJxfd54e : u_T := fun k => match k with
  | _ => ("", "", "", false)
def tyJxfd54e : Nat → FieldType := fun k => match k with
  | _ => .int
abbrev wsJxfd54e0 : List Cond := u_ws RJxfd54e TJxfd54e 0
theorem nmJxfd54e : ∀ a, a < 0 → ∀ b, b < 0 → a ≠ b → (TJxfd54e a).2.1 ≠ (TJxfd54e b).2.1 := by decide +kernel
theorem tyJxfd54e_ok : ∀ k, k < 0 → parseFieldDescriptor (TJxfd54e k).2.2.1 = some (tyJxfd54e k) := by decide +kernel
def RJx3cf43 : String := "java/lang/constant/ConstantDesc"
def TJx3cf43 : u_T := fun k => match k with
  | _ => ("", "", "", false)
def tyJx3cf43 : Nat → FieldType := fun k => match k with
  | _ => .int
abbrev wsJx3cf430 : List Cond := u_ws RJx3cf43 TJx3cf43 0
theorem nmJx3cf43 : ∀ a, a < 0 → ∀ b, b < 0 → a ≠ b → (TJx3cf43 a).2.1 ≠ (TJx3cf43 b).2.1 := by decide +kernel
theorem tyJx3cf43_ok : ∀ k, k < 0 → parseFieldDescriptor (TJx3cf43 k).2.2.1 = some (tyJx3cf43 k) := by decide +kernel
def RJxa1e45 : String := "java/util/AbstractCollection"
def TJxa1e45 : u_T := fun k => match k with
  | _ => ("", "", "", false)
def tyJxa1e45 : Nat → FieldType := fun k => match k with
  | _ => .int
abbrev wsJxa1e450 : List Cond := u_ws RJxa1e45 TJxa1e45 0
theorem nmJxa1e45 : ∀ a, a < 0 → ∀ b, b < 0 → a ≠ b → (TJxa1e45 a).2.1 ≠ (TJxa1e45 b).2.1 := by decide +kernel
theorem tyJxa1e45_ok : ∀ k, k < 0 → parseFieldDescriptor (TJxa1e45 k).2.2.1 = some (tyJxa1e45 k) := by decide +kernel
abbrev cJxa1e45_init_da8c8 : ByteArray := prog_33_method_1_code
def yJxa1e45_init_da8c8 : MethodName := ⟨RJxa1e45, "<init>", "()V"⟩
def RJxc12de : String := "java/util/AbstractList"
def TJxc12de : u_T := fun k => match k with
  | _ => ("", "", "", false)
def tyJxc12de : Nat → FieldType := fun k => match k with
  | _ => .int
abbrev wsJxc12de0 : List Cond := u_ws RJxc12de TJxc12de 0
theorem nmJxc12de : ∀ a, a < 0 → ∀ b, b < 0 → a ≠ b → (TJxc12de a).2.1 ≠ (TJxc12de b).2.1 := by decide +kernel
theorem tyJxc12de_ok : ∀ k, k < 0 → parseFieldDescriptor (TJxc12de k).2.2.1 = some (tyJxc12de k) := by decide +kernel
abbrev cJxc12de_init_da8c8 : ByteArray := prog_34_method_1_code
def yJxc12de_init_da8c8 : MethodName := ⟨RJxc12de, "<init>", "()V"⟩
def RJx4a65c : String := "java/util/ArrayList"
def TJx4a65c : u_T := fun k => match k with
  | 0 => ("java/util/AbstractList", "modCount", "I", false)
  | 1 => ("java/util/ArrayList", "elementData", "[Ljava/lang/Object;", false)
  | _ => ("java/util/ArrayList", "size", "I", false)
def tyJx4a65c : Nat → FieldType := fun k => match k with
  | 0 => .int
  | 1 => .array (.object "java/lang/Object")
  | _ => .int
abbrev wsJx4a65c0 : List Cond := u_ws RJx4a65c TJx4a65c 3
theorem nmJx4a65c : ∀ a, a < 3 → ∀ b, b < 3 → a ≠ b → (TJx4a65c a).2.1 ≠ (TJx4a65c b).2.1 := by decide +kernel
theorem tyJx4a65c_ok : ∀ k, k < 3 → parseFieldDescriptor (TJx4a65c k).2.2.1 = some (tyJx4a65c k) := by decide +kernel
abbrev cJx4a65c_init_da8c8 : ByteArray := prog_35_method_2_code
def yJx4a65c_init_da8c8 : MethodName := ⟨RJx4a65c, "<init>", "()V"⟩
abbrev cJx4a65c_grow_92f84 : ByteArray := prog_35_method_6_code
def yJx4a65c_grow_92f84 : MethodName := ⟨RJx4a65c, "grow", "(I)[Ljava/lang/Object;"⟩
abbrev cJx4a65c_grow_d5877 : ByteArray := prog_35_method_7_code
def yJx4a65c_grow_d5877 : MethodName := ⟨RJx4a65c, "grow", "()[Ljava/lang/Object;"⟩
abbrev cJx4a65c_size_8abf5 : ByteArray := prog_35_method_8_code
def yJx4a65c_size_8abf5 : MethodName := ⟨RJx4a65c, "size", "()I"⟩
abbrev cJx4a65c_isEmpty_aae02 : ByteArray := prog_35_method_9_code
def yJx4a65c_isEmpty_aae02 : MethodName := ⟨RJx4a65c, "isEmpty", "()Z"⟩
abbrev cJx4a65c_elementData_915e3 : ByteArray := prog_35_method_18_code
def yJx4a65c_elementData_915e3 : MethodName := ⟨RJx4a65c, "elementData", "(I)Ljava/lang/Object;"⟩
abbrev cJx4a65c_get_915e3 : ByteArray := prog_35_method_20_code
def yJx4a65c_get_915e3 : MethodName := ⟨RJx4a65c, "get", "(I)Ljava/lang/Object;"⟩
abbrev cJx4a65c_add_72be8 : ByteArray := prog_35_method_24_code
def yJx4a65c_add_72be8 : MethodName := ⟨RJx4a65c, "add", "(Ljava/lang/Object;[Ljava/lang/Object;I)V"⟩
abbrev cJx4a65c_add_9ea2d : ByteArray := prog_35_method_25_code
def yJx4a65c_add_9ea2d : MethodName := ⟨RJx4a65c, "add", "(Ljava/lang/Object;)Z"⟩
abbrev cJx4a65c_remove_915e3 : ByteArray := prog_35_method_29_code
def yJx4a65c_remove_915e3 : MethodName := ⟨RJx4a65c, "remove", "(I)Ljava/lang/Object;"⟩
abbrev cJx4a65c_fastRemove_b59b0 : ByteArray := prog_35_method_39_code
def yJx4a65c_fastRemove_b59b0 : MethodName := ⟨RJx4a65c, "fastRemove", "([Ljava/lang/Object;I)V"⟩
def RJ7 : String := "java/util/Arrays"
def TJ7 : u_T := fun k => match k with
  | _ => ("", "", "", false)
def tyJ7 : Nat → FieldType := fun k => match k with
  | _ => .int
abbrev wsJ70 : List Cond := u_ws RJ7 TJ7 0
theorem nmJ7 : ∀ a, a < 0 → ∀ b, b < 0 → a ≠ b → (TJ7 a).2.1 ≠ (TJ7 b).2.1 := by decide +kernel
theorem tyJ7_ok : ∀ k, k < 0 → parseFieldDescriptor (TJ7 k).2.2.1 = some (tyJ7 k) := by decide +kernel
abbrev cJ7_copyOf_1904c : ByteArray := prog_36_method_119_code
def yJ7_copyOf_1904c : MethodName := ⟨RJ7, "copyOf", "([Ljava/lang/Object;I)[Ljava/lang/Object;"⟩
abbrev cJ7_copyOf_6403c : ByteArray := prog_36_method_120_code
def yJ7_copyOf_6403c : MethodName := ⟨RJ7, "copyOf", "([Ljava/lang/Object;ILjava/lang/Class;)[Ljava/lang/Object;"⟩
abbrev cJ7_copyOf_9075b : ByteArray := prog_36_method_121_code
def yJ7_copyOf_9075b : MethodName := ⟨RJ7, "copyOf", "([BI)[B"⟩
abbrev cJ7_checkLength_df160 : ByteArray := prog_36_method_131_code
def yJ7_checkLength_df160 : MethodName := ⟨RJ7, "checkLength", "(II)V"⟩
abbrev cJ7_copyOfRange_39247 : ByteArray := prog_36_method_132_code
def yJ7_copyOfRange_39247 : MethodName := ⟨RJ7, "copyOfRange", "([BII)[B"⟩
abbrev cJ7_copyOfRangeByte_39247 : ByteArray := prog_36_method_133_code
def yJ7_copyOfRangeByte_39247 : MethodName := ⟨RJ7, "copyOfRangeByte", "([BII)[B"⟩
def RJx5ef63 : String := "java/util/Collection"
def TJx5ef63 : u_T := fun k => match k with
  | _ => ("", "", "", false)
def tyJx5ef63 : Nat → FieldType := fun k => match k with
  | _ => .int
abbrev wsJx5ef630 : List Cond := u_ws RJx5ef63 TJx5ef63 0
theorem nmJx5ef63 : ∀ a, a < 0 → ∀ b, b < 0 → a ≠ b → (TJx5ef63 a).2.1 ≠ (TJx5ef63 b).2.1 := by decide +kernel
theorem tyJx5ef63_ok : ∀ k, k < 0 → parseFieldDescriptor (TJx5ef63 k).2.2.1 = some (tyJx5ef63 k) := by decide +kernel
def RJxbd725 : String := "java/util/List"
def TJxbd725 : u_T := fun k => match k with
  | _ => ("", "", "", false)
def tyJxbd725 : Nat → FieldType := fun k => match k with
  | _ => .int
abbrev wsJxbd7250 : List Cond := u_ws RJxbd725 TJxbd725 0
theorem nmJxbd725 : ∀ a, a < 0 → ∀ b, b < 0 → a ≠ b → (TJxbd725 a).2.1 ≠ (TJxbd725 b).2.1 := by decide +kernel
theorem tyJxbd725_ok : ∀ k, k < 0 → parseFieldDescriptor (TJxbd725 k).2.2.1 = some (tyJxbd725 k) := by decide +kernel
def RJ15 : String := "java/util/Objects"
def TJ15 : u_T := fun k => match k with
  | _ => ("", "", "", false)
def tyJ15 : Nat → FieldType := fun k => match k with
  | _ => .int
abbrev wsJ150 : List Cond := u_ws RJ15 TJ15 0
theorem nmJ15 : ∀ a, a < 0 → ∀ b, b < 0 → a ≠ b → (TJ15 a).2.1 ≠ (TJ15 b).2.1 := by decide +kernel
theorem tyJ15_ok : ∀ k, k < 0 → parseFieldDescriptor (TJ15 k).2.2.1 = some (tyJ15 k) := by decide +kernel
abbrev cJ15_checkIndex_7cf53 : ByteArray := prog_39_method_17_code
def yJ15_checkIndex_7cf53 : MethodName := ⟨RJ15, "checkIndex", "(II)I"⟩
def RJxf0a74 : String := "java/util/RandomAccess"
def TJxf0a74 : u_T := fun k => match k with
  | _ => ("", "", "", false)
def tyJxf0a74 : Nat → FieldType := fun k => match k with
  | _ => .int
abbrev wsJxf0a740 : List Cond := u_ws RJxf0a74 TJxf0a74 0
theorem nmJxf0a74 : ∀ a, a < 0 → ∀ b, b < 0 → a ≠ b → (TJxf0a74 a).2.1 ≠ (TJxf0a74 b).2.1 := by decide +kernel
theorem tyJxf0a74_ok : ∀ k, k < 0 → parseFieldDescriptor (TJxf0a74 k).2.2.1 = some (tyJxf0a74 k) := by decide +kernel
def RJxa66e6 : String := "java/util/SequencedCollection"
def TJxa66e6 : u_T := fun k => match k with
  | _ => ("", "", "", false)
def tyJxa66e6 : Nat → FieldType := fun k => match k with
  | _ => .int
abbrev wsJxa66e60 : List Cond := u_ws RJxa66e6 TJxa66e6 0
theorem nmJxa66e6 : ∀ a, a < 0 → ∀ b, b < 0 → a ≠ b → (TJxa66e6 a).2.1 ≠ (TJxa66e6 b).2.1 := by decide +kernel
theorem tyJxa66e6_ok : ∀ k, k < 0 → parseFieldDescriptor (TJxa66e6 k).2.2.1 = some (tyJxa66e6 k) := by decide +kernel
def RJ8 : String := "jdk/internal/util/ArraysSupport"
def TJ8 : u_T := fun k => match k with
  | _ => ("", "", "", false)
def tyJ8 : Nat → FieldType := fun k => match k with
  | _ => .int
abbrev wsJ80 : List Cond := u_ws RJ8 TJ8 0
theorem nmJ8 : ∀ a, a < 0 → ∀ b, b < 0 → a ≠ b → (TJ8 a).2.1 ≠ (TJ8 b).2.1 := by decide +kernel
theorem tyJ8_ok : ∀ k, k < 0 → parseFieldDescriptor (TJ8 k).2.2.1 = some (tyJ8 k) := by decide +kernel
abbrev cJ8_newLength_cabcc : ByteArray := prog_42_method_27_code
def yJ8_newLength_cabcc : MethodName := ⟨RJ8, "newLength", "(III)I"⟩
abbrev cJ8_hugeLength_7cf53 : ByteArray := prog_42_method_28_code
def yJ8_hugeLength_7cf53 : MethodName := ⟨RJ8, "hugeLength", "(II)I"⟩
def RJ3 : String := "jdk/internal/util/Preconditions"
def TJ3 : u_T := fun k => match k with
  | _ => ("", "", "", false)
def tyJ3 : Nat → FieldType := fun k => match k with
  | _ => .int
abbrev wsJ30 : List Cond := u_ws RJ3 TJ3 0
theorem nmJ3 : ∀ a, a < 0 → ∀ b, b < 0 → a ≠ b → (TJ3 a).2.1 ≠ (TJ3 b).2.1 := by decide +kernel
theorem tyJ3_ok : ∀ k, k < 0 → parseFieldDescriptor (TJ3 k).2.2.1 = some (tyJ3 k) := by decide +kernel
abbrev cJ3_checkIndex_8e157 : ByteArray := prog_43_method_11_code
def yJ3_checkIndex_8e157 : MethodName := ⟨RJ3, "checkIndex", "(IILjava/util/function/BiFunction;)I"⟩
abbrev cJ3_checkFromToIndex_8c36e : ByteArray := prog_43_method_12_code
def yJ3_checkFromToIndex_8c36e : MethodName := ⟨RJ3, "checkFromToIndex", "(IIILjava/util/function/BiFunction;)I"⟩
abbrev cJ3_checkFromIndexSize_8c36e : ByteArray := prog_43_method_13_code
def yJ3_checkFromIndexSize_8c36e : MethodName := ⟨RJ3, "checkFromIndexSize", "(IIILjava/util/function/BiFunction;)I"⟩
def RL : String := "SignkindsLaw"
abbrev cL_lay : ByteArray := method_2_code
def yL_lay : MethodName := ⟨RL, "lay", "(LSignkinds;IIIIILSignkindsLaw$Out;)I"⟩
abbrev cL_drop : ByteArray := method_3_code
def yL_drop : MethodName := ⟨RL, "drop", "(LSignkinds;IILSignkindsLaw$Out;)I"⟩
abbrev cL_copy : ByteArray := method_4_code
def yL_copy : MethodName := ⟨RL, "copy", "(LSignkinds;IILSignkindsLaw$Out;)I"⟩
abbrev cL_raise : ByteArray := method_5_code
def yL_raise : MethodName := ⟨RL, "raise", "(LSignkinds;ILSignkindsLaw$Out;)I"⟩
abbrev cL_sink : ByteArray := method_6_code
def yL_sink : MethodName := ⟨RL, "sink", "(LSignkinds;ILSignkindsLaw$Out;)I"⟩
abbrev cL_sieve : ByteArray := method_7_code
def yL_sieve : MethodName := ⟨RL, "sieve", "(LSignkinds;IIZLSignkindsLaw$Out;)I"⟩
abbrev cL_strip : ByteArray := method_8_code
def yL_strip : MethodName := ⟨RL, "strip", "(LSignkinds;ILSignkindsLaw$Out;)I"⟩
abbrev cL_turn : ByteArray := method_9_code
def yL_turn : MethodName := ⟨RL, "turn", "(LSignkinds;ILSignkindsLaw$Out;)I"⟩
abbrev cL_write : ByteArray := method_10_code
def yL_write : MethodName := ⟨RL, "write", "(LSignkinds;IIILSignkindsLaw$Out;)I"⟩
abbrev cL_spell : ByteArray := method_11_code
def yL_spell : MethodName := ⟨RL, "spell", "(LSignkinds;IILSignkindsLaw$Out;)I"⟩
abbrev cL_read : ByteArray := method_12_code
def yL_read : MethodName := ⟨RL, "read", "(LSignkinds;IILSignkindsLaw$Out;)I"⟩
abbrev cL_send : ByteArray := method_13_code
def yL_send : MethodName := ⟨RL, "send", "(LSignkinds;IILSignkindsLaw$Out;)I"⟩
abbrev cL_put : ByteArray := method_14_code
def yL_put : MethodName := ⟨RL, "put", "(LSignkinds;IILSignkindsLaw$Out;)I"⟩
abbrev cL_cut : ByteArray := method_15_code
def yL_cut : MethodName := ⟨RL, "cut", "(LSignkinds;IILSignkindsLaw$Out;)I"⟩
abbrev cL_flip : ByteArray := method_16_code
def yL_flip : MethodName := ⟨RL, "flip", "(LSignkinds;ILSignkindsLaw$Out;)I"⟩
abbrev cL_reverse : ByteArray := method_17_code
def yL_reverse : MethodName := ⟨RL, "reverse", "(LSignkinds;ILSignkindsLaw$Out;)I"⟩
abbrev cL_undo : ByteArray := method_18_code
def yL_undo : MethodName := ⟨RL, "undo", "(LSignkinds;LSignkindsLaw$Out;)I"⟩
abbrev cL_isDigit : ByteArray := method_19_code
def yL_isDigit : MethodName := ⟨RL, "isDigit", "(LSignkinds;ILSignkindsLaw$Out;)I"⟩
abbrev cL_isLetter : ByteArray := method_20_code
def yL_isLetter : MethodName := ⟨RL, "isLetter", "(LSignkinds;ILSignkindsLaw$Out;)I"⟩
abbrev cL_isLetterOrDigit : ByteArray := method_21_code
def yL_isLetterOrDigit : MethodName := ⟨RL, "isLetterOrDigit", "(LSignkinds;ILSignkindsLaw$Out;)I"⟩
abbrev cL_isWhite : ByteArray := method_22_code
def yL_isWhite : MethodName := ⟨RL, "isWhite", "(LSignkinds;ILSignkindsLaw$Out;)I"⟩
abbrev cL_isGreat : ByteArray := method_23_code
def yL_isGreat : MethodName := ⟨RL, "isGreat", "(LSignkinds;ILSignkindsLaw$Out;)I"⟩
abbrev cL_kinds : ByteArray := method_24_code
def yL_kinds : MethodName := ⟨RL, "kinds", "(LSignkinds;ILSignkindsLaw$Out;)I"⟩
abbrev cL_upper : ByteArray := method_25_code
def yL_upper : MethodName := ⟨RL, "upper", "(LSignkinds;IZLSignkindsLaw$Out;)I"⟩
abbrev cL_lower : ByteArray := method_26_code
def yL_lower : MethodName := ⟨RL, "lower", "(LSignkinds;IZLSignkindsLaw$Out;)I"⟩
abbrev cL_value : ByteArray := method_27_code
def yL_value : MethodName := ⟨RL, "value", "(LSignkinds;IZLSignkindsLaw$Out;)I"⟩
abbrev cL_number : ByteArray := method_28_code
def yL_number : MethodName := ⟨RL, "number", "(LSignkinds;IIZLSignkindsLaw$Out;)I"⟩
abbrev cL_length : ByteArray := method_29_code
def yL_length : MethodName := ⟨RL, "length", "(LSignkinds;ILSignkindsLaw$Out;)I"⟩
abbrev cL_at : ByteArray := method_30_code
def yL_at : MethodName := ⟨RL, "at", "(LSignkinds;IILSignkindsLaw$Out;)I"⟩
abbrev cL_count : ByteArray := method_31_code
def yL_count : MethodName := ⟨RL, "count", "(LSignkinds;IILSignkindsLaw$Out;)I"⟩
abbrev cL_first : ByteArray := method_32_code
def yL_first : MethodName := ⟨RL, "first", "(LSignkinds;IIILSignkindsLaw$Out;)I"⟩
abbrev cL_last : ByteArray := method_33_code
def yL_last : MethodName := ⟨RL, "last", "(LSignkinds;IILSignkindsLaw$Out;)I"⟩
abbrev cL_forms : ByteArray := method_34_code
def yL_forms : MethodName := ⟨RL, "forms", "(LSignkinds;ILSignkindsLaw$Out;)I"⟩
abbrev cL_spelled : ByteArray := method_35_code
def yL_spelled : MethodName := ⟨RL, "spelled", "(LSignkinds;ILSignkindsLaw$Out;)I"⟩
abbrev cL_told : ByteArray := method_36_code
def yL_told : MethodName := ⟨RL, "told", "(LSignkinds;IILSignkindsLaw$Out;)I"⟩
abbrev cL_sum : ByteArray := method_37_code
def yL_sum : MethodName := ⟨RL, "sum", "(LSignkinds;IILSignkindsLaw$Out;)I"⟩
abbrev cL_values : ByteArray := method_38_code
def yL_values : MethodName := ⟨RL, "values", "(LSignkinds;ILSignkindsLaw$Out;)I"⟩
abbrev cL_words : ByteArray := method_39_code
def yL_words : MethodName := ⟨RL, "words", "(LSignkinds;ILSignkindsLaw$Out;)I"⟩
abbrev cL_word : ByteArray := method_40_code
def yL_word : MethodName := ⟨RL, "word", "(LSignkinds;IIZLSignkindsLaw$Out;)I"⟩
abbrev cL_isAlike : ByteArray := method_41_code
def yL_isAlike : MethodName := ⟨RL, "isAlike", "(LSignkinds;IILSignkindsLaw$Out;)I"⟩
abbrev cL_order : ByteArray := method_42_code
def yL_order : MethodName := ⟨RL, "order", "(LSignkinds;IILSignkindsLaw$Out;)I"⟩
abbrev cL_half : ByteArray := method_43_code
def yL_half : MethodName := ⟨RL, "half", "(LSignkinds;IZLSignkindsLaw$Out;)I"⟩
abbrev cL_code : ByteArray := method_44_code
def yL_code : MethodName := ⟨RL, "code", "(LSignkinds;IILSignkindsLaw$Out;)I"⟩
abbrev cL_ofUnit : ByteArray := method_45_code
def yL_ofUnit : MethodName := ⟨RL, "ofUnit", "(LSignkinds;IILSignkindsLaw$Out;)I"⟩
abbrev cL_compare : ByteArray := method_46_code
def yL_compare : MethodName := ⟨RL, "compare", "(LSignkinds;IILSignkindsLaw$Out;)I"⟩
abbrev cL_ofTrack : ByteArray := method_47_code
def yL_ofTrack : MethodName := ⟨RL, "ofTrack", "(LSignkinds;IILSignkindsLaw$Out;)I"⟩
abbrev cL_unit : ByteArray := method_48_code
def yL_unit : MethodName := ⟨RL, "unit", "(LSignkinds;IILSignkindsLaw$Out;)I"⟩
abbrev cL_codeAt : ByteArray := method_49_code
def yL_codeAt : MethodName := ⟨RL, "codeAt", "(LSignkinds;IILSignkindsLaw$Out;)I"⟩
abbrev cL_nth : ByteArray := method_50_code
def yL_nth : MethodName := ⟨RL, "nth", "(LSignkinds;IILSignkindsLaw$Out;)I"⟩
abbrev cL_house : ByteArray := method_51_code
def yL_house : MethodName := ⟨RL, "house", "(LSignkinds;ILSignkindsLaw$Out;)I"⟩
abbrev cL_law : ByteArray := code
def yL_law : MethodName := ⟨RL, "law", "([I)Z"⟩
abbrev vwCl : List vw_C := [(RJ0, TJ0, 4), (RJ4, TJ4, 4), (RJx4a65c, TJx4a65c, 3), (RX0, TX0, 2), (RX1, TX1, 2), (RX3, TX3, 2), (RX5, TX5, 4), (RX6, TX6, 2), (RX7, TX7, 4)]
end
section
/-! THE JUDGEMENT over abstract values: ints and longs as whole numbers, a heap as a function from addresses to things. -/
abbrev sg_V : Type := Int ⊕ (Int ⊕ Option Nat)
abbrev sg_i (z : Int) : sg_V := .inl z
abbrev sg_l (z : Int) : sg_V := .inr (.inl z)
abbrev sg_r (a : Nat) : sg_V := .inr (.inr (some a))
abbrev sg_n : sg_V := .inr (.inr none)
def sg_v (v : sg_V) (c : Value) : Prop := match v with
  | .inl z => ∃ x : Int32, c = .int x ∧ x.toInt = z
  | .inr (.inl z) => ∃ x : Int64, c = .long x ∧ x.toInt = z
  | .inr (.inr (some a)) => c = .ref a
  | .inr (.inr none) => c = .null
def sg_c2 (v : sg_V) : Bool := match v with
  | .inr (.inl _) => true
  | _ => false
theorem sg_v_cat {v : sg_V} {c : Value} (h : sg_v v c) : (c.category == 2) = sg_c2 v := by
  match v, h with
  | .inl z, h => obtain ⟨x, rfl, -⟩ := h; rfl
  | .inr (.inl z), h => obtain ⟨x, rfl, -⟩ := h; rfl
  | .inr (.inr none), h => cases (show c = .null from h); rfl
  | .inr (.inr (some a)), h => cases (show c = .ref a from h); rfl
def sg_vs : List sg_V → List Value → Prop
  | [], [] => True
  | v :: a, c :: b => sg_v v c ∧ sg_vs a b
  | [], _ :: _ => False
  | _ :: _, [] => False
theorem sg_vs_c {v : sg_V} {a : List sg_V} {sv : List Value} (h : sg_vs (v :: a) sv) : ∃ c b, sv = c :: b ∧ sg_v v c ∧ sg_vs a b := by
  cases sv with
  | nil => simp [sg_vs] at h
  | cons c b => exact ⟨c, b, rfl, h.1, h.2⟩
theorem sg_vs_i {z : Int} {a : List sg_V} {sv : List Value} (h : sg_vs (sg_i z :: a) sv) : ∃ (x : Int32) (b : List Value), sv = .int x :: b ∧ x.toInt = z ∧ sg_vs a b := by
  obtain ⟨c, b, rfl, ⟨x, rfl, hx⟩, h2⟩ := sg_vs_c h
  exact ⟨x, b, rfl, hx, h2⟩
theorem sg_vs_l {z : Int} {a : List sg_V} {sv : List Value} (h : sg_vs (sg_l z :: a) sv) : ∃ (x : Int64) (b : List Value), sv = .long x :: b ∧ x.toInt = z ∧ sg_vs a b := by
  obtain ⟨c, b, rfl, ⟨x, rfl, hx⟩, h2⟩ := sg_vs_c h
  exact ⟨x, b, rfl, hx, h2⟩
theorem sg_vs_r {q : Nat} {a : List sg_V} {sv : List Value} (h : sg_vs (sg_r q :: a) sv) : ∃ (b : List Value), sv = .ref q :: b ∧ sg_vs a b := by
  obtain ⟨c, b, rfl, h1, h2⟩ := sg_vs_c h
  cases (show c = .ref q from h1)
  exact ⟨b, rfl, h2⟩
theorem sg_vs_n {a : List sg_V} {sv : List Value} (h : sg_vs (sg_n :: a) sv) : ∃ (b : List Value), sv = .null :: b ∧ sg_vs a b := by
  obtain ⟨c, b, rfl, h1, h2⟩ := sg_vs_c h
  cases (show c = .null from h1)
  exact ⟨b, rfl, h2⟩
theorem sg_vs_nil {sv : List Value} (h : sg_vs [] sv) : sv = [] := by
  cases sv with
  | nil => rfl
  | cons c b => simp [sg_vs] at h
theorem sg_vs_app : ∀ {a b : List sg_V} {sv : List Value}, sg_vs (a ++ b) sv → ∃ x y, sv = x ++ y ∧ sg_vs a x ∧ sg_vs b y
  | [], b, sv, h => ⟨[], sv, rfl, trivial, h⟩
  | v :: a, b, sv, h => by
    obtain ⟨c, sv', rfl, h1, h2⟩ := sg_vs_c (a := a ++ b) h
    obtain ⟨x, y, rfl, h3, h4⟩ := sg_vs_app h2
    exact ⟨c :: x, y, rfl, ⟨h1, h3⟩, h4⟩
theorem sg_vs_join : ∀ {a b : List sg_V} {x y : List Value}, sg_vs a x → sg_vs b y → sg_vs (a ++ b) (x ++ y)
  | [], _, x, _, h, h2 => by rw [sg_vs_nil h]; exact h2
  | v :: a, b, x, y, h, h2 => by
    obtain ⟨c, x', rfl, h1, h3⟩ := sg_vs_c h
    exact ⟨h1, sg_vs_join h3 h2⟩
theorem sg_vs_len : ∀ {a : List sg_V} {x : List Value}, sg_vs a x → x.length = a.length
  | [], x, h => by rw [sg_vs_nil h]; rfl
  | v :: a, x, h => by
    obtain ⟨c, x', rfl, h1, h3⟩ := sg_vs_c h
    simp [sg_vs_len h3]
theorem sg_vs_rev : ∀ {a : List sg_V} {x : List Value}, sg_vs a x → sg_vs a.reverse x.reverse
  | [], x, h => by rw [sg_vs_nil h]; exact trivial
  | v :: a, x, h => by
    obtain ⟨c, x', rfl, h1, h3⟩ := sg_vs_c h
    rw [List.reverse_cons, List.reverse_cons]
    exact sg_vs_join (sg_vs_rev h3) ⟨h1, trivial⟩
def sg_cs : List sg_V → Nat
  | [] => 0
  | v :: a => (bif sg_c2 v then 2 else 1) + sg_cs a
theorem sg_vs_cat : ∀ {a : List sg_V} {x : List Value}, sg_vs a x → (x.map fun v => v.category).sum = sg_cs a
  | [], x, h => by rw [sg_vs_nil h]; rfl
  | v :: a, x, h => by
    obtain ⟨c, x', rfl, h1, h3⟩ := sg_vs_c h
    have hc := sg_v_cat h1
    have h4 := sg_vs_cat h3
    rw [List.map_cons, List.sum_cons, h4]
    show c.category + sg_cs a = (bif sg_c2 v then 2 else 1) + sg_cs a
    rw [← hc]
    rcases lv_cat c with h | h <;> rw [h] <;> rfl
/-! locals -/
def sg_L : List (Nat × sg_V) → List (Nat × Value) → Prop
  | [], [] => True
  | q :: a, r :: b => q.1 = r.1 ∧ sg_v q.2 r.2 ∧ sg_L a b
  | [], _ :: _ => False
  | _ :: _, [] => False
def sg_lk : List (Nat × sg_V) → Nat → Option sg_V
  | [], _ => none
  | q :: a, i => bif Nat.beq q.1 i then some q.2 else sg_lk a i
theorem sg_lk_at : ∀ {lv : List (Nat × sg_V)} {i : Nat} {v : sg_V} {l : List (Nat × Value)}, sg_lk lv i = some v → sg_L lv l → ∃ c, (i, c) ∈ l ∧ sg_v v c
  | [], i, v, l, h, _ => by simp [sg_lk] at h
  | q :: a, i, v, [], _, hL => by simp [sg_L] at hL
  | q :: a, i, v, r :: b, h, hL => by
    obtain ⟨h1, h2, h3⟩ := hL
    unfold sg_lk at h
    cases hq : Nat.beq q.1 i with
    | true =>
      rw [hq] at h
      have h4 := Nat.eq_of_beq_eq_true hq
      have h5 : q.2 = v := Option.some.inj h
      subst h5
      refine ⟨r.2, ?_, h2⟩
      rw [← h4, h1]
      exact List.mem_cons_self
    | false =>
      rw [hq] at h
      obtain ⟨c, h4, h5⟩ := sg_lk_at (show sg_lk a i = some v from h) h3
      exact ⟨c, List.mem_cons_of_mem _ h4, h5⟩
theorem sg_L_filter {f : Nat × sg_V → Bool} {g : Nat × Value → Bool} (hfg : ∀ q r, q.1 = r.1 → sg_v q.2 r.2 → f q = g r) : ∀ {lv : List (Nat × sg_V)} {l : List (Nat × Value)}, sg_L lv l → sg_L (lv.filter f) (l.filter g)
  | [], [], _ => trivial
  | [], _ :: _, h => by simp [sg_L] at h
  | _ :: _, [], h => by simp [sg_L] at h
  | q :: a, r :: b, h => by
    obtain ⟨h1, h2, h3⟩ := h
    have h4 := sg_L_filter hfg h3
    rw [List.filter_cons, List.filter_cons, hfg q r h1 h2]
    split
    · exact ⟨h1, h2, h4⟩
    · exact h4
def sg_st (i : Nat) (v : sg_V) (lv : List (Nat × sg_V)) : List (Nat × sg_V) := (i, v) :: lv.filter (fun q => !(q.1 == i) && !(q.1 + 1 == i && sg_c2 q.2))
def sg_st2 (i : Nat) (v : sg_V) (lv : List (Nat × sg_V)) : List (Nat × sg_V) := (i, v) :: lv.filter (fun q => !(q.1 == i) && (!(q.1 == i + 1) && !(q.1 + 1 == i && sg_c2 q.2)))
theorem sg_L_st {i : Nat} {v : sg_V} {c : Value} {lv : List (Nat × sg_V)} {l : List (Nat × Value)} (hL : sg_L lv l) (h : sg_v v c) : sg_L (sg_st i v lv) ((i, c) :: l.filter (fun q => !(q.1 == i) && !(q.1 + 1 == i && q.2.category == 2))) :=
  ⟨rfl, h, sg_L_filter (fun q r h1 h2 => by rw [h1, sg_v_cat h2]) hL⟩
theorem sg_L_st2 {i : Nat} {v : sg_V} {c : Value} {lv : List (Nat × sg_V)} {l : List (Nat × Value)} (hL : sg_L lv l) (h : sg_v v c) : sg_L (sg_st2 i v lv) ((i, c) :: l.filter (fun q => !(q.1 == i) && (!(q.1 == i + 1) && !(q.1 + 1 == i && q.2.category == 2)))) :=
  ⟨rfl, h, sg_L_filter (fun q r h1 h2 => by rw [h1, sg_v_cat h2]) hL⟩
def sg_ar : Nat → List sg_V → List (Nat × sg_V)
  | _, [] => []
  | i, v :: vs => (i, v) :: sg_ar (bif sg_c2 v then i + 2 else i + 1) vs
theorem sg_L_ar : ∀ {vs : List sg_V} {cs : List Value} (i : Nat), sg_vs vs cs → sg_L (sg_ar i vs) (lv_args i cs)
  | [], cs, i, h => by rw [sg_vs_nil h]; trivial
  | v :: vs, cs, i, h => by
    obtain ⟨c, b, rfl, h1, h2⟩ := sg_vs_c h
    refine ⟨rfl, h1, ?_⟩
    have hc := sg_v_cat h1
    have h3 := sg_L_ar (bif sg_c2 v then i + 2 else i + 1) h2
    have h4 : (if c.category = 2 then i + 2 else i + 1) = (bif sg_c2 v then i + 2 else i + 1) := by
      rw [← hc]
      rcases lv_cat c with h | h <;> rw [h] <;> rfl
    show sg_L (sg_ar (bif sg_c2 v then i + 2 else i + 1) vs) (lv_args (if c.category = 2 then i + 2 else i + 1) b)
    rw [h4]
    exact h3
theorem sg_sl_len : ∀ {vs : List sg_V} {cs : List Value}, sg_vs vs cs → (lg_sl cs).length = sg_cs vs
  | [], cs, h => by rw [sg_vs_nil h]; rfl
  | v :: vs, cs, h => by
    obtain ⟨c, b, rfl, h1, h2⟩ := sg_vs_c h
    have hc := sg_v_cat h1
    have h3 := sg_sl_len h2
    have h4 : (lg_sl (c :: b)).length = (if c.category = 2 then 2 else 1) + (lg_sl b).length := by
      simp only [lg_sl, List.flatMap_cons, List.length_append]
      split <;> rfl
    rw [h4, h3]
    show (if c.category = 2 then 2 else 1) + sg_cs vs = (bif sg_c2 v then 2 else 1) + sg_cs vs
    rw [← hc]
    rcases lv_cat c with h | h <;> rw [h] <;> rfl
/-! numbers -/
def sg_w (z : Int) : Int := z.bmod 4294967296
def sg_W64 (z : Int) : Int := z.bmod 18446744073709551616
theorem sg_w_id {z : Int} (h1 : -2147483648 ≤ z) (h2 : z ≤ 2147483647) : sg_w z = z := by
  unfold sg_w
  rw [Int.bmod_eq_of_le] <;> omega
theorem sg_toInt_range (x : Int32) : -2147483648 ≤ x.toInt ∧ x.toInt ≤ 2147483647 := ⟨Int32.le_toInt x, Int32.toInt_le x⟩
theorem sg_clamp (x : Int32) : x.toNatClampNeg = x.toInt.toNat := rfl
/-! things: a number of a kind and what it holds. Kinds 0 .. 99: objects of vwCl; 100 ..: arrays; and 200 more for what was there before the start, which nobody writes. -/
abbrev sg_E : Type := Nat × List sg_V
abbrev sg_H : Type := Nat × (Nat → Option sg_E)
abbrev sg_W : Type := Launch × State × va_G
abbrev sg_M : Type := MethodName × ByteArray × Nat × Option FieldType
abbrev sg_O : Type := Option sg_V ⊕ String
abbrev sg_b (w : sg_W) : Nat := w.2.1.heap.size
def sg_up (f : Nat → Option sg_E) (a : Nat) (e : sg_E) : Nat → Option sg_E := fun q => if q = a then some e else f q
theorem sg_up_s {f : Nat → Option sg_E} {a : Nat} {e : sg_E} : sg_up f a e a = some e := if_pos rfl
theorem sg_up_n {f : Nat → Option sg_E} {a q : Nat} {e : sg_E} (h : q ≠ a) : sg_up f a e q = f q := if_neg h
def sg_ty (t : Nat) : FieldType := match t with
  | 100 => .int
  | 101 => .boolean
  | 102 => .byte
  | 110 => .array .int
  | 111 => .object "Signkinds$Line"
  | 112 => .object "Signkinds$State"
  | _ => .object "java/lang/Object"
def sg_cn (ty : FieldType) : String := match ty with
  | .object C => C
  | t => t.toString
def sg_ak (s : State) (ty : FieldType) (cA : ClassId) : Prop := s.vm.findClass ("[" ++ ty.toString) = some cA ∧ ∃ (k : Class) (comp : ClassId), s.vm.classes[cA]? = some k ∧ k.kind = .array comp ty ∧ (ty.isReference = true → s.vm.findClass (sg_cn ty) = some comp)
theorem sg_ak_moved {u U : State} (hvm : u.vm.Alike U.vm) {ty : FieldType} {cA : ClassId} (h : sg_ak u ty cA) : sg_ak U ty cA := by
  obtain ⟨h1, k, comp, h2, h3, h4⟩ := h
  obtain ⟨k', hk', he⟩ := hvm.2.2 _ _ h2
  exact ⟨by rw [hvm.findClass]; exact h1, k', comp, hk', by rw [he]; exact h3, fun h => by rw [hvm.findClass]; exact h4 h⟩
theorem sg_ak_arr {s : State} {ty : FieldType} {cell : Cell} (h : sg_ak s ty cell.cls) (hv : cell.vm = .none) : s.isArrayOf cell ty := by
  obtain ⟨-, k, comp, h2, h3, -⟩ := h
  exact ⟨fun q hq => by (rw [hv] at hq; cases hq), k, h2, comp, h3⟩
def sg_ix (D : va_G) (t k : Nat) : Nat := if t < 100 then D.2 t k else k
def sg_at (w : sg_W) (e : sg_E) (cell : Cell) : Prop :=
  cell.vm = .none ∧ (∀ k v, e.2[k]? = some v → ∃ c, cell.slots[sg_ix w.2.2 (e.1 % 200) k]? = some c ∧ sg_v v c) ∧
  (if e.1 % 200 < 100 then cell.cls = w.2.2.1 (e.1 % 200) ∧ ∃ q, vwCl[e.1 % 200]? = some q ∧ e.2.length = q.2.2
   else cell.slots.size = e.2.length ∧ sg_ak w.2.1 (sg_ty (e.1 % 200)) cell.cls)
def sg_rel (w : sg_W) (h : sg_H) (H : Heap) : Prop := H.size = h.1 ∧ sg_b w ≤ H.size ∧ (∀ q, q < sg_b w → H[q]? = w.2.1.heap[q]?) ∧
  ∀ a e, h.2 a = some e → (e.1 < 200 → sg_b w ≤ a) ∧ ∃ cell, H[a]? = some cell ∧ sg_at w e cell
theorem sg_rel_put {w : sg_W} {h : sg_H} {H H' : Heap} {a : Nat} {e : sg_E} {cell : Cell} (hR : sg_rel w h H) (ha : sg_b w ≤ a) (h1 : H'[a]? = some cell) (h2 : H'.size = H.size) (h3 : ∀ q, q ≠ a → H'[q]? = H[q]?) (hc : sg_at w e cell) : sg_rel w (h.1, sg_up h.2 a e) H' := by
  obtain ⟨r1, r2, r3, r4⟩ := hR
  refine ⟨h2.trans r1, by rw [h2]; exact r2, fun q hq => by rw [h3 q (by omega)]; exact r3 q hq, fun q e' hq => ?_⟩
  by_cases c : q = a
  · subst c
    have : e = e' := Option.some.inj (sg_up_s.symm.trans hq)
    subst this
    exact ⟨fun _ => ha, cell, h1, hc⟩
  · obtain ⟨r5, c2, r6, r7⟩ := r4 q e' ((sg_up_n c).symm.trans hq)
    exact ⟨r5, c2, by rw [h3 q c]; exact r6, r7⟩
theorem sg_rel_new {w : sg_W} {h : sg_H} {H H' : Heap} {e : sg_E} {cell : Cell} (hR : sg_rel w h H) (h1 : H'[H.size]? = some cell) (h2 : H'.size = H.size + 1) (h3 : ∀ q, q < H.size → H'[q]? = H[q]?) (hc : sg_at w e cell) : sg_rel w (h.1 + 1, sg_up h.2 h.1 e) H' := by
  obtain ⟨r1, r2, r3, r4⟩ := hR
  refine ⟨by rw [h2, r1], by omega, fun q hq => by rw [h3 q (by omega)]; exact r3 q hq, fun q e' hq => ?_⟩
  by_cases c : q = h.1
  · subst c
    have : e = e' := Option.some.inj (sg_up_s.symm.trans hq)
    subst this
    exact ⟨fun _ => by omega, cell, by rw [← r1]; exact h1, hc⟩
  · obtain ⟨r5, c2, r6, r7⟩ := r4 q e' ((sg_up_n c).symm.trans hq)
    exact ⟨r5, c2, by rw [h3 q (Array.getElem?_eq_some_iff.mp r6).1]; exact r6, r7⟩
/-- a cell that no thing tells of -/
theorem sg_rel_more {w : sg_W} {h : sg_H} {H H' : Heap} (hR : sg_rel w h H) (h2 : H.size ≤ H'.size) (h3 : ∀ q, q < H.size → H'[q]? = H[q]?) : sg_rel w (H'.size, h.2) H' := by
  obtain ⟨r1, r2, r3, r4⟩ := hR
  refine ⟨rfl, by omega, fun q hq => by rw [h3 q (by omega)]; exact r3 q hq, fun q e' hq => ?_⟩
  obtain ⟨r5, c2, r6, r7⟩ := r4 q e' hq
  exact ⟨r5, c2, by rw [h3 q (Array.getElem?_eq_some_iff.mp r6).1]; exact r6, r7⟩
/-- a word of the tables that stays -/
def sg_ok (x : Cond) : Prop := x ∈ lw_tbl ∧ goodWord x = true
theorem sg_okt {x : Cond} (i : Nat) (h : tables_1[i]? = some x ∧ goodWord x = true) : sg_ok x := ⟨List.mem_append_right _ (List.mem_of_getElem? h.1), h.2⟩
theorem sg_oks {x : Cond} (i : Nat) (h : (k2_sels lw_privs)[i]? = some x ∧ goodWord x = true) : sg_ok x := ⟨List.mem_append_left _ (List.mem_of_getElem? h.1), h.2⟩
/-- what holds of the start, all through -/
def sg_G (w : sg_W) : Prop := ((∀ x ∈ lw_tbl, x.before #[] w.2.1 = true) ∧ ∀ own is tx, Cond.stringRef own is tx ∈ lw_tbl → ∃ a, vk_R own is tx a w.2.1) ∧ va_K w.2.2 vwCl [] w.2.1 ∧ w.1.stackTraces = false ∧
  vx_Zq Bundle.tN "UNASSIGNED_STACK" Bundle.steD (fun q => sg_b w ≤ q) w.2.1 w.2.1.heap ∧ vx_Zq Bundle.tN "SUPPRESSED_SENTINEL" Bundle.listD (fun q => sg_b w ≤ q) w.2.1 w.2.1.heap
theorem sg_wd {w : sg_W} {s : State} {args : Array Value} {x : Cond} (g : sg_G w) (hW : w.2.1.WarmedH s.vm) (hx : sg_ok x) : x.before args s = true := word_at hW (good_of_word hx.2) (g.1.1 x hx.1)
def sg_rm (d mc ms : Nat) : Room := { frames := d, cells := mc, slots := ms, locals := 80 * d }
def sg_Qc (w : sg_W) (Q : sg_O → sg_H → Prop) : Array Value → State → Outcome → State → Prop := fun _ _ o t =>
  ∃ (v : Option sg_V) (c : Option Value) (h : sg_H), o = .returned c ∧ sg_vs v.toList c.toList ∧ sg_rel w h t.heap ∧ Q (.inl v) h
def sg_XC (w : sg_W) (Q : sg_O → sg_H → Prop) : String → State → State → Prop := fun E _ t => ∃ h : sg_H, sg_rel w h t.heap ∧ Q (.inr E) h
def sg_Pc (w : sg_W) (as : List sg_V) (h : sg_H) : Array Value → State → Prop := fun av U => ∃ cs : List Value, av = cs.toArray ∧ sg_vs as cs ∧ w.2.1.WarmedH U.vm ∧ sg_rel w h U.heap
/-- THE CONTRACT of one call: method mi with the arguments as in the heap h, at most d frames, mc cells, ms slots, ends in Q -/
def sg_C (w : sg_W) (mi : sg_M) (d mc ms : Nat) (as : List sg_V) (h : sg_H) (Q : sg_O → sg_H → Prop) : Prop :=
  vx_Met w.1 mi.1 [.code mi.1 mi.2.1 mi.2.2.1 mi.2.2.2] (sg_rm d mc ms) (sg_Pc w as h) (sg_Qc w Q) (sg_XC w Q) mc ms (fun q => sg_b w ≤ q)
def sg_F (w : sg_W) (mi : sg_M) (p : Program) (s : State) (m : MethodId) (meth : Method) (c : Code) : Prop :=
  p.tables.exec = Jvm.exec ∧ c.code = mi.2.1 ∧ c.maxLocals = mi.2.2.1 ∧ s.vm.findClass mi.1.cls = some m.cls ∧ meth.sig.returnType = mi.2.2.2 ∧ meth.locks = false ∧ (∀ x ∈ c.exceptionTable.toList, False) ∧ meth.name = mi.1.name ∧ sg_b w ≤ s.heap.size ∧ ∀ q, q < sg_b w → s.heap[q]? = w.2.1.heap[q]?
/-- THE RUN of a method from pc on -/
def sg_R (w : sg_W) (mi : sg_M) (d mc ms : Nat) (Q : sg_O → sg_H → Prop) (pc : Nat) (lv : List (Nat × sg_V)) (st : List sg_V) (h : sg_H) (k n : Nat) : Prop :=
  ∀ (p : Program) (e : Env) (s : State) (m : MethodId) (args : Array Value) (below : List Frame) (meth : Method) (c : Code) (H : Heap) (locs : List Loc) (ls : Array Slot) (sv : List Value) (l : List (Nat × Value)),
    sg_F w mi p s m meth c → w.2.1.WarmedH s.vm → lv_has ls mi.2.2.1 l → sg_L lv l → sg_vs st sv → sg_rel w h H → ((∀ q ∈ locs, sg_b w ≤ q.base) ∧ s.heap.size ≤ H.size) →
    W p w.1 e (sg_rm d mc ms) s m args below meth c H locs k n (vx_MQ below (sg_Qc w Q) (sg_XC w Q) args s mc ms (fun q => sg_b w ≤ q)) (F0 m pc ls sv)
section
variable {w : sg_W} {mi : sg_M} {d mc ms : Nat} {Q : sg_O → sg_H → Prop} {pc : Nat} {lv : List (Nat × sg_V)} {st : List sg_V} {h : sg_H} {k n : Nat}
/-- a method's contract out of its run -/
theorem sg_of {as : List sg_V} (hy : plainName mi.1.cls = true) (hn : sg_cs as ≤ mi.2.2.1) (K : sg_R w mi d mc ms Q 0 (sg_ar 0 as) [] h 0 0) : sg_C w mi d mc ms as h Q := by
  refine vx_ofW (cc := mi.2.1) (maxL := mi.2.2.1) (ret := mi.2.2.2) hy rfl ?_
  intro p e s m args below meth c s₁ B hml ht hv
  obtain ⟨cs, rfl, hcs, hW, hR⟩ := hv
  have hl := lv_entry cs (n := mi.2.2.1) (by rw [sg_sl_len hcs]; exact hn)
  rw [lg_entry_eq]
  exact K p e s m cs.toArray below meth c s.heap [] _ [] _ ⟨B.exec, B.bytes, hml, findClass_of_methodNamed B.named, B.returns, B.notSynchronized, ht, (name_of_methodNamed B.named B.method).1, hR.2.1, hR.2.2.1⟩ hW hl (sg_L_ar 0 hcs) trivial hR ⟨fun q hq => (nomatch hq), Nat.le_refl _⟩
theorem sg_widen {k' n' : Nat} (h1 : k ≤ k') (h2 : n ≤ n') (K : sg_R w mi d mc ms Q pc lv st h k' n') : sg_R w mi d mc ms Q pc lv st h k n := by
  intro p e s m args below meth c H locs ls sv l hF hW hlv hL hs hR hO
  exact W.widen h1 h2 (K p e s m args below meth c H locs ls sv l hF hW hlv hL hs hR hO)
/-- fewer locals are told of -/
theorem sg_less {lv' : List (Nat × sg_V)} (hl : ∀ i v, sg_lk lv' i = some v → sg_lk lv i = some v) (hn : ∀ q ∈ lv', sg_lk lv' q.1 = some q.2) (K : sg_R w mi d mc ms Q pc lv' st h k n) : sg_R w mi d mc ms Q pc lv st h k n := by
  intro p e s m args below meth c H locs ls sv l hF hW hlv hL hs hR hO
  have key : ∀ lv2 : List (Nat × sg_V), (∀ q ∈ lv2, sg_lk lv q.1 = some q.2) → ∃ l2, (∀ r ∈ l2, r ∈ l) ∧ sg_L lv2 l2 := by
    intro lv2
    induction lv2 with
    | nil => intro _; exact ⟨[], fun _ h => (nomatch h), trivial⟩
    | cons q a ih =>
      intro hq
      obtain ⟨c9, h1, h2⟩ := sg_lk_at (hq q List.mem_cons_self) hL
      obtain ⟨l2, h3, h4⟩ := ih (fun x hx => hq x (List.mem_cons_of_mem _ hx))
      exact ⟨(q.1, c9) :: l2, fun r hr => (List.mem_cons.mp hr).elim (fun z => z ▸ h1) (h3 r), rfl, h2, h4⟩
  obtain ⟨l2, h3, h4⟩ := key lv' (fun q hq => hl _ _ (hn q hq))
  exact K p e s m args below meth c H locs ls sv l2 hF hW ⟨hlv.1, hlv.2.1, fun q hq => hlv.2.2 q (h3 q hq)⟩ h4 hs hR hO
/-! the ends -/
theorem sg_iret {z : Int} (hd : decode mi.2.1 pc = .ok (.ireturn, 1)) (hr : mi.2.2.2 = some .int) (hk : k ≤ mc) (hn : n ≤ ms) (K : Q (.inl (some (sg_i z))) h) : sg_R w mi d mc ms Q pc lv [sg_i z] h k n := by
  intro p e s m args below meth c H locs ls sv l hF hW hlv hL hs hR hO
  obtain ⟨x, b, rfl, hx, hb⟩ := sg_vs_i hs
  rw [sg_vs_nil hb]
  refine W.widen hk hn (vx_ret (W.iret hF.1 hF.2.1 (hF.2.2.2.2.1.trans hr) (fun t ht _ => ⟨some (sg_i z), some (.int x), h, rfl, ⟨⟨x, rfl, hx⟩, trivial⟩, by rw [ht]; exact hR, K⟩) hO.1 hd hF.2.2.2.2.2.1))
theorem sg_zret {z : Int} (hd : decode mi.2.1 pc = .ok (.ireturn, 1)) (hr : mi.2.2.2 = some .boolean) (hz : z = 0 ∨ z = 1) (hk : k ≤ mc) (hn : n ≤ ms) (K : Q (.inl (some (sg_i z))) h) : sg_R w mi d mc ms Q pc lv [sg_i z] h k n := by
  intro p e s m args below meth c H locs ls sv l hF hW hlv hL hs hR hO
  obtain ⟨x, b, rfl, hx, hb⟩ := sg_vs_i hs
  rw [sg_vs_nil hb]
  have hx2 : narrow .boolean (.int x) = .int x := by
    rcases hz with rfl | rfl
    · rw [show x = 0 from Int32.toInt_inj.mp hx]; rfl
    · rw [show x = 1 from Int32.toInt_inj.mp hx]; rfl
  refine W.widen hk hn (vx_ret (W.zret hF.1 hF.2.1 (hF.2.2.2.2.1.trans hr) hx2 (fun t ht _ => ⟨some (sg_i z), some (.int x), h, rfl, ⟨⟨x, rfl, hx⟩, trivial⟩, by rw [ht]; exact hR, K⟩) hO.1 hd hF.2.2.2.2.2.1))
theorem sg_lret {z : Int} (hd : decode mi.2.1 pc = .ok (.lreturn, 1)) (hr : mi.2.2.2 = some .long) (hk : k ≤ mc) (hn : n ≤ ms) (K : Q (.inl (some (sg_l z))) h) : sg_R w mi d mc ms Q pc lv [sg_l z] h k n := by
  intro p e s m args below meth c H locs ls sv l hF hW hlv hL hs hR hO
  obtain ⟨x, b, rfl, hx, hb⟩ := sg_vs_l hs
  rw [sg_vs_nil hb]
  refine W.widen hk hn (vx_ret (W.lret hF.1 hF.2.1 (hF.2.2.2.2.1.trans hr) (fun t ht _ => ⟨some (sg_l z), some (.long x), h, rfl, ⟨⟨x, rfl, hx⟩, trivial⟩, by rw [ht]; exact hR, K⟩) hO.1 hd hF.2.2.2.2.2.1))
theorem sg_vret (hd : decode mi.2.1 pc = .ok (.return_, 1)) (hr : mi.2.2.2 = none) (hk : k ≤ mc) (hn : n ≤ ms) (K : Q (.inl none) h) : sg_R w mi d mc ms Q pc lv [] h k n := by
  intro p e s m args below meth c H locs ls sv l hF hW hlv hL hs hR hO
  rw [sg_vs_nil hs]
  refine W.widen hk hn (vx_ret (W.vret hF.1 hF.2.1 (hF.2.2.2.2.1.trans hr) (fun t ht _ => ⟨none, none, h, rfl, trivial, by rw [ht]; exact hR, K⟩) hO.1 hd hF.2.2.2.2.2.1))
theorem sg_aret {a : Nat} {rt : FieldType} (hd : decode mi.2.1 pc = .ok (.areturn, 1)) (hr : mi.2.2.2 = some rt) (hrt : (∃ n, rt = .object n) ∨ ∃ t, rt = .array t) (hk : k ≤ mc) (hn : n ≤ ms) (K : Q (.inl (some (sg_r a))) h) : sg_R w mi d mc ms Q pc lv [sg_r a] h k n := by
  intro p e s m args below meth c H locs ls sv l hF hW hlv hL hs hR hO
  obtain ⟨b, rfl, hb⟩ := sg_vs_r hs
  rw [sg_vs_nil hb]
  refine W.widen hk hn (vx_ret (W.aret hF.1 hF.2.1 (hF.2.2.2.2.1.trans hr) hrt (Or.inr ⟨a, rfl⟩) (fun t ht _ => ⟨some (sg_r a), some (.ref a), h, rfl, ⟨rfl, trivial⟩, by rw [ht]; exact hR, K⟩) hO.1 hd hF.2.2.2.2.2.1))
end
end
section
def sg_and (a b : Int) : Int := (Int32.ofInt a &&& Int32.ofInt b).toInt
def sg_or (a b : Int) : Int := (Int32.ofInt a ||| Int32.ofInt b).toInt
def sg_shl (a b : Int) : Int := (Int32.ofInt a <<< (Int32.ofInt b &&& 31)).toInt
def sg_shr (a b : Int) : Int := (Int32.ofInt a >>> (Int32.ofInt b &&& 31)).toInt
def sg_chr (a : Int) : Int := ((Int32.ofInt a).toUInt32 % 65536).toInt32.toInt
def sg_byt (a : Int) : Int := (Int32.ofInt a).toInt8.toInt32.toInt
theorem sg_and_of (x y : Int32) : (x &&& y).toInt = sg_and x.toInt y.toInt := by unfold sg_and; rw [Int32.ofInt_toInt, Int32.ofInt_toInt]
theorem sg_or_of (x y : Int32) : (x ||| y).toInt = sg_or x.toInt y.toInt := by unfold sg_or; rw [Int32.ofInt_toInt, Int32.ofInt_toInt]
theorem sg_shl_of (x y : Int32) : (x <<< (y &&& 31)).toInt = sg_shl x.toInt y.toInt := by unfold sg_shl; rw [Int32.ofInt_toInt, Int32.ofInt_toInt]
theorem sg_shr_of (x y : Int32) : (x >>> (y &&& 31)).toInt = sg_shr x.toInt y.toInt := by unfold sg_shr; rw [Int32.ofInt_toInt, Int32.ofInt_toInt]
theorem sg_chr_of (x : Int32) : (x.toUInt32 % 65536).toInt32.toInt = sg_chr x.toInt := by unfold sg_chr; rw [Int32.ofInt_toInt]
theorem sg_byt_of (x : Int32) : x.toInt8.toInt32.toInt = sg_byt x.toInt := by unfold sg_byt; rw [Int32.ofInt_toInt]
theorem sg_irem0 (x y : Int32) : (x - x / y * y).toInt = x.toInt.tmod y.toInt := by
  have h1 := Int32.toInt_mod x y
  have h2 := sg_toInt_range (x % y)
  rw [h1] at h2
  rw [Int32.toInt_sub, Int32.toInt_mul, Int32.toInt_div, Int.sub_bmod_bmod, ← Int.sub_bmod_bmod, Int.bmod_mul_bmod, Int.sub_bmod_bmod]
  rw [Int.mul_comm, ← Int.tmod_def]
  exact sg_w_id h2.1 h2.2
theorem sg_lrem0 (x y : Int64) : (x - x / y * y).toInt = x.toInt.tmod y.toInt := by
  have h1 := Int64.toInt_mod x y
  have h2 := Int64.le_toInt (x % y)
  have h3 := Int64.toInt_le (x % y)
  rw [h1] at h2 h3
  rw [Int64.toInt_sub, Int64.toInt_mul, Int64.toInt_div, Int.sub_bmod_bmod, ← Int.sub_bmod_bmod, Int.bmod_mul_bmod, Int.sub_bmod_bmod]
  rw [Int.mul_comm, ← Int.tmod_def]
  have h4 : Int64.maxValue.toInt = 9223372036854775807 := by decide
  have h5 : Int64.minValue.toInt = -9223372036854775808 := by decide
  rw [Int.bmod_eq_of_le] <;> omega
theorem sg_ceq {x y : Int32} {a b : Int} (hx : x.toInt = a) (hy : y.toInt = b) : x = y ↔ a = b := by rw [← hx, ← hy]; exact Int32.toInt_inj.symm
theorem sg_cne {x y : Int32} {a b : Int} (hx : x.toInt = a) (hy : y.toInt = b) : ¬ x = y ↔ a ≠ b := not_congr (sg_ceq hx hy)
theorem sg_clt {x y : Int32} {a b : Int} (hx : x.toInt = a) (hy : y.toInt = b) : x < y ↔ a < b := by rw [← hx, ← hy]; exact Int32.lt_iff_toInt_lt
theorem sg_cge {x y : Int32} {a b : Int} (hx : x.toInt = a) (hy : y.toInt = b) : y ≤ x ↔ b ≤ a := by rw [← hx, ← hy]; exact Int32.le_iff_toInt_le
theorem sg_cgt {x y : Int32} {a b : Int} (hx : x.toInt = a) (hy : y.toInt = b) : y < x ↔ b < a := by rw [← hx, ← hy]; exact Int32.lt_iff_toInt_lt
theorem sg_cle {x y : Int32} {a b : Int} (hx : x.toInt = a) (hy : y.toInt = b) : x ≤ y ↔ a ≤ b := by rw [← hx, ← hy]; exact Int32.le_iff_toInt_le
theorem sg_cat1 {v : sg_V} {c : Value} (h : sg_v v c) (hv : sg_c2 v = false) : c.category = 1 := by
  have h1 := sg_v_cat h
  rw [hv] at h1
  rcases lv_cat c with h2 | h2
  · exact h2
  · rw [h2] at h1; cases h1
section
variable {w : sg_W} {mi : sg_M} {d mc ms : Nat} {Q : sg_O → sg_H → Prop} {pc : Nat} {lv : List (Nat × sg_V)} {st : List sg_V} {h : sg_H} {k n : Nat}
theorem sg_iload_n {i : Fin 4} {j : Nat} {z : Int} (hd : decode mi.2.1 pc = .ok (.iload_n i, 1)) (hj : (i : Nat) = j) (hl : sg_lk lv j = some (sg_i z)) (K : sg_R w mi d mc ms Q (pc + 1) lv (sg_i z :: st) h k n) : sg_R w mi d mc ms Q pc lv st h k n := by
  intro p e s m args below meth c H locs ls sv l hF hW hlv hL hs hR hO
  obtain ⟨cv, hm, x, rfl, hx⟩ := sg_lk_at hl hL
  refine lv_iload_n hF.1 hF.2.1 hd hj (hlv.2.2 _ hm) ?_
  exact K p e s m args below meth c H locs ls _ l hF hW hlv hL ⟨⟨x, rfl, hx⟩, hs⟩ hR hO

theorem sg_iload {j : Nat} {z : Int} (hd : decode mi.2.1 pc = .ok (.iload j, 2)) (hl : sg_lk lv j = some (sg_i z)) (K : sg_R w mi d mc ms Q (pc + 2) lv (sg_i z :: st) h k n) : sg_R w mi d mc ms Q pc lv st h k n := by
  intro p e s m args below meth c H locs ls sv l hF hW hlv hL hs hR hO
  obtain ⟨cv, hm, x, rfl, hx⟩ := sg_lk_at hl hL
  refine lv_iload hF.1 hF.2.1 hd (hlv.2.2 _ hm) ?_
  exact K p e s m args below meth c H locs ls _ l hF hW hlv hL ⟨⟨x, rfl, hx⟩, hs⟩ hR hO

theorem sg_lload_n {i : Fin 4} {j : Nat} {z : Int} (hd : decode mi.2.1 pc = .ok (.lload_n i, 1)) (hj : (i : Nat) = j) (hl : sg_lk lv j = some (sg_l z)) (K : sg_R w mi d mc ms Q (pc + 1) lv (sg_l z :: st) h k n) : sg_R w mi d mc ms Q pc lv st h k n := by
  intro p e s m args below meth c H locs ls sv l hF hW hlv hL hs hR hO
  obtain ⟨cv, hm, x, rfl, hx⟩ := sg_lk_at hl hL
  refine lv_lload_n hF.1 hF.2.1 hd hj (hlv.2.2 _ hm) ?_
  exact K p e s m args below meth c H locs ls _ l hF hW hlv hL ⟨⟨x, rfl, hx⟩, hs⟩ hR hO

theorem sg_lload {j : Nat} {z : Int} (hd : decode mi.2.1 pc = .ok (.lload j, 2)) (hl : sg_lk lv j = some (sg_l z)) (K : sg_R w mi d mc ms Q (pc + 2) lv (sg_l z :: st) h k n) : sg_R w mi d mc ms Q pc lv st h k n := by
  intro p e s m args below meth c H locs ls sv l hF hW hlv hL hs hR hO
  obtain ⟨cv, hm, x, rfl, hx⟩ := sg_lk_at hl hL
  refine lv_lload hF.1 hF.2.1 hd (hlv.2.2 _ hm) ?_
  exact K p e s m args below meth c H locs ls _ l hF hW hlv hL ⟨⟨x, rfl, hx⟩, hs⟩ hR hO

theorem sg_aload_n {i : Fin 4} {j a : Nat} (hd : decode mi.2.1 pc = .ok (.aload_n i, 1)) (hj : (i : Nat) = j) (hl : sg_lk lv j = some (sg_r a)) (K : sg_R w mi d mc ms Q (pc + 1) lv (sg_r a :: st) h k n) : sg_R w mi d mc ms Q pc lv st h k n := by
  intro p e s m args below meth c H locs ls sv l hF hW hlv hL hs hR hO
  obtain ⟨cv, hm, hx⟩ := sg_lk_at hl hL
  cases (show cv = .ref a from hx)
  refine lv_aload_n hF.1 hF.2.1 hd hj (hlv.2.2 _ hm) ?_
  exact K p e s m args below meth c H locs ls _ l hF hW hlv hL ⟨rfl, hs⟩ hR hO

theorem sg_aload {j a : Nat} (hd : decode mi.2.1 pc = .ok (.aload j, 2)) (hl : sg_lk lv j = some (sg_r a)) (K : sg_R w mi d mc ms Q (pc + 2) lv (sg_r a :: st) h k n) : sg_R w mi d mc ms Q pc lv st h k n := by
  intro p e s m args below meth c H locs ls sv l hF hW hlv hL hs hR hO
  obtain ⟨cv, hm, hx⟩ := sg_lk_at hl hL
  cases (show cv = .ref a from hx)
  refine lv_aload hF.1 hF.2.1 hd (hlv.2.2 _ hm) ?_
  exact K p e s m args below meth c H locs ls _ l hF hW hlv hL ⟨rfl, hs⟩ hR hO

theorem sg_istore_n {i : Fin 4} {j : Nat} {z : Int} (hd : decode mi.2.1 pc = .ok (.istore_n i, 1)) (hj : (i : Nat) = j) (hn : j < mi.2.2.1) (K : sg_R w mi d mc ms Q (pc + 1) (sg_st j (sg_i z) lv) st h k n) : sg_R w mi d mc ms Q pc lv (sg_i z :: st) h k n := by
  intro p e s m args below meth c H locs ls sv l hF hW hlv hL hs hR hO
  obtain ⟨x, b, rfl, hx, hb⟩ := sg_vs_i hs
  refine lv_istore_n hF.1 hF.2.1 hd hj hlv hn rfl (fun ls' hl' => ?_)
  exact K p e s m args below meth c H locs ls' _ _ hF hW hl' (sg_L_st (v := sg_i z) hL ⟨x, rfl, hx⟩) hb hR hO

theorem sg_istore {j : Nat} {z : Int} (hd : decode mi.2.1 pc = .ok (.istore j, 2)) (hn : j < mi.2.2.1) (K : sg_R w mi d mc ms Q (pc + 2) (sg_st j (sg_i z) lv) st h k n) : sg_R w mi d mc ms Q pc lv (sg_i z :: st) h k n := by
  intro p e s m args below meth c H locs ls sv l hF hW hlv hL hs hR hO
  obtain ⟨x, b, rfl, hx, hb⟩ := sg_vs_i hs
  refine lv_istore hF.1 hF.2.1 hd hlv hn rfl (fun ls' hl' => ?_)
  exact K p e s m args below meth c H locs ls' _ _ hF hW hl' (sg_L_st (v := sg_i z) hL ⟨x, rfl, hx⟩) hb hR hO

theorem sg_astore_n {i : Fin 4} {j : Nat} {z : Nat} (hd : decode mi.2.1 pc = .ok (.astore_n i, 1)) (hj : (i : Nat) = j) (hn : j < mi.2.2.1) (K : sg_R w mi d mc ms Q (pc + 1) (sg_st j (sg_r z) lv) st h k n) : sg_R w mi d mc ms Q pc lv (sg_r z :: st) h k n := by
  intro p e s m args below meth c H locs ls sv l hF hW hlv hL hs hR hO
  obtain ⟨b, rfl, hb⟩ := sg_vs_r hs
  refine lv_astore_n hF.1 hF.2.1 hd hj hlv hn rfl (fun ls' hl' => ?_)
  exact K p e s m args below meth c H locs ls' _ _ hF hW hl' (sg_L_st (v := sg_r z) hL rfl) hb hR hO

theorem sg_astore {j : Nat} {z : Nat} (hd : decode mi.2.1 pc = .ok (.astore j, 2)) (hn : j < mi.2.2.1) (K : sg_R w mi d mc ms Q (pc + 2) (sg_st j (sg_r z) lv) st h k n) : sg_R w mi d mc ms Q pc lv (sg_r z :: st) h k n := by
  intro p e s m args below meth c H locs ls sv l hF hW hlv hL hs hR hO
  obtain ⟨b, rfl, hb⟩ := sg_vs_r hs
  refine lv_astore hF.1 hF.2.1 hd hlv hn rfl (fun ls' hl' => ?_)
  exact K p e s m args below meth c H locs ls' _ _ hF hW hl' (sg_L_st (v := sg_r z) hL rfl) hb hR hO

theorem sg_lstore_n {i : Fin 4} {j : Nat} {z : Int} (hd : decode mi.2.1 pc = .ok (.lstore_n i, 1)) (hj : (i : Nat) = j) (hn : j + 1 < mi.2.2.1) (K : sg_R w mi d mc ms Q (pc + 1) (sg_st2 j (sg_l z) lv) st h k n) : sg_R w mi d mc ms Q pc lv (sg_l z :: st) h k n := by
  intro p e s m args below meth c H locs ls sv l hF hW hlv hL hs hR hO
  obtain ⟨x, b, rfl, hx, hb⟩ := sg_vs_l hs
  refine lv_lstore_n hF.1 hF.2.1 hd hj hlv hn rfl (fun ls' hl' => ?_)
  exact K p e s m args below meth c H locs ls' _ _ hF hW hl' (sg_L_st2 (v := sg_l z) hL ⟨x, rfl, hx⟩) hb hR hO

theorem sg_lstore {j : Nat} {z : Int} (hd : decode mi.2.1 pc = .ok (.lstore j, 2)) (hn : j + 1 < mi.2.2.1) (K : sg_R w mi d mc ms Q (pc + 2) (sg_st2 j (sg_l z) lv) st h k n) : sg_R w mi d mc ms Q pc lv (sg_l z :: st) h k n := by
  intro p e s m args below meth c H locs ls sv l hF hW hlv hL hs hR hO
  obtain ⟨x, b, rfl, hx, hb⟩ := sg_vs_l hs
  refine lv_lstore hF.1 hF.2.1 hd hlv hn rfl (fun ls' hl' => ?_)
  exact K p e s m args below meth c H locs ls' _ _ hF hW hl' (sg_L_st2 (v := sg_l z) hL ⟨x, rfl, hx⟩) hb hR hO

theorem sg_iinc {j : Nat} {z a : Int} (hd : decode mi.2.1 pc = .ok (.iinc j a, 3)) (hl : sg_lk lv j = some (sg_i z)) (ha : (Int32.ofInt a).toInt = a) (hn : j < mi.2.2.1) (K : sg_R w mi d mc ms Q (pc + 3) (sg_st j (sg_i (sg_w (z + a))) lv) st h k n) : sg_R w mi d mc ms Q pc lv st h k n := by
  intro p e s m args below meth c H locs ls sv l hF hW hlv hL hs hR hO
  obtain ⟨cv, hm, x, rfl, hx⟩ := sg_lk_at hl hL
  obtain ⟨q, hq⟩ := List.getElem?_of_mem hm
  refine lv_iinc hF.1 hF.2.1 hd hlv hq rfl hn rfl (fun ls' hl' => ?_)
  exact K p e s m args below meth c H locs ls' _ _ hF hW hl' (sg_L_st (v := sg_i (sg_w (z + a))) hL ⟨_, rfl, by rw [Int32.toInt_add, hx, ha]; rfl⟩) hs hR hO

theorem sg_iconst {a : Int} {z : Int} (hd : decode mi.2.1 pc = .ok (.iconst a, 1)) (hz : (Int32.ofInt a).toInt = z) (K : sg_R w mi d mc ms Q (pc + 1) lv (sg_i z :: st) h k n) : sg_R w mi d mc ms Q pc lv st h k n := by
  intro p e s m args below meth c H locs ls sv l hF hW hlv hL hs hR hO
  refine lv_iconst hF.1 hF.2.1 hd rfl ?_
  exact K p e s m args below meth c H locs ls _ l hF hW hlv hL ⟨⟨_, rfl, hz⟩, hs⟩ hR hO

theorem sg_bipush {a : Int} {z : Int} (hd : decode mi.2.1 pc = .ok (.bipush a, 2)) (hz : ((Int8.ofInt a).toInt32).toInt = z) (K : sg_R w mi d mc ms Q (pc + 2) lv (sg_i z :: st) h k n) : sg_R w mi d mc ms Q pc lv st h k n := by
  intro p e s m args below meth c H locs ls sv l hF hW hlv hL hs hR hO
  refine lv_bipush hF.1 hF.2.1 hd rfl ?_
  exact K p e s m args below meth c H locs ls _ l hF hW hlv hL ⟨⟨_, rfl, hz⟩, hs⟩ hR hO

theorem sg_sipush {a : Int} {z : Int} (hd : decode mi.2.1 pc = .ok (.sipush a, 3)) (hz : ((Int16.ofInt a).toInt32).toInt = z) (K : sg_R w mi d mc ms Q (pc + 3) lv (sg_i z :: st) h k n) : sg_R w mi d mc ms Q pc lv st h k n := by
  intro p e s m args below meth c H locs ls sv l hF hW hlv hL hs hR hO
  refine lv_sipush hF.1 hF.2.1 hd rfl ?_
  exact K p e s m args below meth c H locs ls _ l hF hW hlv hL ⟨⟨_, rfl, hz⟩, hs⟩ hR hO

theorem sg_lconst {a : Fin 2} {z : Int} (hd : decode mi.2.1 pc = .ok (.lconst a, 1)) (hz : (Int64.ofNat (a : Nat)).toInt = z) (K : sg_R w mi d mc ms Q (pc + 1) lv (sg_l z :: st) h k n) : sg_R w mi d mc ms Q pc lv st h k n := by
  intro p e s m args below meth c H locs ls sv l hF hW hlv hL hs hR hO
  refine lv_lconst hF.1 hF.2.1 hd rfl ?_
  exact K p e s m args below meth c H locs ls _ l hF hW hlv hL ⟨⟨_, rfl, hz⟩, hs⟩ hR hO

theorem sg_ldc {idx : Nat} {v : Int32} {z : Int} (g : sg_G w) (hd : decode mi.2.1 pc = .ok (.ldc idx, 2)) (hc : sg_ok (.constant mi.1.cls idx v)) (hz : v.toInt = z) (K : sg_R w mi d mc ms Q (pc + 2) lv (sg_i z :: st) h k n) : sg_R w mi d mc ms Q pc lv st h k n := by
  intro p e s m args below meth c H locs ls sv l hF hW hlv hL hs hR hO
  refine lv_ldc hF.1 hF.2.1 hF.2.2.2.1 (sg_wd g hW hc) hd ?_
  exact K p e s m args below meth c H locs ls _ l hF hW hlv hL ⟨⟨_, rfl, hz⟩, hs⟩ hR hO

theorem sg_ldcw {idx : Nat} {v : Int32} {z : Int} (g : sg_G w) (hd : decode mi.2.1 pc = .ok (.ldc_w idx, 3)) (hc : sg_ok (.constant mi.1.cls idx v)) (hz : v.toInt = z) (K : sg_R w mi d mc ms Q (pc + 3) lv (sg_i z :: st) h k n) : sg_R w mi d mc ms Q pc lv st h k n := by
  intro p e s m args below meth c H locs ls sv l hF hW hlv hL hs hR hO
  refine lv_ldcw hF.1 hF.2.1 hF.2.2.2.1 (sg_wd g hW hc) hd ?_
  exact K p e s m args below meth c H locs ls _ l hF hW hlv hL ⟨⟨_, rfl, hz⟩, hs⟩ hR hO

theorem sg_ldc2 {idx : Nat} {v : Int64} {z : Int} (g : sg_G w) (hd : decode mi.2.1 pc = .ok (.ldc2_w idx, 3)) (hc : sg_ok (.constantLong mi.1.cls idx v)) (hz : v.toInt = z) (K : sg_R w mi d mc ms Q (pc + 3) lv (sg_l z :: st) h k n) : sg_R w mi d mc ms Q pc lv st h k n := by
  intro p e s m args below meth c H locs ls sv l hF hW hlv hL hs hR hO
  refine lv_ldc2 hF.1 hF.2.1 hF.2.2.2.1 (sg_wd g hW hc) hd ?_
  exact K p e s m args below meth c H locs ls _ l hF hW hlv hL ⟨⟨_, rfl, hz⟩, hs⟩ hR hO

theorem sg_iadd {a b : Int} (hd : decode mi.2.1 pc = .ok (.iadd, 1))  (K : sg_R w mi d mc ms Q (pc + 1) lv (sg_i (sg_w (a + b)) :: st) h k n) : sg_R w mi d mc ms Q pc lv (sg_i b :: sg_i a :: st) h k n := by
  intro p e s m args below meth c H locs ls sv l hF hW hlv hL hs hR hO
  obtain ⟨y, t1, rfl, hy, h1⟩ := sg_vs_i hs
  obtain ⟨x, t2, rfl, hx, h2⟩ := sg_vs_i h1
  refine lv_iadd hF.1 hF.2.1 hd  ?_
  exact K p e s m args below meth c H locs ls _ l hF hW hlv hL ⟨⟨_, rfl, by rw [Int32.toInt_add, hx, hy]; rfl⟩, h2⟩ hR hO

theorem sg_isub {a b : Int} (hd : decode mi.2.1 pc = .ok (.isub, 1))  (K : sg_R w mi d mc ms Q (pc + 1) lv (sg_i (sg_w (a - b)) :: st) h k n) : sg_R w mi d mc ms Q pc lv (sg_i b :: sg_i a :: st) h k n := by
  intro p e s m args below meth c H locs ls sv l hF hW hlv hL hs hR hO
  obtain ⟨y, t1, rfl, hy, h1⟩ := sg_vs_i hs
  obtain ⟨x, t2, rfl, hx, h2⟩ := sg_vs_i h1
  refine lv_isub hF.1 hF.2.1 hd  ?_
  exact K p e s m args below meth c H locs ls _ l hF hW hlv hL ⟨⟨_, rfl, by rw [Int32.toInt_sub, hx, hy]; rfl⟩, h2⟩ hR hO

theorem sg_imul {a b : Int} (hd : decode mi.2.1 pc = .ok (.imul, 1))  (K : sg_R w mi d mc ms Q (pc + 1) lv (sg_i (sg_w (a * b)) :: st) h k n) : sg_R w mi d mc ms Q pc lv (sg_i b :: sg_i a :: st) h k n := by
  intro p e s m args below meth c H locs ls sv l hF hW hlv hL hs hR hO
  obtain ⟨y, t1, rfl, hy, h1⟩ := sg_vs_i hs
  obtain ⟨x, t2, rfl, hx, h2⟩ := sg_vs_i h1
  refine lv_imul hF.1 hF.2.1 hd  ?_
  exact K p e s m args below meth c H locs ls _ l hF hW hlv hL ⟨⟨_, rfl, by rw [Int32.toInt_mul, hx, hy]; rfl⟩, h2⟩ hR hO

theorem sg_idiv {a b : Int} (hd : decode mi.2.1 pc = .ok (.idiv, 1)) (hb : b ≠ 0) (K : sg_R w mi d mc ms Q (pc + 1) lv (sg_i (sg_w (a.tdiv b)) :: st) h k n) : sg_R w mi d mc ms Q pc lv (sg_i b :: sg_i a :: st) h k n := by
  intro p e s m args below meth c H locs ls sv l hF hW hlv hL hs hR hO
  obtain ⟨y, t1, rfl, hy, h1⟩ := sg_vs_i hs
  obtain ⟨x, t2, rfl, hx, h2⟩ := sg_vs_i h1
  refine lv_idiv hF.1 hF.2.1 hd (fun z => hb (by rw [← hy, z]; rfl)) ?_
  exact K p e s m args below meth c H locs ls _ l hF hW hlv hL ⟨⟨_, rfl, by rw [Int32.toInt_div, hx, hy]; rfl⟩, h2⟩ hR hO

theorem sg_irem {a b : Int} (hd : decode mi.2.1 pc = .ok (.irem, 1)) (hb : b ≠ 0) (K : sg_R w mi d mc ms Q (pc + 1) lv (sg_i (a.tmod b) :: st) h k n) : sg_R w mi d mc ms Q pc lv (sg_i b :: sg_i a :: st) h k n := by
  intro p e s m args below meth c H locs ls sv l hF hW hlv hL hs hR hO
  obtain ⟨y, t1, rfl, hy, h1⟩ := sg_vs_i hs
  obtain ⟨x, t2, rfl, hx, h2⟩ := sg_vs_i h1
  refine lv_irem hF.1 hF.2.1 hd (fun z => hb (by rw [← hy, z]; rfl)) ?_
  exact K p e s m args below meth c H locs ls _ l hF hW hlv hL ⟨⟨_, rfl, by rw [sg_irem0, hx, hy]⟩, h2⟩ hR hO

theorem sg_iand {a b : Int} (hd : decode mi.2.1 pc = .ok (.iand, 1))  (K : sg_R w mi d mc ms Q (pc + 1) lv (sg_i (sg_and a b) :: st) h k n) : sg_R w mi d mc ms Q pc lv (sg_i b :: sg_i a :: st) h k n := by
  intro p e s m args below meth c H locs ls sv l hF hW hlv hL hs hR hO
  obtain ⟨y, t1, rfl, hy, h1⟩ := sg_vs_i hs
  obtain ⟨x, t2, rfl, hx, h2⟩ := sg_vs_i h1
  refine lv_iand hF.1 hF.2.1 hd  ?_
  exact K p e s m args below meth c H locs ls _ l hF hW hlv hL ⟨⟨_, rfl, by rw [← hx, ← hy]; exact sg_and_of x y⟩, h2⟩ hR hO

theorem sg_ior {a b : Int} (hd : decode mi.2.1 pc = .ok (.ior, 1))  (K : sg_R w mi d mc ms Q (pc + 1) lv (sg_i (sg_or a b) :: st) h k n) : sg_R w mi d mc ms Q pc lv (sg_i b :: sg_i a :: st) h k n := by
  intro p e s m args below meth c H locs ls sv l hF hW hlv hL hs hR hO
  obtain ⟨y, t1, rfl, hy, h1⟩ := sg_vs_i hs
  obtain ⟨x, t2, rfl, hx, h2⟩ := sg_vs_i h1
  refine lv_ior hF.1 hF.2.1 hd  ?_
  exact K p e s m args below meth c H locs ls _ l hF hW hlv hL ⟨⟨_, rfl, by rw [← hx, ← hy]; exact sg_or_of x y⟩, h2⟩ hR hO

theorem sg_ishl {a b : Int} (hd : decode mi.2.1 pc = .ok (.ishl, 1))  (K : sg_R w mi d mc ms Q (pc + 1) lv (sg_i (sg_shl a b) :: st) h k n) : sg_R w mi d mc ms Q pc lv (sg_i b :: sg_i a :: st) h k n := by
  intro p e s m args below meth c H locs ls sv l hF hW hlv hL hs hR hO
  obtain ⟨y, t1, rfl, hy, h1⟩ := sg_vs_i hs
  obtain ⟨x, t2, rfl, hx, h2⟩ := sg_vs_i h1
  refine lv_ishl hF.1 hF.2.1 hd  ?_
  exact K p e s m args below meth c H locs ls _ l hF hW hlv hL ⟨⟨_, rfl, by rw [← hx, ← hy]; exact sg_shl_of x y⟩, h2⟩ hR hO

theorem sg_ishr {a b : Int} (hd : decode mi.2.1 pc = .ok (.ishr, 1))  (K : sg_R w mi d mc ms Q (pc + 1) lv (sg_i (sg_shr a b) :: st) h k n) : sg_R w mi d mc ms Q pc lv (sg_i b :: sg_i a :: st) h k n := by
  intro p e s m args below meth c H locs ls sv l hF hW hlv hL hs hR hO
  obtain ⟨y, t1, rfl, hy, h1⟩ := sg_vs_i hs
  obtain ⟨x, t2, rfl, hx, h2⟩ := sg_vs_i h1
  refine lv_ishr hF.1 hF.2.1 hd  ?_
  exact K p e s m args below meth c H locs ls _ l hF hW hlv hL ⟨⟨_, rfl, by rw [← hx, ← hy]; exact sg_shr_of x y⟩, h2⟩ hR hO

theorem sg_ineg {a : Int} (hd : decode mi.2.1 pc = .ok (.ineg, 1)) (K : sg_R w mi d mc ms Q (pc + 1) lv (sg_i (sg_w (-a)) :: st) h k n) : sg_R w mi d mc ms Q pc lv (sg_i a :: st) h k n := by
  intro p e s m args below meth c H locs ls sv l hF hW hlv hL hs hR hO
  obtain ⟨x, t1, rfl, hx, h1⟩ := sg_vs_i hs
  refine lv_ineg hF.1 hF.2.1 hd ?_
  exact K p e s m args below meth c H locs ls _ l hF hW hlv hL ⟨⟨_, rfl, by rw [Int32.toInt_neg, hx]; rfl⟩, h1⟩ hR hO

theorem sg_ladd {a b : Int} (hd : decode mi.2.1 pc = .ok (.ladd, 1))  (K : sg_R w mi d mc ms Q (pc + 1) lv (sg_l (sg_W64 (a + b)) :: st) h k n) : sg_R w mi d mc ms Q pc lv (sg_l b :: sg_l a :: st) h k n := by
  intro p e s m args below meth c H locs ls sv l hF hW hlv hL hs hR hO
  obtain ⟨y, t1, rfl, hy, h1⟩ := sg_vs_l hs
  obtain ⟨x, t2, rfl, hx, h2⟩ := sg_vs_l h1
  refine lv_ladd hF.1 hF.2.1 hd  ?_
  exact K p e s m args below meth c H locs ls _ l hF hW hlv hL ⟨⟨_, rfl, by rw [Int64.toInt_add, hx, hy]; rfl⟩, h2⟩ hR hO

theorem sg_lmul {a b : Int} (hd : decode mi.2.1 pc = .ok (.lmul, 1))  (K : sg_R w mi d mc ms Q (pc + 1) lv (sg_l (sg_W64 (a * b)) :: st) h k n) : sg_R w mi d mc ms Q pc lv (sg_l b :: sg_l a :: st) h k n := by
  intro p e s m args below meth c H locs ls sv l hF hW hlv hL hs hR hO
  obtain ⟨y, t1, rfl, hy, h1⟩ := sg_vs_l hs
  obtain ⟨x, t2, rfl, hx, h2⟩ := sg_vs_l h1
  refine lv_lmul hF.1 hF.2.1 hd  ?_
  exact K p e s m args below meth c H locs ls _ l hF hW hlv hL ⟨⟨_, rfl, by rw [Int64.toInt_mul, hx, hy]; rfl⟩, h2⟩ hR hO

theorem sg_lrem {a b : Int} (hd : decode mi.2.1 pc = .ok (.lrem, 1)) (hb : b ≠ 0) (K : sg_R w mi d mc ms Q (pc + 1) lv (sg_l (a.tmod b) :: st) h k n) : sg_R w mi d mc ms Q pc lv (sg_l b :: sg_l a :: st) h k n := by
  intro p e s m args below meth c H locs ls sv l hF hW hlv hL hs hR hO
  obtain ⟨y, t1, rfl, hy, h1⟩ := sg_vs_l hs
  obtain ⟨x, t2, rfl, hx, h2⟩ := sg_vs_l h1
  refine lv_lrem hF.1 hF.2.1 hd (fun z => hb (by rw [← hy, z]; rfl)) ?_
  exact K p e s m args below meth c H locs ls _ l hF hW hlv hL ⟨⟨_, rfl, by rw [sg_lrem0, hx, hy]⟩, h2⟩ hR hO

theorem sg_i2l {a : Int} (hd : decode mi.2.1 pc = .ok (.i2l, 1)) (K : sg_R w mi d mc ms Q (pc + 1) lv (sg_l a :: st) h k n) : sg_R w mi d mc ms Q pc lv (sg_i a :: st) h k n := by
  intro p e s m args below meth c H locs ls sv l hF hW hlv hL hs hR hO
  obtain ⟨x, t1, rfl, hx, h1⟩ := sg_vs_i hs
  refine lv_i2l hF.1 hF.2.1 hd rfl ?_
  exact K p e s m args below meth c H locs ls _ l hF hW hlv hL ⟨⟨_, rfl, by rw [Int32.toInt_toInt64, hx]⟩, h1⟩ hR hO

theorem sg_l2i {a : Int} (hd : decode mi.2.1 pc = .ok (.l2i, 1)) (K : sg_R w mi d mc ms Q (pc + 1) lv (sg_i (sg_w a) :: st) h k n) : sg_R w mi d mc ms Q pc lv (sg_l a :: st) h k n := by
  intro p e s m args below meth c H locs ls sv l hF hW hlv hL hs hR hO
  obtain ⟨x, t1, rfl, hx, h1⟩ := sg_vs_l hs
  refine lv_l2i hF.1 hF.2.1 hd rfl ?_
  exact K p e s m args below meth c H locs ls _ l hF hW hlv hL ⟨⟨_, rfl, by rw [Int64.toInt_toInt32, hx]; rfl⟩, h1⟩ hR hO

theorem sg_i2c {a : Int} (hd : decode mi.2.1 pc = .ok (.i2c, 1)) (K : sg_R w mi d mc ms Q (pc + 1) lv (sg_i (sg_chr a) :: st) h k n) : sg_R w mi d mc ms Q pc lv (sg_i a :: st) h k n := by
  intro p e s m args below meth c H locs ls sv l hF hW hlv hL hs hR hO
  obtain ⟨x, t1, rfl, hx, h1⟩ := sg_vs_i hs
  refine lv_i2c hF.1 hF.2.1 hd rfl ?_
  exact K p e s m args below meth c H locs ls _ l hF hW hlv hL ⟨⟨_, rfl, by rw [← hx]; exact sg_chr_of x⟩, h1⟩ hR hO

theorem sg_i2b {a : Int} (hd : decode mi.2.1 pc = .ok (.i2b, 1)) (K : sg_R w mi d mc ms Q (pc + 1) lv (sg_i (sg_byt a) :: st) h k n) : sg_R w mi d mc ms Q pc lv (sg_i a :: st) h k n := by
  intro p e s m args below meth c H locs ls sv l hF hW hlv hL hs hR hO
  obtain ⟨x, t1, rfl, hx, h1⟩ := sg_vs_i hs
  refine lv_i2b hF.1 hF.2.1 hd rfl ?_
  exact K p e s m args below meth c H locs ls _ l hF hW hlv hL ⟨⟨_, rfl, by rw [← hx]; exact sg_byt_of x⟩, h1⟩ hR hO

theorem sg_if_eq {a : Int} {off : Int} {tgt : Nat} (hd : decode mi.2.1 pc = .ok (.ifCond .eq off, 3)) (ht : (pc : Int) + off = (tgt : Int)) (kt : a = 0 → sg_R w mi d mc ms Q tgt lv st h k n) (kf : ¬ a = 0 → sg_R w mi d mc ms Q (pc + 3) lv st h k n) : sg_R w mi d mc ms Q pc lv (sg_i a :: st) h k n := by
  intro p e s m args below meth c H locs ls sv l hF hW hlv hL hs hR hO
  obtain ⟨x, t1, rfl, hx, h1⟩ := sg_vs_i hs
  have e0 := sg_ceq hx (show (0 : Int32).toInt = 0 from rfl)
  exact lv_if_eq hF.1 hF.2.1 hd ht (fun z => kt (e0.mp z) p e s m args below meth c H locs ls _ l hF hW hlv hL h1 hR hO) (fun z => kf (fun y => z (e0.mpr y)) p e s m args below meth c H locs ls _ l hF hW hlv hL h1 hR hO)

theorem sg_icmp_eq {a b : Int} {off : Int} {tgt : Nat} (hd : decode mi.2.1 pc = .ok (.if_icmp .eq off, 3)) (ht : (pc : Int) + off = (tgt : Int)) (kt : a = b → sg_R w mi d mc ms Q tgt lv st h k n) (kf : ¬ a = b → sg_R w mi d mc ms Q (pc + 3) lv st h k n) : sg_R w mi d mc ms Q pc lv (sg_i b :: sg_i a :: st) h k n := by
  intro p e s m args below meth c H locs ls sv l hF hW hlv hL hs hR hO
  obtain ⟨y, t1, rfl, hy, h1⟩ := sg_vs_i hs
  obtain ⟨x, t2, rfl, hx, h2⟩ := sg_vs_i h1
  have e0 := sg_ceq hx hy
  exact lv_icmp_eq hF.1 hF.2.1 hd ht (fun z => kt (e0.mp z) p e s m args below meth c H locs ls _ l hF hW hlv hL h2 hR hO) (fun z => kf (fun y => z (e0.mpr y)) p e s m args below meth c H locs ls _ l hF hW hlv hL h2 hR hO)

theorem sg_if_ne {a : Int} {off : Int} {tgt : Nat} (hd : decode mi.2.1 pc = .ok (.ifCond .ne off, 3)) (ht : (pc : Int) + off = (tgt : Int)) (kt : a ≠ 0 → sg_R w mi d mc ms Q tgt lv st h k n) (kf : a = 0 → sg_R w mi d mc ms Q (pc + 3) lv st h k n) : sg_R w mi d mc ms Q pc lv (sg_i a :: st) h k n := by
  intro p e s m args below meth c H locs ls sv l hF hW hlv hL hs hR hO
  obtain ⟨x, t1, rfl, hx, h1⟩ := sg_vs_i hs
  have e0 := sg_ceq hx (show (0 : Int32).toInt = 0 from rfl)
  exact lv_if_ne hF.1 hF.2.1 hd ht (fun z => kt (fun y => z (e0.mpr y)) p e s m args below meth c H locs ls _ l hF hW hlv hL h1 hR hO) (fun z => kf (e0.mp z) p e s m args below meth c H locs ls _ l hF hW hlv hL h1 hR hO)

theorem sg_icmp_ne {a b : Int} {off : Int} {tgt : Nat} (hd : decode mi.2.1 pc = .ok (.if_icmp .ne off, 3)) (ht : (pc : Int) + off = (tgt : Int)) (kt : a ≠ b → sg_R w mi d mc ms Q tgt lv st h k n) (kf : a = b → sg_R w mi d mc ms Q (pc + 3) lv st h k n) : sg_R w mi d mc ms Q pc lv (sg_i b :: sg_i a :: st) h k n := by
  intro p e s m args below meth c H locs ls sv l hF hW hlv hL hs hR hO
  obtain ⟨y, t1, rfl, hy, h1⟩ := sg_vs_i hs
  obtain ⟨x, t2, rfl, hx, h2⟩ := sg_vs_i h1
  have e0 := sg_ceq hx hy
  exact lv_icmp_ne hF.1 hF.2.1 hd ht (fun z => kt (fun y => z (e0.mpr y)) p e s m args below meth c H locs ls _ l hF hW hlv hL h2 hR hO) (fun z => kf (e0.mp z) p e s m args below meth c H locs ls _ l hF hW hlv hL h2 hR hO)

theorem sg_if_lt {a : Int} {off : Int} {tgt : Nat} (hd : decode mi.2.1 pc = .ok (.ifCond .lt off, 3)) (ht : (pc : Int) + off = (tgt : Int)) (kt : a < 0 → sg_R w mi d mc ms Q tgt lv st h k n) (kf : ¬ a < 0 → sg_R w mi d mc ms Q (pc + 3) lv st h k n) : sg_R w mi d mc ms Q pc lv (sg_i a :: st) h k n := by
  intro p e s m args below meth c H locs ls sv l hF hW hlv hL hs hR hO
  obtain ⟨x, t1, rfl, hx, h1⟩ := sg_vs_i hs
  have e0 := sg_clt hx (show (0 : Int32).toInt = 0 from rfl)
  exact lv_if_lt hF.1 hF.2.1 hd ht (fun z => kt (e0.mp z) p e s m args below meth c H locs ls _ l hF hW hlv hL h1 hR hO) (fun z => kf (fun y => z (e0.mpr y)) p e s m args below meth c H locs ls _ l hF hW hlv hL h1 hR hO)

theorem sg_icmp_lt {a b : Int} {off : Int} {tgt : Nat} (hd : decode mi.2.1 pc = .ok (.if_icmp .lt off, 3)) (ht : (pc : Int) + off = (tgt : Int)) (kt : a < b → sg_R w mi d mc ms Q tgt lv st h k n) (kf : ¬ a < b → sg_R w mi d mc ms Q (pc + 3) lv st h k n) : sg_R w mi d mc ms Q pc lv (sg_i b :: sg_i a :: st) h k n := by
  intro p e s m args below meth c H locs ls sv l hF hW hlv hL hs hR hO
  obtain ⟨y, t1, rfl, hy, h1⟩ := sg_vs_i hs
  obtain ⟨x, t2, rfl, hx, h2⟩ := sg_vs_i h1
  have e0 := sg_clt hx hy
  exact lv_icmp_lt hF.1 hF.2.1 hd ht (fun z => kt (e0.mp z) p e s m args below meth c H locs ls _ l hF hW hlv hL h2 hR hO) (fun z => kf (fun y => z (e0.mpr y)) p e s m args below meth c H locs ls _ l hF hW hlv hL h2 hR hO)

theorem sg_if_ge {a : Int} {off : Int} {tgt : Nat} (hd : decode mi.2.1 pc = .ok (.ifCond .ge off, 3)) (ht : (pc : Int) + off = (tgt : Int)) (kt : 0 ≤ a → sg_R w mi d mc ms Q tgt lv st h k n) (kf : ¬ 0 ≤ a → sg_R w mi d mc ms Q (pc + 3) lv st h k n) : sg_R w mi d mc ms Q pc lv (sg_i a :: st) h k n := by
  intro p e s m args below meth c H locs ls sv l hF hW hlv hL hs hR hO
  obtain ⟨x, t1, rfl, hx, h1⟩ := sg_vs_i hs
  have e0 := sg_cge hx (show (0 : Int32).toInt = 0 from rfl)
  exact lv_if_ge hF.1 hF.2.1 hd ht (fun z => kt (e0.mp z) p e s m args below meth c H locs ls _ l hF hW hlv hL h1 hR hO) (fun z => kf (fun y => z (e0.mpr y)) p e s m args below meth c H locs ls _ l hF hW hlv hL h1 hR hO)

theorem sg_icmp_ge {a b : Int} {off : Int} {tgt : Nat} (hd : decode mi.2.1 pc = .ok (.if_icmp .ge off, 3)) (ht : (pc : Int) + off = (tgt : Int)) (kt : b ≤ a → sg_R w mi d mc ms Q tgt lv st h k n) (kf : ¬ b ≤ a → sg_R w mi d mc ms Q (pc + 3) lv st h k n) : sg_R w mi d mc ms Q pc lv (sg_i b :: sg_i a :: st) h k n := by
  intro p e s m args below meth c H locs ls sv l hF hW hlv hL hs hR hO
  obtain ⟨y, t1, rfl, hy, h1⟩ := sg_vs_i hs
  obtain ⟨x, t2, rfl, hx, h2⟩ := sg_vs_i h1
  have e0 := sg_cge hx hy
  exact lv_icmp_ge hF.1 hF.2.1 hd ht (fun z => kt (e0.mp z) p e s m args below meth c H locs ls _ l hF hW hlv hL h2 hR hO) (fun z => kf (fun y => z (e0.mpr y)) p e s m args below meth c H locs ls _ l hF hW hlv hL h2 hR hO)

theorem sg_if_gt {a : Int} {off : Int} {tgt : Nat} (hd : decode mi.2.1 pc = .ok (.ifCond .gt off, 3)) (ht : (pc : Int) + off = (tgt : Int)) (kt : 0 < a → sg_R w mi d mc ms Q tgt lv st h k n) (kf : ¬ 0 < a → sg_R w mi d mc ms Q (pc + 3) lv st h k n) : sg_R w mi d mc ms Q pc lv (sg_i a :: st) h k n := by
  intro p e s m args below meth c H locs ls sv l hF hW hlv hL hs hR hO
  obtain ⟨x, t1, rfl, hx, h1⟩ := sg_vs_i hs
  have e0 := sg_cgt hx (show (0 : Int32).toInt = 0 from rfl)
  exact lv_if_gt hF.1 hF.2.1 hd ht (fun z => kt (e0.mp z) p e s m args below meth c H locs ls _ l hF hW hlv hL h1 hR hO) (fun z => kf (fun y => z (e0.mpr y)) p e s m args below meth c H locs ls _ l hF hW hlv hL h1 hR hO)

theorem sg_icmp_gt {a b : Int} {off : Int} {tgt : Nat} (hd : decode mi.2.1 pc = .ok (.if_icmp .gt off, 3)) (ht : (pc : Int) + off = (tgt : Int)) (kt : b < a → sg_R w mi d mc ms Q tgt lv st h k n) (kf : ¬ b < a → sg_R w mi d mc ms Q (pc + 3) lv st h k n) : sg_R w mi d mc ms Q pc lv (sg_i b :: sg_i a :: st) h k n := by
  intro p e s m args below meth c H locs ls sv l hF hW hlv hL hs hR hO
  obtain ⟨y, t1, rfl, hy, h1⟩ := sg_vs_i hs
  obtain ⟨x, t2, rfl, hx, h2⟩ := sg_vs_i h1
  have e0 := sg_cgt hx hy
  exact lv_icmp_gt hF.1 hF.2.1 hd ht (fun z => kt (e0.mp z) p e s m args below meth c H locs ls _ l hF hW hlv hL h2 hR hO) (fun z => kf (fun y => z (e0.mpr y)) p e s m args below meth c H locs ls _ l hF hW hlv hL h2 hR hO)

theorem sg_if_le {a : Int} {off : Int} {tgt : Nat} (hd : decode mi.2.1 pc = .ok (.ifCond .le off, 3)) (ht : (pc : Int) + off = (tgt : Int)) (kt : a ≤ 0 → sg_R w mi d mc ms Q tgt lv st h k n) (kf : ¬ a ≤ 0 → sg_R w mi d mc ms Q (pc + 3) lv st h k n) : sg_R w mi d mc ms Q pc lv (sg_i a :: st) h k n := by
  intro p e s m args below meth c H locs ls sv l hF hW hlv hL hs hR hO
  obtain ⟨x, t1, rfl, hx, h1⟩ := sg_vs_i hs
  have e0 := sg_cle hx (show (0 : Int32).toInt = 0 from rfl)
  exact lv_if_le hF.1 hF.2.1 hd ht (fun z => kt (e0.mp z) p e s m args below meth c H locs ls _ l hF hW hlv hL h1 hR hO) (fun z => kf (fun y => z (e0.mpr y)) p e s m args below meth c H locs ls _ l hF hW hlv hL h1 hR hO)

theorem sg_icmp_le {a b : Int} {off : Int} {tgt : Nat} (hd : decode mi.2.1 pc = .ok (.if_icmp .le off, 3)) (ht : (pc : Int) + off = (tgt : Int)) (kt : a ≤ b → sg_R w mi d mc ms Q tgt lv st h k n) (kf : ¬ a ≤ b → sg_R w mi d mc ms Q (pc + 3) lv st h k n) : sg_R w mi d mc ms Q pc lv (sg_i b :: sg_i a :: st) h k n := by
  intro p e s m args below meth c H locs ls sv l hF hW hlv hL hs hR hO
  obtain ⟨y, t1, rfl, hy, h1⟩ := sg_vs_i hs
  obtain ⟨x, t2, rfl, hx, h2⟩ := sg_vs_i h1
  have e0 := sg_cle hx hy
  exact lv_icmp_le hF.1 hF.2.1 hd ht (fun z => kt (e0.mp z) p e s m args below meth c H locs ls _ l hF hW hlv hL h2 hR hO) (fun z => kf (fun y => z (e0.mpr y)) p e s m args below meth c H locs ls _ l hF hW hlv hL h2 hR hO)

theorem sg_goto {off : Int} {tgt : Nat} (hd : decode mi.2.1 pc = .ok (.goto off, 3)) (ht : (pc : Int) + off = (tgt : Int)) (K : sg_R w mi d mc ms Q tgt lv st h k n) : sg_R w mi d mc ms Q pc lv st h k n := by
  intro p e s m args below meth c H locs ls sv l hF hW hlv hL hs hR hO
  refine lv_goto hF.1 hF.2.1 hd ht ?_
  exact K p e s m args below meth c H locs ls _ l hF hW hlv hL hs hR hO

theorem sg_dup {v : sg_V} (hd : decode mi.2.1 pc = .ok (.dup, 1)) (hv : sg_c2 v = false) (K : sg_R w mi d mc ms Q (pc + 1) lv (v :: v :: st) h k n) : sg_R w mi d mc ms Q pc lv (v :: st) h k n := by
  intro p e s m args below meth c H locs ls sv l hF hW hlv hL hs hR hO
  obtain ⟨x, t1, rfl, hx, h1⟩ := sg_vs_c hs
  refine lv_dup hF.1 hF.2.1 hd (sg_cat1 hx hv) ?_
  exact K p e s m args below meth c H locs ls _ l hF hW hlv hL ⟨hx, hx, h1⟩ hR hO

theorem sg_pop {v : sg_V} (hd : decode mi.2.1 pc = .ok (.pop, 1)) (hv : sg_c2 v = false) (K : sg_R w mi d mc ms Q (pc + 1) lv st h k n) : sg_R w mi d mc ms Q pc lv (v :: st) h k n := by
  intro p e s m args below meth c H locs ls sv l hF hW hlv hL hs hR hO
  obtain ⟨x, t1, rfl, hx, h1⟩ := sg_vs_c hs
  refine lv_pop hF.1 hF.2.1 hd (sg_cat1 hx hv) ?_
  exact K p e s m args below meth c H locs ls _ l hF hW hlv hL h1 hR hO

theorem sg_pop2 {z : Int} (hd : decode mi.2.1 pc = .ok (.pop2, 1)) (K : sg_R w mi d mc ms Q (pc + 1) lv st h k n) : sg_R w mi d mc ms Q pc lv (sg_l z :: st) h k n := by
  intro p e s m args below meth c H locs ls sv l hF hW hlv hL hs hR hO
  obtain ⟨x, t1, rfl, hx, h1⟩ := sg_vs_l hs
  refine lv_pop2_2 hF.1 hF.2.1 hd rfl ?_
  exact K p e s m args below meth c H locs ls _ l hF hW hlv hL h1 hR hO

theorem sg_dup_x1 {v u : sg_V} (hd : decode mi.2.1 pc = .ok (.dup_x1, 1)) (hv : sg_c2 v = false) (hu : sg_c2 u = false) (K : sg_R w mi d mc ms Q (pc + 1) lv (v :: u :: v :: st) h k n) : sg_R w mi d mc ms Q pc lv (v :: u :: st) h k n := by
  intro p e s m args below meth c H locs ls sv l hF hW hlv hL hs hR hO
  obtain ⟨x, t1, rfl, hx, h1⟩ := sg_vs_c hs
  obtain ⟨y, t2, rfl, hy, h2⟩ := sg_vs_c h1
  refine lv_dup_x1 hF.1 hF.2.1 hd (sg_cat1 hx hv) (sg_cat1 hy hu) ?_
  exact K p e s m args below meth c H locs ls _ l hF hW hlv hL ⟨hx, hy, hx, h2⟩ hR hO

theorem sg_dup2 {v u : sg_V} (hd : decode mi.2.1 pc = .ok (.dup2, 1)) (hv : sg_c2 v = false) (hu : sg_c2 u = false) (K : sg_R w mi d mc ms Q (pc + 1) lv (v :: u :: v :: u :: st) h k n) : sg_R w mi d mc ms Q pc lv (v :: u :: st) h k n := by
  intro p e s m args below meth c H locs ls sv l hF hW hlv hL hs hR hO
  obtain ⟨x, t1, rfl, hx, h1⟩ := sg_vs_c hs
  obtain ⟨y, t2, rfl, hy, h2⟩ := sg_vs_c h1
  refine lv_dup2_11 hF.1 hF.2.1 hd (sg_cat1 hx hv) (sg_cat1 hy hu) ?_
  exact K p e s m args below meth c H locs ls _ l hF hW hlv hL ⟨hx, hy, hx, hy, h2⟩ hR hO

theorem sg_tsIn {a dflt lo hi off : Int} {offs : Array Int} {len tgt : Nat} (hd : decode mi.2.1 pc = .ok (.tableswitch dflt lo hi offs, len)) (h1 : lo ≤ a) (h2 : a ≤ hi) (ho : offs[(a - lo).toNat]? = some off) (ht : (pc : Int) + off = (tgt : Int)) (K : sg_R w mi d mc ms Q tgt lv st h k n) : sg_R w mi d mc ms Q pc lv (sg_i a :: st) h k n := by
  intro p e s m args below meth c H locs ls sv l hF hW hlv hL hs hR hO
  obtain ⟨x, t1, rfl, hx, h3⟩ := sg_vs_i hs
  subst hx
  refine lv_tableIn hF.1 hF.2.1 hd (by omega) (by omega) ho ht ?_
  exact K p e s m args below meth c H locs ls _ l hF hW hlv hL h3 hR hO

theorem sg_tsOut {a dflt lo hi : Int} {offs : Array Int} {len tgt : Nat} (hd : decode mi.2.1 pc = .ok (.tableswitch dflt lo hi offs, len)) (h1 : a < lo ∨ hi < a) (ht : (pc : Int) + dflt = (tgt : Int)) (K : sg_R w mi d mc ms Q tgt lv st h k n) : sg_R w mi d mc ms Q pc lv (sg_i a :: st) h k n := by
  intro p e s m args below meth c H locs ls sv l hF hW hlv hL hs hR hO
  obtain ⟨x, t1, rfl, hx, h3⟩ := sg_vs_i hs
  subst hx
  refine lv_tableOut hF.1 hF.2.1 hd h1 ht ?_
  exact K p e s m args below meth c H locs ls _ l hF hW hlv hL h3 hR hO

theorem sg_ls {a dflt off : Int} {ps : Array (Int × Int)} {len tgt : Nat} (hd : decode mi.2.1 pc = .ok (.lookupswitch dflt ps, len)) (hp : (ps.toList.zip (ps.toList.drop 1)).all (fun (a, next) => a.1 < next.1) = true) (ho : Op.lookupswitch.offset ps.toList dflt a = off) (ht : (pc : Int) + off = (tgt : Int)) (K : sg_R w mi d mc ms Q tgt lv st h k n) : sg_R w mi d mc ms Q pc lv (sg_i a :: st) h k n := by
  intro p e s m args below meth c H locs ls sv l hF hW hlv hL hs hR hO
  obtain ⟨x, t1, rfl, hx, h3⟩ := sg_vs_i hs
  subst hx
  refine lv_lookup hF.1 hF.2.1 hd hp ho ht ?_
  exact K p e s m args below meth c H locs ls _ l hF hW hlv hL h3 hR hO

theorem sg_null (hd : decode mi.2.1 pc = .ok (.aconst_null, 1)) (K : sg_R w mi d mc ms Q (pc + 1) lv (sg_n :: st) h k n) : sg_R w mi d mc ms Q pc lv st h k n := by
  intro p e s m args below meth c H locs ls sv l hF hW hlv hL hs hR hO
  refine lv_null hF.1 hF.2.1 hd ?_
  exact K p e s m args below meth c H locs ls _ l hF hW hlv hL ⟨rfl, hs⟩ hR hO

end
end
section
/-! fields, arrays, making -/
theorem sg_asg (vm : Vm) (c : ClassId) : vm.assignable c c = true := by
  show vm.assignableAux (255 + 1) c c = true
  rw [Vm.assignableAux]
  simp only [beq_self_eq_true, Bool.true_or]
def sg_co (q : vw_C) (ty : Nat → FieldType) : Prop := (∀ x ∈ u_ws q.1 q.2.1 q.2.2, sg_ok x) ∧ (∀ a, a < q.2.2 → ∀ b, b < q.2.2 → a ≠ b → (q.2.1 a).2.1 ≠ (q.2.1 b).2.1) ∧ ∀ k, k < q.2.2 → parseFieldDescriptor (q.2.1 k).2.2.1 = some (ty k)
/-- the pool's entry idx of the class own is the field j of the objects of kind t; it is final or not -/
def sg_fk (own : String) (idx t j : Nat) (fin : Bool) (ft : FieldType) : Prop := t < 100 ∧ ∃ (q : vw_C) (ty : Nat → FieldType) (ref : String), vwCl[t]? = some q ∧ j < q.2.2 ∧ sg_co q ty ∧ (q.2.1 j).2.2.2 = fin ∧ ty j = ft ∧ (fin = true → (q.2.1 j).1 = own) ∧
  sg_ok (.fieldLink own idx ref (q.2.1 j).2.1 (q.2.1 j).2.2.1) ∧ (ref = (q.2.1 j).1 ∨ sg_ok (.sameField ref (q.2.1 j).1 (q.2.1 j).2.1 (q.2.1 j).2.2.1))
/-- likewise, a nest mate's -/
def sg_fkN (own : String) (idx t j : Nat) (fin : Bool) (ft : FieldType) : Prop := t < 100 ∧ ∃ (q : vw_C) (ty : Nat → FieldType) (host : String), vwCl[t]? = some q ∧ j < q.2.2 ∧ sg_co q ty ∧ (q.2.1 j).2.2.2 = fin ∧ ty j = ft ∧
  Cond.fieldLinkNest own idx (q.2.1 j).1 (q.2.1 j).2.1 (q.2.1 j).2.2.1 host ∈ lw_tbl
def sg_ft (ty : FieldType) (v : sg_V) : Prop := ∀ c, sg_v v c → narrow ty c = c ∧ fits ty c = true
theorem sg_ft_i {z : Int} : sg_ft .int (sg_i z) := fun c h => by obtain ⟨x, rfl, -⟩ := h; exact ⟨rfl, rfl⟩
theorem sg_ft_l {z : Int} : sg_ft .long (sg_l z) := fun c h => by obtain ⟨x, rfl, -⟩ := h; exact ⟨rfl, rfl⟩
theorem sg_ft_o {C : String} {a : Nat} : sg_ft (.object C) (sg_r a) := fun c h => by cases (show c = .ref a from h); exact ⟨rfl, rfl⟩
theorem sg_ft_a {t : FieldType} {a : Nat} : sg_ft (.array t) (sg_r a) := fun c h => by cases (show c = .ref a from h); exact ⟨rfl, rfl⟩
theorem sg_ft_z {z : Int} (hz : z = 0 ∨ z = 1) : sg_ft .boolean (sg_i z) := fun c h => by
  obtain ⟨x, rfl, hx⟩ := h
  rcases hz with rfl | rfl
  · rw [show x = 0 from Int32.toInt_inj.mp hx]; exact ⟨rfl, rfl⟩
  · rw [show x = 1 from Int32.toInt_inj.mp hx]; exact ⟨rfl, rfl⟩
theorem sg_ft_b0 : sg_ft .byte (sg_i 0) := fun c h => by
  obtain ⟨x, rfl, hx⟩ := h
  rw [show x = 0 from Int32.toInt_inj.mp hx]; exact ⟨rfl, rfl⟩
/-- what a new object of kind t holds, and its class -/
def sg_nk (own : String) (idx t : Nat) (vs : List sg_V) (N : Nat) : Prop := t < 100 ∧ ∃ (q : vw_C) (ty : Nat → FieldType), vwCl[t]? = some q ∧ sg_co q ty ∧ vs.length = q.2.2 ∧ N = q.2.2 ∧ (∀ k v, vs[k]? = some v → sg_v v (defaultValue (ty k))) ∧
  sg_ok (.classLink own idx q.1) ∧ sg_ok (.instantiable q.1 q.2.2) ∧ sg_ok (.initialized q.1)
/-- a stored field: the thing's new picture -/
theorem sg_at_put {w : sg_W} {e : sg_E} {cell : Cell} {q : vw_C} {j : Nat} {v : sg_V} {cv : Value} (hat : sg_at w e cell) (ht : e.1 % 200 < 100) (hq : vwCl[e.1 % 200]? = some q) (hj : j < q.2.2)
    (hap : ∀ x y, x < q.2.2 → y < q.2.2 → x ≠ y → w.2.2.2 (e.1 % 200) x ≠ w.2.2.2 (e.1 % 200) y) (hv : sg_v v cv) (hlt : w.2.2.2 (e.1 % 200) j < cell.slots.size) : sg_at w (e.1, e.2.set j v) (cell.setSlot (w.2.2.2 (e.1 % 200) j) cv) := by
  obtain ⟨h1, h2, h3⟩ := hat
  rw [if_pos ht] at h3
  obtain ⟨h4, q', hq', hl⟩ := h3
  cases Option.some.inj (hq.symm.trans hq')
  refine ⟨h1, fun x v' hx => ?_, ?_⟩
  · by_cases c : x = j
    · subst c
      rw [List.getElem?_set_self (by omega)] at hx
      cases hx
      refine ⟨cv, ?_, hv⟩
      unfold sg_ix
      rw [if_pos ht]
      exact Cell.slots_setSlot_self _ hlt
    · rw [List.getElem?_set_ne (Ne.symm c)] at hx
      have hxl : x < q.2.2 := by rw [← hl]; exact (List.getElem?_eq_some_iff.mp hx).1
      obtain ⟨c9, e1, e2⟩ := h2 x v' hx
      refine ⟨c9, ?_, e2⟩
      unfold sg_ix at e1 ⊢
      rw [if_pos ht] at e1 ⊢
      rw [slot_ne _ _ (hap j x hj hxl (Ne.symm c))]
      exact e1
  · show if e.1 % 200 < 100 then _ else _
    rw [if_pos ht]
    exact ⟨h4, q, hq, by rw [List.length_set]; exact hl⟩
/-- a stored element -/
theorem sg_at_ast {w : sg_W} {e : sg_E} {cell : Cell} {j : Nat} {v : sg_V} {cv : Value} (hat : sg_at w e cell) (ht : ¬ e.1 % 200 < 100) (hv : sg_v v cv) (hlt : j < cell.slots.size) : sg_at w (e.1, e.2.set j v) (cell.setSlot j cv) := by
  obtain ⟨h1, h2, h3⟩ := hat
  rw [if_neg ht] at h3
  obtain ⟨h4, h5⟩ := h3
  refine ⟨h1, fun x v' hx => ?_, ?_⟩
  · by_cases c : x = j
    · subst c
      rw [List.getElem?_set_self (by omega)] at hx
      cases hx
      refine ⟨cv, ?_, hv⟩
      unfold sg_ix
      rw [if_neg ht]
      exact Cell.slots_setSlot_self _ hlt
    · rw [List.getElem?_set_ne (Ne.symm c)] at hx
      obtain ⟨c9, e1, e2⟩ := h2 x v' hx
      refine ⟨c9, ?_, e2⟩
      unfold sg_ix at e1 ⊢
      rw [if_neg ht] at e1 ⊢
      rw [slot_ne _ _ (Ne.symm c)]
      exact e1
  · show if e.1 % 200 < 100 then _ else _
    rw [if_neg ht]
    exact ⟨by simp [Cell.setSlot, h4], h5⟩
theorem sg_apart {w : sg_W} {s : State} {args : Array Value} {q : vw_C} {ty : Nat → FieldType} {t : Nat} (g : sg_G w) (hW : w.2.1.WarmedH s.vm) (hco : sg_co q ty) (hq : vwCl[t]? = some q) : ∀ x y, x < q.2.2 → y < q.2.2 → x ≠ y → w.2.2.2 t x ≠ w.2.2.2 t y := by
  have hts : ∀ x ∈ u_ws q.1 q.2.1 q.2.2, x.before args s = true := fun x hx => sg_wd g hW (hco.1 x hx)
  intro x y hx hy hne
  obtain ⟨hS, -⟩ := (va_K.moved hW.alike g.2.1).1 t q hq
  obtain ⟨_, _, _, fa, hia, ea⟩ := hS x hx
  obtain ⟨_, _, _, fb, hib, eb⟩ := hS y hy
  rw [← ea, ← eb]
  refine u_apart (u_lays (N := q.2.2) hts (fun _ h => h) hx) (u_lays (N := q.2.2) hts (fun _ h => h) hy) hia hib ?_
  rw [(State.fieldFound?_type hia (hco.2.2 x hx)).1, (State.fieldFound?_type hib (hco.2.2 y hy)).1]
  exact hco.2.1 x hx y hy hne
theorem sg_wdF {w : sg_W} {s : State} {args : Array Value} {a : String} {i : Nat} {b n d h : String} (g : sg_G w) (hW : w.2.1.WarmedH s.vm) (hx : Cond.fieldLinkNest a i b n d h ∈ lw_tbl) : (Cond.fieldLinkNest a i b n d h).before args s = true := va_Nw.use rfl (va_Nw.warmF hW (g.1.1 _ hx))
theorem sg_wdM {w : sg_W} {s : State} {args : Array Value} {a : String} {i : Nat} {x : MethodName} {h : String} (g : sg_G w) (hW : w.2.1.WarmedH s.vm) (hx : Cond.methodLinkNest a i x h ∈ lw_tbl) : (Cond.methodLinkNest a i x h).before args s = true := va_Nw.use rfl (va_Nw.warmM hW (g.1.1 _ hx))
section
variable {w : sg_W} {mi : sg_M} {d mc ms : Nat} {Q : sg_O → sg_H → Prop} {pc : Nat} {lv : List (Nat × sg_V)} {st : List sg_V} {h : sg_H} {k n : Nat}
theorem sg_getf {a t' t j idx : Nat} {fin : Bool} {ft : FieldType} {vs : List sg_V} {v : sg_V} (g : sg_G w) (hd : decode mi.2.1 pc = .ok (.getfield idx, 3)) (hf : sg_fk mi.1.cls idx t j fin ft) (ha : h.2 a = some (t', vs)) (ht : t' % 200 = t) (hv : vs[j]? = some v) (K : sg_R w mi d mc ms Q (pc + 3) lv (v :: st) h k n) : sg_R w mi d mc ms Q pc lv (sg_r a :: st) h k n := by
  intro p e s m args below meth c H locs ls sv l hF hW hlv hL hs hR hO
  obtain ⟨b, rfl, h1⟩ := sg_vs_r hs
  subst ht
  obtain ⟨htl, q, ty, ref, hq, hj, hco, -, -, -, hlk, hsm⟩ := hf
  obtain ⟨-, cell, hcell, hvm, hsl, -⟩ := hR.2.2.2 a _ ha
  obtain ⟨hS, hfc, kC, hkC, -⟩ := (va_K.moved hW.alike g.2.1).1 _ q hq
  obtain ⟨cf, kf, fi, f, hi, hsl2⟩ := hS j hj
  have hts : ∀ x ∈ u_ws q.1 q.2.1 q.2.2, x.before args s = true := fun x hx => sg_wd g hW (hco.1 x hx)
  obtain ⟨cv, hc1, hc2⟩ := hsl j v hv
  have hi' : s.fieldFound? ref (q.2.1 j).2.1 (q.2.1 j).2.2.1 = some (cf, kf, fi, f) := by
    rcases hsm with e1 | e1
    · rw [e1]; exact hi
    · exact u_same (sg_wd (args := args) g hW e1) _ hi
  refine W.getf hF.1 hF.2.1 hF.2.2.2.1 (sg_wd g hW hlk) hi' (u_facts hfc hkC (u_lays (N := q.2.2) hts (fun _ h => h) hj) hi).1 hcell (by rw [hvm]; exact fun h => by cases h) (v := cv) ?_ rfl rfl hd (K p e s m args below meth c H locs ls _ l hF hW hlv hL ⟨hc2, h1⟩ hR hO)
  rw [hsl2]
  unfold sg_ix at hc1
  rw [if_pos htl] at hc1
  exact hc1
theorem sg_getN {a t' t j idx : Nat} {fin : Bool} {ft : FieldType} {vs : List sg_V} {v : sg_V} (g : sg_G w) (hd : decode mi.2.1 pc = .ok (.getfield idx, 3)) (hf : sg_fkN mi.1.cls idx t j fin ft) (ha : h.2 a = some (t', vs)) (ht : t' % 200 = t) (hv : vs[j]? = some v) (K : sg_R w mi d mc ms Q (pc + 3) lv (v :: st) h k n) : sg_R w mi d mc ms Q pc lv (sg_r a :: st) h k n := by
  intro p e s m args below meth c H locs ls sv l hF hW hlv hL hs hR hO
  obtain ⟨b, rfl, h1⟩ := sg_vs_r hs
  subst ht
  obtain ⟨htl, q, ty, host, hq, hj, hco, -, -, hlk⟩ := hf
  obtain ⟨-, cell, hcell, hvm, hsl, -⟩ := hR.2.2.2 a _ ha
  obtain ⟨hS, hfc, kC, hkC, -⟩ := (va_K.moved hW.alike g.2.1).1 _ q hq
  obtain ⟨cf, kf, fi, f, hi, hsl2⟩ := hS j hj
  have hts : ∀ x ∈ u_ws q.1 q.2.1 q.2.2, x.before args s = true := fun x hx => sg_wd g hW (hco.1 x hx)
  obtain ⟨cv, hc1, hc2⟩ := hsl j v hv
  refine va_Wgetf hF.1 hF.2.1 hF.2.2.2.1 (sg_wdF g hW hlk) hi (u_facts hfc hkC (u_lays (N := q.2.2) hts (fun _ h => h) hj) hi).1 hcell (by rw [hvm]; exact fun h => by cases h) (v := cv) ?_ rfl rfl hd (K p e s m args below meth c H locs ls _ l hF hW hlv hL ⟨hc2, h1⟩ hR hO)
  rw [hsl2]
  unfold sg_ix at hc1
  rw [if_pos htl] at hc1
  exact hc1
theorem sg_loc {w : sg_W} {locs : List Loc} {a i : Nat} (hO : ∀ q ∈ locs, sg_b w ≤ q.base) (ha : sg_b w ≤ a) : ∀ q ∈ locs ++ [⟨a, i⟩], sg_b w ≤ q.base := by
  intro q hq
  rcases List.mem_append.mp hq with h1 | h1
  · exact hO q h1
  · rw [List.mem_singleton] at h1; subst h1; exact ha
theorem sg_putf {a t j idx : Nat} {ft : FieldType} {vs : List sg_V} {v : sg_V} (g : sg_G w) (hd : decode mi.2.1 pc = .ok (.putfield idx, 3)) (hf : sg_fk mi.1.cls idx t j false ft) (ha : h.2 a = some (t, vs)) (hft : sg_ft ft v) (K : sg_R w mi d mc ms Q (pc + 3) lv st (h.1, sg_up h.2 a (t, vs.set j v)) k n) : sg_R w mi d mc ms Q pc lv (v :: sg_r a :: st) h k n := by
  intro p e s m args below meth c H locs ls sv l hF hW hlv hL hs hR hO
  obtain ⟨cv, b1, rfl, hv, h1⟩ := sg_vs_c hs
  obtain ⟨b, rfl, h2⟩ := sg_vs_r h1
  obtain ⟨htl, q, ty, ref, hq, hj, hco, hfin, hty, -, hlk, hsm⟩ := hf
  have htm : t % 200 = t := Nat.mod_eq_of_lt (by omega)
  obtain ⟨hab, cell, hcell, hat⟩ := hR.2.2.2 a _ ha
  obtain ⟨hS, hfc, kC, hkC, hkind⟩ := (va_K.moved hW.alike g.2.1).1 _ q hq
  obtain ⟨cf, kf, fi, f, hi, hsl2⟩ := hS j hj
  have hts : ∀ x ∈ u_ws q.1 q.2.1 q.2.2, x.before args s = true := fun x hx => sg_wd g hW (hco.1 x hx)
  have hi' : s.fieldFound? ref (q.2.1 j).2.1 (q.2.1 j).2.2.1 = some (cf, kf, fi, f) := by
    rcases hsm with e1 | e1
    · rw [e1]; exact hi
    · exact u_same (sg_wd (args := args) g hW e1) _ hi
  have hlay := hts _ (u_in_lay hj)
  unfold u_lay at hlay
  rw [if_neg (by rw [hfin]; decide)] at hlay
  have hst := (u_facts hfc hkC (u_lays (N := q.2.2) hts (fun _ h => h) hj) hi).1
  obtain ⟨hn1, hn2⟩ := hft cv hv
  have h6 := u_store hfc hkC hkind hlay hi ((hco.2.2 j hj).trans (by rw [hty])) hn1 hn2
  have hcls : cell.cls = w.2.2.1 t := by
    have h9 := hat.2.2
    rw [show (t, vs).1 % 200 = t from htm, if_pos htl] at h9
    exact h9.1
  have hlen : vs.length = q.2.2 := by
    have h9 := hat.2.2
    rw [show (t, vs).1 % 200 = t from htm, if_pos htl] at h9
    obtain ⟨-, q', hq', hl⟩ := h9
    cases Option.some.inj (hq.symm.trans hq')
    exact hl
  obtain ⟨v0, hv0⟩ : ∃ v0, vs[j]? = some v0 := ⟨_, List.getElem?_eq_getElem (by omega)⟩
  obtain ⟨c0, hc0, -⟩ := hat.2.1 j v0 hv0
  rw [show sg_ix w.2.2 ((t, vs).1 % 200) j = w.2.2.2 t j by rw [show (t, vs).1 % 200 = t from htm]; exact if_pos htl] at hc0
  refine W.putK hF.1 hF.2.1 (f := f) ⟨hF.2.2.2.1, sg_wd g hW hlk, ⟨_, _, _, hi'⟩, hst⟩ (by rw [hcls]; exact h6) hcell hat.1 (by rw [hsl2]; exact k2_hasslot hc0) rfl rfl hd fun H' e1 e2 e3 => ?_
  have hput := sg_at_put (j := j) (v := v) (cv := cv) hat (by rw [show (t, vs).1 % 200 = t from htm]; exact htl) (by rw [show (t, vs).1 % 200 = t from htm]; exact hq) hj (by rw [show (t, vs).1 % 200 = t from htm]; exact sg_apart (args := args) g hW hco hq) hv (by rw [show (t, vs).1 % 200 = t from htm]; exact k2_hasslot hc0)
  rw [show (t, vs).1 % 200 = t from htm, ← hsl2] at hput
  exact K p e s m args below meth c H' _ ls _ l hF hW hlv hL h2 (sg_rel_put hR (hab (by show t < 200; omega)) e1 e2 e3 hput) ⟨sg_loc hO.1 (hab (by show t < 200; omega)), by rw [e2]; exact hO.2⟩
theorem sg_putN {a t j idx : Nat} {ft : FieldType} {vs : List sg_V} {v : sg_V} (g : sg_G w) (hd : decode mi.2.1 pc = .ok (.putfield idx, 3)) (hf : sg_fkN mi.1.cls idx t j false ft) (ha : h.2 a = some (t, vs)) (hft : sg_ft ft v) (K : sg_R w mi d mc ms Q (pc + 3) lv st (h.1, sg_up h.2 a (t, vs.set j v)) k n) : sg_R w mi d mc ms Q pc lv (v :: sg_r a :: st) h k n := by
  intro p e s m args below meth c H locs ls sv l hF hW hlv hL hs hR hO
  obtain ⟨cv, b1, rfl, hv, h1⟩ := sg_vs_c hs
  obtain ⟨b, rfl, h2⟩ := sg_vs_r h1
  obtain ⟨htl, q, ty, host, hq, hj, hco, hfin, hty, hlk⟩ := hf
  have htm : t % 200 = t := Nat.mod_eq_of_lt (by omega)
  obtain ⟨hab, cell, hcell, hat⟩ := hR.2.2.2 a _ ha
  obtain ⟨hS, hfc, kC, hkC, hkind⟩ := (va_K.moved hW.alike g.2.1).1 _ q hq
  obtain ⟨cf, kf, fi, f, hi, hsl2⟩ := hS j hj
  have hts : ∀ x ∈ u_ws q.1 q.2.1 q.2.2, x.before args s = true := fun x hx => sg_wd g hW (hco.1 x hx)
  have hlay := hts _ (u_in_lay hj)
  unfold u_lay at hlay
  rw [if_neg (by rw [hfin]; decide)] at hlay
  have hst := (u_facts hfc hkC (u_lays (N := q.2.2) hts (fun _ h => h) hj) hi).1
  obtain ⟨hn1, hn2⟩ := hft cv hv
  have h6 := u_store hfc hkC hkind hlay hi ((hco.2.2 j hj).trans (by rw [hty])) hn1 hn2
  have hcls : cell.cls = w.2.2.1 t := by
    have h9 := hat.2.2
    rw [show (t, vs).1 % 200 = t from htm, if_pos htl] at h9
    exact h9.1
  have hlen : vs.length = q.2.2 := by
    have h9 := hat.2.2
    rw [show (t, vs).1 % 200 = t from htm, if_pos htl] at h9
    obtain ⟨-, q', hq', hl⟩ := h9
    cases Option.some.inj (hq.symm.trans hq')
    exact hl
  obtain ⟨v0, hv0⟩ : ∃ v0, vs[j]? = some v0 := ⟨_, List.getElem?_eq_getElem (by omega)⟩
  obtain ⟨c0, hc0, -⟩ := hat.2.1 j v0 hv0
  rw [show sg_ix w.2.2 ((t, vs).1 % 200) j = w.2.2.2 t j by rw [show (t, vs).1 % 200 = t from htm]; exact if_pos htl] at hc0
  refine va_WputK hF.1 hF.2.1 (f := f) hF.2.2.2.1 (sg_wdF g hW hlk) hi hst (by rw [hcls]; exact h6) hcell hat.1 (by rw [hsl2]; exact k2_hasslot hc0) rfl rfl hd fun H' e1 e2 e3 => ?_
  have hput := sg_at_put (j := j) (v := v) (cv := cv) hat (by rw [show (t, vs).1 % 200 = t from htm]; exact htl) (by rw [show (t, vs).1 % 200 = t from htm]; exact hq) hj (by rw [show (t, vs).1 % 200 = t from htm]; exact sg_apart (args := args) g hW hco hq) hv (by rw [show (t, vs).1 % 200 = t from htm]; exact k2_hasslot hc0)
  rw [show (t, vs).1 % 200 = t from htm, ← hsl2] at hput
  exact K p e s m args below meth c H' _ ls _ l hF hW hlv hL h2 (sg_rel_put hR (hab (by show t < 200; omega)) e1 e2 e3 hput) ⟨sg_loc hO.1 (hab (by show t < 200; omega)), by rw [e2]; exact hO.2⟩
/-- a final field, in its class's constructor -/
theorem sg_putF {a t j idx : Nat} {ft : FieldType} {vs : List sg_V} {v : sg_V} (g : sg_G w) (hd : decode mi.2.1 pc = .ok (.putfield idx, 3)) (hf : sg_fk mi.1.cls idx t j true ft) (hin : mi.1.name = "<init>") (ha : h.2 a = some (t, vs)) (hft : sg_ft ft v) (K : sg_R w mi d mc ms Q (pc + 3) lv st (h.1, sg_up h.2 a (t, vs.set j v)) k n) : sg_R w mi d mc ms Q pc lv (v :: sg_r a :: st) h k n := by
  intro p e s m args below meth c H locs ls sv l hF hW hlv hL hs hR hO
  obtain ⟨cv, b1, rfl, hv, h1⟩ := sg_vs_c hs
  obtain ⟨b, rfl, h2⟩ := sg_vs_r h1
  obtain ⟨htl, q, ty, ref, hq, hj, hco, hfin, hty, hdecl, hlk, hsm⟩ := hf
  have htm : t % 200 = t := Nat.mod_eq_of_lt (by omega)
  obtain ⟨hab, cell, hcell, hat⟩ := hR.2.2.2 a _ ha
  obtain ⟨hS, hfc, kC, hkC, hkind⟩ := (va_K.moved hW.alike g.2.1).1 _ q hq
  obtain ⟨cf, kf, fi, f, hi, hsl2⟩ := hS j hj
  have hts : ∀ x ∈ u_ws q.1 q.2.1 q.2.2, x.before args s = true := fun x hx => sg_wd g hW (hco.1 x hx)
  have hi' : s.fieldFound? ref (q.2.1 j).2.1 (q.2.1 j).2.2.1 = some (cf, kf, fi, f) := by
    rcases hsm with e1 | e1
    · rw [e1]; exact hi
    · exact u_same (sg_wd (args := args) g hW e1) _ hi
  have hlay := hts _ (u_in_lay hj)
  unfold u_lay at hlay
  rw [if_pos hfin] at hlay
  have hst := (u_facts hfc hkC (u_lays (N := q.2.2) hts (fun _ h => h) hj) hi).1
  have hcf : m.cls = cf := by
    obtain ⟨_, _, c', _, _, _, -, -, hf', -, -, -, hown2, -⟩ := Cond.laysFinal_spec hlay
    have e1 : c' = cf := by have := hi.symm.trans hf'; simp at this; exact this.1.symm
    rw [hdecl rfl] at hown2
    rw [← e1]; exact Option.some.inj (hF.2.2.2.1.symm.trans hown2)
  obtain ⟨hn1, hn2⟩ := hft cv hv
  have h6 := u_fits hfc hkC hkind (Or.inr hlay) hi ((hco.2.2 j hj).trans (by rw [hty])) hn1 hn2
  have hcls : cell.cls = w.2.2.1 t := by
    have h9 := hat.2.2
    rw [show (t, vs).1 % 200 = t from htm, if_pos htl] at h9
    exact h9.1
  have hlen : vs.length = q.2.2 := by
    have h9 := hat.2.2
    rw [show (t, vs).1 % 200 = t from htm, if_pos htl] at h9
    obtain ⟨-, q', hq', hl⟩ := h9
    cases Option.some.inj (hq.symm.trans hq')
    exact hl
  obtain ⟨v0, hv0⟩ : ∃ v0, vs[j]? = some v0 := ⟨_, List.getElem?_eq_getElem (by omega)⟩
  obtain ⟨c0, hc0, -⟩ := hat.2.1 j v0 hv0
  rw [show sg_ix w.2.2 ((t, vs).1 % 200) j = w.2.2.2 t j by rw [show (t, vs).1 % 200 = t from htm]; exact if_pos htl] at hc0
  refine W.putFinK hF.1 hF.2.1 (f := f) hF.2.2.2.1 (sg_wd g hW hlk) hi' hst hcf (hF.2.2.2.2.2.2.2.1.trans hin) (by rw [hcls]; exact h6) hcell hat.1 (by rw [hsl2]; exact k2_hasslot hc0) rfl rfl hd fun H' e1 e2 e3 => ?_
  have hput := sg_at_put (j := j) (v := v) (cv := cv) hat (by rw [show (t, vs).1 % 200 = t from htm]; exact htl) (by rw [show (t, vs).1 % 200 = t from htm]; exact hq) hj (by rw [show (t, vs).1 % 200 = t from htm]; exact sg_apart (args := args) g hW hco hq) hv (by rw [show (t, vs).1 % 200 = t from htm]; exact k2_hasslot hc0)
  rw [show (t, vs).1 % 200 = t from htm, ← hsl2] at hput
  exact K p e s m args below meth c H' _ ls _ l hF hW hlv hL h2 (sg_rel_put hR (hab (by show t < 200; omega)) e1 e2 e3 hput) ⟨sg_loc hO.1 (hab (by show t < 200; omega)), by rw [e2]; exact hO.2⟩
theorem sg_new {t idx N : Nat} {vs : List sg_V} (g : sg_G w) (hd : decode mi.2.1 pc = .ok (.new idx, 3)) (hf : sg_nk mi.1.cls idx t vs N) (hk : k + 1 ≤ mc) (hn : n + N ≤ ms) (K : sg_R w mi d mc ms Q (pc + 3) lv (sg_r h.1 :: st) (h.1 + 1, sg_up h.2 h.1 (t, vs)) (k + 1) (n + N)) : sg_R w mi d mc ms Q pc lv st h k n := by
  intro p e s m args below meth c H locs ls sv l hF hW hlv hL hs hR hO
  obtain ⟨htl, q, ty, hq, hco, hlen, rfl, hvs, hk1, hk2, hk3⟩ := hf
  have htm : t % 200 = t := Nat.mod_eq_of_lt (by omega)
  have hK := (va_K.moved hW.alike g.2.1).1 _ q hq
  have hts : ∀ x ∈ u_ws q.1 q.2.1 q.2.2, x.before args s = true := fun x hx => sg_wd g hW (hco.1 x hx)
  refine W.newcK hF.1 hF.2.1 hF.2.2.2.1 (sg_wd g hW hk1) (sg_wd g hW hk2) (sg_wd g hW hk3) rfl hd hk hn (cC := w.2.2.1 t) hK.2.1 rfl fun H' kC e0 e1 e2 e3 => ?_
  obtain ⟨cell, f1, f2, f3, f4⟩ := u_born (N := q.2.2) ty hts (fun _ h => h) hK e0 e1 hco.2.2
  rw [hR.1]
  refine K p e s m args below meth c H' locs ls _ l hF hW hlv hL ⟨rfl, hs⟩ (sg_rel_new hR (e := (t, vs)) f1 e2 e3 ⟨f3, fun j v hv => ?_, ?_⟩) ⟨hO.1, by have := hO.2; omega⟩
  · have hj : j < q.2.2 := by rw [← hlen]; exact (List.getElem?_eq_some_iff.mp hv).1
    refine ⟨_, ?_, hvs j v hv⟩
    rw [show (t, vs).1 % 200 = t from htm]
    unfold sg_ix
    rw [if_pos htl]
    exact f4 j hj
  · rw [show (t, vs).1 % 200 = t from htm, if_pos htl]
    exact ⟨f2, q, hq, hlen⟩
theorem sg_tn {x : Int32} {N : Nat} (h : x.toInt = (N : Int)) : x.toNatClampNeg = N := by
  show x.toInt.toNat = N
  rw [h]; rfl
theorem sg_newa {t N : Nat} {z : Int} {at_ : ArrayType} (g : sg_G w) (hd : decode mi.2.1 pc = .ok (.newarray at_, 2)) (hf : sg_ok (.arrayClass (newarray.typeOf at_))) (ht : sg_ty t = newarray.typeOf at_) (ht1 : 100 ≤ t) (ht2 : t < 200) (hdf : defaultValue (newarray.typeOf at_) = .int 0) (hpr : (newarray.typeOf at_).isReference = false) (hcb : componentBytes (newarray.typeOf at_) ≤ 8)
    (hz : z = (N : Int)) (hN : N ≤ 1000000) (hk : k + 1 ≤ mc) (hn : n + N ≤ ms) (K : sg_R w mi d mc ms Q (pc + 2) lv (sg_r h.1 :: st) (h.1 + 1, sg_up h.2 h.1 (t, List.replicate N (sg_i 0))) (k + 1) (n + N)) : sg_R w mi d mc ms Q pc lv (sg_i z :: st) h k n := by
  intro p e s m args below meth c H locs ls sv l hF hW hlv hL hs hR hO
  obtain ⟨x, b, rfl, hx, h1⟩ := sg_vs_i hs
  subst hz
  have hxN := sg_tn hx
  have htm : t % 200 = t := Nat.mod_eq_of_lt ht2
  have htn : ¬ t < 100 := by omega
  have hb1 : N * componentBytes (newarray.typeOf at_) ≤ 536870912 := Nat.le_trans (Nat.mul_le_mul hN hcb) (by decide)
  refine W.newa hF.1 hF.2.1 (sg_wd g hW hf) rfl hd rfl (fun q => by have h9 := Int32.lt_iff_toInt_lt.mp q; rw [hx] at h9; exact absurd h9 (by simp)) (by rw [hxN]; exact hb1) hk (by rw [hxN]; exact hn) fun cA kA comp f1 f2 f3 => ?_
  rw [hxN, hR.1]
  refine K p e s m args below meth c _ locs ls _ l hF hW hlv hL ⟨rfl, h1⟩ (sg_rel_new hR (e := (t, List.replicate N (sg_i 0))) (cell := { cls := cA, slots := Array.replicate N (defaultValue (newarray.typeOf at_)), vm := .none }) Array.getElem?_push_size (by rw [Array.size_push]) (fun q hq => by rw [Array.getElem?_push, if_neg (Nat.ne_of_lt hq)]) ⟨rfl, fun j v hv => ?_, ?_⟩) ⟨hO.1, by rw [Array.size_push]; have := hO.2; omega⟩
  · obtain ⟨hj, e1⟩ := List.getElem?_eq_some_iff.mp hv
    rw [List.length_replicate] at hj
    rw [List.getElem_replicate] at e1
    subst e1
    refine ⟨.int 0, ?_, 0, rfl, rfl⟩
    rw [show (t, List.replicate N (sg_i 0)).1 % 200 = t from htm]
    unfold sg_ix
    rw [if_neg htn]
    simp [hj, hdf]
  · rw [show (t, List.replicate N (sg_i 0)).1 % 200 = t from htm, if_neg htn]
    refine ⟨by simp, ?_⟩
    obtain ⟨k', hk', he⟩ := (State.WarmedH.alike hW).symm.2.2 _ _ f2
    rw [ht]
    exact ⟨by (have f9 := f1; rw [hW.alike.findClass] at f9; exact f9), k', comp, hk', by rw [he]; exact f3, fun h => by rw [hpr] at h; cases h⟩
theorem sg_alen {a t : Nat} {vs : List sg_V} (hd : decode mi.2.1 pc = .ok (.arraylength, 1)) (ha : h.2 a = some (t, vs)) (ht : 100 ≤ t % 200) (hl : vs.length < 2147483648) (K : sg_R w mi d mc ms Q (pc + 1) lv (sg_i (vs.length : Int) :: st) h k n) : sg_R w mi d mc ms Q pc lv (sg_r a :: st) h k n := by
  intro p e s m args below meth c H locs ls sv l hF hW hlv hL hs hR hO
  obtain ⟨b, rfl, h1⟩ := sg_vs_r hs
  obtain ⟨-, cell, hcell, hvm, hsl, h9⟩ := hR.2.2.2 a _ ha
  rw [if_neg (show ¬ (t, vs).1 % 200 < 100 from Nat.not_lt.mpr ht)] at h9
  refine W.alen hF.1 hF.2.1 hcell (sg_ak_arr (sg_ak_moved hW.alike h9.2) hvm) rfl rfl rfl hd (K p e s m args below meth c H locs ls _ l hF hW hlv hL ⟨⟨_, rfl, ?_⟩, h1⟩ hR hO)
  rw [h9.1]
  exact nI_toInt (n := vs.length) hl
theorem sg_inx {x : Int32} {z : Int} {N : Nat} (hx : x.toInt = z) (h0 : 0 ≤ z) (h1 : z.toNat < N) : ¬ (x < 0 ∨ N ≤ x.toNatClampNeg) := by
  rintro (q | q)
  · have h9 := Int32.lt_iff_toInt_lt.mp q
    rw [hx, Int32.toInt_zero] at h9
    omega
  · have h9 : x.toNatClampNeg = z.toNat := by rw [sg_clamp, hx]
    omega
theorem sg_iald {a t : Nat} {z : Int} {vs : List sg_V} {v : sg_V} (hd : decode mi.2.1 pc = .ok (.iaload, 1)) (ha : h.2 a = some (t, vs)) (ht : t % 200 = 100) (h0 : 0 ≤ z) (hv : vs[z.toNat]? = some v) (K : sg_R w mi d mc ms Q (pc + 1) lv (v :: st) h k n) : sg_R w mi d mc ms Q pc lv (sg_i z :: sg_r a :: st) h k n := by
  intro p e s m args below meth c H locs ls sv l hF hW hlv hL hs hR hO
  obtain ⟨x, b1, rfl, hx, h1⟩ := sg_vs_i hs
  obtain ⟨b, rfl, h2⟩ := sg_vs_r h1
  obtain ⟨-, cell, hcell, hvm, hsl, h9⟩ := hR.2.2.2 a _ ha
  rw [show (t, vs).1 % 200 = 100 from ht, if_neg (by omega)] at h9
  obtain ⟨cv, hc1, hc2⟩ := hsl _ v hv
  rw [show (t, vs).1 % 200 = 100 from ht] at hc1
  refine W.iald hF.1 hF.2.1 hcell (sg_ak_arr (ty := .int) (sg_ak_moved hW.alike h9.2) hvm) (by rw [hvm]; exact fun h => by cases h) (sg_inx hx h0 (by rw [h9.1]; exact (List.getElem?_eq_some_iff.mp hv).1)) (v := cv) ?_ rfl rfl hd (K p e s m args below meth c H locs ls _ l hF hW hlv hL ⟨hc2, h2⟩ hR hO)
  rw [sg_clamp, hx]
  exact hc1
theorem sg_zald {a t : Nat} {z : Int} {vs : List sg_V} {v : sg_V} (hd : decode mi.2.1 pc = .ok (.baload, 1)) (ha : h.2 a = some (t, vs)) (ht : t % 200 = 101) (h0 : 0 ≤ z) (hv : vs[z.toNat]? = some v) (K : sg_R w mi d mc ms Q (pc + 1) lv (v :: st) h k n) : sg_R w mi d mc ms Q pc lv (sg_i z :: sg_r a :: st) h k n := by
  intro p e s m args below meth c H locs ls sv l hF hW hlv hL hs hR hO
  obtain ⟨x, b1, rfl, hx, h1⟩ := sg_vs_i hs
  obtain ⟨b, rfl, h2⟩ := sg_vs_r h1
  obtain ⟨-, cell, hcell, hvm, hsl, h9⟩ := hR.2.2.2 a _ ha
  rw [show (t, vs).1 % 200 = 101 from ht, if_neg (by omega)] at h9
  obtain ⟨cv, hc1, hc2⟩ := hsl _ v hv
  rw [show (t, vs).1 % 200 = 101 from ht] at hc1
  refine W.zald hF.1 hF.2.1 hcell (sg_ak_arr (ty := .boolean) (sg_ak_moved hW.alike h9.2) hvm) (by rw [hvm]; exact fun h => by cases h) (sg_inx hx h0 (by rw [h9.1]; exact (List.getElem?_eq_some_iff.mp hv).1)) (v := cv) ?_ rfl rfl hd (K p e s m args below meth c H locs ls _ l hF hW hlv hL ⟨hc2, h2⟩ hR hO)
  rw [sg_clamp, hx]
  exact hc1
theorem sg_aald {a t : Nat} {z : Int} {vs : List sg_V} {v : sg_V} (hd : decode mi.2.1 pc = .ok (.aaload, 1)) (ha : h.2 a = some (t, vs)) (ht : 110 ≤ t % 200) (h0 : 0 ≤ z) (hv : vs[z.toNat]? = some v) (K : sg_R w mi d mc ms Q (pc + 1) lv (v :: st) h k n) : sg_R w mi d mc ms Q pc lv (sg_i z :: sg_r a :: st) h k n := by
  intro p e s m args below meth c H locs ls sv l hF hW hlv hL hs hR hO
  obtain ⟨x, b1, rfl, hx, h1⟩ := sg_vs_i hs
  obtain ⟨b, rfl, h2⟩ := sg_vs_r h1
  obtain ⟨-, cell, hcell, hvm, hsl, h9⟩ := hR.2.2.2 a _ ha
  rw [if_neg (show ¬ (t, vs).1 % 200 < 100 from Nat.not_lt.mpr (by show 100 ≤ t % 200; omega))] at h9
  obtain ⟨cv, hc1, hc2⟩ := hsl _ v hv
  have hr : (sg_ty (t % 200)).isReference = true := by
    unfold sg_ty
    split <;> first | rfl | omega
  refine W.aald hF.1 hF.2.1 hcell (sg_ak_arr (sg_ak_moved hW.alike h9.2) hvm) hr (by rw [hvm]; exact fun h => by cases h) (sg_inx hx h0 (by rw [h9.1]; exact (List.getElem?_eq_some_iff.mp hv).1)) (v := cv) ?_ rfl rfl hd (K p e s m args below meth c H locs ls _ l hF hW hlv hL ⟨hc2, h2⟩ hR hO)
  rw [sg_clamp, hx]
  unfold sg_ix at hc1
  rw [if_neg (show ¬ (t, vs).1 % 200 < 100 from Nat.not_lt.mpr (by show 100 ≤ t % 200; omega))] at hc1
  exact hc1
theorem sg_iast {a : Nat} {z x : Int} {vs : List sg_V} (hd : decode mi.2.1 pc = .ok (.iastore, 1)) (ha : h.2 a = some (100, vs)) (h0 : 0 ≤ z) (hz : z.toNat < vs.length) (K : sg_R w mi d mc ms Q (pc + 1) lv st (h.1, sg_up h.2 a (100, vs.set z.toNat (sg_i x))) k n) : sg_R w mi d mc ms Q pc lv (sg_i x :: sg_i z :: sg_r a :: st) h k n := by
  intro p e s m args below meth c H locs ls sv l hF hW hlv hL hs hR hO
  obtain ⟨y, b0, rfl, hy, h3⟩ := sg_vs_i hs
  obtain ⟨x', b1, rfl, hx, h1⟩ := sg_vs_i h3
  obtain ⟨b, rfl, h2⟩ := sg_vs_r h1
  obtain ⟨hab, cell, hcell, hat⟩ := hR.2.2.2 a _ ha
  have h9 := hat.2.2
  rw [if_neg (show ¬ (100, vs).1 % 200 < 100 from (by decide : ¬ (100 : Nat) % 200 < 100))] at h9
  have hab' := hab (by show 100 < 200; omega)
  have hxz : x'.toNatClampNeg = z.toNat := by rw [sg_clamp, hx]
  refine W.iast hF.1 hF.2.1 hcell (sg_ak_arr (ty := .int) (sg_ak_moved hW.alike h9.2) hat.1) (by rw [hat.1]; exact fun h => by cases h) (sg_inx hx h0 (by rw [h9.1]; exact hz)) rfl rfl hd fun H' e1 e2 e3 => ?_
  rw [hxz] at e1 ⊢
  exact K p e s m args below meth c H' _ ls _ l hF hW hlv hL h2 (sg_rel_put hR hab' e1 e2 e3 (sg_at_ast hat (Nat.not_lt.mpr (Nat.le_of_ble_eq_true rfl)) ⟨y, rfl, hy⟩ (by rw [h9.1]; exact hz))) ⟨sg_loc hO.1 hab', by rw [e2]; exact hO.2⟩
theorem sg_zast {a : Nat} {z x : Int} {vs : List sg_V} (hd : decode mi.2.1 pc = .ok (.bastore, 1)) (ha : h.2 a = some (101, vs)) (hx01 : x = 0 ∨ x = 1) (h0 : 0 ≤ z) (hz : z.toNat < vs.length) (K : sg_R w mi d mc ms Q (pc + 1) lv st (h.1, sg_up h.2 a (101, vs.set z.toNat (sg_i x))) k n) : sg_R w mi d mc ms Q pc lv (sg_i x :: sg_i z :: sg_r a :: st) h k n := by
  intro p e s m args below meth c H locs ls sv l hF hW hlv hL hs hR hO
  obtain ⟨y, b0, rfl, hy, h3⟩ := sg_vs_i hs
  obtain ⟨x', b1, rfl, hx, h1⟩ := sg_vs_i h3
  obtain ⟨b, rfl, h2⟩ := sg_vs_r h1
  obtain ⟨hab, cell, hcell, hat⟩ := hR.2.2.2 a _ ha
  have h9 := hat.2.2
  rw [if_neg (show ¬ (101, vs).1 % 200 < 100 from (by decide : ¬ (101 : Nat) % 200 < 100))] at h9
  have hab' := hab (by show 101 < 200; omega)
  have hxz : x'.toNatClampNeg = z.toNat := by rw [sg_clamp, hx]
  have hnr : narrow .boolean (.int y) = .int y := (sg_ft_z hx01 _ ⟨y, rfl, hy⟩).1
  refine W.zast hF.1 hF.2.1 hcell (sg_ak_arr (ty := .boolean) (sg_ak_moved hW.alike h9.2) hat.1) (by rw [hat.1]; exact fun h => by cases h) (sg_inx hx h0 (by rw [h9.1]; exact hz)) rfl rfl hd fun H' e1 e2 e3 => ?_
  rw [hxz, hnr] at e1
  rw [hxz]
  exact K p e s m args below meth c H' _ ls _ l hF hW hlv hL h2 (sg_rel_put hR hab' e1 e2 e3 (sg_at_ast hat (Nat.not_lt.mpr (Nat.le_of_ble_eq_true rfl)) ⟨y, rfl, hy⟩ (by rw [h9.1]; exact hz))) ⟨sg_loc hO.1 hab', by rw [e2]; exact hO.2⟩
end
end
section
/-! arrays of references, statics, calls, throws -/
def sg_gw (x : Cond) : Bool := goodWord x || (match x with
  | .castable _ _ => true
  | .arrayOver _ => true
  | _ => false)
theorem sg_wdc {w : sg_W} {s : State} {args : Array Value} {C T : String} (g : sg_G w) (hW : w.2.1.WarmedH s.vm) (hx : Cond.castable C T ∈ lw_tbl) : (Cond.castable C T).before args s = true := va_Nw.warmC hW (g.1.1 _ hx)
theorem sg_wdo {w : sg_W} {s : State} {args : Array Value} {C : String} (g : sg_G w) (hW : w.2.1.WarmedH s.vm) (hx : Cond.arrayOver (.object C) ∈ lw_tbl) : (Cond.arrayOver (.object C)).before args s = true := (va_AO.moved hW.alike (va_AO.of (g.1.1 _ hx))).use
theorem sg_idx_bare (vm : Vm) (comp : ClassId) : (vm.bare.classes.findIdx? fun (x : Class) => match x.kind with | .array component _ => component == comp | _ => false) = (vm.classes.findIdx? fun (x : Class) => match x.kind with | .array component _ => component == comp | _ => false) := by
  simp only [Vm.bare, Array.findIdx?_map]
  rfl
theorem sg_AOA {t : FieldType} {A : Array Value} {u U : State} (hvm : u.vm.Alike U.vm) (h : (Cond.arrayOver (.array t)).before #[] u = true) : (Cond.arrayOver (.array t)).before A U = true := by
  simp only [Cond.before, Cond.holds, Cond.value, beq_iff_eq] at h
  cases hc : u.vm.findClass (FieldType.array t).toString with
  | none => simp [hc] at h
  | some comp =>
    simp only [hc, Option.bind_some, Option.bind_eq_some_iff, Option.map_eq_some_iff] at h
    obtain ⟨c, h2, k, h3, hb⟩ := h
    obtain ⟨k', hk', he⟩ := hvm.2.2 _ _ h3
    have hi : (U.vm.classes.findIdx? fun (x : Class) => match x.kind with | .array component _ => component == comp | _ => false) = some c := by
      rw [← sg_idx_bare]
      first | rw [hvm.bare_eq] | rw [← hvm.bare_eq]
      rw [sg_idx_bare]
      exact h2
    have f1 : U.vm.findClass (FieldType.array t).toString = some comp := by rw [hvm.findClass]; exact hc
    unfold Cond.before Cond.holds
    simp only [Cond.value]
    rw [f1, Option.bind_some]
    refine (congrArg (fun o : Option Nat => (o.bind (fun c => (U.vm.classes[c]?).map fun (k : Class) => match k.kind with | .array _ ty => decide (ty = FieldType.array t) && decide (U.vm.findClass ("[" ++ (FieldType.array t).toString) = some c) | _ => false) == some true)) hi).trans ?_
    rw [Option.bind_some, hk', Option.map_some, he, hvm.findClass]
    cases hk9 : k.kind with
    | array c9 ty => rw [hk9] at hb; simpa using hb
    | _ => rw [hk9] at hb; simp at hb
section
variable {w : sg_W} {mi : sg_M} {d mc ms : Nat} {Q : sg_O → sg_H → Prop} {pc : Nat} {lv : List (Nat × sg_V)} {st : List sg_V} {h : sg_H} {k n : Nat}
/-- the calls -/
theorem sg_blind {w : sg_W} {as : List sg_V} {h : sg_H} : FrameBlind (sg_Pc w as h) := fun a U g mk q => by
  obtain ⟨cs, q1, q2, q3, q4⟩ := q
  exact ⟨cs, q1, q2, q3, q4⟩
def sg_K (w : sg_W) (mi : sg_M) (d mc ms : Nat) (Q : sg_O → sg_H → Prop) (pc : Nat) (lv : List (Nat × sg_V)) (rest : List sg_V) (k n : Nat) : sg_O → sg_H → Prop := fun o h' => match o with
  | .inl v => sg_R w mi d mc ms Q (pc + 3) lv (v.toList ++ rest) h' k n
  | .inr E => k ≤ mc ∧ n ≤ ms ∧ Q (.inr E) h'
theorem sg_after {mc' ms' : Nat} {rest : List sg_V} {p : Program} {e : Env} {s : State} {m : MethodId} {args : Array Value} {below : List Frame} {meth : Method} {c : Code} {H : Heap} {locs : List Loc} {ls : Array Slot} {sv rs : List Value} {l : List (Nat × Value)} {av : Array Value}
    (hF : sg_F w mi p s m meth c) (hW : w.2.1.WarmedH s.vm) (hlv : lv_has ls mi.2.2.1 l) (hL : sg_L lv l) (hrs : sg_vs rest rs) (hO : (∀ q ∈ locs, sg_b w ≤ q.base) ∧ s.heap.size ≤ H.size)
    (hr : vx_Run p w.1 e (sg_rm d mc ms) s m args below meth c H locs k n mc' ms' (F0 m pc ls sv) rs (sg_Qc w (sg_K w mi d mc ms Q pc lv rest (k + mc') (n + ms')) av) (sg_XC w (sg_K w mi d mc ms Q pc lv rest (k + mc') (n + ms'))) (fun q => sg_b w ≤ q)) :
    W p w.1 e (sg_rm d mc ms) s m args below meth c H locs k n (vx_MQ below (sg_Qc w Q) (sg_XC w Q) args s mc ms (fun q => sg_b w ≤ q)) (F0 m pc ls sv) := by
  intro T hT X
  rcases hr T hT X with ⟨v, st₀, t, T', L, h0, X', hLc, e1, e2, hq, st⟩ | ⟨q, st₀, t, T', L, E, ce, h0, X', hLc, e1, e2, hx, hce, hcv, hcl, st⟩
  · obtain ⟨v', c', h', ho, hvs, hrel, hK⟩ := hq
    have hcv : v = c' := Outcome.returned.inj ho
    subst hcv
    have hsz : s.heap.size ≤ T'.heap.size := X'.same.2.1
    obtain ⟨t2, a1, b1⟩ := hK p e s m args below meth c T'.heap (locs ++ L) ls (v.toList ++ rs) l hF hW hlv hL (sg_vs_join hvs hrs) (by rw [e1]; exact hrel) ⟨fun z hz => (List.mem_append.mp hz).elim (hO.1 z) (hLc z), hsz⟩ T' rfl X'
    exact ⟨t2, st t2 a1, b1⟩
  · obtain ⟨h', hrel, hk, hn, hQ⟩ := hx
    have hout := vx_out (p := p) (l := w.1) (e := e) (R := sg_rm d mc ms) (s := s) (m := m) (args := args) (below := below) (meth := meth) (c := c) (H := T'.heap) (locs := locs ++ L) (cells := k + mc') (slots := n + ms') (ls := ls) (rest := rs) (Qc := sg_Qc w Q) (XC := sg_XC w Q) (free := fun q => sg_b w ≤ q) (pc := pc) (mc := mc) (ms := ms)
      (fun x hx => (hF.2.2.2.2.2.2.1 x hx).elim) hF.2.2.2.2.2.1 (q := q) (E := E) (by rw [e1]; exact hce) hcv hcl (fun t9 ht _ => ⟨h', by rw [ht, e1]; exact hrel, hQ⟩) (fun z hz => (List.mem_append.mp hz).elim (hO.1 z) (hLc z)) hk hn
    obtain ⟨t2, a1, b1⟩ := hout T' rfl X'
    exact ⟨t2, st.trans a1, b1⟩
def sg_cb (mi' : sg_M) (np : Nat) : Prop := sg_ok (.code mi'.1 mi'.2.1 mi'.2.2.1 mi'.2.2.2) ∧ sg_ok (.initialized mi'.1.cls) ∧ (mi'.1.cls ≠ "java/lang/invoke/MethodHandle" ∧ mi'.1.cls ≠ "java/lang/invoke/VarHandle") ∧ (parseMethodDescriptor mi'.1.desc).map (fun d => d.parameters.length) = some np ∧ mi'.2.2.1 ≤ 61
theorem sg_callB {mi' : sg_M} {np d' mc' ms' idx : Nat} {own : String} {s : State} {args : Array Value} (g : sg_G w) (hW : w.2.1.WarmedH s.vm) (hc : sg_cb mi' np) (hl : sg_ok (.methodLink own idx mi'.1)) (hd' : d' + 1 ≤ d) :
    CallB (sg_rm d mc ms) s args own idx mi'.1 mi'.2.1 mi'.2.2.1 mi'.2.2.2 [.code mi'.1 mi'.2.1 mi'.2.2.1 mi'.2.2.2] (sg_rm d' mc' ms') mc' ms' np := by
  obtain ⟨h1, h2, h3, h4, h5⟩ := hc
  refine ⟨rfl, rfl, hd', by show 8 + (mi'.2.2.1 + 11) + 80 * d' ≤ 80 * d; omega, fun x hx a' U hU => ?_, List.mem_cons_self, sg_wd g hW h1, sg_wd g hW h2, h3, fun sig h => ?_, sg_wd g hW hl⟩
  · rw [List.mem_singleton] at hx
    subst hx
    exact sg_wd g (State.WarmedH.trans hW hU) h1
  · rw [h] at h4
    exact (Option.some.inj h4).symm
theorem sg_callS {mi' : sg_M} {np d' mc' ms' idx : Nat} {as rest : List sg_V} (g : sg_G w) (hd : decode mi.2.1 pc = .ok (.invokestatic idx, 3)) (hc : sg_cb mi' np) (hl : sg_ok (.methodLink mi.1.cls idx mi'.1)) (hsta : sg_ok (.static mi'.1)) (hst : st = as.reverse ++ rest) (hnp : as.length = np) (hr : sg_cs rest ≤ 8) (hd' : d' + 1 ≤ d) (hk : k + mc' ≤ mc) (hn : n + ms' ≤ ms)
    (hm : sg_C w mi' d' mc' ms' as h (sg_K w mi d mc ms Q pc lv rest (k + mc') (n + ms'))) : sg_R w mi d mc ms Q pc lv st h k n := by
  intro p e s m args below meth c H locs ls sv l hF hW hlv hL hs hR hO
  subst hst
  obtain ⟨xs, rs, rfl, h1, h2⟩ := sg_vs_app hs
  have h3 := sg_vs_rev h1
  rw [List.reverse_reverse] at h3
  refine sg_after hF hW hlv hL h2 hO (vx_runS (Ts := []) (As := xs.reverse) (rest := rs) ⟨hF.1, hF.2.1, hF.2.2.1, hF.2.2.2.1, fun x hx => by cases hx⟩ hm ⟨sg_callB g hW hc hl hd', sg_wd g hW hsta⟩ ⟨sg_blind, fun U hU hWU => ⟨xs.reverse, rfl, h3, State.WarmedH.trans hW hWU, by rw [hU]; exact hR⟩⟩ rfl (by rw [sg_vs_len h3]; exact hnp) hlv.1 (by rw [List.reverse_reverse]) (lv_room (by rw [sg_vs_cat h2]; exact hr)) hd ⟨hk, hn⟩)
theorem sg_callV {mi' : sg_M} {np d' mc' ms' idx t b : Nat} {as rest vs : List sg_V} {q : vw_C} (g : sg_G w) (hd : decode mi.2.1 pc = .ok (.invokevirtual idx, 3)) (hc : sg_cb mi' np) (hl : sg_ok (.methodLink mi.1.cls idx mi'.1)) (hin : sg_ok (.instanceMethod mi'.1)) (hsel : sg_ok (.selects q.1 mi'.1 mi'.1)) (hq : vwCl[t % 200]? = some q) (ht : t % 200 < 100) (hst : st = as.reverse ++ sg_r b :: rest) (hb : h.2 b = some (t, vs)) (hnp : as.length = np) (hr : sg_cs rest ≤ 8) (hd' : d' + 1 ≤ d) (hk : k + mc' ≤ mc) (hn : n + ms' ≤ ms)
    (hm : sg_C w mi' d' mc' ms' (sg_r b :: as) h (sg_K w mi d mc ms Q pc lv rest (k + mc') (n + ms'))) : sg_R w mi d mc ms Q pc lv st h k n := by
  intro p e s m args below meth c H locs ls sv l hF hW hlv hL hs hR hO
  subst hst
  obtain ⟨xs, rs0, rfl, h1, h20⟩ := sg_vs_app hs
  obtain ⟨rs, rfl, h2⟩ := sg_vs_r h20
  have h3 := sg_vs_rev h1
  rw [List.reverse_reverse] at h3
  obtain ⟨-, cell, hcell, hvm, -, h9⟩ := hR.2.2.2 b _ hb
  rw [if_pos (show (t, vs).1 % 200 < 100 from ht)] at h9
  have hcl := ((va_K.moved hW.alike g.2.1).1 _ q hq).2.1
  refine sg_after hF hW hlv hL h2 hO (vx_runV (Ts := []) (As := xs.reverse) (rest := rs) (C := q.1) ⟨hF.1, hF.2.1, hF.2.2.1, hF.2.2.2.1, fun x hx => by cases hx⟩ hm ⟨sg_callB g hW hc hl hd', sg_wd g hW hin, sg_wd g hW hsel⟩ ⟨sg_blind, ⟨cell, hcell, by rw [hvm]; rfl, by rw [h9.1]; exact hcl⟩, fun U hU hWU => ⟨.ref b :: xs.reverse, rfl, ⟨rfl, h3⟩, State.WarmedH.trans hW hWU, by rw [hU]; exact hR⟩⟩ rfl (by rw [sg_vs_len h3]; exact hnp) hlv.1 (by rw [List.reverse_reverse]) (lv_room (by rw [sg_vs_cat h2]; exact hr)) hd ⟨hk, hn⟩)
theorem sg_callI {mi' : sg_M} {np d' mc' ms' idx b : Nat} {as rest : List sg_V} (g : sg_G w) (hd : decode mi.2.1 pc = .ok (.invokespecial idx, 3)) (hc : sg_cb mi' np) (hrt : mi'.2.2.2 = none) (hnm : mi'.1.name = "<init>") (hl : sg_ok (.methodLink mi.1.cls idx mi'.1)) (hin : sg_ok (.instanceMethod mi'.1)) (hst : st = as.reverse ++ sg_r b :: rest) (hnp : as.length = np) (hr : sg_cs rest ≤ 8) (hd' : d' + 1 ≤ d) (hk : k + mc' ≤ mc) (hn : n + ms' ≤ ms)
    (hm : sg_C w mi' d' mc' ms' (sg_r b :: as) h (sg_K w mi d mc ms Q pc lv rest (k + mc') (n + ms'))) : sg_R w mi d mc ms Q pc lv st h k n := by
  intro p e s m args below meth c H locs ls sv l hF hW hlv hL hs hR hO
  subst hst
  obtain ⟨xs, rs0, rfl, h1, h20⟩ := sg_vs_app hs
  obtain ⟨rs, rfl, h2⟩ := sg_vs_r h20
  have h3 := sg_vs_rev h1
  rw [List.reverse_reverse] at h3
  have hB := sg_callB (mc := mc) (ms := ms) (mc' := mc') (ms' := ms') (args := args) g hW hc hl hd'
  rw [hrt] at hB
  refine sg_after hF hW hlv hL h2 hO (vx_runI (Ts := []) (As := xs.reverse) (rest := rs) ⟨hF.1, hF.2.1, hF.2.2.1, hF.2.2.2.1, fun x hx => by cases hx⟩ (by have h7 := hm; unfold sg_C at h7; rw [hrt] at h7; exact h7) ⟨hB, hnm, sg_wd g hW hin⟩ ⟨sg_blind, fun U hU hWU => ⟨.ref b :: xs.reverse, rfl, (show sg_vs (sg_r b :: as) (.ref b :: xs.reverse) from ⟨rfl, h3⟩), State.WarmedH.trans hW hWU, by rw [hU]; exact hR⟩⟩ rfl (by rw [sg_vs_len h3]; exact hnp) hlv.1 (by rw [List.reverse_reverse]) (lv_room (by rw [sg_vs_cat h2]; exact hr)) hd ⟨hk, hn⟩)
theorem sg_objInit {idx b : Nat} (g : sg_G w) (hd : decode mi.2.1 pc = .ok (.invokespecial idx, 3)) (hl : sg_ok (.methodLink mi.1.cls idx Lib.objectInit)) (hin : sg_ok (.instanceMethod Lib.objectInit)) (hco : sg_ok (.code Lib.objectInit ⟨#[0xb1]⟩ 1 none)) (hr : sg_cs st ≤ 8) (hd' : 1 ≤ d) (K : sg_R w mi d mc ms Q (pc + 3) lv st h k n) : sg_R w mi d mc ms Q pc lv (sg_r b :: st) h k n := by
  intro p e s m args below meth c H locs ls sv l hF hW hlv hL hs hR hO
  obtain ⟨rs, rfl, h2⟩ := sg_vs_r hs
  refine W.objInit hF.1 hF.2.1 hF.2.2.2.1 (sg_wd g hW hl) (sg_wd g hW hin) (sg_wd g hW hco) rfl (hlv.1.trans hF.2.2.1.symm) rfl hd hd' ?_ (K p e s m args below meth c H locs ls _ l hF hW hlv hL h2 hR hO)
  have h9 := lv_room (m := m) (pc := pc) (ls := ls) (rest := .ref b :: rs) (st := rs) (by rw [sg_vs_cat h2]; exact hr)
  show _ ≤ 80 * d
  omega
/-- a throw of a new exception with a text -/
def sg_th (own : String) (ik is ic : Nat) (cls text : String) (names : List String) : Prop := Bundle.fit cls = true ∧ (∀ n ∈ names, Bundle.fit n = true) ∧ names.length ≤ 6 ∧
  (∀ x ∈ Cond.classLink own ik cls :: Cond.initialized cls :: vx_atS own ic cls names, x ∈ lw_tbl ∧ sg_gw x = true ∧ vx_ot x = true) ∧ Cond.stringRef own is text ∈ lw_tbl
theorem sg_wdt {s : State} {args : Array Value} {x : Cond} (g : sg_G w) (hW : w.2.1.WarmedH s.vm) (hx : x ∈ lw_tbl) (hg : sg_gw x = true) (ho : vx_ot x = true) : x.before args s = true := by
  by_cases c : goodWord x = true
  · exact sg_wd g hW ⟨hx, c⟩
  · unfold sg_gw at hg
    rw [Bool.not_eq_true] at c
    rw [c, Bool.false_or] at hg
    split at hg
    · exact sg_wdc g hW hx
    · exact absurd ho (by simp [vx_ot, c, Cond.onTables])
    · cases hg
theorem sg_statics {C n' d' : String} {p : Program} {s : State} {m : MethodId} {meth : Method} {c : Code} (hF : sg_F w mi p s m meth c) (hW : w.2.1.WarmedH s.vm) (hZ : vx_Zq C n' d' (fun q => sg_b w ≤ q) w.2.1 w.2.1.heap) : vx_Zq C n' d' (fun q => sg_b w ≤ q) s s.heap :=
  vx_Zq.moved hW.alike (hZ.kept (fun a ha _ => hF.2.2.2.2.2.2.2.2.2 a ha))
theorem sg_throw {ik is ic : Nat} {cls text : String} {names : List String} (g : sg_G w) (hth : sg_th mi.1.cls ik is ic cls text names)
    (d0 : decode mi.2.1 pc = .ok (.new ik, 3)) (d3 : decode mi.2.1 (pc + 3) = .ok (.dup, 1)) (d4 : decode mi.2.1 (pc + 4) = .ok (.ldc is, 2)) (d6 : decode mi.2.1 (pc + 6) = .ok (.invokespecial ic, 3)) (d9 : decode mi.2.1 (pc + 9) = .ok (.athrow, 1))
    (hd : 10 ≤ d) (hr : sg_cs st ≤ 100) (hk : k + 1 ≤ mc) (hn : n + 6 ≤ ms) (K : ∀ z, h.1 ≤ z → Q (.inr cls) (z, h.2)) : sg_R w mi d mc ms Q pc lv st h k n := by
  intro p e s m args below meth c H locs ls sv l hF hW hlv hL hs hR hO
  obtain ⟨t1, t2, t3, t4, t5⟩ := hth
  obtain ⟨sa, hsa⟩ := g.1.2 _ _ _ t5
  exact vx_throwS hF.1 hF.2.1 g.2.2.1 hF.2.2.2.1 t1 t2 (sg_wdt g hW (t4 _ List.mem_cons_self).1 (t4 _ List.mem_cons_self).2.1 (t4 _ List.mem_cons_self).2.2) (sg_wdt g hW (t4 _ (List.mem_cons_of_mem _ List.mem_cons_self)).1 (t4 _ (List.mem_cons_of_mem _ List.mem_cons_self)).2.1 (t4 _ (List.mem_cons_of_mem _ List.mem_cons_self)).2.2) (vk_R.warm hW hsa)
    (fun x hx => sg_wdt g hW (t4 x (List.mem_cons_of_mem _ (List.mem_cons_of_mem _ hx))).1 (t4 x (List.mem_cons_of_mem _ (List.mem_cons_of_mem _ hx))).2.1 (t4 x (List.mem_cons_of_mem _ (List.mem_cons_of_mem _ hx))).2.2) (fun x hx => (t4 x hx).2.2)
    (sg_statics hF hW g.2.2.2.1) (sg_statics hF hW g.2.2.2.2) (A := fun q => sg_b w ≤ q) ⟨hO.2, fun q hq hA => by rw [hR.2.2.1 q (by omega), hF.2.2.2.2.2.2.2.2.2 q (by omega)], hO.1⟩ (hlv.1.trans hF.2.2.1.symm) d0 d3 d4 d6 d9
    (fun x hx => (hF.2.2.2.2.2.2.1 x hx).elim) (by show names.length + 3 < d; omega) (by rw [sg_vs_cat hs]; show _ ≤ 80 * d; omega) hk hn hF.2.2.2.2.2.1
    (fun t _ h1 h2 => ⟨(t.heap.size, h.2), sg_rel_more hR h1 h2, K _ (by rw [← hR.1]; exact h1)⟩) hO.1 hk hn
theorem sg_throwW {ik is ic : Nat} {cls text : String} {names : List String} (g : sg_G w) (hth : sg_th mi.1.cls ik is ic cls text names)
    (d0 : decode mi.2.1 pc = .ok (.new ik, 3)) (d3 : decode mi.2.1 (pc + 3) = .ok (.dup, 1)) (d4 : decode mi.2.1 (pc + 4) = .ok (.ldc_w is, 3)) (d7 : decode mi.2.1 (pc + 7) = .ok (.invokespecial ic, 3)) (d10 : decode mi.2.1 (pc + 10) = .ok (.athrow, 1))
    (hd : 10 ≤ d) (hr : sg_cs st ≤ 100) (hk : k + 1 ≤ mc) (hn : n + 6 ≤ ms) (K : ∀ z, h.1 ≤ z → Q (.inr cls) (z, h.2)) : sg_R w mi d mc ms Q pc lv st h k n := by
  intro p e s m args below meth c H locs ls sv l hF hW hlv hL hs hR hO
  obtain ⟨t1, t2, t3, t4, t5⟩ := hth
  obtain ⟨sa, hsa⟩ := g.1.2 _ _ _ t5
  exact vx_throwSW hF.1 hF.2.1 g.2.2.1 hF.2.2.2.1 t1 t2 (sg_wdt g hW (t4 _ List.mem_cons_self).1 (t4 _ List.mem_cons_self).2.1 (t4 _ List.mem_cons_self).2.2) (sg_wdt g hW (t4 _ (List.mem_cons_of_mem _ List.mem_cons_self)).1 (t4 _ (List.mem_cons_of_mem _ List.mem_cons_self)).2.1 (t4 _ (List.mem_cons_of_mem _ List.mem_cons_self)).2.2) (vk_R.warm hW hsa)
    (fun x hx => sg_wdt g hW (t4 x (List.mem_cons_of_mem _ (List.mem_cons_of_mem _ hx))).1 (t4 x (List.mem_cons_of_mem _ (List.mem_cons_of_mem _ hx))).2.1 (t4 x (List.mem_cons_of_mem _ (List.mem_cons_of_mem _ hx))).2.2) (fun x hx => (t4 x hx).2.2)
    (sg_statics hF hW g.2.2.2.1) (sg_statics hF hW g.2.2.2.2) (A := fun q => sg_b w ≤ q) ⟨hO.2, fun q hq hA => by rw [hR.2.2.1 q (by omega), hF.2.2.2.2.2.2.2.2.2 q (by omega)], hO.1⟩ (hlv.1.trans hF.2.2.1.symm) d0 d3 d4 d7 d10
    (fun x hx => (hF.2.2.2.2.2.2.1 x hx).elim) (by show names.length + 3 < d; omega) (by rw [sg_vs_cat hs]; show _ ≤ 80 * d; omega) hk hn hF.2.2.2.2.2.1
    (fun t _ h1 h2 => ⟨(t.heap.size, h.2), sg_rel_more hR h1 h2, K _ (by rw [← hR.1]; exact h1)⟩) hO.1 hk hn
/-- a static field that holds v since the start -/
theorem sg_gets {C n' d' : String} {v : sg_V} {cv : Value} {idx : Nat} (g : sg_G w) (hd : decode mi.2.1 pc = .ok (.getstatic idx, 3)) (hZ : va_Z C n' d' cv (fun q => sg_b w ≤ q) w.2.1 w.2.1.heap) (hv : sg_v v cv) (hlk : sg_ok (.fieldLink mi.1.cls idx C n' d')) (K : sg_R w mi d mc ms Q (pc + 3) lv (v :: st) h k n) : sg_R w mi d mc ms Q pc lv st h k n := by
  intro p e s m args below meth c H locs ls sv l hF hW hlv hL hs hR hO
  obtain ⟨cf, kf, fi, f, a, cell, h1, h2, h3, h4, h5, h6, h7, h8⟩ := va_Z.moved hW.alike hZ
  exact W.gets hF.1 hF.2.1 hF.2.2.2.1 (sg_wd g hW hlk) h1 h2 h3 h4 (by rw [hR.2.2.1 a (by omega)]; exact h5) (fun e => by rw [e] at h6; cases h6) h7 rfl hd (K p e s m args below meth c H locs ls _ l hF hW hlv hL ⟨hv, hs⟩ hR hO)
theorem sg_at_new {cA : ClassId} {N t : Nat} (ht1 : 100 ≤ t) (ht2 : t < 200) (hak : sg_ak w.2.1 (sg_ty t) cA) : sg_at w (t, List.replicate N sg_n) { cls := cA, slots := Array.replicate N .null, vm := .none } := by
  have htm : t % 200 = t := Nat.mod_eq_of_lt ht2
  have htn : ¬ t < 100 := by omega
  refine ⟨rfl, fun j v hv => ?_, ?_⟩
  · obtain ⟨hj, e1⟩ := List.getElem?_eq_some_iff.mp hv
    rw [List.length_replicate] at hj
    rw [List.getElem_replicate] at e1
    subst e1
    refine ⟨.null, ?_, rfl⟩
    rw [show (t, List.replicate N sg_n).1 % 200 = t from htm]
    unfold sg_ix
    rw [if_neg htn]
    simp [hj]
  · rw [show (t, List.replicate N sg_n).1 % 200 = t from htm, if_neg htn]
    exact ⟨by simp, hak⟩
theorem sg_anew {t N idx : Nat} {z : Int} {C : String} (g : sg_G w) (hd : decode mi.2.1 pc = .ok (.anewarray idx, 3)) (hlk : sg_ok (.classLink mi.1.cls idx C)) (hov : Cond.arrayOver (.object C) ∈ lw_tbl) (ht : sg_ty t = .object C) (ht1 : 100 ≤ t) (ht2 : t < 200)
    (hz : z = (N : Int)) (hN : N ≤ 1000000) (hk : k + 1 ≤ mc) (hn : n + N ≤ ms) (K : sg_R w mi d mc ms Q (pc + 3) lv (sg_r h.1 :: st) (h.1 + 1, sg_up h.2 h.1 (t, List.replicate N sg_n)) (k + 1) (n + N)) : sg_R w mi d mc ms Q pc lv (sg_i z :: st) h k n := by
  intro p e s m args below meth c H locs ls sv l hF hW hlv hL hs hR hO
  obtain ⟨x, b, rfl, hx, h1⟩ := sg_vs_i hs
  subst hz
  have hxN := sg_tn hx
  refine W.anew hF.1 hF.2.1 hF.2.2.2.1 (sg_wd g hW hlk) (sg_wdo g hW hov) rfl hd rfl (fun q => by have h9 := Int32.lt_iff_toInt_lt.mp q; rw [hx] at h9; exact absurd h9 (by simp)) (by rw [hxN]; omega) hk (by rw [hxN]; exact hn) fun cA kA comp f1 f2 f3 f4 => ?_
  rw [hxN, hR.1]
  refine K p e s m args below meth c _ locs ls _ l hF hW hlv hL ⟨rfl, h1⟩ (sg_rel_new hR (e := (t, List.replicate N sg_n)) (cell := { cls := cA, slots := Array.replicate N .null, vm := .none }) Array.getElem?_push_size (by rw [Array.size_push]) (fun q hq => by rw [Array.getElem?_push, if_neg (Nat.ne_of_lt hq)]) (sg_at_new ht1 ht2 ?_)) ⟨hO.1, by rw [Array.size_push]; have := hO.2; omega⟩
  obtain ⟨k', hk', he⟩ := (State.WarmedH.alike hW).symm.2.2 _ _ f2
  rw [ht]
  exact ⟨by (have f9 := f1; rw [hW.alike.findClass] at f9; exact f9), k', comp, hk', by rw [he]; exact f3, fun _ => by (have f9 := f4; rw [hW.alike.findClass] at f9; exact f9)⟩
theorem sg_anewA {t N idx : Nat} {z : Int} {T : FieldType} (g : sg_G w) (hd : decode mi.2.1 pc = .ok (.anewarray idx, 3)) (hlk : sg_ok (.classLink mi.1.cls idx (FieldType.array T).toString)) (hov : Cond.arrayOver (.array T) ∈ lw_tbl) (ht : sg_ty t = .array T) (ht1 : 100 ≤ t) (ht2 : t < 200)
    (hz : z = (N : Int)) (hN : N ≤ 1000000) (hk : k + 1 ≤ mc) (hn : n + N ≤ ms) (K : sg_R w mi d mc ms Q (pc + 3) lv (sg_r h.1 :: st) (h.1 + 1, sg_up h.2 h.1 (t, List.replicate N sg_n)) (k + 1) (n + N)) : sg_R w mi d mc ms Q pc lv (sg_i z :: st) h k n := by
  intro p e s m args below meth c H locs ls sv l hF hW hlv hL hs hR hO
  obtain ⟨x, b, rfl, hx, h1⟩ := sg_vs_i hs
  subst hz
  have hxN := sg_tn hx
  refine W.anewA hF.1 hF.2.1 hF.2.2.2.1 (sg_wd g hW hlk) (sg_AOA hW.alike (g.1.1 _ hov)) rfl hd rfl (fun q => by have h9 := Int32.lt_iff_toInt_lt.mp q; rw [hx] at h9; exact absurd h9 (by simp)) (by rw [hxN]; omega) hk (by rw [hxN]; exact hn) fun cA kA comp f1 f2 f3 f4 => ?_
  rw [hxN, hR.1]
  refine K p e s m args below meth c _ locs ls _ l hF hW hlv hL ⟨rfl, h1⟩ (sg_rel_new hR (e := (t, List.replicate N sg_n)) (cell := { cls := cA, slots := Array.replicate N .null, vm := .none }) Array.getElem?_push_size (by rw [Array.size_push]) (fun q hq => by rw [Array.getElem?_push, if_neg (Nat.ne_of_lt hq)]) (sg_at_new ht1 ht2 ?_)) ⟨hO.1, by rw [Array.size_push]; have := hO.2; omega⟩
  obtain ⟨k', hk', he⟩ := (State.WarmedH.alike hW).symm.2.2 _ _ f2
  rw [ht]
  exact ⟨by (have f9 := f1; rw [hW.alike.findClass] at f9; exact f9), k', comp, hk', by rw [he]; exact f3, fun _ => by (have f9 := f4; rw [hW.alike.findClass] at f9; exact f9)⟩
/-- what may be stored in an array of references of kind t: a thing of kind u -/
def sg_as (t u : Nat) : Prop := (u < 100 ∧ ∃ q, vwCl[u]? = some q ∧ (sg_ty t = .object q.1 ∨ (sg_ty t = .object "java/lang/Object" ∧ Cond.castable q.1 "java/lang/Object" ∈ lw_tbl))) ∨
  (100 ≤ u ∧ (sg_cn (sg_ty t) = "[" ++ (sg_ty u).toString ∨ (sg_ty t = .object "java/lang/Object" ∧ Cond.castable ("[" ++ (sg_ty u).toString) "java/lang/Object" ∈ lw_tbl)))
theorem sg_aast {a t b u : Nat} {z : Int} {vs us : List sg_V} (g : sg_G w) (hd : decode mi.2.1 pc = .ok (.aastore, 1)) (ha : h.2 a = some (t, vs)) (hb : h.2 b = some (u, us)) (ht1 : 110 ≤ t) (ht2 : t < 200) (has : sg_as t (u % 200)) (h0 : 0 ≤ z) (hz : z.toNat < vs.length) (K : sg_R w mi d mc ms Q (pc + 1) lv st (h.1, sg_up h.2 a (t, vs.set z.toNat (sg_r b))) k n) : sg_R w mi d mc ms Q pc lv (sg_r b :: sg_i z :: sg_r a :: st) h k n := by
  intro p e s m args below meth c H locs ls sv l hF hW hlv hL hs hR hO
  obtain ⟨b0, rfl, h3⟩ := sg_vs_r hs
  obtain ⟨x', b1, rfl, hx, h1⟩ := sg_vs_i h3
  obtain ⟨b2, rfl, h2⟩ := sg_vs_r h1
  obtain ⟨hab, cell, hcell, hat⟩ := hR.2.2.2 a _ ha
  obtain ⟨-, cb, hcb, hatb⟩ := hR.2.2.2 b _ hb
  have htm : t % 200 = t := Nat.mod_eq_of_lt ht2
  have h9 := hat.2.2
  rw [show (t, vs).1 % 200 = t from htm, if_neg (show ¬ t < 100 by omega)] at h9
  have hab' := hab ht2
  have hxz : x'.toNatClampNeg = z.toNat := by rw [sg_clamp, hx]
  have hr : (sg_ty t).isReference = true := by
    unfold sg_ty
    split <;> first | rfl | omega
  obtain ⟨-, kA, comp, hkA, hkind, hcomp⟩ := sg_ak_moved hW.alike h9.2
  have hcomp := hcomp hr
  have hin := sg_inx (N := cell.slots.size) hx h0 (by rw [h9.1]; exact hz)
  obtain ⟨kv, hkv, hasg⟩ : ∃ kv, s.vm.classes[cb.cls]? = some kv ∧ s.vm.assignable cb.cls comp = true := by
    have h8 := hatb.2.2
    rcases has with ⟨hu, q, hq, hc⟩ | ⟨hu, hc⟩
    · rw [if_pos (show (u, us).1 % 200 < 100 from hu)] at h8
      have hK := ((va_K.moved hW.alike g.2.1).1 _ q hq).2
      obtain ⟨hf, kC, hkC, -⟩ := hK
      refine ⟨kC, by rw [h8.1]; exact hkC, ?_⟩
      rcases hc with hc | ⟨hc, hw⟩
      · rw [hc] at hcomp
        have : comp = w.2.2.1 (u % 200) := Option.some.inj (hcomp.symm.trans hf)
        rw [h8.1, this]
        exact sg_asg _ _
      · rw [hc] at hcomp
        obtain ⟨c1, c2, e1, e2, e3⟩ := Cond.castable_spec (sg_wdc (args := args) g hW hw)
        cases Option.some.inj (e1.symm.trans hf)
        cases Option.some.inj (e2.symm.trans hcomp)
        rw [h8.1]
        exact e3
    · rw [if_neg (show ¬ (u, us).1 % 200 < 100 from Nat.not_lt.mpr hu)] at h8
      obtain ⟨hf, kB, cB, hkB, -, -⟩ := sg_ak_moved hW.alike h8.2
      refine ⟨kB, hkB, ?_⟩
      rcases hc with hc | ⟨hc, hw⟩
      · rw [hc] at hcomp
        have : comp = cb.cls := Option.some.inj (hcomp.symm.trans hf)
        rw [this]
        exact sg_asg _ _
      · rw [hc] at hcomp
        obtain ⟨c1, c2, e1, e2, e3⟩ := Cond.castable_spec (sg_wdc (args := args) g hW hw)
        cases Option.some.inj (e1.symm.trans hf)
        cases Option.some.inj (e2.symm.trans hcomp)
        exact e3
  obtain ⟨kc, hkc⟩ : ∃ kc, s.vm.classes[comp]? = some kc := by obtain ⟨k9, h9, -⟩ := Vm.findClass_spec hcomp; exact ⟨k9, h9⟩
  refine W.aast hF.1 hF.2.1 hcell (fun q h => by rw [hat.1] at h; cases h) (by rw [hat.1]; exact fun h => by cases h) hkA hkind hr hkc ⟨fun q => hin (Or.inl q), Nat.not_le.mp (fun q => hin (Or.inr q))⟩ hcb (fun q h => by rw [hatb.1] at h; cases h) hkv hasg rfl rfl hd fun H' e1 e2 e3 => ?_
  rw [hxz] at e1 ⊢
  exact K p e s m args below meth c H' _ ls _ l hF hW hlv hL h2 (sg_rel_put hR hab' e1 e2 e3 (sg_at_ast hat (by show ¬ t % 200 < 100; omega) rfl (by rw [h9.1]; exact hz))) ⟨sg_loc hO.1 hab', by rw [e2]; exact hO.2⟩
end
end
section
section
variable {w : sg_W} {mi : sg_M} {d mc ms : Nat} {Q : sg_O → sg_H → Prop} {pc : Nat} {lv : List (Nat × sg_V)} {st : List sg_V} {h : sg_H} {k n : Nat}
theorem sg_iaddB {a b : Int} (hd : decode mi.2.1 pc = .ok (.iadd, 1)) (h1 : -2147483648 ≤ a + b) (h2 : a + b ≤ 2147483647) (K : sg_R w mi d mc ms Q (pc + 1) lv (sg_i (a + b) :: st) h k n) : sg_R w mi d mc ms Q pc lv (sg_i b :: sg_i a :: st) h k n := sg_iadd hd (by rw [sg_w_id h1 h2]; exact K)
theorem sg_isubB {a b : Int} (hd : decode mi.2.1 pc = .ok (.isub, 1)) (h1 : -2147483648 ≤ a - b) (h2 : a - b ≤ 2147483647) (K : sg_R w mi d mc ms Q (pc + 1) lv (sg_i (a - b) :: st) h k n) : sg_R w mi d mc ms Q pc lv (sg_i b :: sg_i a :: st) h k n := sg_isub hd (by rw [sg_w_id h1 h2]; exact K)
theorem sg_imulB {a b : Int} (hd : decode mi.2.1 pc = .ok (.imul, 1)) (h1 : -2147483648 ≤ a * b) (h2 : a * b ≤ 2147483647) (K : sg_R w mi d mc ms Q (pc + 1) lv (sg_i (a * b) :: st) h k n) : sg_R w mi d mc ms Q pc lv (sg_i b :: sg_i a :: st) h k n := sg_imul hd (by rw [sg_w_id h1 h2]; exact K)
theorem sg_iincB {j : Nat} {z a : Int} (hd : decode mi.2.1 pc = .ok (.iinc j a, 3)) (hl : sg_lk lv j = some (sg_i z)) (ha : (Int32.ofInt a).toInt = a) (hn : j < mi.2.2.1) (h1 : -2147483648 ≤ z + a) (h2 : z + a ≤ 2147483647) (K : sg_R w mi d mc ms Q (pc + 3) (sg_st j (sg_i (z + a)) lv) st h k n) : sg_R w mi d mc ms Q pc lv st h k n := sg_iinc hd hl ha hn (by rw [sg_w_id h1 h2]; exact K)
theorem sg_K1 {v : sg_V} (K : sg_R w mi d mc ms Q (pc + 3) lv (v :: st) h k n) : sg_K w mi d mc ms Q pc lv st k n (.inl (some v)) h := K
theorem sg_K0 (K : sg_R w mi d mc ms Q (pc + 3) lv st h k n) : sg_K w mi d mc ms Q pc lv st k n (.inl none) h := K
theorem sg_KX {E : String} (hk : k ≤ mc) (hn : n ≤ ms) (K : Q (.inr E) h) : sg_K w mi d mc ms Q pc lv st k n (.inr E) h := ⟨hk, hn, K⟩
theorem sg_cS0 {mi' : sg_M} {d' mc' ms' idx : Nat} (g : sg_G w) (hd : decode mi.2.1 pc = .ok (.invokestatic idx, 3)) (hc : sg_cb mi' 0) (hl : sg_ok (.methodLink mi.1.cls idx mi'.1)) (hsta : sg_ok (.static mi'.1)) (hr : sg_cs st ≤ 8) (hd' : d' + 1 ≤ d) (hk : k + mc' ≤ mc) (hn : n + ms' ≤ ms) (hm : sg_C w mi' d' mc' ms' [] h (sg_K w mi d mc ms Q pc lv st (k + mc') (n + ms'))) : sg_R w mi d mc ms Q pc lv (st) h k n := sg_callS (as := []) (rest := st) g hd hc hl hsta rfl rfl hr hd' hk hn hm
theorem sg_cV0 {mi' : sg_M} {d' mc' ms' idx t b : Nat} {us : List sg_V} {q : vw_C} (g : sg_G w) (hd : decode mi.2.1 pc = .ok (.invokevirtual idx, 3)) (hc : sg_cb mi' 0) (hl : sg_ok (.methodLink mi.1.cls idx mi'.1)) (hin : sg_ok (.instanceMethod mi'.1)) (hsel : sg_ok (.selects q.1 mi'.1 mi'.1)) (hb : h.2 b = some (t, us)) (ht : t % 200 < 100) (hq : vwCl[t % 200]? = some q) (hr : sg_cs st ≤ 8) (hd' : d' + 1 ≤ d) (hk : k + mc' ≤ mc) (hn : n + ms' ≤ ms) (hm : sg_C w mi' d' mc' ms' (sg_r b :: []) h (sg_K w mi d mc ms Q pc lv st (k + mc') (n + ms'))) : sg_R w mi d mc ms Q pc lv (sg_r b :: st) h k n := sg_callV (as := []) (rest := st) g hd hc hl hin hsel hq ht rfl hb rfl hr hd' hk hn hm
theorem sg_cI0 {mi' : sg_M} {d' mc' ms' idx b : Nat} (g : sg_G w) (hd : decode mi.2.1 pc = .ok (.invokespecial idx, 3)) (hc : sg_cb mi' 0) (hrt : mi'.2.2.2 = none) (hnm : mi'.1.name = "<init>") (hl : sg_ok (.methodLink mi.1.cls idx mi'.1)) (hin : sg_ok (.instanceMethod mi'.1)) (hr : sg_cs st ≤ 8) (hd' : d' + 1 ≤ d) (hk : k + mc' ≤ mc) (hn : n + ms' ≤ ms) (hm : sg_C w mi' d' mc' ms' (sg_r b :: []) h (sg_K w mi d mc ms Q pc lv st (k + mc') (n + ms'))) : sg_R w mi d mc ms Q pc lv (sg_r b :: st) h k n := sg_callI (as := []) (rest := st) g hd hc hrt hnm hl hin rfl rfl hr hd' hk hn hm
theorem sg_cS1 {mi' : sg_M} {d' mc' ms' idx : Nat} {a0 : sg_V} (g : sg_G w) (hd : decode mi.2.1 pc = .ok (.invokestatic idx, 3)) (hc : sg_cb mi' 1) (hl : sg_ok (.methodLink mi.1.cls idx mi'.1)) (hsta : sg_ok (.static mi'.1)) (hr : sg_cs st ≤ 8) (hd' : d' + 1 ≤ d) (hk : k + mc' ≤ mc) (hn : n + ms' ≤ ms) (hm : sg_C w mi' d' mc' ms' [a0] h (sg_K w mi d mc ms Q pc lv st (k + mc') (n + ms'))) : sg_R w mi d mc ms Q pc lv (a0 :: st) h k n := sg_callS (as := [a0]) (rest := st) g hd hc hl hsta rfl rfl hr hd' hk hn hm
theorem sg_cV1 {mi' : sg_M} {d' mc' ms' idx t b : Nat} {us : List sg_V} {q : vw_C} {a0 : sg_V} (g : sg_G w) (hd : decode mi.2.1 pc = .ok (.invokevirtual idx, 3)) (hc : sg_cb mi' 1) (hl : sg_ok (.methodLink mi.1.cls idx mi'.1)) (hin : sg_ok (.instanceMethod mi'.1)) (hsel : sg_ok (.selects q.1 mi'.1 mi'.1)) (hb : h.2 b = some (t, us)) (ht : t % 200 < 100) (hq : vwCl[t % 200]? = some q) (hr : sg_cs st ≤ 8) (hd' : d' + 1 ≤ d) (hk : k + mc' ≤ mc) (hn : n + ms' ≤ ms) (hm : sg_C w mi' d' mc' ms' (sg_r b :: [a0]) h (sg_K w mi d mc ms Q pc lv st (k + mc') (n + ms'))) : sg_R w mi d mc ms Q pc lv (a0 :: sg_r b :: st) h k n := sg_callV (as := [a0]) (rest := st) g hd hc hl hin hsel hq ht rfl hb rfl hr hd' hk hn hm
theorem sg_cI1 {mi' : sg_M} {d' mc' ms' idx b : Nat} {a0 : sg_V} (g : sg_G w) (hd : decode mi.2.1 pc = .ok (.invokespecial idx, 3)) (hc : sg_cb mi' 1) (hrt : mi'.2.2.2 = none) (hnm : mi'.1.name = "<init>") (hl : sg_ok (.methodLink mi.1.cls idx mi'.1)) (hin : sg_ok (.instanceMethod mi'.1)) (hr : sg_cs st ≤ 8) (hd' : d' + 1 ≤ d) (hk : k + mc' ≤ mc) (hn : n + ms' ≤ ms) (hm : sg_C w mi' d' mc' ms' (sg_r b :: [a0]) h (sg_K w mi d mc ms Q pc lv st (k + mc') (n + ms'))) : sg_R w mi d mc ms Q pc lv (a0 :: sg_r b :: st) h k n := sg_callI (as := [a0]) (rest := st) g hd hc hrt hnm hl hin rfl rfl hr hd' hk hn hm
theorem sg_cS2 {mi' : sg_M} {d' mc' ms' idx : Nat} {a0 a1 : sg_V} (g : sg_G w) (hd : decode mi.2.1 pc = .ok (.invokestatic idx, 3)) (hc : sg_cb mi' 2) (hl : sg_ok (.methodLink mi.1.cls idx mi'.1)) (hsta : sg_ok (.static mi'.1)) (hr : sg_cs st ≤ 8) (hd' : d' + 1 ≤ d) (hk : k + mc' ≤ mc) (hn : n + ms' ≤ ms) (hm : sg_C w mi' d' mc' ms' [a0, a1] h (sg_K w mi d mc ms Q pc lv st (k + mc') (n + ms'))) : sg_R w mi d mc ms Q pc lv (a1 :: a0 :: st) h k n := sg_callS (as := [a0, a1]) (rest := st) g hd hc hl hsta rfl rfl hr hd' hk hn hm
theorem sg_cV2 {mi' : sg_M} {d' mc' ms' idx t b : Nat} {us : List sg_V} {q : vw_C} {a0 a1 : sg_V} (g : sg_G w) (hd : decode mi.2.1 pc = .ok (.invokevirtual idx, 3)) (hc : sg_cb mi' 2) (hl : sg_ok (.methodLink mi.1.cls idx mi'.1)) (hin : sg_ok (.instanceMethod mi'.1)) (hsel : sg_ok (.selects q.1 mi'.1 mi'.1)) (hb : h.2 b = some (t, us)) (ht : t % 200 < 100) (hq : vwCl[t % 200]? = some q) (hr : sg_cs st ≤ 8) (hd' : d' + 1 ≤ d) (hk : k + mc' ≤ mc) (hn : n + ms' ≤ ms) (hm : sg_C w mi' d' mc' ms' (sg_r b :: [a0, a1]) h (sg_K w mi d mc ms Q pc lv st (k + mc') (n + ms'))) : sg_R w mi d mc ms Q pc lv (a1 :: a0 :: sg_r b :: st) h k n := sg_callV (as := [a0, a1]) (rest := st) g hd hc hl hin hsel hq ht rfl hb rfl hr hd' hk hn hm
theorem sg_cI2 {mi' : sg_M} {d' mc' ms' idx b : Nat} {a0 a1 : sg_V} (g : sg_G w) (hd : decode mi.2.1 pc = .ok (.invokespecial idx, 3)) (hc : sg_cb mi' 2) (hrt : mi'.2.2.2 = none) (hnm : mi'.1.name = "<init>") (hl : sg_ok (.methodLink mi.1.cls idx mi'.1)) (hin : sg_ok (.instanceMethod mi'.1)) (hr : sg_cs st ≤ 8) (hd' : d' + 1 ≤ d) (hk : k + mc' ≤ mc) (hn : n + ms' ≤ ms) (hm : sg_C w mi' d' mc' ms' (sg_r b :: [a0, a1]) h (sg_K w mi d mc ms Q pc lv st (k + mc') (n + ms'))) : sg_R w mi d mc ms Q pc lv (a1 :: a0 :: sg_r b :: st) h k n := sg_callI (as := [a0, a1]) (rest := st) g hd hc hrt hnm hl hin rfl rfl hr hd' hk hn hm
theorem sg_cS3 {mi' : sg_M} {d' mc' ms' idx : Nat} {a0 a1 a2 : sg_V} (g : sg_G w) (hd : decode mi.2.1 pc = .ok (.invokestatic idx, 3)) (hc : sg_cb mi' 3) (hl : sg_ok (.methodLink mi.1.cls idx mi'.1)) (hsta : sg_ok (.static mi'.1)) (hr : sg_cs st ≤ 8) (hd' : d' + 1 ≤ d) (hk : k + mc' ≤ mc) (hn : n + ms' ≤ ms) (hm : sg_C w mi' d' mc' ms' [a0, a1, a2] h (sg_K w mi d mc ms Q pc lv st (k + mc') (n + ms'))) : sg_R w mi d mc ms Q pc lv (a2 :: a1 :: a0 :: st) h k n := sg_callS (as := [a0, a1, a2]) (rest := st) g hd hc hl hsta rfl rfl hr hd' hk hn hm
theorem sg_cV3 {mi' : sg_M} {d' mc' ms' idx t b : Nat} {us : List sg_V} {q : vw_C} {a0 a1 a2 : sg_V} (g : sg_G w) (hd : decode mi.2.1 pc = .ok (.invokevirtual idx, 3)) (hc : sg_cb mi' 3) (hl : sg_ok (.methodLink mi.1.cls idx mi'.1)) (hin : sg_ok (.instanceMethod mi'.1)) (hsel : sg_ok (.selects q.1 mi'.1 mi'.1)) (hb : h.2 b = some (t, us)) (ht : t % 200 < 100) (hq : vwCl[t % 200]? = some q) (hr : sg_cs st ≤ 8) (hd' : d' + 1 ≤ d) (hk : k + mc' ≤ mc) (hn : n + ms' ≤ ms) (hm : sg_C w mi' d' mc' ms' (sg_r b :: [a0, a1, a2]) h (sg_K w mi d mc ms Q pc lv st (k + mc') (n + ms'))) : sg_R w mi d mc ms Q pc lv (a2 :: a1 :: a0 :: sg_r b :: st) h k n := sg_callV (as := [a0, a1, a2]) (rest := st) g hd hc hl hin hsel hq ht rfl hb rfl hr hd' hk hn hm
theorem sg_cI3 {mi' : sg_M} {d' mc' ms' idx b : Nat} {a0 a1 a2 : sg_V} (g : sg_G w) (hd : decode mi.2.1 pc = .ok (.invokespecial idx, 3)) (hc : sg_cb mi' 3) (hrt : mi'.2.2.2 = none) (hnm : mi'.1.name = "<init>") (hl : sg_ok (.methodLink mi.1.cls idx mi'.1)) (hin : sg_ok (.instanceMethod mi'.1)) (hr : sg_cs st ≤ 8) (hd' : d' + 1 ≤ d) (hk : k + mc' ≤ mc) (hn : n + ms' ≤ ms) (hm : sg_C w mi' d' mc' ms' (sg_r b :: [a0, a1, a2]) h (sg_K w mi d mc ms Q pc lv st (k + mc') (n + ms'))) : sg_R w mi d mc ms Q pc lv (a2 :: a1 :: a0 :: sg_r b :: st) h k n := sg_callI (as := [a0, a1, a2]) (rest := st) g hd hc hrt hnm hl hin rfl rfl hr hd' hk hn hm
theorem sg_cS4 {mi' : sg_M} {d' mc' ms' idx : Nat} {a0 a1 a2 a3 : sg_V} (g : sg_G w) (hd : decode mi.2.1 pc = .ok (.invokestatic idx, 3)) (hc : sg_cb mi' 4) (hl : sg_ok (.methodLink mi.1.cls idx mi'.1)) (hsta : sg_ok (.static mi'.1)) (hr : sg_cs st ≤ 8) (hd' : d' + 1 ≤ d) (hk : k + mc' ≤ mc) (hn : n + ms' ≤ ms) (hm : sg_C w mi' d' mc' ms' [a0, a1, a2, a3] h (sg_K w mi d mc ms Q pc lv st (k + mc') (n + ms'))) : sg_R w mi d mc ms Q pc lv (a3 :: a2 :: a1 :: a0 :: st) h k n := sg_callS (as := [a0, a1, a2, a3]) (rest := st) g hd hc hl hsta rfl rfl hr hd' hk hn hm
theorem sg_cV4 {mi' : sg_M} {d' mc' ms' idx t b : Nat} {us : List sg_V} {q : vw_C} {a0 a1 a2 a3 : sg_V} (g : sg_G w) (hd : decode mi.2.1 pc = .ok (.invokevirtual idx, 3)) (hc : sg_cb mi' 4) (hl : sg_ok (.methodLink mi.1.cls idx mi'.1)) (hin : sg_ok (.instanceMethod mi'.1)) (hsel : sg_ok (.selects q.1 mi'.1 mi'.1)) (hb : h.2 b = some (t, us)) (ht : t % 200 < 100) (hq : vwCl[t % 200]? = some q) (hr : sg_cs st ≤ 8) (hd' : d' + 1 ≤ d) (hk : k + mc' ≤ mc) (hn : n + ms' ≤ ms) (hm : sg_C w mi' d' mc' ms' (sg_r b :: [a0, a1, a2, a3]) h (sg_K w mi d mc ms Q pc lv st (k + mc') (n + ms'))) : sg_R w mi d mc ms Q pc lv (a3 :: a2 :: a1 :: a0 :: sg_r b :: st) h k n := sg_callV (as := [a0, a1, a2, a3]) (rest := st) g hd hc hl hin hsel hq ht rfl hb rfl hr hd' hk hn hm
theorem sg_cI4 {mi' : sg_M} {d' mc' ms' idx b : Nat} {a0 a1 a2 a3 : sg_V} (g : sg_G w) (hd : decode mi.2.1 pc = .ok (.invokespecial idx, 3)) (hc : sg_cb mi' 4) (hrt : mi'.2.2.2 = none) (hnm : mi'.1.name = "<init>") (hl : sg_ok (.methodLink mi.1.cls idx mi'.1)) (hin : sg_ok (.instanceMethod mi'.1)) (hr : sg_cs st ≤ 8) (hd' : d' + 1 ≤ d) (hk : k + mc' ≤ mc) (hn : n + ms' ≤ ms) (hm : sg_C w mi' d' mc' ms' (sg_r b :: [a0, a1, a2, a3]) h (sg_K w mi d mc ms Q pc lv st (k + mc') (n + ms'))) : sg_R w mi d mc ms Q pc lv (a3 :: a2 :: a1 :: a0 :: sg_r b :: st) h k n := sg_callI (as := [a0, a1, a2, a3]) (rest := st) g hd hc hrt hnm hl hin rfl rfl hr hd' hk hn hm
theorem sg_cS5 {mi' : sg_M} {d' mc' ms' idx : Nat} {a0 a1 a2 a3 a4 : sg_V} (g : sg_G w) (hd : decode mi.2.1 pc = .ok (.invokestatic idx, 3)) (hc : sg_cb mi' 5) (hl : sg_ok (.methodLink mi.1.cls idx mi'.1)) (hsta : sg_ok (.static mi'.1)) (hr : sg_cs st ≤ 8) (hd' : d' + 1 ≤ d) (hk : k + mc' ≤ mc) (hn : n + ms' ≤ ms) (hm : sg_C w mi' d' mc' ms' [a0, a1, a2, a3, a4] h (sg_K w mi d mc ms Q pc lv st (k + mc') (n + ms'))) : sg_R w mi d mc ms Q pc lv (a4 :: a3 :: a2 :: a1 :: a0 :: st) h k n := sg_callS (as := [a0, a1, a2, a3, a4]) (rest := st) g hd hc hl hsta rfl rfl hr hd' hk hn hm
theorem sg_cV5 {mi' : sg_M} {d' mc' ms' idx t b : Nat} {us : List sg_V} {q : vw_C} {a0 a1 a2 a3 a4 : sg_V} (g : sg_G w) (hd : decode mi.2.1 pc = .ok (.invokevirtual idx, 3)) (hc : sg_cb mi' 5) (hl : sg_ok (.methodLink mi.1.cls idx mi'.1)) (hin : sg_ok (.instanceMethod mi'.1)) (hsel : sg_ok (.selects q.1 mi'.1 mi'.1)) (hb : h.2 b = some (t, us)) (ht : t % 200 < 100) (hq : vwCl[t % 200]? = some q) (hr : sg_cs st ≤ 8) (hd' : d' + 1 ≤ d) (hk : k + mc' ≤ mc) (hn : n + ms' ≤ ms) (hm : sg_C w mi' d' mc' ms' (sg_r b :: [a0, a1, a2, a3, a4]) h (sg_K w mi d mc ms Q pc lv st (k + mc') (n + ms'))) : sg_R w mi d mc ms Q pc lv (a4 :: a3 :: a2 :: a1 :: a0 :: sg_r b :: st) h k n := sg_callV (as := [a0, a1, a2, a3, a4]) (rest := st) g hd hc hl hin hsel hq ht rfl hb rfl hr hd' hk hn hm
theorem sg_cI5 {mi' : sg_M} {d' mc' ms' idx b : Nat} {a0 a1 a2 a3 a4 : sg_V} (g : sg_G w) (hd : decode mi.2.1 pc = .ok (.invokespecial idx, 3)) (hc : sg_cb mi' 5) (hrt : mi'.2.2.2 = none) (hnm : mi'.1.name = "<init>") (hl : sg_ok (.methodLink mi.1.cls idx mi'.1)) (hin : sg_ok (.instanceMethod mi'.1)) (hr : sg_cs st ≤ 8) (hd' : d' + 1 ≤ d) (hk : k + mc' ≤ mc) (hn : n + ms' ≤ ms) (hm : sg_C w mi' d' mc' ms' (sg_r b :: [a0, a1, a2, a3, a4]) h (sg_K w mi d mc ms Q pc lv st (k + mc') (n + ms'))) : sg_R w mi d mc ms Q pc lv (a4 :: a3 :: a2 :: a1 :: a0 :: sg_r b :: st) h k n := sg_callI (as := [a0, a1, a2, a3, a4]) (rest := st) g hd hc hrt hnm hl hin rfl rfl hr hd' hk hn hm
theorem sg_cS6 {mi' : sg_M} {d' mc' ms' idx : Nat} {a0 a1 a2 a3 a4 a5 : sg_V} (g : sg_G w) (hd : decode mi.2.1 pc = .ok (.invokestatic idx, 3)) (hc : sg_cb mi' 6) (hl : sg_ok (.methodLink mi.1.cls idx mi'.1)) (hsta : sg_ok (.static mi'.1)) (hr : sg_cs st ≤ 8) (hd' : d' + 1 ≤ d) (hk : k + mc' ≤ mc) (hn : n + ms' ≤ ms) (hm : sg_C w mi' d' mc' ms' [a0, a1, a2, a3, a4, a5] h (sg_K w mi d mc ms Q pc lv st (k + mc') (n + ms'))) : sg_R w mi d mc ms Q pc lv (a5 :: a4 :: a3 :: a2 :: a1 :: a0 :: st) h k n := sg_callS (as := [a0, a1, a2, a3, a4, a5]) (rest := st) g hd hc hl hsta rfl rfl hr hd' hk hn hm
theorem sg_cV6 {mi' : sg_M} {d' mc' ms' idx t b : Nat} {us : List sg_V} {q : vw_C} {a0 a1 a2 a3 a4 a5 : sg_V} (g : sg_G w) (hd : decode mi.2.1 pc = .ok (.invokevirtual idx, 3)) (hc : sg_cb mi' 6) (hl : sg_ok (.methodLink mi.1.cls idx mi'.1)) (hin : sg_ok (.instanceMethod mi'.1)) (hsel : sg_ok (.selects q.1 mi'.1 mi'.1)) (hb : h.2 b = some (t, us)) (ht : t % 200 < 100) (hq : vwCl[t % 200]? = some q) (hr : sg_cs st ≤ 8) (hd' : d' + 1 ≤ d) (hk : k + mc' ≤ mc) (hn : n + ms' ≤ ms) (hm : sg_C w mi' d' mc' ms' (sg_r b :: [a0, a1, a2, a3, a4, a5]) h (sg_K w mi d mc ms Q pc lv st (k + mc') (n + ms'))) : sg_R w mi d mc ms Q pc lv (a5 :: a4 :: a3 :: a2 :: a1 :: a0 :: sg_r b :: st) h k n := sg_callV (as := [a0, a1, a2, a3, a4, a5]) (rest := st) g hd hc hl hin hsel hq ht rfl hb rfl hr hd' hk hn hm
theorem sg_cI6 {mi' : sg_M} {d' mc' ms' idx b : Nat} {a0 a1 a2 a3 a4 a5 : sg_V} (g : sg_G w) (hd : decode mi.2.1 pc = .ok (.invokespecial idx, 3)) (hc : sg_cb mi' 6) (hrt : mi'.2.2.2 = none) (hnm : mi'.1.name = "<init>") (hl : sg_ok (.methodLink mi.1.cls idx mi'.1)) (hin : sg_ok (.instanceMethod mi'.1)) (hr : sg_cs st ≤ 8) (hd' : d' + 1 ≤ d) (hk : k + mc' ≤ mc) (hn : n + ms' ≤ ms) (hm : sg_C w mi' d' mc' ms' (sg_r b :: [a0, a1, a2, a3, a4, a5]) h (sg_K w mi d mc ms Q pc lv st (k + mc') (n + ms'))) : sg_R w mi d mc ms Q pc lv (a5 :: a4 :: a3 :: a2 :: a1 :: a0 :: sg_r b :: st) h k n := sg_callI (as := [a0, a1, a2, a3, a4, a5]) (rest := st) g hd hc hrt hnm hl hin rfl rfl hr hd' hk hn hm
theorem sg_cS7 {mi' : sg_M} {d' mc' ms' idx : Nat} {a0 a1 a2 a3 a4 a5 a6 : sg_V} (g : sg_G w) (hd : decode mi.2.1 pc = .ok (.invokestatic idx, 3)) (hc : sg_cb mi' 7) (hl : sg_ok (.methodLink mi.1.cls idx mi'.1)) (hsta : sg_ok (.static mi'.1)) (hr : sg_cs st ≤ 8) (hd' : d' + 1 ≤ d) (hk : k + mc' ≤ mc) (hn : n + ms' ≤ ms) (hm : sg_C w mi' d' mc' ms' [a0, a1, a2, a3, a4, a5, a6] h (sg_K w mi d mc ms Q pc lv st (k + mc') (n + ms'))) : sg_R w mi d mc ms Q pc lv (a6 :: a5 :: a4 :: a3 :: a2 :: a1 :: a0 :: st) h k n := sg_callS (as := [a0, a1, a2, a3, a4, a5, a6]) (rest := st) g hd hc hl hsta rfl rfl hr hd' hk hn hm
end
theorem sg_C_mono {w : sg_W} {mi : sg_M} {d mc ms : Nat} {as : List sg_V} {h : sg_H} {Q Q' : sg_O → sg_H → Prop} (hm : sg_C w mi d mc ms as h Q) (hQ : ∀ o h', Q o h' → Q' o h') : sg_C w mi d mc ms as h Q' := by
  unfold sg_C vx_Met at hm ⊢
  refine MetFree.mono hm (fun _ _ h => h) (fun _ _ _ _ _ h => h) (fun a st o t _ hq => ?_)
  rcases hq with ⟨⟨v, c, h', e1, e2, e3, e4⟩, e5⟩ | ⟨q, e1, E, ce, L, ⟨h', e2, e3⟩, e4⟩
  · exact Or.inl ⟨⟨v, c, h', e1, e2, e3, hQ _ _ e4⟩, e5⟩
  · exact Or.inr ⟨q, e1, E, ce, L, ⟨h', e2, hQ _ _ e3⟩, e4⟩
def sg_sb (lv : List (Nat × sg_V)) : List (Nat × sg_V) → Prop
  | [] => True
  | q :: r => sg_lk lv q.1 = some q.2 ∧ sg_sb lv r
theorem sg_sb_in {lv : List (Nat × sg_V)} : ∀ {lv' : List (Nat × sg_V)}, sg_sb lv lv' → ∀ q ∈ lv', sg_lk lv q.1 = some q.2
  | [], _, q, hq => (nomatch hq)
  | x :: r, hs, q, hq => (List.mem_cons.mp hq).elim (fun e => e ▸ hs.1) (fun hq => sg_sb_in hs.2 q hq)
theorem sg_lsub {w : sg_W} {mi : sg_M} {d mc ms : Nat} {Q : sg_O → sg_H → Prop} {pc : Nat} {lv lv' : List (Nat × sg_V)} {st : List sg_V} {h : sg_H} {k n : Nat} (hs : sg_sb lv lv') (K : sg_R w mi d mc ms Q pc lv' st h k n) : sg_R w mi d mc ms Q pc lv st h k n := by
  intro p e s m args below meth c H locs ls sv l hF hW hlv hL hsv hR hO
  have key : ∀ lv2 : List (Nat × sg_V), (∀ q ∈ lv2, sg_lk lv q.1 = some q.2) → ∃ l2, (∀ r ∈ l2, r ∈ l) ∧ sg_L lv2 l2 := by
    intro lv2
    induction lv2 with
    | nil => intro _; exact ⟨[], fun _ h => (nomatch h), trivial⟩
    | cons q a ih =>
      intro hq
      obtain ⟨c9, h1, h2⟩ := sg_lk_at (hq q List.mem_cons_self) hL
      obtain ⟨l2, h3, h4⟩ := ih (fun x hx => hq x (List.mem_cons_of_mem _ hx))
      exact ⟨(q.1, c9) :: l2, fun r hr => (List.mem_cons.mp hr).elim (fun z => z ▸ h1) (h3 r), rfl, h2, h4⟩
  obtain ⟨l2, h3, h4⟩ := key lv' (sg_sb_in hs)
  exact K p e s m args below meth c H locs ls sv l2 hF hW ⟨hlv.1, hlv.2.1, fun q hq => hlv.2.2 q (h3 q hq)⟩ h4 hsv hR hO
end
section
def mi_X5_init : sg_M := (yX5_init, cX5_init, 1, (none : Option Jvm.ClassFile.FieldType))
def mi_X3_init : sg_M := (yX3_init, cX3_init, 2, (none : Option Jvm.ClassFile.FieldType))
def mi_X0_init : sg_M := (yX0_init, cX0_init, 2, (none : Option Jvm.ClassFile.FieldType))
def mi_X1_init : sg_M := (yX1_init, cX1_init, 2, (none : Option Jvm.ClassFile.FieldType))
def mi_X5_knock : sg_M := (yX5_knock, cX5_knock, 1, (some .int))
def mi_X5_digit : sg_M := (yX5_digit, cX5_digit, 3, (some .int))
def mi_X2_digitOf : sg_M := (yX2_digitOf, cX2_digitOf, 2, (some .int))
def mi_X2_isRadix : sg_M := (yX2_isRadix, cX2_isRadix, 1, (some .boolean))
def mi_X2_isBetween : sg_M := (yX2_isBetween, cX2_isBetween, 3, (some .boolean))
def mi_X5_isCode : sg_M := (yX5_isCode, cX5_isCode, 2, (some .boolean))
def mi_X4_isAnyCode : sg_M := (yX4_isAnyCode, cX4_isAnyCode, 1, (some .boolean))
def mi_X5_isPlain : sg_M := (yX5_isPlain, cX5_isPlain, 2, (some .boolean))
def mi_X4_isUnit : sg_M := (yX4_isUnit, cX4_isUnit, 1, (some .boolean))
def mi_X5_isWide : sg_M := (yX5_isWide, cX5_isWide, 2, (some .boolean))
def mi_X4_isWideCode : sg_M := (yX4_isWideCode, cX4_isWideCode, 1, (some .boolean))
def mi_X5_units : sg_M := (yX5_units, cX5_units, 2, (some .int))
def mi_X4_unitsOf : sg_M := (yX4_unitsOf, cX4_unitsOf, 1, (some .int))
def mi_X5_isSound : sg_M := (yX5_isSound, cX5_isSound, 2, (some .boolean))
def mi_X5_rowOf : sg_M := (yX5_rowOf, cX5_rowOf, 2, (some (.object "Signkinds$Line")))
def mi_X5_isSoundRow : sg_M := (yX5_isSoundRow, cX5_isSoundRow, 2, (some .boolean))
def mi_X0_size : sg_M := (yX0_size, cX0_size, 1, (some .int))
def mi_X0_get : sg_M := (yX0_get, cX0_get, 2, (some .int))
def mi_X0_hasPlace : sg_M := (yX0_hasPlace, cX0_hasPlace, 2, (some .boolean))
def mi_X2_isSoundSign : sg_M := (yX2_isSoundSign, cX2_isSoundSign, 4, (some .boolean))
def mi_X2_isOf : sg_M := (yX2_isOf, cX2_isOf, 2, (some .boolean))
def mi_X2_isPlainDigit : sg_M := (yX2_isPlainDigit, cX2_isPlainDigit, 1, (some .boolean))
def mi_X2_isAnyLetter : sg_M := (yX2_isAnyLetter, cX2_isAnyLetter, 1, (some .boolean))
def mi_X2_isGreatPlain : sg_M := (yX2_isGreatPlain, cX2_isGreatPlain, 1, (some .boolean))
def mi_X2_isSmallPlain : sg_M := (yX2_isSmallPlain, cX2_isSmallPlain, 1, (some .boolean))
def mi_X2_isAnyGreat : sg_M := (yX2_isAnyGreat, cX2_isAnyGreat, 1, (some .boolean))
def mi_X2_lowerOf : sg_M := (yX2_lowerOf, cX2_lowerOf, 1, (some .int))
def mi_X2_upperOf : sg_M := (yX2_upperOf, cX2_upperOf, 1, (some .int))
def mi_X2_numberOf : sg_M := (yX2_numberOf, cX2_numberOf, 3, (some .int))
def mi_X2_plainValueOf : sg_M := (yX2_plainValueOf, cX2_plainValueOf, 1, (some .int))
def mi_X5_trackOf : sg_M := (yX5_trackOf, cX5_trackOf, 2, (some (.object "Signkinds$Line")))
def mi_X5_isSoundTrack : sg_M := (yX5_isSoundTrack, cX5_isSoundTrack, 1, (some .boolean))
def mi_X4_areSentAgain : sg_M := (yX4_areSentAgain, cX4_areSentAgain, 4, (some .boolean))
def mi_X4_isCodeBegin : sg_M := (yX4_isCodeBegin, cX4_isCodeBegin, 2, (some .boolean))
def mi_X4_isLow : sg_M := (yX4_isLow, cX4_isLow, 1, (some .boolean))
def mi_X4_isHigh : sg_M := (yX4_isHigh, cX4_isHigh, 1, (some .boolean))
def mi_X4_codeFrom : sg_M := (yX4_codeFrom, cX4_codeFrom, 3, (some .int))
def mi_X4_codeOf : sg_M := (yX4_codeOf, cX4_codeOf, 2, (some .int))
def mi_X4_standsAt : sg_M := (yX4_standsAt, cX4_standsAt, 3, (some .boolean))
def mi_X4_highOf : sg_M := (yX4_highOf, cX4_highOf, 1, (some .int))
def mi_X4_lowOf : sg_M := (yX4_lowOf, cX4_lowOf, 1, (some .int))
def mi_X5_digest : sg_M := (yX5_digest, cX5_digest, 4, (some .long))
def mi_X5_withRow : sg_M := (yX5_withRow, cX5_withRow, 9, (some .long))
def mi_X5_with : sg_M := (yX5_with, cX5_with, 4, (some .long))
def mi_X2_kindsOf : sg_M := (yX2_kindsOf, cX2_kindsOf, 3, (some .int))
def mi_X2_signValue : sg_M := (yX2_signValue, cX2_signValue, 1, (some .int))
def mi_X5_count : sg_M := (yX5_count, cX5_count, 6, (some .int))
def mi_X5_checkKind : sg_M := (yX5_checkKind, cX5_checkKind, 1, (none : Option Jvm.ClassFile.FieldType))
def mi_X5_told : sg_M := (yX5_told, cX5_told, 7, (some .int))
def mi_X5_checkRadix : sg_M := (yX5_checkRadix, cX5_checkRadix, 1, (none : Option Jvm.ClassFile.FieldType))
def mi_X5_values : sg_M := (yX5_values, cX5_values, 6, (some .int))
def mi_X5_words : sg_M := (yX5_words, cX5_words, 5, (some .int))
def mi_X5_isWordBegin : sg_M := (yX5_isWordBegin, cX5_isWordBegin, 2, (some .boolean))
def mi_X5_order : sg_M := (yX5_order, cX5_order, 6, (some .int))
def mi_X5_ahead : sg_M := (yX5_ahead, cX5_ahead, 2, (some .int))
def mi_X5_isAlike : sg_M := (yX5_isAlike, cX5_isAlike, 6, (some .boolean))
def mi_X5_withTrack : sg_M := (yX5_withTrack, cX5_withTrack, 10, (some .long))
def mi_X4_howMany : sg_M := (yX4_howMany, cX4_howMany, 4, (some .int))
def mi_X4_isCounted : sg_M := (yX4_isCounted, cX4_isCounted, 2, (some .boolean))
def mi_X4_isHalf : sg_M := (yX4_isHalf, cX4_isHalf, 1, (some .boolean))
def mi_X5_ofUnit : sg_M := (yX5_ofUnit, cX5_ofUnit, 3, (some .int))
def mi_X5_checkUnit : sg_M := (yX5_checkUnit, cX5_checkUnit, 1, (none : Option Jvm.ClassFile.FieldType))
def mi_X4_turned : sg_M := (yX4_turned, cX4_turned, 1, (some .int))
def mi_X5_house : sg_M := (yX5_house, cX5_house, 2, (some .int))
def mi_X3_howManySigns : sg_M := (yX3_howManySigns, cX3_howManySigns, 3, (some .int))
def mi_X3_howManyUnits : sg_M := (yX3_howManyUnits, cX3_howManyUnits, 3, (some .int))
def mi_X1_size : sg_M := (yX1_size, cX1_size, 1, (some .int))
def mi_X6_init : sg_M := (yX6_init, cX6_init, 1, (none : Option Jvm.ClassFile.FieldType))
def mi_L_lay : sg_M := (yL_lay, cL_lay, 8, (some .int))
def hh_L_lay : List (Nat × Nat × Nat × Nat) := [((0), (17), (20), (19)), ((0), (17), (24), (21)), ((0), (17), (28), (23))]
def mi_X5_lay : sg_M := (yX5_lay, cX5_lay, 8, (some .int))
def mi_X5_laid : sg_M := (yX5_laid, cX5_laid, 1, (some .int))
def mi_X5_checkSign : sg_M := (yX5_checkSign, cX5_checkSign, 1, (none : Option Jvm.ClassFile.FieldType))
def mi_X2_isSign : sg_M := (yX2_isSign, cX2_isSign, 1, (some .boolean))
def mi_X0_hasRoomFor : sg_M := (yX0_hasRoomFor, cX0_hasRoomFor, 2, (some .boolean))
def mi_X1_keep : sg_M := (yX1_keep, cX1_keep, 4, (none : Option Jvm.ClassFile.FieldType))
def mi_X3_become : sg_M := (yX3_become, cX3_become, 3, (none : Option Jvm.ClassFile.FieldType))
def mi_X0_become : sg_M := (yX0_become, cX0_become, 3, (none : Option Jvm.ClassFile.FieldType))
def mi_X0_add : sg_M := (yX0_add, cX0_add, 2, (none : Option Jvm.ClassFile.FieldType))
def mi_X5_addLaid : sg_M := (yX5_addLaid, cX5_addLaid, 2, (none : Option Jvm.ClassFile.FieldType))
def mi_L_drop : sg_M := (yL_drop, cL_drop, 5, (some .int))
def hh_L_drop : List (Nat × Nat × Nat × Nat) := [((0), (11), (14), (19)), ((0), (11), (18), (21))]
def mi_X5_drop : sg_M := (yX5_drop, cX5_drop, 3, (some .int))
def mi_X5_shorten : sg_M := (yX5_shorten, cX5_shorten, 3, (some .int))
def mi_X0_takeAway : sg_M := (yX0_takeAway, cX0_takeAway, 2, (none : Option Jvm.ClassFile.FieldType))
def mi_L_copy : sg_M := (yL_copy, cL_copy, 5, (some .int))
def hh_L_copy : List (Nat × Nat × Nat × Nat) := [((0), (11), (14), (19))]
def mi_X5_copy : sg_M := (yX5_copy, cX5_copy, 6, (some .int))
def mi_L_raise : sg_M := (yL_raise, cL_raise, 4, (some .int))
def hh_L_raise : List (Nat × Nat × Nat × Nat) := [((0), (10), (13), (19))]
def mi_X5_raise : sg_M := (yX5_raise, cX5_raise, 6, (some .int))
def mi_X0_set : sg_M := (yX0_set, cX0_set, 3, (none : Option Jvm.ClassFile.FieldType))
def mi_L_sink : sg_M := (yL_sink, cL_sink, 4, (some .int))
def hh_L_sink : List (Nat × Nat × Nat × Nat) := [((0), (10), (13), (19))]
def mi_X5_sink : sg_M := (yX5_sink, cX5_sink, 6, (some .int))
def mi_L_sieve : sg_M := (yL_sieve, cL_sieve, 6, (some .int))
def hh_L_sieve : List (Nat × Nat × Nat × Nat) := [((0), (13), (16), (19)), ((0), (13), (20), (21))]
def mi_X5_sieve : sg_M := (yX5_sieve, cX5_sieve, 8, (some .int))
def mi_L_strip : sg_M := (yL_strip, cL_strip, 4, (some .int))
def hh_L_strip : List (Nat × Nat × Nat × Nat) := [((0), (10), (13), (19))]
def mi_X5_strip : sg_M := (yX5_strip, cX5_strip, 6, (some .int))
def mi_X0_narrow : sg_M := (yX0_narrow, cX0_narrow, 4, (none : Option Jvm.ClassFile.FieldType))
def mi_L_turn : sg_M := (yL_turn, cL_turn, 4, (some .int))
def hh_L_turn : List (Nat × Nat × Nat × Nat) := [((0), (10), (13), (19))]
def mi_X5_turn : sg_M := (yX5_turn, cX5_turn, 3, (some .int))
def mi_X0_turnRound : sg_M := (yX0_turnRound, cX0_turnRound, 4, (none : Option Jvm.ClassFile.FieldType))
def mi_L_write : sg_M := (yL_write, cL_write, 6, (some .int))
def hh_L_write : List (Nat × Nat × Nat × Nat) := [((0), (13), (16), (19)), ((0), (13), (20), (21))]
def mi_X5_write : sg_M := (yX5_write, cX5_write, 7, (some .int))
def mi_X2_digitsOf : sg_M := (yX2_digitsOf, cX2_digitsOf, 3, (some .int))
def mi_X2_shifted : sg_M := (yX2_shifted, cX2_shifted, 5, (some .int))
def mi_X2_digitNumber : sg_M := (yX2_digitNumber, cX2_digitNumber, 3, (some .int))
def mi_L_spell : sg_M := (yL_spell, cL_spell, 5, (some .int))
def hh_L_spell : List (Nat × Nat × Nat × Nat) := [((0), (11), (14), (19)), ((0), (11), (18), (21))]
def mi_X5_spell : sg_M := (yX5_spell, cX5_spell, 6, (some .int))
def mi_X5_checkAreTwo : sg_M := (yX5_checkAreTwo, cX5_checkAreTwo, 2, (none : Option Jvm.ClassFile.FieldType))
def mi_X0_clear : sg_M := (yX0_clear, cX0_clear, 1, (none : Option Jvm.ClassFile.FieldType))
def mi_X2_firstSpelled : sg_M := (yX2_firstSpelled, cX2_firstSpelled, 1, (some .int))
def mi_X2_secondSpelled : sg_M := (yX2_secondSpelled, cX2_secondSpelled, 1, (some .int))
def mi_L_read : sg_M := (yL_read, cL_read, 5, (some .int))
def hh_L_read : List (Nat × Nat × Nat × Nat) := [((0), (11), (14), (19)), ((0), (11), (18), (21))]
def mi_X5_read : sg_M := (yX5_read, cX5_read, 8, (some .int))
def mi_X5_canBeRead : sg_M := (yX5_canBeRead, cX5_canBeRead, 2, (some .boolean))
def mi_L_send : sg_M := (yL_send, cL_send, 5, (some .int))
def hh_L_send : List (Nat × Nat × Nat × Nat) := [((0), (11), (14), (19)), ((0), (11), (18), (21))]
def mi_X5_send : sg_M := (yX5_send, cX5_send, 4, (some .int))
def mi_X4_addCode : sg_M := (yX4_addCode, cX4_addCode, 2, (none : Option Jvm.ClassFile.FieldType))
def mi_L_put : sg_M := (yL_put, cL_put, 5, (some .int))
def hh_L_put : List (Nat × Nat × Nat × Nat) := [((0), (11), (14), (19)), ((0), (11), (18), (21))]
def mi_X5_put : sg_M := (yX5_put, cX5_put, 4, (some .int))
def mi_L_cut : sg_M := (yL_cut, cL_cut, 5, (some .int))
def hh_L_cut : List (Nat × Nat × Nat × Nat) := [((0), (11), (14), (19)), ((0), (11), (18), (21))]
def mi_X5_cut : sg_M := (yX5_cut, cX5_cut, 3, (some .int))
def mi_L_flip : sg_M := (yL_flip, cL_flip, 4, (some .int))
def hh_L_flip : List (Nat × Nat × Nat × Nat) := [((0), (10), (13), (19))]
def mi_X5_flip : sg_M := (yX5_flip, cX5_flip, 6, (some .int))
def mi_L_reverse : sg_M := (yL_reverse, cL_reverse, 4, (some .int))
def hh_L_reverse : List (Nat × Nat × Nat × Nat) := [((0), (10), (13), (19))]
def mi_X5_reverse : sg_M := (yX5_reverse, cX5_reverse, 4, (some .int))
def mi_X4_listCodes : sg_M := (yX4_listCodes, cX4_listCodes, 3, (none : Option Jvm.ClassFile.FieldType))
def mi_L_undo : sg_M := (yL_undo, cL_undo, 3, (some .int))
def hh_L_undo : List (Nat × Nat × Nat × Nat) := [((0), (9), (12), (23))]
def mi_X5_undo : sg_M := (yX5_undo, cX5_undo, 1, (some .int))
def mi_X1_bringBack : sg_M := (yX1_bringBack, cX1_bringBack, 4, (none : Option Jvm.ClassFile.FieldType))
def mi_L_isDigit : sg_M := (yL_isDigit, cL_isDigit, 4, (some .int))
def hh_L_isDigit : List (Nat × Nat × Nat × Nat) := [((0), (17), (20), (21))]
def mi_X5_isDigit : sg_M := (yX5_isDigit, cX5_isDigit, 2, (some .boolean))
def mi_L_isLetter : sg_M := (yL_isLetter, cL_isLetter, 4, (some .int))
def hh_L_isLetter : List (Nat × Nat × Nat × Nat) := [((0), (17), (20), (21))]
def mi_X5_isLetter : sg_M := (yX5_isLetter, cX5_isLetter, 2, (some .boolean))
def mi_L_isLetterOrDigit : sg_M := (yL_isLetterOrDigit, cL_isLetterOrDigit, 4, (some .int))
def hh_L_isLetterOrDigit : List (Nat × Nat × Nat × Nat) := [((0), (17), (20), (21))]
def mi_X5_isLetterOrDigit : sg_M := (yX5_isLetterOrDigit, cX5_isLetterOrDigit, 2, (some .boolean))
def mi_L_isWhite : sg_M := (yL_isWhite, cL_isWhite, 4, (some .int))
def hh_L_isWhite : List (Nat × Nat × Nat × Nat) := [((0), (17), (20), (21))]
def mi_X5_isWhite : sg_M := (yX5_isWhite, cX5_isWhite, 2, (some .boolean))
def mi_L_isGreat : sg_M := (yL_isGreat, cL_isGreat, 4, (some .int))
def hh_L_isGreat : List (Nat × Nat × Nat × Nat) := [((0), (17), (20), (21))]
def mi_X5_isGreat : sg_M := (yX5_isGreat, cX5_isGreat, 2, (some .boolean))
def mi_L_kinds : sg_M := (yL_kinds, cL_kinds, 4, (some .int))
def hh_L_kinds : List (Nat × Nat × Nat × Nat) := [((0), (10), (13), (21))]
def mi_X5_kinds : sg_M := (yX5_kinds, cX5_kinds, 2, (some .int))
def mi_L_upper : sg_M := (yL_upper, cL_upper, 5, (some .int))
def hh_L_upper : List (Nat × Nat × Nat × Nat) := [((0), (11), (14), (21))]
def mi_X5_upper : sg_M := (yX5_upper, cX5_upper, 3, (some .int))
def mi_L_lower : sg_M := (yL_lower, cL_lower, 5, (some .int))
def hh_L_lower : List (Nat × Nat × Nat × Nat) := [((0), (11), (14), (21))]
def mi_X5_lower : sg_M := (yX5_lower, cX5_lower, 3, (some .int))
def mi_L_value : sg_M := (yL_value, cL_value, 5, (some .int))
def hh_L_value : List (Nat × Nat × Nat × Nat) := [((0), (11), (14), (21))]
def mi_X5_value : sg_M := (yX5_value, cX5_value, 3, (some .int))
def mi_L_number : sg_M := (yL_number, cL_number, 6, (some .int))
def hh_L_number : List (Nat × Nat × Nat × Nat) := [((0), (13), (16), (21))]
def mi_X5_number : sg_M := (yX5_number, cX5_number, 4, (some .int))
def mi_L_length : sg_M := (yL_length, cL_length, 4, (some .int))
def hh_L_length : List (Nat × Nat × Nat × Nat) := [((0), (10), (13), (19))]
def mi_X5_length : sg_M := (yX5_length, cX5_length, 2, (some .int))
def mi_L_at : sg_M := (yL_at, cL_at, 5, (some .int))
def hh_L_at : List (Nat × Nat × Nat × Nat) := [((0), (11), (14), (19))]
def mi_X5_at : sg_M := (yX5_at, cX5_at, 3, (some .int))
def mi_X5_numberAt : sg_M := (yX5_numberAt, cX5_numberAt, 2, (some .int))
def mi_L_count : sg_M := (yL_count, cL_count, 5, (some .int))
def hh_L_count : List (Nat × Nat × Nat × Nat) := [((0), (11), (14), (19)), ((0), (11), (18), (21))]
def mi_L_first : sg_M := (yL_first, cL_first, 6, (some .int))
def hh_L_first : List (Nat × Nat × Nat × Nat) := [((0), (13), (16), (19)), ((0), (13), (20), (21))]
def mi_X5_first : sg_M := (yX5_first, cX5_first, 6, (some .int))
def mi_L_last : sg_M := (yL_last, cL_last, 5, (some .int))
def hh_L_last : List (Nat × Nat × Nat × Nat) := [((0), (11), (14), (19)), ((0), (11), (18), (21))]
def mi_X5_last : sg_M := (yX5_last, cX5_last, 5, (some .int))
def mi_L_forms : sg_M := (yL_forms, cL_forms, 4, (some .int))
def hh_L_forms : List (Nat × Nat × Nat × Nat) := [((0), (9), (12), (19))]
def mi_X5_forms : sg_M := (yX5_forms, cX5_forms, 5, (some (.object "java/lang/String")))
def mi_X2_formOf : sg_M := (yX2_formOf, cX2_formOf, 1, (some .char))
def mi_L_spelled : sg_M := (yL_spelled, cL_spelled, 4, (some .int))
def hh_L_spelled : List (Nat × Nat × Nat × Nat) := [((0), (9), (12), (19))]
def mi_X5_spelled : sg_M := (yX5_spelled, cX5_spelled, 5, (some (.object "java/lang/String")))
def mi_L_told : sg_M := (yL_told, cL_told, 5, (some .int))
def hh_L_told : List (Nat × Nat × Nat × Nat) := [((0), (11), (14), (19)), ((0), (11), (18), (21))]
def mi_L_sum : sg_M := (yL_sum, cL_sum, 5, (some .int))
def hh_L_sum : List (Nat × Nat × Nat × Nat) := [((0), (11), (14), (19))]
def mi_X5_sum : sg_M := (yX5_sum, cX5_sum, 7, (some .int))
def mi_L_values : sg_M := (yL_values, cL_values, 4, (some .int))
def hh_L_values : List (Nat × Nat × Nat × Nat) := [((0), (10), (13), (19))]
def mi_L_words : sg_M := (yL_words, cL_words, 4, (some .int))
def hh_L_words : List (Nat × Nat × Nat × Nat) := [((0), (10), (13), (19))]
def mi_L_word : sg_M := (yL_word, cL_word, 6, (some .int))
def hh_L_word : List (Nat × Nat × Nat × Nat) := [((0), (13), (16), (19))]
def mi_X5_word : sg_M := (yX5_word, cX5_word, 7, (some .int))
def mi_X5_wordBegin : sg_M := (yX5_wordBegin, cX5_wordBegin, 4, (some .int))
def mi_L_isAlike : sg_M := (yL_isAlike, cL_isAlike, 5, (some .int))
def hh_L_isAlike : List (Nat × Nat × Nat × Nat) := [((0), (18), (21), (19))]
def mi_L_order : sg_M := (yL_order, cL_order, 5, (some .int))
def hh_L_order : List (Nat × Nat × Nat × Nat) := [((0), (11), (14), (19))]
def mi_L_half : sg_M := (yL_half, cL_half, 5, (some .int))
def hh_L_half : List (Nat × Nat × Nat × Nat) := [((0), (11), (14), (21))]
def mi_X5_half : sg_M := (yX5_half, cX5_half, 3, (some .int))
def mi_L_code : sg_M := (yL_code, cL_code, 5, (some .int))
def hh_L_code : List (Nat × Nat × Nat × Nat) := [((0), (11), (14), (21))]
def mi_X5_code : sg_M := (yX5_code, cX5_code, 3, (some .int))
def mi_L_ofUnit : sg_M := (yL_ofUnit, cL_ofUnit, 5, (some .int))
def hh_L_ofUnit : List (Nat × Nat × Nat × Nat) := [((0), (11), (14), (21))]
def mi_L_compare : sg_M := (yL_compare, cL_compare, 5, (some .int))
def hh_L_compare : List (Nat × Nat × Nat × Nat) := [((0), (11), (14), (21))]
def mi_X5_compare : sg_M := (yX5_compare, cX5_compare, 3, (some .int))
def mi_L_ofTrack : sg_M := (yL_ofTrack, cL_ofTrack, 5, (some .int))
def hh_L_ofTrack : List (Nat × Nat × Nat × Nat) := [((0), (11), (14), (19)), ((0), (11), (18), (21))]
def mi_X5_ofTrack : sg_M := (yX5_ofTrack, cX5_ofTrack, 4, (some .int))
def mi_L_unit : sg_M := (yL_unit, cL_unit, 5, (some .int))
def hh_L_unit : List (Nat × Nat × Nat × Nat) := [((0), (11), (14), (19))]
def mi_X5_unit : sg_M := (yX5_unit, cX5_unit, 3, (some .int))
def mi_L_codeAt : sg_M := (yL_codeAt, cL_codeAt, 5, (some .int))
def hh_L_codeAt : List (Nat × Nat × Nat × Nat) := [((0), (11), (14), (19))]
def mi_X5_codeAt : sg_M := (yX5_codeAt, cX5_codeAt, 4, (some .int))
def mi_L_nth : sg_M := (yL_nth, cL_nth, 5, (some .int))
def hh_L_nth : List (Nat × Nat × Nat × Nat) := [((0), (11), (14), (19))]
def mi_X5_nth : sg_M := (yX5_nth, cX5_nth, 5, (some .int))
def mi_X4_codeBegin : sg_M := (yX4_codeBegin, cX4_codeBegin, 4, (some .int))
def mi_L_house : sg_M := (yL_house, cL_house, 4, (some .int))
def hh_L_house : List (Nat × Nat × Nat × Nat) := [((0), (10), (13), (21))]
def mi_X7_init : sg_M := (yX7_init, cX7_init, 1, (none : Option Jvm.ClassFile.FieldType))
def mi_X7_lay : sg_M := (yX7_lay, cX7_lay, 12, (some .int))
def mi_X7_isSign : sg_M := (yX7_isSign, cX7_isSign, 1, (some .boolean))
def mi_X7_isOf : sg_M := (yX7_isOf, cX7_isOf, 3, (some .boolean))
def mi_X7_isNoRow : sg_M := (yX7_isNoRow, cX7_isNoRow, 1, (some .boolean))
def mi_X7_start : sg_M := (yX7_start, cX7_start, 3, (some .boolean))
def mi_X7_refuse : sg_M := (yX7_refuse, cX7_refuse, 3, (some .boolean))
def mi_X7_only : sg_M := (yX7_only, cX7_only, 4, (some (.array .int)))
def mi_X7_joined : sg_M := (yX7_joined, cX7_joined, 4, (some (.array .int)))
def mi_X7_set : sg_M := (yX7_set, cX7_set, 5, (some .int))
def mi_X7_drop : sg_M := (yX7_drop, cX7_drop, 3, (some .int))
def mi_X7_part : sg_M := (yX7_part, cX7_part, 5, (some (.array .int)))
def mi_X7_copy : sg_M := (yX7_copy, cX7_copy, 4, (some .int))
def mi_X7_raise : sg_M := (yX7_raise, cX7_raise, 2, (some .int))
def mi_X7_cased : sg_M := (yX7_cased, cX7_cased, 8, (some .int))
def mi_X7_upperOf : sg_M := (yX7_upperOf, cX7_upperOf, 1, (some .int))
def mi_X7_lowerOf : sg_M := (yX7_lowerOf, cX7_lowerOf, 1, (some .int))
def mi_X7_isKind : sg_M := (yX7_isKind, cX7_isKind, 3, (some .boolean))
def mi_X7_one : sg_M := (yX7_one, cX7_one, 1, (some .int))
def mi_X7_sink : sg_M := (yX7_sink, cX7_sink, 2, (some .int))
def mi_X7_sieve : sg_M := (yX7_sieve, cX7_sieve, 6, (some .int))
def mi_X7_isNoKind : sg_M := (yX7_isNoKind, cX7_isNoKind, 1, (some .boolean))
def mi_X7_strip : sg_M := (yX7_strip, cX7_strip, 5, (some .int))
def mi_X7_turn : sg_M := (yX7_turn, cX7_turn, 2, (some .int))
def mi_X7_turned : sg_M := (yX7_turned, cX7_turned, 3, (some (.array .int)))
def mi_X7_write : sg_M := (yX7_write, cX7_write, 6, (some .int))
def mi_X7_isRadix : sg_M := (yX7_isRadix, cX7_isRadix, 1, (some .boolean))
def mi_X7_digitOf : sg_M := (yX7_digitOf, cX7_digitOf, 2, (some .int))
def mi_X7_spell : sg_M := (yX7_spell, cX7_spell, 3, (some .int))
def mi_X7_spelledOf : sg_M := (yX7_spelledOf, cX7_spelledOf, 3, (some (.array .int)))
def mi_X7_read : sg_M := (yX7_read, cX7_read, 8, (some .int))
def mi_X7_numberOf : sg_M := (yX7_numberOf, cX7_numberOf, 3, (some .int))
def mi_X7_valueOf : sg_M := (yX7_valueOf, cX7_valueOf, 1, (some .int))
def mi_X7_send : sg_M := (yX7_send, cX7_send, 3, (some .int))
def mi_X7_isNoTrack : sg_M := (yX7_isNoTrack, cX7_isNoTrack, 1, (some .boolean))
def mi_X7_sent : sg_M := (yX7_sent, cX7_sent, 1, (some (.array .int)))
def mi_X7_behind : sg_M := (yX7_behind, cX7_behind, 3, (some .int))
def mi_X7_put : sg_M := (yX7_put, cX7_put, 3, (some .int))
def mi_X7_cut : sg_M := (yX7_cut, cX7_cut, 3, (some .int))
def mi_X7_flip : sg_M := (yX7_flip, cX7_flip, 5, (some .int))
def mi_X7_turnedUnit : sg_M := (yX7_turnedUnit, cX7_turnedUnit, 1, (some .int))
def mi_X7_isHalf : sg_M := (yX7_isHalf, cX7_isHalf, 1, (some .boolean))
def mi_X7_isHigh : sg_M := (yX7_isHigh, cX7_isHigh, 1, (some .boolean))
def mi_X7_isLow : sg_M := (yX7_isLow, cX7_isLow, 1, (some .boolean))
def mi_X7_reverse : sg_M := (yX7_reverse, cX7_reverse, 7, (some .int))
def mi_X7_codes : sg_M := (yX7_codes, cX7_codes, 4, (some (.array .int)))
def mi_X7_codeOf : sg_M := (yX7_codeOf, cX7_codeOf, 4, (some .int))
def mi_X7_both : sg_M := (yX7_both, cX7_both, 2, (some .int))
def mi_X7_undo : sg_M := (yX7_undo, cX7_undo, 1, (some .int))
def mi_X7_knock : sg_M := (yX7_knock, cX7_knock, 1, (some .int))
def mi_X7_isDigit : sg_M := (yX7_isDigit, cX7_isDigit, 2, (some .boolean))
def mi_X7_kindTold : sg_M := (yX7_kindTold, cX7_kindTold, 3, (some .boolean))
def mi_X7_isLetter : sg_M := (yX7_isLetter, cX7_isLetter, 2, (some .boolean))
def mi_X7_isLetterOrDigit : sg_M := (yX7_isLetterOrDigit, cX7_isLetterOrDigit, 2, (some .boolean))
def mi_X7_isWhite : sg_M := (yX7_isWhite, cX7_isWhite, 2, (some .boolean))
def mi_X7_isGreat : sg_M := (yX7_isGreat, cX7_isGreat, 2, (some .boolean))
def mi_X7_kinds : sg_M := (yX7_kinds, cX7_kinds, 2, (some .int))
def mi_X7_kindsOf : sg_M := (yX7_kindsOf, cX7_kindsOf, 3, (some .int))
def mi_X7_upper : sg_M := (yX7_upper, cX7_upper, 3, (some .int))
def mi_X7_lower : sg_M := (yX7_lower, cX7_lower, 3, (some .int))
def mi_X7_value : sg_M := (yX7_value, cX7_value, 3, (some .int))
def mi_X7_number : sg_M := (yX7_number, cX7_number, 4, (some .int))
def mi_X7_digit : sg_M := (yX7_digit, cX7_digit, 3, (some .int))
def mi_X7_length : sg_M := (yX7_length, cX7_length, 2, (some .int))
def mi_X7_at : sg_M := (yX7_at, cX7_at, 3, (some .int))
def mi_X7_count : sg_M := (yX7_count, cX7_count, 3, (some .int))
def mi_X7_countOf : sg_M := (yX7_countOf, cX7_countOf, 8, (some .int))
def mi_X7_first : sg_M := (yX7_first, cX7_first, 5, (some .int))
def mi_X7_last : sg_M := (yX7_last, cX7_last, 5, (some .int))
def mi_X7_forms : sg_M := (yX7_forms, cX7_forms, 7, (some (.object "java/lang/String")))
def mi_X7_spelled : sg_M := (yX7_spelled, cX7_spelled, 7, (some (.object "java/lang/String")))
def mi_X7_told : sg_M := (yX7_told, cX7_told, 3, (some .int))
def mi_X7_toldOf : sg_M := (yX7_toldOf, cX7_toldOf, 9, (some .int))
def mi_X7_sum : sg_M := (yX7_sum, cX7_sum, 8, (some .int))
def mi_X7_values : sg_M := (yX7_values, cX7_values, 2, (some .int))
def mi_X7_valuesOf : sg_M := (yX7_valuesOf, cX7_valuesOf, 7, (some .int))
def mi_X7_words : sg_M := (yX7_words, cX7_words, 2, (some .int))
def mi_X7_wordsOf : sg_M := (yX7_wordsOf, cX7_wordsOf, 4, (some (.object "java/util/ArrayList")))
def mi_X7_word : sg_M := (yX7_word, cX7_word, 4, (some .int))
def mi_X7_isAlike : sg_M := (yX7_isAlike, cX7_isAlike, 3, (some .boolean))
def mi_X7_areAlike : sg_M := (yX7_areAlike, cX7_areAlike, 5, (some .boolean))
def mi_X7_order : sg_M := (yX7_order, cX7_order, 3, (some .int))
def mi_X7_orderOf : sg_M := (yX7_orderOf, cX7_orderOf, 4, (some .int))
def mi_X7_isCode : sg_M := (yX7_isCode, cX7_isCode, 2, (some .boolean))
def mi_X7_isPlain : sg_M := (yX7_isPlain, cX7_isPlain, 2, (some .boolean))
def mi_X7_isWide : sg_M := (yX7_isWide, cX7_isWide, 2, (some .boolean))
def mi_X7_units : sg_M := (yX7_units, cX7_units, 2, (some .int))
def mi_X7_half : sg_M := (yX7_half, cX7_half, 3, (some .int))
def mi_X7_code : sg_M := (yX7_code, cX7_code, 3, (some .int))
def mi_X7_ofUnit : sg_M := (yX7_ofUnit, cX7_ofUnit, 3, (some .int))
def mi_X7_ofUnitTold : sg_M := (yX7_ofUnitTold, cX7_ofUnitTold, 2, (some .int))
def mi_X7_compare : sg_M := (yX7_compare, cX7_compare, 3, (some .int))
def mi_X7_ofTrack : sg_M := (yX7_ofTrack, cX7_ofTrack, 3, (some .int))
def mi_X7_trackTold : sg_M := (yX7_trackTold, cX7_trackTold, 9, (some .int))
def mi_X7_unit : sg_M := (yX7_unit, cX7_unit, 3, (some .int))
def mi_X7_isNoPlace : sg_M := (yX7_isNoPlace, cX7_isNoPlace, 3, (some .boolean))
def mi_X7_codeAt : sg_M := (yX7_codeAt, cX7_codeAt, 3, (some .int))
def mi_X7_nth : sg_M := (yX7_nth, cX7_nth, 3, (some .int))
def mi_X7_house : sg_M := (yX7_house, cX7_house, 2, (some .int))
def mi_X7_houseOf : sg_M := (yX7_houseOf, cX7_houseOf, 4, (some .int))
def mi_X7_isSound : sg_M := (yX7_isSound, cX7_isSound, 3, (some .boolean))
def mi_X7_digest : sg_M := (yX7_digest, cX7_digest, 13, (some .long))
def mi_Jx4a65c_get_915e3 : sg_M := (yJx4a65c_get_915e3, cJx4a65c_get_915e3, 2, (some (.object "java/lang/Object")))
def mi_J9_max_7cf53 : sg_M := (yJ9_max_7cf53, cJ9_max_7cf53, 2, (some .int))
def mi_J4_toString_0e30d : sg_M := (yJ4_toString_0e30d, cJ4_toString_0e30d, 1, (some (.object "java/lang/String")))
def mi_Jx4a65c_isEmpty_aae02 : sg_M := (yJx4a65c_isEmpty_aae02, cJx4a65c_isEmpty_aae02, 1, (some .boolean))
def mi_J4_append_15ec4 : sg_M := (yJ4_append_15ec4, cJ4_append_15ec4, 2, (some (.object "java/lang/StringBuilder")))
def mi_Jx4a65c_init_da8c8 : sg_M := (yJx4a65c_init_da8c8, cJx4a65c_init_da8c8, 1, (none : Option Jvm.ClassFile.FieldType))
def mi_J4_append_cf468 : sg_M := (yJ4_append_cf468, cJ4_append_cf468, 2, (some (.object "java/lang/StringBuilder")))
def mi_Jx4a65c_add_9ea2d : sg_M := (yJx4a65c_add_9ea2d, cJx4a65c_add_9ea2d, 2, (some .boolean))
def mi_Jx4a65c_size_8abf5 : sg_M := (yJx4a65c_size_8abf5, cJx4a65c_size_8abf5, 1, (some .int))
def mi_Jx4a65c_remove_915e3 : sg_M := (yJx4a65c_remove_915e3, cJx4a65c_remove_915e3, 4, (some (.object "java/lang/Object")))
def mi_J4_init_da8c8 : sg_M := (yJ4_init_da8c8, cJ4_init_da8c8, 1, (none : Option Jvm.ClassFile.FieldType))
theorem cb_X5_init : sg_cb mi_X5_init 0 := ⟨sg_okt 35 (by decide +kernel), sg_okt 1 (by decide +kernel), ⟨by decide +kernel, by decide +kernel⟩, by decide +kernel, by decide +kernel⟩
theorem mn_X5_init : sg_ok (.instanceMethod yX5_init) := sg_okt 34 (by decide +kernel)
theorem cb_X3_init : sg_cb mi_X3_init 0 := ⟨sg_okt 43 (by decide +kernel), sg_okt 2 (by decide +kernel), ⟨by decide +kernel, by decide +kernel⟩, by decide +kernel, by decide +kernel⟩
theorem mn_X3_init : sg_ok (.instanceMethod yX3_init) := sg_okt 42 (by decide +kernel)
theorem cb_X0_init : sg_cb mi_X0_init 1 := ⟨sg_okt 50 (by decide +kernel), sg_okt 3 (by decide +kernel), ⟨by decide +kernel, by decide +kernel⟩, by decide +kernel, by decide +kernel⟩
theorem mn_X0_init : sg_ok (.instanceMethod yX0_init) := sg_okt 49 (by decide +kernel)
theorem cb_X1_init : sg_cb mi_X1_init 0 := ⟨sg_okt 73 (by decide +kernel), sg_okt 4 (by decide +kernel), ⟨by decide +kernel, by decide +kernel⟩, by decide +kernel, by decide +kernel⟩
theorem mn_X1_init : sg_ok (.instanceMethod yX1_init) := sg_okt 72 (by decide +kernel)
theorem cb_X5_knock : sg_cb mi_X5_knock 0 := ⟨sg_okt 103 (by decide +kernel), sg_okt 1 (by decide +kernel), ⟨by decide +kernel, by decide +kernel⟩, by decide +kernel, by decide +kernel⟩
theorem mn_X5_knock : sg_ok (.instanceMethod yX5_knock) := sg_okt 101 (by decide +kernel)
theorem mv_X5_knock : sg_ok (.selects RX5 yX5_knock yX5_knock) := sg_okt 102 (by decide +kernel)
theorem cb_X5_digit : sg_cb mi_X5_digit 2 := ⟨sg_okt 107 (by decide +kernel), sg_okt 1 (by decide +kernel), ⟨by decide +kernel, by decide +kernel⟩, by decide +kernel, by decide +kernel⟩
theorem mn_X5_digit : sg_ok (.instanceMethod yX5_digit) := sg_okt 105 (by decide +kernel)
theorem mv_X5_digit : sg_ok (.selects RX5 yX5_digit yX5_digit) := sg_okt 106 (by decide +kernel)
theorem cb_X2_digitOf : sg_cb mi_X2_digitOf 2 := ⟨sg_okt 110 (by decide +kernel), sg_okt 14 (by decide +kernel), ⟨by decide +kernel, by decide +kernel⟩, by decide +kernel, by decide +kernel⟩
theorem ms_X2_digitOf : sg_ok (.static yX2_digitOf) := sg_okt 109 (by decide +kernel)
theorem cb_X2_isRadix : sg_cb mi_X2_isRadix 1 := ⟨sg_okt 113 (by decide +kernel), sg_okt 14 (by decide +kernel), ⟨by decide +kernel, by decide +kernel⟩, by decide +kernel, by decide +kernel⟩
theorem ms_X2_isRadix : sg_ok (.static yX2_isRadix) := sg_okt 112 (by decide +kernel)
theorem cb_X2_isBetween : sg_cb mi_X2_isBetween 3 := ⟨sg_okt 116 (by decide +kernel), sg_okt 14 (by decide +kernel), ⟨by decide +kernel, by decide +kernel⟩, by decide +kernel, by decide +kernel⟩
theorem ms_X2_isBetween : sg_ok (.static yX2_isBetween) := sg_okt 115 (by decide +kernel)
theorem cb_X5_isCode : sg_cb mi_X5_isCode 1 := ⟨sg_okt 120 (by decide +kernel), sg_okt 1 (by decide +kernel), ⟨by decide +kernel, by decide +kernel⟩, by decide +kernel, by decide +kernel⟩
theorem mn_X5_isCode : sg_ok (.instanceMethod yX5_isCode) := sg_okt 118 (by decide +kernel)
theorem mv_X5_isCode : sg_ok (.selects RX5 yX5_isCode yX5_isCode) := sg_okt 119 (by decide +kernel)
theorem cb_X4_isAnyCode : sg_cb mi_X4_isAnyCode 1 := ⟨sg_okt 123 (by decide +kernel), sg_okt 23 (by decide +kernel), ⟨by decide +kernel, by decide +kernel⟩, by decide +kernel, by decide +kernel⟩
theorem ms_X4_isAnyCode : sg_ok (.static yX4_isAnyCode) := sg_okt 122 (by decide +kernel)
theorem cb_X5_isPlain : sg_cb mi_X5_isPlain 1 := ⟨sg_okt 128 (by decide +kernel), sg_okt 1 (by decide +kernel), ⟨by decide +kernel, by decide +kernel⟩, by decide +kernel, by decide +kernel⟩
theorem mn_X5_isPlain : sg_ok (.instanceMethod yX5_isPlain) := sg_okt 126 (by decide +kernel)
theorem mv_X5_isPlain : sg_ok (.selects RX5 yX5_isPlain yX5_isPlain) := sg_okt 127 (by decide +kernel)
theorem cb_X4_isUnit : sg_cb mi_X4_isUnit 1 := ⟨sg_okt 131 (by decide +kernel), sg_okt 23 (by decide +kernel), ⟨by decide +kernel, by decide +kernel⟩, by decide +kernel, by decide +kernel⟩
theorem ms_X4_isUnit : sg_ok (.static yX4_isUnit) := sg_okt 130 (by decide +kernel)
theorem cb_X5_isWide : sg_cb mi_X5_isWide 1 := ⟨sg_okt 136 (by decide +kernel), sg_okt 1 (by decide +kernel), ⟨by decide +kernel, by decide +kernel⟩, by decide +kernel, by decide +kernel⟩
theorem mn_X5_isWide : sg_ok (.instanceMethod yX5_isWide) := sg_okt 134 (by decide +kernel)
theorem mv_X5_isWide : sg_ok (.selects RX5 yX5_isWide yX5_isWide) := sg_okt 135 (by decide +kernel)
theorem cb_X4_isWideCode : sg_cb mi_X4_isWideCode 1 := ⟨sg_okt 139 (by decide +kernel), sg_okt 23 (by decide +kernel), ⟨by decide +kernel, by decide +kernel⟩, by decide +kernel, by decide +kernel⟩
theorem ms_X4_isWideCode : sg_ok (.static yX4_isWideCode) := sg_okt 138 (by decide +kernel)
theorem cb_X5_units : sg_cb mi_X5_units 1 := ⟨sg_okt 143 (by decide +kernel), sg_okt 1 (by decide +kernel), ⟨by decide +kernel, by decide +kernel⟩, by decide +kernel, by decide +kernel⟩
theorem mn_X5_units : sg_ok (.instanceMethod yX5_units) := sg_okt 141 (by decide +kernel)
theorem mv_X5_units : sg_ok (.selects RX5 yX5_units yX5_units) := sg_okt 142 (by decide +kernel)
theorem cb_X4_unitsOf : sg_cb mi_X4_unitsOf 1 := ⟨sg_okt 146 (by decide +kernel), sg_okt 23 (by decide +kernel), ⟨by decide +kernel, by decide +kernel⟩, by decide +kernel, by decide +kernel⟩
theorem ms_X4_unitsOf : sg_ok (.static yX4_unitsOf) := sg_okt 145 (by decide +kernel)
theorem cb_X5_isSound : sg_cb mi_X5_isSound 0 := ⟨sg_okt 150 (by decide +kernel), sg_okt 1 (by decide +kernel), ⟨by decide +kernel, by decide +kernel⟩, by decide +kernel, by decide +kernel⟩
theorem mn_X5_isSound : sg_ok (.instanceMethod yX5_isSound) := sg_okt 148 (by decide +kernel)
theorem mv_X5_isSound : sg_ok (.selects RX5 yX5_isSound yX5_isSound) := sg_okt 149 (by decide +kernel)
theorem cb_X5_rowOf : sg_cb mi_X5_rowOf 1 := ⟨sg_okt 154 (by decide +kernel), sg_okt 1 (by decide +kernel), ⟨by decide +kernel, by decide +kernel⟩, by decide +kernel, by decide +kernel⟩
theorem mn_X5_rowOf : sg_ok (.instanceMethod yX5_rowOf) := sg_okt 153 (by decide +kernel)
theorem mv_X5_rowOf : sg_ok (.selects RX5 yX5_rowOf yX5_rowOf) := sg_oks 0 (by decide +kernel)
theorem cb_X5_isSoundRow : sg_cb mi_X5_isSoundRow 1 := ⟨sg_okt 225 (by decide +kernel), sg_okt 1 (by decide +kernel), ⟨by decide +kernel, by decide +kernel⟩, by decide +kernel, by decide +kernel⟩
theorem ms_X5_isSoundRow : sg_ok (.static yX5_isSoundRow) := sg_okt 224 (by decide +kernel)
theorem cb_X0_size : sg_cb mi_X0_size 0 := ⟨sg_okt 229 (by decide +kernel), sg_okt 3 (by decide +kernel), ⟨by decide +kernel, by decide +kernel⟩, by decide +kernel, by decide +kernel⟩
theorem mn_X0_size : sg_ok (.instanceMethod yX0_size) := sg_okt 227 (by decide +kernel)
theorem mv_X0_size : sg_ok (.selects RX0 yX0_size yX0_size) := sg_okt 228 (by decide +kernel)
theorem cb_X0_get : sg_cb mi_X0_get 1 := ⟨sg_okt 233 (by decide +kernel), sg_okt 3 (by decide +kernel), ⟨by decide +kernel, by decide +kernel⟩, by decide +kernel, by decide +kernel⟩
theorem mn_X0_get : sg_ok (.instanceMethod yX0_get) := sg_okt 231 (by decide +kernel)
theorem mv_X0_get : sg_ok (.selects RX0 yX0_get yX0_get) := sg_okt 232 (by decide +kernel)
theorem cb_X0_hasPlace : sg_cb mi_X0_hasPlace 1 := ⟨sg_okt 237 (by decide +kernel), sg_okt 3 (by decide +kernel), ⟨by decide +kernel, by decide +kernel⟩, by decide +kernel, by decide +kernel⟩
theorem mn_X0_hasPlace : sg_ok (.instanceMethod yX0_hasPlace) := sg_okt 235 (by decide +kernel)
theorem mv_X0_hasPlace : sg_ok (.selects RX0 yX0_hasPlace yX0_hasPlace) := sg_okt 236 (by decide +kernel)
theorem cb_X2_isSoundSign : sg_cb mi_X2_isSoundSign 1 := ⟨sg_okt 240 (by decide +kernel), sg_okt 14 (by decide +kernel), ⟨by decide +kernel, by decide +kernel⟩, by decide +kernel, by decide +kernel⟩
theorem ms_X2_isSoundSign : sg_ok (.static yX2_isSoundSign) := sg_okt 239 (by decide +kernel)
theorem cb_X2_isOf : sg_cb mi_X2_isOf 2 := ⟨sg_okt 243 (by decide +kernel), sg_okt 14 (by decide +kernel), ⟨by decide +kernel, by decide +kernel⟩, by decide +kernel, by decide +kernel⟩
theorem ms_X2_isOf : sg_ok (.static yX2_isOf) := sg_okt 242 (by decide +kernel)
theorem cb_X2_isPlainDigit : sg_cb mi_X2_isPlainDigit 1 := ⟨sg_okt 246 (by decide +kernel), sg_okt 14 (by decide +kernel), ⟨by decide +kernel, by decide +kernel⟩, by decide +kernel, by decide +kernel⟩
theorem ms_X2_isPlainDigit : sg_ok (.static yX2_isPlainDigit) := sg_okt 245 (by decide +kernel)
theorem cb_X2_isAnyLetter : sg_cb mi_X2_isAnyLetter 1 := ⟨sg_okt 249 (by decide +kernel), sg_okt 14 (by decide +kernel), ⟨by decide +kernel, by decide +kernel⟩, by decide +kernel, by decide +kernel⟩
theorem ms_X2_isAnyLetter : sg_ok (.static yX2_isAnyLetter) := sg_okt 248 (by decide +kernel)
theorem cb_X2_isGreatPlain : sg_cb mi_X2_isGreatPlain 1 := ⟨sg_okt 252 (by decide +kernel), sg_okt 14 (by decide +kernel), ⟨by decide +kernel, by decide +kernel⟩, by decide +kernel, by decide +kernel⟩
theorem ms_X2_isGreatPlain : sg_ok (.static yX2_isGreatPlain) := sg_okt 251 (by decide +kernel)
theorem cb_X2_isSmallPlain : sg_cb mi_X2_isSmallPlain 1 := ⟨sg_okt 255 (by decide +kernel), sg_okt 14 (by decide +kernel), ⟨by decide +kernel, by decide +kernel⟩, by decide +kernel, by decide +kernel⟩
theorem ms_X2_isSmallPlain : sg_ok (.static yX2_isSmallPlain) := sg_okt 254 (by decide +kernel)
theorem cb_X2_isAnyGreat : sg_cb mi_X2_isAnyGreat 1 := ⟨sg_okt 258 (by decide +kernel), sg_okt 14 (by decide +kernel), ⟨by decide +kernel, by decide +kernel⟩, by decide +kernel, by decide +kernel⟩
theorem ms_X2_isAnyGreat : sg_ok (.static yX2_isAnyGreat) := sg_okt 257 (by decide +kernel)
theorem cb_X2_lowerOf : sg_cb mi_X2_lowerOf 1 := ⟨sg_okt 261 (by decide +kernel), sg_okt 14 (by decide +kernel), ⟨by decide +kernel, by decide +kernel⟩, by decide +kernel, by decide +kernel⟩
theorem ms_X2_lowerOf : sg_ok (.static yX2_lowerOf) := sg_okt 260 (by decide +kernel)
theorem cb_X2_upperOf : sg_cb mi_X2_upperOf 1 := ⟨sg_okt 264 (by decide +kernel), sg_okt 14 (by decide +kernel), ⟨by decide +kernel, by decide +kernel⟩, by decide +kernel, by decide +kernel⟩
theorem ms_X2_upperOf : sg_ok (.static yX2_upperOf) := sg_okt 263 (by decide +kernel)
theorem cb_X2_numberOf : sg_cb mi_X2_numberOf 2 := ⟨sg_okt 267 (by decide +kernel), sg_okt 14 (by decide +kernel), ⟨by decide +kernel, by decide +kernel⟩, by decide +kernel, by decide +kernel⟩
theorem ms_X2_numberOf : sg_ok (.static yX2_numberOf) := sg_okt 266 (by decide +kernel)
theorem cb_X2_plainValueOf : sg_cb mi_X2_plainValueOf 1 := ⟨sg_okt 270 (by decide +kernel), sg_okt 14 (by decide +kernel), ⟨by decide +kernel, by decide +kernel⟩, by decide +kernel, by decide +kernel⟩
theorem ms_X2_plainValueOf : sg_ok (.static yX2_plainValueOf) := sg_okt 269 (by decide +kernel)
theorem cb_X5_trackOf : sg_cb mi_X5_trackOf 1 := ⟨sg_okt 275 (by decide +kernel), sg_okt 1 (by decide +kernel), ⟨by decide +kernel, by decide +kernel⟩, by decide +kernel, by decide +kernel⟩
theorem mn_X5_trackOf : sg_ok (.instanceMethod yX5_trackOf) := sg_okt 274 (by decide +kernel)
theorem mv_X5_trackOf : sg_ok (.selects RX5 yX5_trackOf yX5_trackOf) := sg_oks 2 (by decide +kernel)
theorem cb_X5_isSoundTrack : sg_cb mi_X5_isSoundTrack 1 := ⟨sg_okt 279 (by decide +kernel), sg_okt 1 (by decide +kernel), ⟨by decide +kernel, by decide +kernel⟩, by decide +kernel, by decide +kernel⟩
theorem ms_X5_isSoundTrack : sg_ok (.static yX5_isSoundTrack) := sg_okt 278 (by decide +kernel)
theorem cb_X4_areSentAgain : sg_cb mi_X4_areSentAgain 1 := ⟨sg_okt 282 (by decide +kernel), sg_okt 23 (by decide +kernel), ⟨by decide +kernel, by decide +kernel⟩, by decide +kernel, by decide +kernel⟩
theorem ms_X4_areSentAgain : sg_ok (.static yX4_areSentAgain) := sg_okt 281 (by decide +kernel)
theorem cb_X4_isCodeBegin : sg_cb mi_X4_isCodeBegin 2 := ⟨sg_okt 286 (by decide +kernel), sg_okt 23 (by decide +kernel), ⟨by decide +kernel, by decide +kernel⟩, by decide +kernel, by decide +kernel⟩
theorem ms_X4_isCodeBegin : sg_ok (.static yX4_isCodeBegin) := sg_okt 285 (by decide +kernel)
theorem cb_X4_isLow : sg_cb mi_X4_isLow 1 := ⟨sg_okt 290 (by decide +kernel), sg_okt 23 (by decide +kernel), ⟨by decide +kernel, by decide +kernel⟩, by decide +kernel, by decide +kernel⟩
theorem ms_X4_isLow : sg_ok (.static yX4_isLow) := sg_okt 289 (by decide +kernel)
theorem cb_X4_isHigh : sg_cb mi_X4_isHigh 1 := ⟨sg_okt 295 (by decide +kernel), sg_okt 23 (by decide +kernel), ⟨by decide +kernel, by decide +kernel⟩, by decide +kernel, by decide +kernel⟩
theorem ms_X4_isHigh : sg_ok (.static yX4_isHigh) := sg_okt 294 (by decide +kernel)
theorem cb_X4_codeFrom : sg_cb mi_X4_codeFrom 2 := ⟨sg_okt 299 (by decide +kernel), sg_okt 23 (by decide +kernel), ⟨by decide +kernel, by decide +kernel⟩, by decide +kernel, by decide +kernel⟩
theorem ms_X4_codeFrom : sg_ok (.static yX4_codeFrom) := sg_okt 298 (by decide +kernel)
theorem cb_X4_codeOf : sg_cb mi_X4_codeOf 2 := ⟨sg_okt 302 (by decide +kernel), sg_okt 23 (by decide +kernel), ⟨by decide +kernel, by decide +kernel⟩, by decide +kernel, by decide +kernel⟩
theorem ms_X4_codeOf : sg_ok (.static yX4_codeOf) := sg_okt 301 (by decide +kernel)
theorem cb_X4_standsAt : sg_cb mi_X4_standsAt 3 := ⟨sg_okt 305 (by decide +kernel), sg_okt 23 (by decide +kernel), ⟨by decide +kernel, by decide +kernel⟩, by decide +kernel, by decide +kernel⟩
theorem ms_X4_standsAt : sg_ok (.static yX4_standsAt) := sg_okt 304 (by decide +kernel)
theorem cb_X4_highOf : sg_cb mi_X4_highOf 1 := ⟨sg_okt 309 (by decide +kernel), sg_okt 23 (by decide +kernel), ⟨by decide +kernel, by decide +kernel⟩, by decide +kernel, by decide +kernel⟩
theorem ms_X4_highOf : sg_ok (.static yX4_highOf) := sg_okt 308 (by decide +kernel)
theorem cb_X4_lowOf : sg_cb mi_X4_lowOf 1 := ⟨sg_okt 312 (by decide +kernel), sg_okt 23 (by decide +kernel), ⟨by decide +kernel, by decide +kernel⟩, by decide +kernel, by decide +kernel⟩
theorem ms_X4_lowOf : sg_ok (.static yX4_lowOf) := sg_okt 311 (by decide +kernel)
theorem cb_X5_digest : sg_cb mi_X5_digest 0 := ⟨sg_okt 317 (by decide +kernel), sg_okt 1 (by decide +kernel), ⟨by decide +kernel, by decide +kernel⟩, by decide +kernel, by decide +kernel⟩
theorem mn_X5_digest : sg_ok (.instanceMethod yX5_digest) := sg_okt 315 (by decide +kernel)
theorem mv_X5_digest : sg_ok (.selects RX5 yX5_digest yX5_digest) := sg_okt 316 (by decide +kernel)
theorem cb_X5_withRow : sg_cb mi_X5_withRow 2 := ⟨sg_okt 322 (by decide +kernel), sg_okt 1 (by decide +kernel), ⟨by decide +kernel, by decide +kernel⟩, by decide +kernel, by decide +kernel⟩
theorem mn_X5_withRow : sg_ok (.instanceMethod yX5_withRow) := sg_okt 321 (by decide +kernel)
theorem mv_X5_withRow : sg_ok (.selects RX5 yX5_withRow yX5_withRow) := sg_oks 3 (by decide +kernel)
theorem cb_X5_with : sg_cb mi_X5_with 2 := ⟨sg_okt 325 (by decide +kernel), sg_okt 1 (by decide +kernel), ⟨by decide +kernel, by decide +kernel⟩, by decide +kernel, by decide +kernel⟩
theorem ms_X5_with : sg_ok (.static yX5_with) := sg_okt 324 (by decide +kernel)
theorem cb_X2_kindsOf : sg_cb mi_X2_kindsOf 1 := ⟨sg_okt 329 (by decide +kernel), sg_okt 14 (by decide +kernel), ⟨by decide +kernel, by decide +kernel⟩, by decide +kernel, by decide +kernel⟩
theorem ms_X2_kindsOf : sg_ok (.static yX2_kindsOf) := sg_okt 328 (by decide +kernel)
theorem cb_X2_signValue : sg_cb mi_X2_signValue 1 := ⟨sg_okt 334 (by decide +kernel), sg_okt 14 (by decide +kernel), ⟨by decide +kernel, by decide +kernel⟩, by decide +kernel, by decide +kernel⟩
theorem ms_X2_signValue : sg_ok (.static yX2_signValue) := sg_okt 333 (by decide +kernel)
theorem cb_X5_count : sg_cb mi_X5_count 2 := ⟨sg_okt 339 (by decide +kernel), sg_okt 1 (by decide +kernel), ⟨by decide +kernel, by decide +kernel⟩, by decide +kernel, by decide +kernel⟩
theorem mn_X5_count : sg_ok (.instanceMethod yX5_count) := sg_okt 337 (by decide +kernel)
theorem mv_X5_count : sg_ok (.selects RX5 yX5_count yX5_count) := sg_okt 338 (by decide +kernel)
theorem cb_X5_checkKind : sg_cb mi_X5_checkKind 1 := ⟨sg_okt 342 (by decide +kernel), sg_okt 1 (by decide +kernel), ⟨by decide +kernel, by decide +kernel⟩, by decide +kernel, by decide +kernel⟩
theorem ms_X5_checkKind : sg_ok (.static yX5_checkKind) := sg_okt 341 (by decide +kernel)
theorem cb_X5_told : sg_cb mi_X5_told 2 := ⟨sg_okt 363 (by decide +kernel), sg_okt 1 (by decide +kernel), ⟨by decide +kernel, by decide +kernel⟩, by decide +kernel, by decide +kernel⟩
theorem mn_X5_told : sg_ok (.instanceMethod yX5_told) := sg_okt 361 (by decide +kernel)
theorem mv_X5_told : sg_ok (.selects RX5 yX5_told yX5_told) := sg_okt 362 (by decide +kernel)
theorem cb_X5_checkRadix : sg_cb mi_X5_checkRadix 1 := ⟨sg_okt 366 (by decide +kernel), sg_okt 1 (by decide +kernel), ⟨by decide +kernel, by decide +kernel⟩, by decide +kernel, by decide +kernel⟩
theorem ms_X5_checkRadix : sg_ok (.static yX5_checkRadix) := sg_okt 365 (by decide +kernel)
theorem cb_X5_values : sg_cb mi_X5_values 1 := ⟨sg_okt 373 (by decide +kernel), sg_okt 1 (by decide +kernel), ⟨by decide +kernel, by decide +kernel⟩, by decide +kernel, by decide +kernel⟩
theorem mn_X5_values : sg_ok (.instanceMethod yX5_values) := sg_okt 371 (by decide +kernel)
theorem mv_X5_values : sg_ok (.selects RX5 yX5_values yX5_values) := sg_okt 372 (by decide +kernel)
theorem cb_X5_words : sg_cb mi_X5_words 1 := ⟨sg_okt 377 (by decide +kernel), sg_okt 1 (by decide +kernel), ⟨by decide +kernel, by decide +kernel⟩, by decide +kernel, by decide +kernel⟩
theorem mn_X5_words : sg_ok (.instanceMethod yX5_words) := sg_okt 375 (by decide +kernel)
theorem mv_X5_words : sg_ok (.selects RX5 yX5_words yX5_words) := sg_okt 376 (by decide +kernel)
theorem cb_X5_isWordBegin : sg_cb mi_X5_isWordBegin 2 := ⟨sg_okt 380 (by decide +kernel), sg_okt 1 (by decide +kernel), ⟨by decide +kernel, by decide +kernel⟩, by decide +kernel, by decide +kernel⟩
theorem ms_X5_isWordBegin : sg_ok (.static yX5_isWordBegin) := sg_okt 379 (by decide +kernel)
theorem cb_X5_order : sg_cb mi_X5_order 2 := ⟨sg_okt 384 (by decide +kernel), sg_okt 1 (by decide +kernel), ⟨by decide +kernel, by decide +kernel⟩, by decide +kernel, by decide +kernel⟩
theorem mn_X5_order : sg_ok (.instanceMethod yX5_order) := sg_okt 382 (by decide +kernel)
theorem mv_X5_order : sg_ok (.selects RX5 yX5_order yX5_order) := sg_okt 383 (by decide +kernel)
theorem cb_X5_ahead : sg_cb mi_X5_ahead 2 := ⟨sg_okt 387 (by decide +kernel), sg_okt 1 (by decide +kernel), ⟨by decide +kernel, by decide +kernel⟩, by decide +kernel, by decide +kernel⟩
theorem ms_X5_ahead : sg_ok (.static yX5_ahead) := sg_okt 386 (by decide +kernel)
theorem cb_X5_isAlike : sg_cb mi_X5_isAlike 2 := ⟨sg_okt 391 (by decide +kernel), sg_okt 1 (by decide +kernel), ⟨by decide +kernel, by decide +kernel⟩, by decide +kernel, by decide +kernel⟩
theorem mn_X5_isAlike : sg_ok (.instanceMethod yX5_isAlike) := sg_okt 389 (by decide +kernel)
theorem mv_X5_isAlike : sg_ok (.selects RX5 yX5_isAlike yX5_isAlike) := sg_okt 390 (by decide +kernel)
theorem cb_X5_withTrack : sg_cb mi_X5_withTrack 2 := ⟨sg_okt 395 (by decide +kernel), sg_okt 1 (by decide +kernel), ⟨by decide +kernel, by decide +kernel⟩, by decide +kernel, by decide +kernel⟩
theorem mn_X5_withTrack : sg_ok (.instanceMethod yX5_withTrack) := sg_okt 394 (by decide +kernel)
theorem mv_X5_withTrack : sg_ok (.selects RX5 yX5_withTrack yX5_withTrack) := sg_oks 4 (by decide +kernel)
theorem cb_X4_howMany : sg_cb mi_X4_howMany 2 := ⟨sg_okt 398 (by decide +kernel), sg_okt 23 (by decide +kernel), ⟨by decide +kernel, by decide +kernel⟩, by decide +kernel, by decide +kernel⟩
theorem ms_X4_howMany : sg_ok (.static yX4_howMany) := sg_okt 397 (by decide +kernel)
theorem cb_X4_isCounted : sg_cb mi_X4_isCounted 2 := ⟨sg_okt 401 (by decide +kernel), sg_okt 23 (by decide +kernel), ⟨by decide +kernel, by decide +kernel⟩, by decide +kernel, by decide +kernel⟩
theorem ms_X4_isCounted : sg_ok (.static yX4_isCounted) := sg_okt 400 (by decide +kernel)
theorem cb_X4_isHalf : sg_cb mi_X4_isHalf 1 := ⟨sg_okt 404 (by decide +kernel), sg_okt 23 (by decide +kernel), ⟨by decide +kernel, by decide +kernel⟩, by decide +kernel, by decide +kernel⟩
theorem ms_X4_isHalf : sg_ok (.static yX4_isHalf) := sg_okt 403 (by decide +kernel)
theorem cb_X5_ofUnit : sg_cb mi_X5_ofUnit 2 := ⟨sg_okt 408 (by decide +kernel), sg_okt 1 (by decide +kernel), ⟨by decide +kernel, by decide +kernel⟩, by decide +kernel, by decide +kernel⟩
theorem mn_X5_ofUnit : sg_ok (.instanceMethod yX5_ofUnit) := sg_okt 406 (by decide +kernel)
theorem mv_X5_ofUnit : sg_ok (.selects RX5 yX5_ofUnit yX5_ofUnit) := sg_okt 407 (by decide +kernel)
theorem cb_X5_checkUnit : sg_cb mi_X5_checkUnit 1 := ⟨sg_okt 411 (by decide +kernel), sg_okt 1 (by decide +kernel), ⟨by decide +kernel, by decide +kernel⟩, by decide +kernel, by decide +kernel⟩
theorem ms_X5_checkUnit : sg_ok (.static yX5_checkUnit) := sg_okt 410 (by decide +kernel)
theorem cb_X4_turned : sg_cb mi_X4_turned 1 := ⟨sg_okt 418 (by decide +kernel), sg_okt 23 (by decide +kernel), ⟨by decide +kernel, by decide +kernel⟩, by decide +kernel, by decide +kernel⟩
theorem ms_X4_turned : sg_ok (.static yX4_turned) := sg_okt 417 (by decide +kernel)
theorem cb_X5_house : sg_cb mi_X5_house 1 := ⟨sg_okt 424 (by decide +kernel), sg_okt 1 (by decide +kernel), ⟨by decide +kernel, by decide +kernel⟩, by decide +kernel, by decide +kernel⟩
theorem mn_X5_house : sg_ok (.instanceMethod yX5_house) := sg_okt 422 (by decide +kernel)
theorem mv_X5_house : sg_ok (.selects RX5 yX5_house yX5_house) := sg_okt 423 (by decide +kernel)
theorem cb_X3_howManySigns : sg_cb mi_X3_howManySigns 0 := ⟨sg_okt 428 (by decide +kernel), sg_okt 2 (by decide +kernel), ⟨by decide +kernel, by decide +kernel⟩, by decide +kernel, by decide +kernel⟩
theorem mn_X3_howManySigns : sg_ok (.instanceMethod yX3_howManySigns) := sg_okt 426 (by decide +kernel)
theorem mv_X3_howManySigns : sg_ok (.selects RX3 yX3_howManySigns yX3_howManySigns) := sg_okt 427 (by decide +kernel)
theorem cb_X3_howManyUnits : sg_cb mi_X3_howManyUnits 0 := ⟨sg_okt 433 (by decide +kernel), sg_okt 2 (by decide +kernel), ⟨by decide +kernel, by decide +kernel⟩, by decide +kernel, by decide +kernel⟩
theorem mn_X3_howManyUnits : sg_ok (.instanceMethod yX3_howManyUnits) := sg_okt 431 (by decide +kernel)
theorem mv_X3_howManyUnits : sg_ok (.selects RX3 yX3_howManyUnits yX3_howManyUnits) := sg_okt 432 (by decide +kernel)
theorem cb_X1_size : sg_cb mi_X1_size 0 := ⟨sg_okt 437 (by decide +kernel), sg_okt 4 (by decide +kernel), ⟨by decide +kernel, by decide +kernel⟩, by decide +kernel, by decide +kernel⟩
theorem mn_X1_size : sg_ok (.instanceMethod yX1_size) := sg_okt 435 (by decide +kernel)
theorem mv_X1_size : sg_ok (.selects RX1 yX1_size yX1_size) := sg_okt 436 (by decide +kernel)
theorem cb_X6_init : sg_cb mi_X6_init 0 := ⟨sg_okt 443 (by decide +kernel), sg_okt 9 (by decide +kernel), ⟨by decide +kernel, by decide +kernel⟩, by decide +kernel, by decide +kernel⟩
theorem mn_X6_init : sg_ok (.instanceMethod yX6_init) := sg_okt 442 (by decide +kernel)
theorem ms_L_lay : sg_ok (.static yL_lay) := sg_okt 453 (by decide +kernel)
theorem cb_X5_lay : sg_cb mi_X5_lay 5 := ⟨sg_okt 461 (by decide +kernel), sg_okt 1 (by decide +kernel), ⟨by decide +kernel, by decide +kernel⟩, by decide +kernel, by decide +kernel⟩
theorem mn_X5_lay : sg_ok (.instanceMethod yX5_lay) := sg_okt 459 (by decide +kernel)
theorem mv_X5_lay : sg_ok (.selects RX5 yX5_lay yX5_lay) := sg_okt 460 (by decide +kernel)
theorem cb_X5_laid : sg_cb mi_X5_laid 1 := ⟨sg_okt 464 (by decide +kernel), sg_okt 1 (by decide +kernel), ⟨by decide +kernel, by decide +kernel⟩, by decide +kernel, by decide +kernel⟩
theorem ms_X5_laid : sg_ok (.static yX5_laid) := sg_okt 463 (by decide +kernel)
theorem cb_X5_checkSign : sg_cb mi_X5_checkSign 1 := ⟨sg_okt 467 (by decide +kernel), sg_okt 1 (by decide +kernel), ⟨by decide +kernel, by decide +kernel⟩, by decide +kernel, by decide +kernel⟩
theorem ms_X5_checkSign : sg_ok (.static yX5_checkSign) := sg_okt 466 (by decide +kernel)
theorem cb_X2_isSign : sg_cb mi_X2_isSign 1 := ⟨sg_okt 470 (by decide +kernel), sg_okt 14 (by decide +kernel), ⟨by decide +kernel, by decide +kernel⟩, by decide +kernel, by decide +kernel⟩
theorem ms_X2_isSign : sg_ok (.static yX2_isSign) := sg_okt 469 (by decide +kernel)
theorem cb_X0_hasRoomFor : sg_cb mi_X0_hasRoomFor 1 := ⟨sg_okt 475 (by decide +kernel), sg_okt 3 (by decide +kernel), ⟨by decide +kernel, by decide +kernel⟩, by decide +kernel, by decide +kernel⟩
theorem mn_X0_hasRoomFor : sg_ok (.instanceMethod yX0_hasRoomFor) := sg_okt 473 (by decide +kernel)
theorem mv_X0_hasRoomFor : sg_ok (.selects RX0 yX0_hasRoomFor yX0_hasRoomFor) := sg_okt 474 (by decide +kernel)
theorem cb_X1_keep : sg_cb mi_X1_keep 1 := ⟨sg_okt 495 (by decide +kernel), sg_okt 4 (by decide +kernel), ⟨by decide +kernel, by decide +kernel⟩, by decide +kernel, by decide +kernel⟩
theorem mn_X1_keep : sg_ok (.instanceMethod yX1_keep) := sg_okt 493 (by decide +kernel)
theorem mv_X1_keep : sg_ok (.selects RX1 yX1_keep yX1_keep) := sg_okt 494 (by decide +kernel)
theorem cb_X3_become : sg_cb mi_X3_become 1 := ⟨sg_okt 499 (by decide +kernel), sg_okt 2 (by decide +kernel), ⟨by decide +kernel, by decide +kernel⟩, by decide +kernel, by decide +kernel⟩
theorem mn_X3_become : sg_ok (.instanceMethod yX3_become) := sg_okt 497 (by decide +kernel)
theorem mv_X3_become : sg_ok (.selects RX3 yX3_become yX3_become) := sg_okt 498 (by decide +kernel)
theorem cb_X0_become : sg_cb mi_X0_become 1 := ⟨sg_okt 503 (by decide +kernel), sg_okt 3 (by decide +kernel), ⟨by decide +kernel, by decide +kernel⟩, by decide +kernel, by decide +kernel⟩
theorem mn_X0_become : sg_ok (.instanceMethod yX0_become) := sg_okt 501 (by decide +kernel)
theorem mv_X0_become : sg_ok (.selects RX0 yX0_become yX0_become) := sg_okt 502 (by decide +kernel)
theorem cb_X0_add : sg_cb mi_X0_add 1 := ⟨sg_okt 508 (by decide +kernel), sg_okt 3 (by decide +kernel), ⟨by decide +kernel, by decide +kernel⟩, by decide +kernel, by decide +kernel⟩
theorem mn_X0_add : sg_ok (.instanceMethod yX0_add) := sg_okt 506 (by decide +kernel)
theorem mv_X0_add : sg_ok (.selects RX0 yX0_add yX0_add) := sg_okt 507 (by decide +kernel)
theorem cb_X5_addLaid : sg_cb mi_X5_addLaid 2 := ⟨sg_okt 511 (by decide +kernel), sg_okt 1 (by decide +kernel), ⟨by decide +kernel, by decide +kernel⟩, by decide +kernel, by decide +kernel⟩
theorem ms_X5_addLaid : sg_ok (.static yX5_addLaid) := sg_okt 510 (by decide +kernel)
theorem ms_L_drop : sg_ok (.static yL_drop) := sg_okt 514 (by decide +kernel)
theorem cb_X5_drop : sg_cb mi_X5_drop 2 := ⟨sg_okt 519 (by decide +kernel), sg_okt 1 (by decide +kernel), ⟨by decide +kernel, by decide +kernel⟩, by decide +kernel, by decide +kernel⟩
theorem mn_X5_drop : sg_ok (.instanceMethod yX5_drop) := sg_okt 517 (by decide +kernel)
theorem mv_X5_drop : sg_ok (.selects RX5 yX5_drop yX5_drop) := sg_okt 518 (by decide +kernel)
theorem cb_X5_shorten : sg_cb mi_X5_shorten 2 := ⟨sg_okt 523 (by decide +kernel), sg_okt 1 (by decide +kernel), ⟨by decide +kernel, by decide +kernel⟩, by decide +kernel, by decide +kernel⟩
theorem mn_X5_shorten : sg_ok (.instanceMethod yX5_shorten) := sg_okt 522 (by decide +kernel)
theorem mv_X5_shorten : sg_ok (.selects RX5 yX5_shorten yX5_shorten) := sg_oks 5 (by decide +kernel)
theorem cb_X0_takeAway : sg_cb mi_X0_takeAway 1 := ⟨sg_okt 528 (by decide +kernel), sg_okt 3 (by decide +kernel), ⟨by decide +kernel, by decide +kernel⟩, by decide +kernel, by decide +kernel⟩
theorem mn_X0_takeAway : sg_ok (.instanceMethod yX0_takeAway) := sg_okt 526 (by decide +kernel)
theorem mv_X0_takeAway : sg_ok (.selects RX0 yX0_takeAway yX0_takeAway) := sg_okt 527 (by decide +kernel)
theorem ms_L_copy : sg_ok (.static yL_copy) := sg_okt 530 (by decide +kernel)
theorem cb_X5_copy : sg_cb mi_X5_copy 2 := ⟨sg_okt 535 (by decide +kernel), sg_okt 1 (by decide +kernel), ⟨by decide +kernel, by decide +kernel⟩, by decide +kernel, by decide +kernel⟩
theorem mn_X5_copy : sg_ok (.instanceMethod yX5_copy) := sg_okt 533 (by decide +kernel)
theorem mv_X5_copy : sg_ok (.selects RX5 yX5_copy yX5_copy) := sg_okt 534 (by decide +kernel)
theorem ms_L_raise : sg_ok (.static yL_raise) := sg_okt 538 (by decide +kernel)
theorem cb_X5_raise : sg_cb mi_X5_raise 1 := ⟨sg_okt 543 (by decide +kernel), sg_okt 1 (by decide +kernel), ⟨by decide +kernel, by decide +kernel⟩, by decide +kernel, by decide +kernel⟩
theorem mn_X5_raise : sg_ok (.instanceMethod yX5_raise) := sg_okt 541 (by decide +kernel)
theorem mv_X5_raise : sg_ok (.selects RX5 yX5_raise yX5_raise) := sg_okt 542 (by decide +kernel)
theorem cb_X0_set : sg_cb mi_X0_set 2 := ⟨sg_okt 547 (by decide +kernel), sg_okt 3 (by decide +kernel), ⟨by decide +kernel, by decide +kernel⟩, by decide +kernel, by decide +kernel⟩
theorem mn_X0_set : sg_ok (.instanceMethod yX0_set) := sg_okt 545 (by decide +kernel)
theorem mv_X0_set : sg_ok (.selects RX0 yX0_set yX0_set) := sg_okt 546 (by decide +kernel)
theorem ms_L_sink : sg_ok (.static yL_sink) := sg_okt 549 (by decide +kernel)
theorem cb_X5_sink : sg_cb mi_X5_sink 1 := ⟨sg_okt 554 (by decide +kernel), sg_okt 1 (by decide +kernel), ⟨by decide +kernel, by decide +kernel⟩, by decide +kernel, by decide +kernel⟩
theorem mn_X5_sink : sg_ok (.instanceMethod yX5_sink) := sg_okt 552 (by decide +kernel)
theorem mv_X5_sink : sg_ok (.selects RX5 yX5_sink yX5_sink) := sg_okt 553 (by decide +kernel)
theorem ms_L_sieve : sg_ok (.static yL_sieve) := sg_okt 556 (by decide +kernel)
theorem cb_X5_sieve : sg_cb mi_X5_sieve 3 := ⟨sg_okt 561 (by decide +kernel), sg_okt 1 (by decide +kernel), ⟨by decide +kernel, by decide +kernel⟩, by decide +kernel, by decide +kernel⟩
theorem mn_X5_sieve : sg_ok (.instanceMethod yX5_sieve) := sg_okt 559 (by decide +kernel)
theorem mv_X5_sieve : sg_ok (.selects RX5 yX5_sieve yX5_sieve) := sg_okt 560 (by decide +kernel)
theorem ms_L_strip : sg_ok (.static yL_strip) := sg_okt 563 (by decide +kernel)
theorem cb_X5_strip : sg_cb mi_X5_strip 1 := ⟨sg_okt 568 (by decide +kernel), sg_okt 1 (by decide +kernel), ⟨by decide +kernel, by decide +kernel⟩, by decide +kernel, by decide +kernel⟩
theorem mn_X5_strip : sg_ok (.instanceMethod yX5_strip) := sg_okt 566 (by decide +kernel)
theorem mv_X5_strip : sg_ok (.selects RX5 yX5_strip yX5_strip) := sg_okt 567 (by decide +kernel)
theorem cb_X0_narrow : sg_cb mi_X0_narrow 2 := ⟨sg_okt 572 (by decide +kernel), sg_okt 3 (by decide +kernel), ⟨by decide +kernel, by decide +kernel⟩, by decide +kernel, by decide +kernel⟩
theorem mn_X0_narrow : sg_ok (.instanceMethod yX0_narrow) := sg_okt 570 (by decide +kernel)
theorem mv_X0_narrow : sg_ok (.selects RX0 yX0_narrow yX0_narrow) := sg_okt 571 (by decide +kernel)
theorem ms_L_turn : sg_ok (.static yL_turn) := sg_okt 574 (by decide +kernel)
theorem cb_X5_turn : sg_cb mi_X5_turn 1 := ⟨sg_okt 579 (by decide +kernel), sg_okt 1 (by decide +kernel), ⟨by decide +kernel, by decide +kernel⟩, by decide +kernel, by decide +kernel⟩
theorem mn_X5_turn : sg_ok (.instanceMethod yX5_turn) := sg_okt 577 (by decide +kernel)
theorem mv_X5_turn : sg_ok (.selects RX5 yX5_turn yX5_turn) := sg_okt 578 (by decide +kernel)
theorem cb_X0_turnRound : sg_cb mi_X0_turnRound 0 := ⟨sg_okt 583 (by decide +kernel), sg_okt 3 (by decide +kernel), ⟨by decide +kernel, by decide +kernel⟩, by decide +kernel, by decide +kernel⟩
theorem mn_X0_turnRound : sg_ok (.instanceMethod yX0_turnRound) := sg_okt 581 (by decide +kernel)
theorem mv_X0_turnRound : sg_ok (.selects RX0 yX0_turnRound yX0_turnRound) := sg_okt 582 (by decide +kernel)
theorem ms_L_write : sg_ok (.static yL_write) := sg_okt 586 (by decide +kernel)
theorem cb_X5_write : sg_cb mi_X5_write 3 := ⟨sg_okt 591 (by decide +kernel), sg_okt 1 (by decide +kernel), ⟨by decide +kernel, by decide +kernel⟩, by decide +kernel, by decide +kernel⟩
theorem mn_X5_write : sg_ok (.instanceMethod yX5_write) := sg_okt 589 (by decide +kernel)
theorem mv_X5_write : sg_ok (.selects RX5 yX5_write yX5_write) := sg_okt 590 (by decide +kernel)
theorem cb_X2_digitsOf : sg_cb mi_X2_digitsOf 2 := ⟨sg_okt 596 (by decide +kernel), sg_okt 14 (by decide +kernel), ⟨by decide +kernel, by decide +kernel⟩, by decide +kernel, by decide +kernel⟩
theorem ms_X2_digitsOf : sg_ok (.static yX2_digitsOf) := sg_okt 595 (by decide +kernel)
theorem cb_X2_shifted : sg_cb mi_X2_shifted 3 := ⟨sg_okt 599 (by decide +kernel), sg_okt 14 (by decide +kernel), ⟨by decide +kernel, by decide +kernel⟩, by decide +kernel, by decide +kernel⟩
theorem ms_X2_shifted : sg_ok (.static yX2_shifted) := sg_okt 598 (by decide +kernel)
theorem cb_X2_digitNumber : sg_cb mi_X2_digitNumber 3 := ⟨sg_okt 602 (by decide +kernel), sg_okt 14 (by decide +kernel), ⟨by decide +kernel, by decide +kernel⟩, by decide +kernel, by decide +kernel⟩
theorem ms_X2_digitNumber : sg_ok (.static yX2_digitNumber) := sg_okt 601 (by decide +kernel)
theorem ms_L_spell : sg_ok (.static yL_spell) := sg_okt 604 (by decide +kernel)
theorem cb_X5_spell : sg_cb mi_X5_spell 2 := ⟨sg_okt 609 (by decide +kernel), sg_okt 1 (by decide +kernel), ⟨by decide +kernel, by decide +kernel⟩, by decide +kernel, by decide +kernel⟩
theorem mn_X5_spell : sg_ok (.instanceMethod yX5_spell) := sg_okt 607 (by decide +kernel)
theorem mv_X5_spell : sg_ok (.selects RX5 yX5_spell yX5_spell) := sg_okt 608 (by decide +kernel)
theorem cb_X5_checkAreTwo : sg_cb mi_X5_checkAreTwo 2 := ⟨sg_okt 612 (by decide +kernel), sg_okt 1 (by decide +kernel), ⟨by decide +kernel, by decide +kernel⟩, by decide +kernel, by decide +kernel⟩
theorem ms_X5_checkAreTwo : sg_ok (.static yX5_checkAreTwo) := sg_okt 611 (by decide +kernel)
theorem cb_X0_clear : sg_cb mi_X0_clear 0 := ⟨sg_okt 617 (by decide +kernel), sg_okt 3 (by decide +kernel), ⟨by decide +kernel, by decide +kernel⟩, by decide +kernel, by decide +kernel⟩
theorem mn_X0_clear : sg_ok (.instanceMethod yX0_clear) := sg_okt 615 (by decide +kernel)
theorem mv_X0_clear : sg_ok (.selects RX0 yX0_clear yX0_clear) := sg_okt 616 (by decide +kernel)
theorem cb_X2_firstSpelled : sg_cb mi_X2_firstSpelled 1 := ⟨sg_okt 620 (by decide +kernel), sg_okt 14 (by decide +kernel), ⟨by decide +kernel, by decide +kernel⟩, by decide +kernel, by decide +kernel⟩
theorem ms_X2_firstSpelled : sg_ok (.static yX2_firstSpelled) := sg_okt 619 (by decide +kernel)
theorem cb_X2_secondSpelled : sg_cb mi_X2_secondSpelled 1 := ⟨sg_okt 623 (by decide +kernel), sg_okt 14 (by decide +kernel), ⟨by decide +kernel, by decide +kernel⟩, by decide +kernel, by decide +kernel⟩
theorem ms_X2_secondSpelled : sg_ok (.static yX2_secondSpelled) := sg_okt 622 (by decide +kernel)
theorem ms_L_read : sg_ok (.static yL_read) := sg_okt 625 (by decide +kernel)
theorem cb_X5_read : sg_cb mi_X5_read 2 := ⟨sg_okt 630 (by decide +kernel), sg_okt 1 (by decide +kernel), ⟨by decide +kernel, by decide +kernel⟩, by decide +kernel, by decide +kernel⟩
theorem mn_X5_read : sg_ok (.instanceMethod yX5_read) := sg_okt 628 (by decide +kernel)
theorem mv_X5_read : sg_ok (.selects RX5 yX5_read yX5_read) := sg_okt 629 (by decide +kernel)
theorem cb_X5_canBeRead : sg_cb mi_X5_canBeRead 1 := ⟨sg_okt 633 (by decide +kernel), sg_okt 1 (by decide +kernel), ⟨by decide +kernel, by decide +kernel⟩, by decide +kernel, by decide +kernel⟩
theorem ms_X5_canBeRead : sg_ok (.static yX5_canBeRead) := sg_okt 632 (by decide +kernel)
theorem ms_L_send : sg_ok (.static yL_send) := sg_okt 635 (by decide +kernel)
theorem cb_X5_send : sg_cb mi_X5_send 2 := ⟨sg_okt 640 (by decide +kernel), sg_okt 1 (by decide +kernel), ⟨by decide +kernel, by decide +kernel⟩, by decide +kernel, by decide +kernel⟩
theorem mn_X5_send : sg_ok (.instanceMethod yX5_send) := sg_okt 638 (by decide +kernel)
theorem mv_X5_send : sg_ok (.selects RX5 yX5_send yX5_send) := sg_okt 639 (by decide +kernel)
theorem cb_X4_addCode : sg_cb mi_X4_addCode 2 := ⟨sg_okt 644 (by decide +kernel), sg_okt 23 (by decide +kernel), ⟨by decide +kernel, by decide +kernel⟩, by decide +kernel, by decide +kernel⟩
theorem ms_X4_addCode : sg_ok (.static yX4_addCode) := sg_okt 643 (by decide +kernel)
theorem ms_L_put : sg_ok (.static yL_put) := sg_okt 647 (by decide +kernel)
theorem cb_X5_put : sg_cb mi_X5_put 2 := ⟨sg_okt 652 (by decide +kernel), sg_okt 1 (by decide +kernel), ⟨by decide +kernel, by decide +kernel⟩, by decide +kernel, by decide +kernel⟩
theorem mn_X5_put : sg_ok (.instanceMethod yX5_put) := sg_okt 650 (by decide +kernel)
theorem mv_X5_put : sg_ok (.selects RX5 yX5_put yX5_put) := sg_okt 651 (by decide +kernel)
theorem ms_L_cut : sg_ok (.static yL_cut) := sg_okt 654 (by decide +kernel)
theorem cb_X5_cut : sg_cb mi_X5_cut 2 := ⟨sg_okt 659 (by decide +kernel), sg_okt 1 (by decide +kernel), ⟨by decide +kernel, by decide +kernel⟩, by decide +kernel, by decide +kernel⟩
theorem mn_X5_cut : sg_ok (.instanceMethod yX5_cut) := sg_okt 657 (by decide +kernel)
theorem mv_X5_cut : sg_ok (.selects RX5 yX5_cut yX5_cut) := sg_okt 658 (by decide +kernel)
theorem ms_L_flip : sg_ok (.static yL_flip) := sg_okt 661 (by decide +kernel)
theorem cb_X5_flip : sg_cb mi_X5_flip 1 := ⟨sg_okt 666 (by decide +kernel), sg_okt 1 (by decide +kernel), ⟨by decide +kernel, by decide +kernel⟩, by decide +kernel, by decide +kernel⟩
theorem mn_X5_flip : sg_ok (.instanceMethod yX5_flip) := sg_okt 664 (by decide +kernel)
theorem mv_X5_flip : sg_ok (.selects RX5 yX5_flip yX5_flip) := sg_okt 665 (by decide +kernel)
theorem ms_L_reverse : sg_ok (.static yL_reverse) := sg_okt 668 (by decide +kernel)
theorem cb_X5_reverse : sg_cb mi_X5_reverse 1 := ⟨sg_okt 673 (by decide +kernel), sg_okt 1 (by decide +kernel), ⟨by decide +kernel, by decide +kernel⟩, by decide +kernel, by decide +kernel⟩
theorem mn_X5_reverse : sg_ok (.instanceMethod yX5_reverse) := sg_okt 671 (by decide +kernel)
theorem mv_X5_reverse : sg_ok (.selects RX5 yX5_reverse yX5_reverse) := sg_okt 672 (by decide +kernel)
theorem cb_X4_listCodes : sg_cb mi_X4_listCodes 2 := ⟨sg_okt 676 (by decide +kernel), sg_okt 23 (by decide +kernel), ⟨by decide +kernel, by decide +kernel⟩, by decide +kernel, by decide +kernel⟩
theorem ms_X4_listCodes : sg_ok (.static yX4_listCodes) := sg_okt 675 (by decide +kernel)
theorem ms_L_undo : sg_ok (.static yL_undo) := sg_okt 679 (by decide +kernel)
theorem cb_X5_undo : sg_cb mi_X5_undo 0 := ⟨sg_okt 684 (by decide +kernel), sg_okt 1 (by decide +kernel), ⟨by decide +kernel, by decide +kernel⟩, by decide +kernel, by decide +kernel⟩
theorem mn_X5_undo : sg_ok (.instanceMethod yX5_undo) := sg_okt 682 (by decide +kernel)
theorem mv_X5_undo : sg_ok (.selects RX5 yX5_undo yX5_undo) := sg_okt 683 (by decide +kernel)
theorem cb_X1_bringBack : sg_cb mi_X1_bringBack 1 := ⟨sg_okt 689 (by decide +kernel), sg_okt 4 (by decide +kernel), ⟨by decide +kernel, by decide +kernel⟩, by decide +kernel, by decide +kernel⟩
theorem mn_X1_bringBack : sg_ok (.instanceMethod yX1_bringBack) := sg_okt 687 (by decide +kernel)
theorem mv_X1_bringBack : sg_ok (.selects RX1 yX1_bringBack yX1_bringBack) := sg_okt 688 (by decide +kernel)
theorem ms_L_isDigit : sg_ok (.static yL_isDigit) := sg_okt 691 (by decide +kernel)
theorem cb_X5_isDigit : sg_cb mi_X5_isDigit 1 := ⟨sg_okt 696 (by decide +kernel), sg_okt 1 (by decide +kernel), ⟨by decide +kernel, by decide +kernel⟩, by decide +kernel, by decide +kernel⟩
theorem mn_X5_isDigit : sg_ok (.instanceMethod yX5_isDigit) := sg_okt 694 (by decide +kernel)
theorem mv_X5_isDigit : sg_ok (.selects RX5 yX5_isDigit yX5_isDigit) := sg_okt 695 (by decide +kernel)
theorem ms_L_isLetter : sg_ok (.static yL_isLetter) := sg_okt 698 (by decide +kernel)
theorem cb_X5_isLetter : sg_cb mi_X5_isLetter 1 := ⟨sg_okt 703 (by decide +kernel), sg_okt 1 (by decide +kernel), ⟨by decide +kernel, by decide +kernel⟩, by decide +kernel, by decide +kernel⟩
theorem mn_X5_isLetter : sg_ok (.instanceMethod yX5_isLetter) := sg_okt 701 (by decide +kernel)
theorem mv_X5_isLetter : sg_ok (.selects RX5 yX5_isLetter yX5_isLetter) := sg_okt 702 (by decide +kernel)
theorem ms_L_isLetterOrDigit : sg_ok (.static yL_isLetterOrDigit) := sg_okt 705 (by decide +kernel)
theorem cb_X5_isLetterOrDigit : sg_cb mi_X5_isLetterOrDigit 1 := ⟨sg_okt 710 (by decide +kernel), sg_okt 1 (by decide +kernel), ⟨by decide +kernel, by decide +kernel⟩, by decide +kernel, by decide +kernel⟩
theorem mn_X5_isLetterOrDigit : sg_ok (.instanceMethod yX5_isLetterOrDigit) := sg_okt 708 (by decide +kernel)
theorem mv_X5_isLetterOrDigit : sg_ok (.selects RX5 yX5_isLetterOrDigit yX5_isLetterOrDigit) := sg_okt 709 (by decide +kernel)
theorem ms_L_isWhite : sg_ok (.static yL_isWhite) := sg_okt 712 (by decide +kernel)
theorem cb_X5_isWhite : sg_cb mi_X5_isWhite 1 := ⟨sg_okt 717 (by decide +kernel), sg_okt 1 (by decide +kernel), ⟨by decide +kernel, by decide +kernel⟩, by decide +kernel, by decide +kernel⟩
theorem mn_X5_isWhite : sg_ok (.instanceMethod yX5_isWhite) := sg_okt 715 (by decide +kernel)
theorem mv_X5_isWhite : sg_ok (.selects RX5 yX5_isWhite yX5_isWhite) := sg_okt 716 (by decide +kernel)
theorem ms_L_isGreat : sg_ok (.static yL_isGreat) := sg_okt 719 (by decide +kernel)
theorem cb_X5_isGreat : sg_cb mi_X5_isGreat 1 := ⟨sg_okt 724 (by decide +kernel), sg_okt 1 (by decide +kernel), ⟨by decide +kernel, by decide +kernel⟩, by decide +kernel, by decide +kernel⟩
theorem mn_X5_isGreat : sg_ok (.instanceMethod yX5_isGreat) := sg_okt 722 (by decide +kernel)
theorem mv_X5_isGreat : sg_ok (.selects RX5 yX5_isGreat yX5_isGreat) := sg_okt 723 (by decide +kernel)
theorem ms_L_kinds : sg_ok (.static yL_kinds) := sg_okt 726 (by decide +kernel)
theorem cb_X5_kinds : sg_cb mi_X5_kinds 1 := ⟨sg_okt 731 (by decide +kernel), sg_okt 1 (by decide +kernel), ⟨by decide +kernel, by decide +kernel⟩, by decide +kernel, by decide +kernel⟩
theorem mn_X5_kinds : sg_ok (.instanceMethod yX5_kinds) := sg_okt 729 (by decide +kernel)
theorem mv_X5_kinds : sg_ok (.selects RX5 yX5_kinds yX5_kinds) := sg_okt 730 (by decide +kernel)
theorem ms_L_upper : sg_ok (.static yL_upper) := sg_okt 733 (by decide +kernel)
theorem cb_X5_upper : sg_cb mi_X5_upper 2 := ⟨sg_okt 738 (by decide +kernel), sg_okt 1 (by decide +kernel), ⟨by decide +kernel, by decide +kernel⟩, by decide +kernel, by decide +kernel⟩
theorem mn_X5_upper : sg_ok (.instanceMethod yX5_upper) := sg_okt 736 (by decide +kernel)
theorem mv_X5_upper : sg_ok (.selects RX5 yX5_upper yX5_upper) := sg_okt 737 (by decide +kernel)
theorem ms_L_lower : sg_ok (.static yL_lower) := sg_okt 740 (by decide +kernel)
theorem cb_X5_lower : sg_cb mi_X5_lower 2 := ⟨sg_okt 745 (by decide +kernel), sg_okt 1 (by decide +kernel), ⟨by decide +kernel, by decide +kernel⟩, by decide +kernel, by decide +kernel⟩
theorem mn_X5_lower : sg_ok (.instanceMethod yX5_lower) := sg_okt 743 (by decide +kernel)
theorem mv_X5_lower : sg_ok (.selects RX5 yX5_lower yX5_lower) := sg_okt 744 (by decide +kernel)
theorem ms_L_value : sg_ok (.static yL_value) := sg_okt 747 (by decide +kernel)
theorem cb_X5_value : sg_cb mi_X5_value 2 := ⟨sg_okt 752 (by decide +kernel), sg_okt 1 (by decide +kernel), ⟨by decide +kernel, by decide +kernel⟩, by decide +kernel, by decide +kernel⟩
theorem mn_X5_value : sg_ok (.instanceMethod yX5_value) := sg_okt 750 (by decide +kernel)
theorem mv_X5_value : sg_ok (.selects RX5 yX5_value yX5_value) := sg_okt 751 (by decide +kernel)
theorem ms_L_number : sg_ok (.static yL_number) := sg_okt 754 (by decide +kernel)
theorem cb_X5_number : sg_cb mi_X5_number 3 := ⟨sg_okt 759 (by decide +kernel), sg_okt 1 (by decide +kernel), ⟨by decide +kernel, by decide +kernel⟩, by decide +kernel, by decide +kernel⟩
theorem mn_X5_number : sg_ok (.instanceMethod yX5_number) := sg_okt 757 (by decide +kernel)
theorem mv_X5_number : sg_ok (.selects RX5 yX5_number yX5_number) := sg_okt 758 (by decide +kernel)
theorem ms_L_length : sg_ok (.static yL_length) := sg_okt 761 (by decide +kernel)
theorem cb_X5_length : sg_cb mi_X5_length 1 := ⟨sg_okt 766 (by decide +kernel), sg_okt 1 (by decide +kernel), ⟨by decide +kernel, by decide +kernel⟩, by decide +kernel, by decide +kernel⟩
theorem mn_X5_length : sg_ok (.instanceMethod yX5_length) := sg_okt 764 (by decide +kernel)
theorem mv_X5_length : sg_ok (.selects RX5 yX5_length yX5_length) := sg_okt 765 (by decide +kernel)
theorem ms_L_at : sg_ok (.static yL_at) := sg_okt 768 (by decide +kernel)
theorem cb_X5_at : sg_cb mi_X5_at 2 := ⟨sg_okt 773 (by decide +kernel), sg_okt 1 (by decide +kernel), ⟨by decide +kernel, by decide +kernel⟩, by decide +kernel, by decide +kernel⟩
theorem mn_X5_at : sg_ok (.instanceMethod yX5_at) := sg_okt 771 (by decide +kernel)
theorem mv_X5_at : sg_ok (.selects RX5 yX5_at yX5_at) := sg_okt 772 (by decide +kernel)
theorem cb_X5_numberAt : sg_cb mi_X5_numberAt 2 := ⟨sg_okt 776 (by decide +kernel), sg_okt 1 (by decide +kernel), ⟨by decide +kernel, by decide +kernel⟩, by decide +kernel, by decide +kernel⟩
theorem ms_X5_numberAt : sg_ok (.static yX5_numberAt) := sg_okt 775 (by decide +kernel)
theorem ms_L_count : sg_ok (.static yL_count) := sg_okt 780 (by decide +kernel)
theorem ms_L_first : sg_ok (.static yL_first) := sg_okt 784 (by decide +kernel)
theorem cb_X5_first : sg_cb mi_X5_first 3 := ⟨sg_okt 789 (by decide +kernel), sg_okt 1 (by decide +kernel), ⟨by decide +kernel, by decide +kernel⟩, by decide +kernel, by decide +kernel⟩
theorem mn_X5_first : sg_ok (.instanceMethod yX5_first) := sg_okt 787 (by decide +kernel)
theorem mv_X5_first : sg_ok (.selects RX5 yX5_first yX5_first) := sg_okt 788 (by decide +kernel)
theorem ms_L_last : sg_ok (.static yL_last) := sg_okt 792 (by decide +kernel)
theorem cb_X5_last : sg_cb mi_X5_last 2 := ⟨sg_okt 797 (by decide +kernel), sg_okt 1 (by decide +kernel), ⟨by decide +kernel, by decide +kernel⟩, by decide +kernel, by decide +kernel⟩
theorem mn_X5_last : sg_ok (.instanceMethod yX5_last) := sg_okt 795 (by decide +kernel)
theorem mv_X5_last : sg_ok (.selects RX5 yX5_last yX5_last) := sg_okt 796 (by decide +kernel)
theorem ms_L_forms : sg_ok (.static yL_forms) := sg_okt 799 (by decide +kernel)
theorem cb_X5_forms : sg_cb mi_X5_forms 1 := ⟨sg_okt 804 (by decide +kernel), sg_okt 1 (by decide +kernel), ⟨by decide +kernel, by decide +kernel⟩, by decide +kernel, by decide +kernel⟩
theorem mn_X5_forms : sg_ok (.instanceMethod yX5_forms) := sg_okt 802 (by decide +kernel)
theorem mv_X5_forms : sg_ok (.selects RX5 yX5_forms yX5_forms) := sg_okt 803 (by decide +kernel)
theorem cb_X2_formOf : sg_cb mi_X2_formOf 1 := ⟨sg_okt 838 (by decide +kernel), sg_okt 14 (by decide +kernel), ⟨by decide +kernel, by decide +kernel⟩, by decide +kernel, by decide +kernel⟩
theorem ms_X2_formOf : sg_ok (.static yX2_formOf) := sg_okt 837 (by decide +kernel)
theorem ms_L_spelled : sg_ok (.static yL_spelled) := sg_okt 1073 (by decide +kernel)
theorem cb_X5_spelled : sg_cb mi_X5_spelled 1 := ⟨sg_okt 1078 (by decide +kernel), sg_okt 1 (by decide +kernel), ⟨by decide +kernel, by decide +kernel⟩, by decide +kernel, by decide +kernel⟩
theorem mn_X5_spelled : sg_ok (.instanceMethod yX5_spelled) := sg_okt 1076 (by decide +kernel)
theorem mv_X5_spelled : sg_ok (.selects RX5 yX5_spelled yX5_spelled) := sg_okt 1077 (by decide +kernel)
theorem ms_L_told : sg_ok (.static yL_told) := sg_okt 1080 (by decide +kernel)
theorem ms_L_sum : sg_ok (.static yL_sum) := sg_okt 1084 (by decide +kernel)
theorem cb_X5_sum : sg_cb mi_X5_sum 2 := ⟨sg_okt 1089 (by decide +kernel), sg_okt 1 (by decide +kernel), ⟨by decide +kernel, by decide +kernel⟩, by decide +kernel, by decide +kernel⟩
theorem mn_X5_sum : sg_ok (.instanceMethod yX5_sum) := sg_okt 1087 (by decide +kernel)
theorem mv_X5_sum : sg_ok (.selects RX5 yX5_sum yX5_sum) := sg_okt 1088 (by decide +kernel)
theorem ms_L_values : sg_ok (.static yL_values) := sg_okt 1091 (by decide +kernel)
theorem ms_L_words : sg_ok (.static yL_words) := sg_okt 1095 (by decide +kernel)
theorem ms_L_word : sg_ok (.static yL_word) := sg_okt 1099 (by decide +kernel)
theorem cb_X5_word : sg_cb mi_X5_word 3 := ⟨sg_okt 1104 (by decide +kernel), sg_okt 1 (by decide +kernel), ⟨by decide +kernel, by decide +kernel⟩, by decide +kernel, by decide +kernel⟩
theorem mn_X5_word : sg_ok (.instanceMethod yX5_word) := sg_okt 1102 (by decide +kernel)
theorem mv_X5_word : sg_ok (.selects RX5 yX5_word yX5_word) := sg_okt 1103 (by decide +kernel)
theorem cb_X5_wordBegin : sg_cb mi_X5_wordBegin 2 := ⟨sg_okt 1107 (by decide +kernel), sg_okt 1 (by decide +kernel), ⟨by decide +kernel, by decide +kernel⟩, by decide +kernel, by decide +kernel⟩
theorem ms_X5_wordBegin : sg_ok (.static yX5_wordBegin) := sg_okt 1106 (by decide +kernel)
theorem ms_L_isAlike : sg_ok (.static yL_isAlike) := sg_okt 1110 (by decide +kernel)
theorem ms_L_order : sg_ok (.static yL_order) := sg_okt 1114 (by decide +kernel)
theorem ms_L_half : sg_ok (.static yL_half) := sg_okt 1118 (by decide +kernel)
theorem cb_X5_half : sg_cb mi_X5_half 2 := ⟨sg_okt 1123 (by decide +kernel), sg_okt 1 (by decide +kernel), ⟨by decide +kernel, by decide +kernel⟩, by decide +kernel, by decide +kernel⟩
theorem mn_X5_half : sg_ok (.instanceMethod yX5_half) := sg_okt 1121 (by decide +kernel)
theorem mv_X5_half : sg_ok (.selects RX5 yX5_half yX5_half) := sg_okt 1122 (by decide +kernel)
theorem ms_L_code : sg_ok (.static yL_code) := sg_okt 1128 (by decide +kernel)
theorem cb_X5_code : sg_cb mi_X5_code 2 := ⟨sg_okt 1133 (by decide +kernel), sg_okt 1 (by decide +kernel), ⟨by decide +kernel, by decide +kernel⟩, by decide +kernel, by decide +kernel⟩
theorem mn_X5_code : sg_ok (.instanceMethod yX5_code) := sg_okt 1131 (by decide +kernel)
theorem mv_X5_code : sg_ok (.selects RX5 yX5_code yX5_code) := sg_okt 1132 (by decide +kernel)
theorem ms_L_ofUnit : sg_ok (.static yL_ofUnit) := sg_okt 1137 (by decide +kernel)
theorem ms_L_compare : sg_ok (.static yL_compare) := sg_okt 1141 (by decide +kernel)
theorem cb_X5_compare : sg_cb mi_X5_compare 2 := ⟨sg_okt 1146 (by decide +kernel), sg_okt 1 (by decide +kernel), ⟨by decide +kernel, by decide +kernel⟩, by decide +kernel, by decide +kernel⟩
theorem mn_X5_compare : sg_ok (.instanceMethod yX5_compare) := sg_okt 1144 (by decide +kernel)
theorem mv_X5_compare : sg_ok (.selects RX5 yX5_compare yX5_compare) := sg_okt 1145 (by decide +kernel)
theorem ms_L_ofTrack : sg_ok (.static yL_ofTrack) := sg_okt 1148 (by decide +kernel)
theorem cb_X5_ofTrack : sg_cb mi_X5_ofTrack 2 := ⟨sg_okt 1153 (by decide +kernel), sg_okt 1 (by decide +kernel), ⟨by decide +kernel, by decide +kernel⟩, by decide +kernel, by decide +kernel⟩
theorem mn_X5_ofTrack : sg_ok (.instanceMethod yX5_ofTrack) := sg_okt 1151 (by decide +kernel)
theorem mv_X5_ofTrack : sg_ok (.selects RX5 yX5_ofTrack yX5_ofTrack) := sg_okt 1152 (by decide +kernel)
theorem ms_L_unit : sg_ok (.static yL_unit) := sg_okt 1155 (by decide +kernel)
theorem cb_X5_unit : sg_cb mi_X5_unit 2 := ⟨sg_okt 1160 (by decide +kernel), sg_okt 1 (by decide +kernel), ⟨by decide +kernel, by decide +kernel⟩, by decide +kernel, by decide +kernel⟩
theorem mn_X5_unit : sg_ok (.instanceMethod yX5_unit) := sg_okt 1158 (by decide +kernel)
theorem mv_X5_unit : sg_ok (.selects RX5 yX5_unit yX5_unit) := sg_okt 1159 (by decide +kernel)
theorem ms_L_codeAt : sg_ok (.static yL_codeAt) := sg_okt 1162 (by decide +kernel)
theorem cb_X5_codeAt : sg_cb mi_X5_codeAt 2 := ⟨sg_okt 1167 (by decide +kernel), sg_okt 1 (by decide +kernel), ⟨by decide +kernel, by decide +kernel⟩, by decide +kernel, by decide +kernel⟩
theorem mn_X5_codeAt : sg_ok (.instanceMethod yX5_codeAt) := sg_okt 1165 (by decide +kernel)
theorem mv_X5_codeAt : sg_ok (.selects RX5 yX5_codeAt yX5_codeAt) := sg_okt 1166 (by decide +kernel)
theorem ms_L_nth : sg_ok (.static yL_nth) := sg_okt 1169 (by decide +kernel)
theorem cb_X5_nth : sg_cb mi_X5_nth 2 := ⟨sg_okt 1174 (by decide +kernel), sg_okt 1 (by decide +kernel), ⟨by decide +kernel, by decide +kernel⟩, by decide +kernel, by decide +kernel⟩
theorem mn_X5_nth : sg_ok (.instanceMethod yX5_nth) := sg_okt 1172 (by decide +kernel)
theorem mv_X5_nth : sg_ok (.selects RX5 yX5_nth yX5_nth) := sg_okt 1173 (by decide +kernel)
theorem cb_X4_codeBegin : sg_cb mi_X4_codeBegin 2 := ⟨sg_okt 1177 (by decide +kernel), sg_okt 23 (by decide +kernel), ⟨by decide +kernel, by decide +kernel⟩, by decide +kernel, by decide +kernel⟩
theorem ms_X4_codeBegin : sg_ok (.static yX4_codeBegin) := sg_okt 1176 (by decide +kernel)
theorem ms_L_house : sg_ok (.static yL_house) := sg_okt 1179 (by decide +kernel)
theorem cb_X7_init : sg_cb mi_X7_init 0 := ⟨sg_okt 1186 (by decide +kernel), sg_okt 5 (by decide +kernel), ⟨by decide +kernel, by decide +kernel⟩, by decide +kernel, by decide +kernel⟩
theorem mn_X7_init : sg_ok (.instanceMethod yX7_init) := sg_okt 1185 (by decide +kernel)
theorem cb_X7_lay : sg_cb mi_X7_lay 5 := ⟨sg_okt 1232 (by decide +kernel), sg_okt 5 (by decide +kernel), ⟨by decide +kernel, by decide +kernel⟩, by decide +kernel, by decide +kernel⟩
theorem mn_X7_lay : sg_ok (.instanceMethod yX7_lay) := sg_okt 1230 (by decide +kernel)
theorem mv_X7_lay : sg_ok (.selects RX7 yX7_lay yX7_lay) := sg_okt 1231 (by decide +kernel)
theorem cb_X7_isSign : sg_cb mi_X7_isSign 1 := ⟨sg_okt 1235 (by decide +kernel), sg_okt 5 (by decide +kernel), ⟨by decide +kernel, by decide +kernel⟩, by decide +kernel, by decide +kernel⟩
theorem ms_X7_isSign : sg_ok (.static yX7_isSign) := sg_okt 1234 (by decide +kernel)
theorem cb_X7_isOf : sg_cb mi_X7_isOf 3 := ⟨sg_okt 1238 (by decide +kernel), sg_okt 5 (by decide +kernel), ⟨by decide +kernel, by decide +kernel⟩, by decide +kernel, by decide +kernel⟩
theorem ms_X7_isOf : sg_ok (.static yX7_isOf) := sg_okt 1237 (by decide +kernel)
theorem cb_X7_isNoRow : sg_cb mi_X7_isNoRow 1 := ⟨sg_okt 1241 (by decide +kernel), sg_okt 5 (by decide +kernel), ⟨by decide +kernel, by decide +kernel⟩, by decide +kernel, by decide +kernel⟩
theorem ms_X7_isNoRow : sg_ok (.static yX7_isNoRow) := sg_okt 1240 (by decide +kernel)
theorem cb_X7_start : sg_cb mi_X7_start 2 := ⟨sg_okt 1245 (by decide +kernel), sg_okt 5 (by decide +kernel), ⟨by decide +kernel, by decide +kernel⟩, by decide +kernel, by decide +kernel⟩
theorem mn_X7_start : sg_ok (.instanceMethod yX7_start) := sg_okt 1244 (by decide +kernel)
theorem mv_X7_start : sg_ok (.selects RX7 yX7_start yX7_start) := sg_oks 6 (by decide +kernel)
theorem cb_X7_refuse : sg_cb mi_X7_refuse 2 := ⟨sg_okt 1249 (by decide +kernel), sg_okt 5 (by decide +kernel), ⟨by decide +kernel, by decide +kernel⟩, by decide +kernel, by decide +kernel⟩
theorem mn_X7_refuse : sg_ok (.instanceMethod yX7_refuse) := sg_okt 1248 (by decide +kernel)
theorem mv_X7_refuse : sg_ok (.selects RX7 yX7_refuse yX7_refuse) := sg_oks 7 (by decide +kernel)
theorem cb_X7_only : sg_cb mi_X7_only 2 := ⟨sg_okt 1252 (by decide +kernel), sg_okt 5 (by decide +kernel), ⟨by decide +kernel, by decide +kernel⟩, by decide +kernel, by decide +kernel⟩
theorem ms_X7_only : sg_ok (.static yX7_only) := sg_okt 1251 (by decide +kernel)
theorem cb_X7_joined : sg_cb mi_X7_joined 2 := ⟨sg_okt 1255 (by decide +kernel), sg_okt 5 (by decide +kernel), ⟨by decide +kernel, by decide +kernel⟩, by decide +kernel, by decide +kernel⟩
theorem ms_X7_joined : sg_ok (.static yX7_joined) := sg_okt 1254 (by decide +kernel)
theorem cb_X7_set : sg_cb mi_X7_set 2 := ⟨sg_okt 1259 (by decide +kernel), sg_okt 5 (by decide +kernel), ⟨by decide +kernel, by decide +kernel⟩, by decide +kernel, by decide +kernel⟩
theorem mn_X7_set : sg_ok (.instanceMethod yX7_set) := sg_okt 1258 (by decide +kernel)
theorem mv_X7_set : sg_ok (.selects RX7 yX7_set yX7_set) := sg_oks 8 (by decide +kernel)
theorem cb_X7_drop : sg_cb mi_X7_drop 2 := ⟨sg_okt 1325 (by decide +kernel), sg_okt 5 (by decide +kernel), ⟨by decide +kernel, by decide +kernel⟩, by decide +kernel, by decide +kernel⟩
theorem mn_X7_drop : sg_ok (.instanceMethod yX7_drop) := sg_okt 1323 (by decide +kernel)
theorem mv_X7_drop : sg_ok (.selects RX7 yX7_drop yX7_drop) := sg_okt 1324 (by decide +kernel)
theorem cb_X7_part : sg_cb mi_X7_part 3 := ⟨sg_okt 1328 (by decide +kernel), sg_okt 5 (by decide +kernel), ⟨by decide +kernel, by decide +kernel⟩, by decide +kernel, by decide +kernel⟩
theorem ms_X7_part : sg_ok (.static yX7_part) := sg_okt 1327 (by decide +kernel)
theorem cb_X7_copy : sg_cb mi_X7_copy 2 := ⟨sg_okt 1332 (by decide +kernel), sg_okt 5 (by decide +kernel), ⟨by decide +kernel, by decide +kernel⟩, by decide +kernel, by decide +kernel⟩
theorem mn_X7_copy : sg_ok (.instanceMethod yX7_copy) := sg_okt 1330 (by decide +kernel)
theorem mv_X7_copy : sg_ok (.selects RX7 yX7_copy yX7_copy) := sg_okt 1331 (by decide +kernel)
theorem cb_X7_raise : sg_cb mi_X7_raise 1 := ⟨sg_okt 1336 (by decide +kernel), sg_okt 5 (by decide +kernel), ⟨by decide +kernel, by decide +kernel⟩, by decide +kernel, by decide +kernel⟩
theorem mn_X7_raise : sg_ok (.instanceMethod yX7_raise) := sg_okt 1334 (by decide +kernel)
theorem mv_X7_raise : sg_ok (.selects RX7 yX7_raise yX7_raise) := sg_okt 1335 (by decide +kernel)
theorem cb_X7_cased : sg_cb mi_X7_cased 2 := ⟨sg_okt 1340 (by decide +kernel), sg_okt 5 (by decide +kernel), ⟨by decide +kernel, by decide +kernel⟩, by decide +kernel, by decide +kernel⟩
theorem mn_X7_cased : sg_ok (.instanceMethod yX7_cased) := sg_okt 1339 (by decide +kernel)
theorem mv_X7_cased : sg_ok (.selects RX7 yX7_cased yX7_cased) := sg_oks 13 (by decide +kernel)
theorem cb_X7_upperOf : sg_cb mi_X7_upperOf 1 := ⟨sg_okt 1343 (by decide +kernel), sg_okt 5 (by decide +kernel), ⟨by decide +kernel, by decide +kernel⟩, by decide +kernel, by decide +kernel⟩
theorem ms_X7_upperOf : sg_ok (.static yX7_upperOf) := sg_okt 1342 (by decide +kernel)
theorem cb_X7_lowerOf : sg_cb mi_X7_lowerOf 1 := ⟨sg_okt 1346 (by decide +kernel), sg_okt 5 (by decide +kernel), ⟨by decide +kernel, by decide +kernel⟩, by decide +kernel, by decide +kernel⟩
theorem ms_X7_lowerOf : sg_ok (.static yX7_lowerOf) := sg_okt 1345 (by decide +kernel)
theorem cb_X7_isKind : sg_cb mi_X7_isKind 2 := ⟨sg_okt 1349 (by decide +kernel), sg_okt 5 (by decide +kernel), ⟨by decide +kernel, by decide +kernel⟩, by decide +kernel, by decide +kernel⟩
theorem ms_X7_isKind : sg_ok (.static yX7_isKind) := sg_okt 1348 (by decide +kernel)
theorem cb_X7_one : sg_cb mi_X7_one 1 := ⟨sg_okt 1354 (by decide +kernel), sg_okt 5 (by decide +kernel), ⟨by decide +kernel, by decide +kernel⟩, by decide +kernel, by decide +kernel⟩
theorem ms_X7_one : sg_ok (.static yX7_one) := sg_okt 1353 (by decide +kernel)
theorem cb_X7_sink : sg_cb mi_X7_sink 1 := ⟨sg_okt 1358 (by decide +kernel), sg_okt 5 (by decide +kernel), ⟨by decide +kernel, by decide +kernel⟩, by decide +kernel, by decide +kernel⟩
theorem mn_X7_sink : sg_ok (.instanceMethod yX7_sink) := sg_okt 1356 (by decide +kernel)
theorem mv_X7_sink : sg_ok (.selects RX7 yX7_sink yX7_sink) := sg_okt 1357 (by decide +kernel)
theorem cb_X7_sieve : sg_cb mi_X7_sieve 3 := ⟨sg_okt 1362 (by decide +kernel), sg_okt 5 (by decide +kernel), ⟨by decide +kernel, by decide +kernel⟩, by decide +kernel, by decide +kernel⟩
theorem mn_X7_sieve : sg_ok (.instanceMethod yX7_sieve) := sg_okt 1360 (by decide +kernel)
theorem mv_X7_sieve : sg_ok (.selects RX7 yX7_sieve yX7_sieve) := sg_okt 1361 (by decide +kernel)
theorem cb_X7_isNoKind : sg_cb mi_X7_isNoKind 1 := ⟨sg_okt 1365 (by decide +kernel), sg_okt 5 (by decide +kernel), ⟨by decide +kernel, by decide +kernel⟩, by decide +kernel, by decide +kernel⟩
theorem ms_X7_isNoKind : sg_ok (.static yX7_isNoKind) := sg_okt 1364 (by decide +kernel)
theorem cb_X7_strip : sg_cb mi_X7_strip 1 := ⟨sg_okt 1369 (by decide +kernel), sg_okt 5 (by decide +kernel), ⟨by decide +kernel, by decide +kernel⟩, by decide +kernel, by decide +kernel⟩
theorem mn_X7_strip : sg_ok (.instanceMethod yX7_strip) := sg_okt 1367 (by decide +kernel)
theorem mv_X7_strip : sg_ok (.selects RX7 yX7_strip yX7_strip) := sg_okt 1368 (by decide +kernel)
theorem cb_X7_turn : sg_cb mi_X7_turn 1 := ⟨sg_okt 1373 (by decide +kernel), sg_okt 5 (by decide +kernel), ⟨by decide +kernel, by decide +kernel⟩, by decide +kernel, by decide +kernel⟩
theorem mn_X7_turn : sg_ok (.instanceMethod yX7_turn) := sg_okt 1371 (by decide +kernel)
theorem mv_X7_turn : sg_ok (.selects RX7 yX7_turn yX7_turn) := sg_okt 1372 (by decide +kernel)
theorem cb_X7_turned : sg_cb mi_X7_turned 1 := ⟨sg_okt 1376 (by decide +kernel), sg_okt 5 (by decide +kernel), ⟨by decide +kernel, by decide +kernel⟩, by decide +kernel, by decide +kernel⟩
theorem ms_X7_turned : sg_ok (.static yX7_turned) := sg_okt 1375 (by decide +kernel)
theorem cb_X7_write : sg_cb mi_X7_write 3 := ⟨sg_okt 1380 (by decide +kernel), sg_okt 5 (by decide +kernel), ⟨by decide +kernel, by decide +kernel⟩, by decide +kernel, by decide +kernel⟩
theorem mn_X7_write : sg_ok (.instanceMethod yX7_write) := sg_okt 1378 (by decide +kernel)
theorem mv_X7_write : sg_ok (.selects RX7 yX7_write yX7_write) := sg_okt 1379 (by decide +kernel)
theorem cb_X7_isRadix : sg_cb mi_X7_isRadix 1 := ⟨sg_okt 1384 (by decide +kernel), sg_okt 5 (by decide +kernel), ⟨by decide +kernel, by decide +kernel⟩, by decide +kernel, by decide +kernel⟩
theorem ms_X7_isRadix : sg_ok (.static yX7_isRadix) := sg_okt 1383 (by decide +kernel)
theorem cb_X7_digitOf : sg_cb mi_X7_digitOf 2 := ⟨sg_okt 1387 (by decide +kernel), sg_okt 5 (by decide +kernel), ⟨by decide +kernel, by decide +kernel⟩, by decide +kernel, by decide +kernel⟩
theorem ms_X7_digitOf : sg_ok (.static yX7_digitOf) := sg_okt 1386 (by decide +kernel)
theorem cb_X7_spell : sg_cb mi_X7_spell 2 := ⟨sg_okt 1391 (by decide +kernel), sg_okt 5 (by decide +kernel), ⟨by decide +kernel, by decide +kernel⟩, by decide +kernel, by decide +kernel⟩
theorem mn_X7_spell : sg_ok (.instanceMethod yX7_spell) := sg_okt 1389 (by decide +kernel)
theorem mv_X7_spell : sg_ok (.selects RX7 yX7_spell yX7_spell) := sg_okt 1390 (by decide +kernel)
theorem cb_X7_spelledOf : sg_cb mi_X7_spelledOf 1 := ⟨sg_okt 1394 (by decide +kernel), sg_okt 5 (by decide +kernel), ⟨by decide +kernel, by decide +kernel⟩, by decide +kernel, by decide +kernel⟩
theorem ms_X7_spelledOf : sg_ok (.static yX7_spelledOf) := sg_okt 1393 (by decide +kernel)
theorem cb_X7_read : sg_cb mi_X7_read 2 := ⟨sg_okt 1398 (by decide +kernel), sg_okt 5 (by decide +kernel), ⟨by decide +kernel, by decide +kernel⟩, by decide +kernel, by decide +kernel⟩
theorem mn_X7_read : sg_ok (.instanceMethod yX7_read) := sg_okt 1396 (by decide +kernel)
theorem mv_X7_read : sg_ok (.selects RX7 yX7_read yX7_read) := sg_okt 1397 (by decide +kernel)
theorem cb_X7_numberOf : sg_cb mi_X7_numberOf 2 := ⟨sg_okt 1401 (by decide +kernel), sg_okt 5 (by decide +kernel), ⟨by decide +kernel, by decide +kernel⟩, by decide +kernel, by decide +kernel⟩
theorem ms_X7_numberOf : sg_ok (.static yX7_numberOf) := sg_okt 1400 (by decide +kernel)
theorem cb_X7_valueOf : sg_cb mi_X7_valueOf 1 := ⟨sg_okt 1404 (by decide +kernel), sg_okt 5 (by decide +kernel), ⟨by decide +kernel, by decide +kernel⟩, by decide +kernel, by decide +kernel⟩
theorem ms_X7_valueOf : sg_ok (.static yX7_valueOf) := sg_okt 1403 (by decide +kernel)
theorem cb_X7_send : sg_cb mi_X7_send 2 := ⟨sg_okt 1408 (by decide +kernel), sg_okt 5 (by decide +kernel), ⟨by decide +kernel, by decide +kernel⟩, by decide +kernel, by decide +kernel⟩
theorem mn_X7_send : sg_ok (.instanceMethod yX7_send) := sg_okt 1406 (by decide +kernel)
theorem mv_X7_send : sg_ok (.selects RX7 yX7_send yX7_send) := sg_okt 1407 (by decide +kernel)
theorem cb_X7_isNoTrack : sg_cb mi_X7_isNoTrack 1 := ⟨sg_okt 1411 (by decide +kernel), sg_okt 5 (by decide +kernel), ⟨by decide +kernel, by decide +kernel⟩, by decide +kernel, by decide +kernel⟩
theorem ms_X7_isNoTrack : sg_ok (.static yX7_isNoTrack) := sg_okt 1410 (by decide +kernel)
theorem cb_X7_sent : sg_cb mi_X7_sent 1 := ⟨sg_okt 1415 (by decide +kernel), sg_okt 5 (by decide +kernel), ⟨by decide +kernel, by decide +kernel⟩, by decide +kernel, by decide +kernel⟩
theorem ms_X7_sent : sg_ok (.static yX7_sent) := sg_okt 1414 (by decide +kernel)
theorem cb_X7_behind : sg_cb mi_X7_behind 2 := ⟨sg_okt 1422 (by decide +kernel), sg_okt 5 (by decide +kernel), ⟨by decide +kernel, by decide +kernel⟩, by decide +kernel, by decide +kernel⟩
theorem mn_X7_behind : sg_ok (.instanceMethod yX7_behind) := sg_okt 1421 (by decide +kernel)
theorem mv_X7_behind : sg_ok (.selects RX7 yX7_behind yX7_behind) := sg_oks 14 (by decide +kernel)
theorem cb_X7_put : sg_cb mi_X7_put 2 := ⟨sg_okt 1426 (by decide +kernel), sg_okt 5 (by decide +kernel), ⟨by decide +kernel, by decide +kernel⟩, by decide +kernel, by decide +kernel⟩
theorem mn_X7_put : sg_ok (.instanceMethod yX7_put) := sg_okt 1424 (by decide +kernel)
theorem mv_X7_put : sg_ok (.selects RX7 yX7_put yX7_put) := sg_okt 1425 (by decide +kernel)
theorem cb_X7_cut : sg_cb mi_X7_cut 2 := ⟨sg_okt 1431 (by decide +kernel), sg_okt 5 (by decide +kernel), ⟨by decide +kernel, by decide +kernel⟩, by decide +kernel, by decide +kernel⟩
theorem mn_X7_cut : sg_ok (.instanceMethod yX7_cut) := sg_okt 1429 (by decide +kernel)
theorem mv_X7_cut : sg_ok (.selects RX7 yX7_cut yX7_cut) := sg_okt 1430 (by decide +kernel)
theorem cb_X7_flip : sg_cb mi_X7_flip 1 := ⟨sg_okt 1435 (by decide +kernel), sg_okt 5 (by decide +kernel), ⟨by decide +kernel, by decide +kernel⟩, by decide +kernel, by decide +kernel⟩
theorem mn_X7_flip : sg_ok (.instanceMethod yX7_flip) := sg_okt 1433 (by decide +kernel)
theorem mv_X7_flip : sg_ok (.selects RX7 yX7_flip yX7_flip) := sg_okt 1434 (by decide +kernel)
theorem cb_X7_turnedUnit : sg_cb mi_X7_turnedUnit 1 := ⟨sg_okt 1438 (by decide +kernel), sg_okt 5 (by decide +kernel), ⟨by decide +kernel, by decide +kernel⟩, by decide +kernel, by decide +kernel⟩
theorem ms_X7_turnedUnit : sg_ok (.static yX7_turnedUnit) := sg_okt 1437 (by decide +kernel)
theorem cb_X7_isHalf : sg_cb mi_X7_isHalf 1 := ⟨sg_okt 1441 (by decide +kernel), sg_okt 5 (by decide +kernel), ⟨by decide +kernel, by decide +kernel⟩, by decide +kernel, by decide +kernel⟩
theorem ms_X7_isHalf : sg_ok (.static yX7_isHalf) := sg_okt 1440 (by decide +kernel)
theorem cb_X7_isHigh : sg_cb mi_X7_isHigh 1 := ⟨sg_okt 1444 (by decide +kernel), sg_okt 5 (by decide +kernel), ⟨by decide +kernel, by decide +kernel⟩, by decide +kernel, by decide +kernel⟩
theorem ms_X7_isHigh : sg_ok (.static yX7_isHigh) := sg_okt 1443 (by decide +kernel)
theorem cb_X7_isLow : sg_cb mi_X7_isLow 1 := ⟨sg_okt 1448 (by decide +kernel), sg_okt 5 (by decide +kernel), ⟨by decide +kernel, by decide +kernel⟩, by decide +kernel, by decide +kernel⟩
theorem ms_X7_isLow : sg_ok (.static yX7_isLow) := sg_okt 1447 (by decide +kernel)
theorem cb_X7_reverse : sg_cb mi_X7_reverse 1 := ⟨sg_okt 1453 (by decide +kernel), sg_okt 5 (by decide +kernel), ⟨by decide +kernel, by decide +kernel⟩, by decide +kernel, by decide +kernel⟩
theorem mn_X7_reverse : sg_ok (.instanceMethod yX7_reverse) := sg_okt 1451 (by decide +kernel)
theorem mv_X7_reverse : sg_ok (.selects RX7 yX7_reverse yX7_reverse) := sg_okt 1452 (by decide +kernel)
theorem cb_X7_codes : sg_cb mi_X7_codes 1 := ⟨sg_okt 1457 (by decide +kernel), sg_okt 5 (by decide +kernel), ⟨by decide +kernel, by decide +kernel⟩, by decide +kernel, by decide +kernel⟩
theorem mn_X7_codes : sg_ok (.instanceMethod yX7_codes) := sg_okt 1456 (by decide +kernel)
theorem mv_X7_codes : sg_ok (.selects RX7 yX7_codes yX7_codes) := sg_oks 15 (by decide +kernel)
theorem cb_X7_codeOf : sg_cb mi_X7_codeOf 2 := ⟨sg_okt 1461 (by decide +kernel), sg_okt 5 (by decide +kernel), ⟨by decide +kernel, by decide +kernel⟩, by decide +kernel, by decide +kernel⟩
theorem mn_X7_codeOf : sg_ok (.instanceMethod yX7_codeOf) := sg_okt 1460 (by decide +kernel)
theorem mv_X7_codeOf : sg_ok (.selects RX7 yX7_codeOf yX7_codeOf) := sg_oks 16 (by decide +kernel)
theorem cb_X7_both : sg_cb mi_X7_both 2 := ⟨sg_okt 1464 (by decide +kernel), sg_okt 5 (by decide +kernel), ⟨by decide +kernel, by decide +kernel⟩, by decide +kernel, by decide +kernel⟩
theorem ms_X7_both : sg_ok (.static yX7_both) := sg_okt 1463 (by decide +kernel)
theorem cb_X7_undo : sg_cb mi_X7_undo 0 := ⟨sg_okt 1468 (by decide +kernel), sg_okt 5 (by decide +kernel), ⟨by decide +kernel, by decide +kernel⟩, by decide +kernel, by decide +kernel⟩
theorem mn_X7_undo : sg_ok (.instanceMethod yX7_undo) := sg_okt 1466 (by decide +kernel)
theorem mv_X7_undo : sg_ok (.selects RX7 yX7_undo yX7_undo) := sg_okt 1467 (by decide +kernel)
theorem cb_X7_knock : sg_cb mi_X7_knock 0 := ⟨sg_okt 1477 (by decide +kernel), sg_okt 5 (by decide +kernel), ⟨by decide +kernel, by decide +kernel⟩, by decide +kernel, by decide +kernel⟩
theorem mn_X7_knock : sg_ok (.instanceMethod yX7_knock) := sg_okt 1475 (by decide +kernel)
theorem mv_X7_knock : sg_ok (.selects RX7 yX7_knock yX7_knock) := sg_okt 1476 (by decide +kernel)
theorem cb_X7_isDigit : sg_cb mi_X7_isDigit 1 := ⟨sg_okt 1481 (by decide +kernel), sg_okt 5 (by decide +kernel), ⟨by decide +kernel, by decide +kernel⟩, by decide +kernel, by decide +kernel⟩
theorem mn_X7_isDigit : sg_ok (.instanceMethod yX7_isDigit) := sg_okt 1479 (by decide +kernel)
theorem mv_X7_isDigit : sg_ok (.selects RX7 yX7_isDigit yX7_isDigit) := sg_okt 1480 (by decide +kernel)
theorem cb_X7_kindTold : sg_cb mi_X7_kindTold 2 := ⟨sg_okt 1485 (by decide +kernel), sg_okt 5 (by decide +kernel), ⟨by decide +kernel, by decide +kernel⟩, by decide +kernel, by decide +kernel⟩
theorem mn_X7_kindTold : sg_ok (.instanceMethod yX7_kindTold) := sg_okt 1484 (by decide +kernel)
theorem mv_X7_kindTold : sg_ok (.selects RX7 yX7_kindTold yX7_kindTold) := sg_oks 17 (by decide +kernel)
theorem cb_X7_isLetter : sg_cb mi_X7_isLetter 1 := ⟨sg_okt 1489 (by decide +kernel), sg_okt 5 (by decide +kernel), ⟨by decide +kernel, by decide +kernel⟩, by decide +kernel, by decide +kernel⟩
theorem mn_X7_isLetter : sg_ok (.instanceMethod yX7_isLetter) := sg_okt 1487 (by decide +kernel)
theorem mv_X7_isLetter : sg_ok (.selects RX7 yX7_isLetter yX7_isLetter) := sg_okt 1488 (by decide +kernel)
theorem cb_X7_isLetterOrDigit : sg_cb mi_X7_isLetterOrDigit 1 := ⟨sg_okt 1493 (by decide +kernel), sg_okt 5 (by decide +kernel), ⟨by decide +kernel, by decide +kernel⟩, by decide +kernel, by decide +kernel⟩
theorem mn_X7_isLetterOrDigit : sg_ok (.instanceMethod yX7_isLetterOrDigit) := sg_okt 1491 (by decide +kernel)
theorem mv_X7_isLetterOrDigit : sg_ok (.selects RX7 yX7_isLetterOrDigit yX7_isLetterOrDigit) := sg_okt 1492 (by decide +kernel)
theorem cb_X7_isWhite : sg_cb mi_X7_isWhite 1 := ⟨sg_okt 1497 (by decide +kernel), sg_okt 5 (by decide +kernel), ⟨by decide +kernel, by decide +kernel⟩, by decide +kernel, by decide +kernel⟩
theorem mn_X7_isWhite : sg_ok (.instanceMethod yX7_isWhite) := sg_okt 1495 (by decide +kernel)
theorem mv_X7_isWhite : sg_ok (.selects RX7 yX7_isWhite yX7_isWhite) := sg_okt 1496 (by decide +kernel)
theorem cb_X7_isGreat : sg_cb mi_X7_isGreat 1 := ⟨sg_okt 1501 (by decide +kernel), sg_okt 5 (by decide +kernel), ⟨by decide +kernel, by decide +kernel⟩, by decide +kernel, by decide +kernel⟩
theorem mn_X7_isGreat : sg_ok (.instanceMethod yX7_isGreat) := sg_okt 1499 (by decide +kernel)
theorem mv_X7_isGreat : sg_ok (.selects RX7 yX7_isGreat yX7_isGreat) := sg_okt 1500 (by decide +kernel)
theorem cb_X7_kinds : sg_cb mi_X7_kinds 1 := ⟨sg_okt 1505 (by decide +kernel), sg_okt 5 (by decide +kernel), ⟨by decide +kernel, by decide +kernel⟩, by decide +kernel, by decide +kernel⟩
theorem mn_X7_kinds : sg_ok (.instanceMethod yX7_kinds) := sg_okt 1503 (by decide +kernel)
theorem mv_X7_kinds : sg_ok (.selects RX7 yX7_kinds yX7_kinds) := sg_okt 1504 (by decide +kernel)
theorem cb_X7_kindsOf : sg_cb mi_X7_kindsOf 1 := ⟨sg_okt 1508 (by decide +kernel), sg_okt 5 (by decide +kernel), ⟨by decide +kernel, by decide +kernel⟩, by decide +kernel, by decide +kernel⟩
theorem ms_X7_kindsOf : sg_ok (.static yX7_kindsOf) := sg_okt 1507 (by decide +kernel)
theorem cb_X7_upper : sg_cb mi_X7_upper 2 := ⟨sg_okt 1512 (by decide +kernel), sg_okt 5 (by decide +kernel), ⟨by decide +kernel, by decide +kernel⟩, by decide +kernel, by decide +kernel⟩
theorem mn_X7_upper : sg_ok (.instanceMethod yX7_upper) := sg_okt 1510 (by decide +kernel)
theorem mv_X7_upper : sg_ok (.selects RX7 yX7_upper yX7_upper) := sg_okt 1511 (by decide +kernel)
theorem cb_X7_lower : sg_cb mi_X7_lower 2 := ⟨sg_okt 1516 (by decide +kernel), sg_okt 5 (by decide +kernel), ⟨by decide +kernel, by decide +kernel⟩, by decide +kernel, by decide +kernel⟩
theorem mn_X7_lower : sg_ok (.instanceMethod yX7_lower) := sg_okt 1514 (by decide +kernel)
theorem mv_X7_lower : sg_ok (.selects RX7 yX7_lower yX7_lower) := sg_okt 1515 (by decide +kernel)
theorem cb_X7_value : sg_cb mi_X7_value 2 := ⟨sg_okt 1520 (by decide +kernel), sg_okt 5 (by decide +kernel), ⟨by decide +kernel, by decide +kernel⟩, by decide +kernel, by decide +kernel⟩
theorem mn_X7_value : sg_ok (.instanceMethod yX7_value) := sg_okt 1518 (by decide +kernel)
theorem mv_X7_value : sg_ok (.selects RX7 yX7_value yX7_value) := sg_okt 1519 (by decide +kernel)
theorem cb_X7_number : sg_cb mi_X7_number 3 := ⟨sg_okt 1524 (by decide +kernel), sg_okt 5 (by decide +kernel), ⟨by decide +kernel, by decide +kernel⟩, by decide +kernel, by decide +kernel⟩
theorem mn_X7_number : sg_ok (.instanceMethod yX7_number) := sg_okt 1522 (by decide +kernel)
theorem mv_X7_number : sg_ok (.selects RX7 yX7_number yX7_number) := sg_okt 1523 (by decide +kernel)
theorem cb_X7_digit : sg_cb mi_X7_digit 2 := ⟨sg_okt 1528 (by decide +kernel), sg_okt 5 (by decide +kernel), ⟨by decide +kernel, by decide +kernel⟩, by decide +kernel, by decide +kernel⟩
theorem mn_X7_digit : sg_ok (.instanceMethod yX7_digit) := sg_okt 1526 (by decide +kernel)
theorem mv_X7_digit : sg_ok (.selects RX7 yX7_digit yX7_digit) := sg_okt 1527 (by decide +kernel)
theorem cb_X7_length : sg_cb mi_X7_length 1 := ⟨sg_okt 1532 (by decide +kernel), sg_okt 5 (by decide +kernel), ⟨by decide +kernel, by decide +kernel⟩, by decide +kernel, by decide +kernel⟩
theorem mn_X7_length : sg_ok (.instanceMethod yX7_length) := sg_okt 1530 (by decide +kernel)
theorem mv_X7_length : sg_ok (.selects RX7 yX7_length yX7_length) := sg_okt 1531 (by decide +kernel)
theorem cb_X7_at : sg_cb mi_X7_at 2 := ⟨sg_okt 1536 (by decide +kernel), sg_okt 5 (by decide +kernel), ⟨by decide +kernel, by decide +kernel⟩, by decide +kernel, by decide +kernel⟩
theorem mn_X7_at : sg_ok (.instanceMethod yX7_at) := sg_okt 1534 (by decide +kernel)
theorem mv_X7_at : sg_ok (.selects RX7 yX7_at yX7_at) := sg_okt 1535 (by decide +kernel)
theorem cb_X7_count : sg_cb mi_X7_count 2 := ⟨sg_okt 1540 (by decide +kernel), sg_okt 5 (by decide +kernel), ⟨by decide +kernel, by decide +kernel⟩, by decide +kernel, by decide +kernel⟩
theorem mn_X7_count : sg_ok (.instanceMethod yX7_count) := sg_okt 1538 (by decide +kernel)
theorem mv_X7_count : sg_ok (.selects RX7 yX7_count yX7_count) := sg_okt 1539 (by decide +kernel)
theorem cb_X7_countOf : sg_cb mi_X7_countOf 2 := ⟨sg_okt 1544 (by decide +kernel), sg_okt 5 (by decide +kernel), ⟨by decide +kernel, by decide +kernel⟩, by decide +kernel, by decide +kernel⟩
theorem mn_X7_countOf : sg_ok (.instanceMethod yX7_countOf) := sg_okt 1543 (by decide +kernel)
theorem mv_X7_countOf : sg_ok (.selects RX7 yX7_countOf yX7_countOf) := sg_oks 18 (by decide +kernel)
theorem cb_X7_first : sg_cb mi_X7_first 3 := ⟨sg_okt 1548 (by decide +kernel), sg_okt 5 (by decide +kernel), ⟨by decide +kernel, by decide +kernel⟩, by decide +kernel, by decide +kernel⟩
theorem mn_X7_first : sg_ok (.instanceMethod yX7_first) := sg_okt 1546 (by decide +kernel)
theorem mv_X7_first : sg_ok (.selects RX7 yX7_first yX7_first) := sg_okt 1547 (by decide +kernel)
theorem cb_X7_last : sg_cb mi_X7_last 2 := ⟨sg_okt 1552 (by decide +kernel), sg_okt 5 (by decide +kernel), ⟨by decide +kernel, by decide +kernel⟩, by decide +kernel, by decide +kernel⟩
theorem mn_X7_last : sg_ok (.instanceMethod yX7_last) := sg_okt 1550 (by decide +kernel)
theorem mv_X7_last : sg_ok (.selects RX7 yX7_last yX7_last) := sg_okt 1551 (by decide +kernel)
theorem cb_X7_forms : sg_cb mi_X7_forms 1 := ⟨sg_okt 1556 (by decide +kernel), sg_okt 5 (by decide +kernel), ⟨by decide +kernel, by decide +kernel⟩, by decide +kernel, by decide +kernel⟩
theorem mn_X7_forms : sg_ok (.instanceMethod yX7_forms) := sg_okt 1554 (by decide +kernel)
theorem mv_X7_forms : sg_ok (.selects RX7 yX7_forms yX7_forms) := sg_okt 1555 (by decide +kernel)
theorem cb_X7_spelled : sg_cb mi_X7_spelled 1 := ⟨sg_okt 1570 (by decide +kernel), sg_okt 5 (by decide +kernel), ⟨by decide +kernel, by decide +kernel⟩, by decide +kernel, by decide +kernel⟩
theorem mn_X7_spelled : sg_ok (.instanceMethod yX7_spelled) := sg_okt 1568 (by decide +kernel)
theorem mv_X7_spelled : sg_ok (.selects RX7 yX7_spelled yX7_spelled) := sg_okt 1569 (by decide +kernel)
theorem cb_X7_told : sg_cb mi_X7_told 2 := ⟨sg_okt 1575 (by decide +kernel), sg_okt 5 (by decide +kernel), ⟨by decide +kernel, by decide +kernel⟩, by decide +kernel, by decide +kernel⟩
theorem mn_X7_told : sg_ok (.instanceMethod yX7_told) := sg_okt 1573 (by decide +kernel)
theorem mv_X7_told : sg_ok (.selects RX7 yX7_told yX7_told) := sg_okt 1574 (by decide +kernel)
theorem cb_X7_toldOf : sg_cb mi_X7_toldOf 2 := ⟨sg_okt 1579 (by decide +kernel), sg_okt 5 (by decide +kernel), ⟨by decide +kernel, by decide +kernel⟩, by decide +kernel, by decide +kernel⟩
theorem mn_X7_toldOf : sg_ok (.instanceMethod yX7_toldOf) := sg_okt 1578 (by decide +kernel)
theorem mv_X7_toldOf : sg_ok (.selects RX7 yX7_toldOf yX7_toldOf) := sg_oks 19 (by decide +kernel)
theorem cb_X7_sum : sg_cb mi_X7_sum 2 := ⟨sg_okt 1584 (by decide +kernel), sg_okt 5 (by decide +kernel), ⟨by decide +kernel, by decide +kernel⟩, by decide +kernel, by decide +kernel⟩
theorem mn_X7_sum : sg_ok (.instanceMethod yX7_sum) := sg_okt 1582 (by decide +kernel)
theorem mv_X7_sum : sg_ok (.selects RX7 yX7_sum yX7_sum) := sg_okt 1583 (by decide +kernel)
theorem cb_X7_values : sg_cb mi_X7_values 1 := ⟨sg_okt 1589 (by decide +kernel), sg_okt 5 (by decide +kernel), ⟨by decide +kernel, by decide +kernel⟩, by decide +kernel, by decide +kernel⟩
theorem mn_X7_values : sg_ok (.instanceMethod yX7_values) := sg_okt 1587 (by decide +kernel)
theorem mv_X7_values : sg_ok (.selects RX7 yX7_values yX7_values) := sg_okt 1588 (by decide +kernel)
theorem cb_X7_valuesOf : sg_cb mi_X7_valuesOf 1 := ⟨sg_okt 1593 (by decide +kernel), sg_okt 5 (by decide +kernel), ⟨by decide +kernel, by decide +kernel⟩, by decide +kernel, by decide +kernel⟩
theorem mn_X7_valuesOf : sg_ok (.instanceMethod yX7_valuesOf) := sg_okt 1592 (by decide +kernel)
theorem mv_X7_valuesOf : sg_ok (.selects RX7 yX7_valuesOf yX7_valuesOf) := sg_oks 20 (by decide +kernel)
theorem cb_X7_words : sg_cb mi_X7_words 1 := ⟨sg_okt 1597 (by decide +kernel), sg_okt 5 (by decide +kernel), ⟨by decide +kernel, by decide +kernel⟩, by decide +kernel, by decide +kernel⟩
theorem mn_X7_words : sg_ok (.instanceMethod yX7_words) := sg_okt 1595 (by decide +kernel)
theorem mv_X7_words : sg_ok (.selects RX7 yX7_words yX7_words) := sg_okt 1596 (by decide +kernel)
theorem cb_X7_wordsOf : sg_cb mi_X7_wordsOf 1 := ⟨sg_okt 1601 (by decide +kernel), sg_okt 5 (by decide +kernel), ⟨by decide +kernel, by decide +kernel⟩, by decide +kernel, by decide +kernel⟩
theorem mn_X7_wordsOf : sg_ok (.instanceMethod yX7_wordsOf) := sg_okt 1600 (by decide +kernel)
theorem mv_X7_wordsOf : sg_ok (.selects RX7 yX7_wordsOf yX7_wordsOf) := sg_oks 21 (by decide +kernel)
theorem cb_X7_word : sg_cb mi_X7_word 3 := ⟨sg_okt 1613 (by decide +kernel), sg_okt 5 (by decide +kernel), ⟨by decide +kernel, by decide +kernel⟩, by decide +kernel, by decide +kernel⟩
theorem mn_X7_word : sg_ok (.instanceMethod yX7_word) := sg_okt 1611 (by decide +kernel)
theorem mv_X7_word : sg_ok (.selects RX7 yX7_word yX7_word) := sg_okt 1612 (by decide +kernel)
theorem cb_X7_isAlike : sg_cb mi_X7_isAlike 2 := ⟨sg_okt 1617 (by decide +kernel), sg_okt 5 (by decide +kernel), ⟨by decide +kernel, by decide +kernel⟩, by decide +kernel, by decide +kernel⟩
theorem mn_X7_isAlike : sg_ok (.instanceMethod yX7_isAlike) := sg_okt 1615 (by decide +kernel)
theorem mv_X7_isAlike : sg_ok (.selects RX7 yX7_isAlike yX7_isAlike) := sg_okt 1616 (by decide +kernel)
theorem cb_X7_areAlike : sg_cb mi_X7_areAlike 2 := ⟨sg_okt 1621 (by decide +kernel), sg_okt 5 (by decide +kernel), ⟨by decide +kernel, by decide +kernel⟩, by decide +kernel, by decide +kernel⟩
theorem mn_X7_areAlike : sg_ok (.instanceMethod yX7_areAlike) := sg_okt 1620 (by decide +kernel)
theorem mv_X7_areAlike : sg_ok (.selects RX7 yX7_areAlike yX7_areAlike) := sg_oks 22 (by decide +kernel)
theorem cb_X7_order : sg_cb mi_X7_order 2 := ⟨sg_okt 1625 (by decide +kernel), sg_okt 5 (by decide +kernel), ⟨by decide +kernel, by decide +kernel⟩, by decide +kernel, by decide +kernel⟩
theorem mn_X7_order : sg_ok (.instanceMethod yX7_order) := sg_okt 1623 (by decide +kernel)
theorem mv_X7_order : sg_ok (.selects RX7 yX7_order yX7_order) := sg_okt 1624 (by decide +kernel)
theorem cb_X7_orderOf : sg_cb mi_X7_orderOf 2 := ⟨sg_okt 1629 (by decide +kernel), sg_okt 5 (by decide +kernel), ⟨by decide +kernel, by decide +kernel⟩, by decide +kernel, by decide +kernel⟩
theorem mn_X7_orderOf : sg_ok (.instanceMethod yX7_orderOf) := sg_okt 1628 (by decide +kernel)
theorem mv_X7_orderOf : sg_ok (.selects RX7 yX7_orderOf yX7_orderOf) := sg_oks 23 (by decide +kernel)
theorem cb_X7_isCode : sg_cb mi_X7_isCode 1 := ⟨sg_okt 1633 (by decide +kernel), sg_okt 5 (by decide +kernel), ⟨by decide +kernel, by decide +kernel⟩, by decide +kernel, by decide +kernel⟩
theorem mn_X7_isCode : sg_ok (.instanceMethod yX7_isCode) := sg_okt 1631 (by decide +kernel)
theorem mv_X7_isCode : sg_ok (.selects RX7 yX7_isCode yX7_isCode) := sg_okt 1632 (by decide +kernel)
theorem cb_X7_isPlain : sg_cb mi_X7_isPlain 1 := ⟨sg_okt 1637 (by decide +kernel), sg_okt 5 (by decide +kernel), ⟨by decide +kernel, by decide +kernel⟩, by decide +kernel, by decide +kernel⟩
theorem mn_X7_isPlain : sg_ok (.instanceMethod yX7_isPlain) := sg_okt 1635 (by decide +kernel)
theorem mv_X7_isPlain : sg_ok (.selects RX7 yX7_isPlain yX7_isPlain) := sg_okt 1636 (by decide +kernel)
theorem cb_X7_isWide : sg_cb mi_X7_isWide 1 := ⟨sg_okt 1641 (by decide +kernel), sg_okt 5 (by decide +kernel), ⟨by decide +kernel, by decide +kernel⟩, by decide +kernel, by decide +kernel⟩
theorem mn_X7_isWide : sg_ok (.instanceMethod yX7_isWide) := sg_okt 1639 (by decide +kernel)
theorem mv_X7_isWide : sg_ok (.selects RX7 yX7_isWide yX7_isWide) := sg_okt 1640 (by decide +kernel)
theorem cb_X7_units : sg_cb mi_X7_units 1 := ⟨sg_okt 1645 (by decide +kernel), sg_okt 5 (by decide +kernel), ⟨by decide +kernel, by decide +kernel⟩, by decide +kernel, by decide +kernel⟩
theorem mn_X7_units : sg_ok (.instanceMethod yX7_units) := sg_okt 1643 (by decide +kernel)
theorem mv_X7_units : sg_ok (.selects RX7 yX7_units yX7_units) := sg_okt 1644 (by decide +kernel)
theorem cb_X7_half : sg_cb mi_X7_half 2 := ⟨sg_okt 1649 (by decide +kernel), sg_okt 5 (by decide +kernel), ⟨by decide +kernel, by decide +kernel⟩, by decide +kernel, by decide +kernel⟩
theorem mn_X7_half : sg_ok (.instanceMethod yX7_half) := sg_okt 1647 (by decide +kernel)
theorem mv_X7_half : sg_ok (.selects RX7 yX7_half yX7_half) := sg_okt 1648 (by decide +kernel)
theorem cb_X7_code : sg_cb mi_X7_code 2 := ⟨sg_okt 1653 (by decide +kernel), sg_okt 5 (by decide +kernel), ⟨by decide +kernel, by decide +kernel⟩, by decide +kernel, by decide +kernel⟩
theorem mn_X7_code : sg_ok (.instanceMethod yX7_code) := sg_okt 1651 (by decide +kernel)
theorem mv_X7_code : sg_ok (.selects RX7 yX7_code yX7_code) := sg_okt 1652 (by decide +kernel)
theorem cb_X7_ofUnit : sg_cb mi_X7_ofUnit 2 := ⟨sg_okt 1657 (by decide +kernel), sg_okt 5 (by decide +kernel), ⟨by decide +kernel, by decide +kernel⟩, by decide +kernel, by decide +kernel⟩
theorem mn_X7_ofUnit : sg_ok (.instanceMethod yX7_ofUnit) := sg_okt 1655 (by decide +kernel)
theorem mv_X7_ofUnit : sg_ok (.selects RX7 yX7_ofUnit yX7_ofUnit) := sg_okt 1656 (by decide +kernel)
theorem cb_X7_ofUnitTold : sg_cb mi_X7_ofUnitTold 2 := ⟨sg_okt 1660 (by decide +kernel), sg_okt 5 (by decide +kernel), ⟨by decide +kernel, by decide +kernel⟩, by decide +kernel, by decide +kernel⟩
theorem ms_X7_ofUnitTold : sg_ok (.static yX7_ofUnitTold) := sg_okt 1659 (by decide +kernel)
theorem cb_X7_compare : sg_cb mi_X7_compare 2 := ⟨sg_okt 1664 (by decide +kernel), sg_okt 5 (by decide +kernel), ⟨by decide +kernel, by decide +kernel⟩, by decide +kernel, by decide +kernel⟩
theorem mn_X7_compare : sg_ok (.instanceMethod yX7_compare) := sg_okt 1662 (by decide +kernel)
theorem mv_X7_compare : sg_ok (.selects RX7 yX7_compare yX7_compare) := sg_okt 1663 (by decide +kernel)
theorem cb_X7_ofTrack : sg_cb mi_X7_ofTrack 2 := ⟨sg_okt 1668 (by decide +kernel), sg_okt 5 (by decide +kernel), ⟨by decide +kernel, by decide +kernel⟩, by decide +kernel, by decide +kernel⟩
theorem mn_X7_ofTrack : sg_ok (.instanceMethod yX7_ofTrack) := sg_okt 1666 (by decide +kernel)
theorem mv_X7_ofTrack : sg_ok (.selects RX7 yX7_ofTrack yX7_ofTrack) := sg_okt 1667 (by decide +kernel)
theorem cb_X7_trackTold : sg_cb mi_X7_trackTold 2 := ⟨sg_okt 1672 (by decide +kernel), sg_okt 5 (by decide +kernel), ⟨by decide +kernel, by decide +kernel⟩, by decide +kernel, by decide +kernel⟩
theorem mn_X7_trackTold : sg_ok (.instanceMethod yX7_trackTold) := sg_okt 1671 (by decide +kernel)
theorem mv_X7_trackTold : sg_ok (.selects RX7 yX7_trackTold yX7_trackTold) := sg_oks 24 (by decide +kernel)
theorem cb_X7_unit : sg_cb mi_X7_unit 2 := ⟨sg_okt 1676 (by decide +kernel), sg_okt 5 (by decide +kernel), ⟨by decide +kernel, by decide +kernel⟩, by decide +kernel, by decide +kernel⟩
theorem mn_X7_unit : sg_ok (.instanceMethod yX7_unit) := sg_okt 1674 (by decide +kernel)
theorem mv_X7_unit : sg_ok (.selects RX7 yX7_unit yX7_unit) := sg_okt 1675 (by decide +kernel)
theorem cb_X7_isNoPlace : sg_cb mi_X7_isNoPlace 2 := ⟨sg_okt 1680 (by decide +kernel), sg_okt 5 (by decide +kernel), ⟨by decide +kernel, by decide +kernel⟩, by decide +kernel, by decide +kernel⟩
theorem mn_X7_isNoPlace : sg_ok (.instanceMethod yX7_isNoPlace) := sg_okt 1679 (by decide +kernel)
theorem mv_X7_isNoPlace : sg_ok (.selects RX7 yX7_isNoPlace yX7_isNoPlace) := sg_oks 25 (by decide +kernel)
theorem cb_X7_codeAt : sg_cb mi_X7_codeAt 2 := ⟨sg_okt 1684 (by decide +kernel), sg_okt 5 (by decide +kernel), ⟨by decide +kernel, by decide +kernel⟩, by decide +kernel, by decide +kernel⟩
theorem mn_X7_codeAt : sg_ok (.instanceMethod yX7_codeAt) := sg_okt 1682 (by decide +kernel)
theorem mv_X7_codeAt : sg_ok (.selects RX7 yX7_codeAt yX7_codeAt) := sg_okt 1683 (by decide +kernel)
theorem cb_X7_nth : sg_cb mi_X7_nth 2 := ⟨sg_okt 1688 (by decide +kernel), sg_okt 5 (by decide +kernel), ⟨by decide +kernel, by decide +kernel⟩, by decide +kernel, by decide +kernel⟩
theorem mn_X7_nth : sg_ok (.instanceMethod yX7_nth) := sg_okt 1686 (by decide +kernel)
theorem mv_X7_nth : sg_ok (.selects RX7 yX7_nth yX7_nth) := sg_okt 1687 (by decide +kernel)
theorem cb_X7_house : sg_cb mi_X7_house 1 := ⟨sg_okt 1692 (by decide +kernel), sg_okt 5 (by decide +kernel), ⟨by decide +kernel, by decide +kernel⟩, by decide +kernel, by decide +kernel⟩
theorem mn_X7_house : sg_ok (.instanceMethod yX7_house) := sg_okt 1690 (by decide +kernel)
theorem mv_X7_house : sg_ok (.selects RX7 yX7_house yX7_house) := sg_okt 1691 (by decide +kernel)
theorem cb_X7_houseOf : sg_cb mi_X7_houseOf 1 := ⟨sg_okt 1696 (by decide +kernel), sg_okt 5 (by decide +kernel), ⟨by decide +kernel, by decide +kernel⟩, by decide +kernel, by decide +kernel⟩
theorem mn_X7_houseOf : sg_ok (.instanceMethod yX7_houseOf) := sg_okt 1695 (by decide +kernel)
theorem mv_X7_houseOf : sg_ok (.selects RX7 yX7_houseOf yX7_houseOf) := sg_oks 26 (by decide +kernel)
theorem cb_X7_isSound : sg_cb mi_X7_isSound 0 := ⟨sg_okt 1700 (by decide +kernel), sg_okt 5 (by decide +kernel), ⟨by decide +kernel, by decide +kernel⟩, by decide +kernel, by decide +kernel⟩
theorem mn_X7_isSound : sg_ok (.instanceMethod yX7_isSound) := sg_okt 1698 (by decide +kernel)
theorem mv_X7_isSound : sg_ok (.selects RX7 yX7_isSound yX7_isSound) := sg_okt 1699 (by decide +kernel)
theorem cb_X7_digest : sg_cb mi_X7_digest 0 := ⟨sg_okt 1704 (by decide +kernel), sg_okt 5 (by decide +kernel), ⟨by decide +kernel, by decide +kernel⟩, by decide +kernel, by decide +kernel⟩
theorem mn_X7_digest : sg_ok (.instanceMethod yX7_digest) := sg_okt 1702 (by decide +kernel)
theorem mv_X7_digest : sg_ok (.selects RX7 yX7_digest yX7_digest) := sg_okt 1703 (by decide +kernel)
theorem cb_Jx4a65c_get_915e3 : sg_cb mi_Jx4a65c_get_915e3 1 := ⟨sg_okt 1605 (by decide +kernel), sg_okt 8 (by decide +kernel), ⟨by decide +kernel, by decide +kernel⟩, by decide +kernel, by decide +kernel⟩
theorem mn_Jx4a65c_get_915e3 : sg_ok (.instanceMethod yJx4a65c_get_915e3) := sg_okt 1603 (by decide +kernel)
theorem mv_Jx4a65c_get_915e3 : sg_ok (.selects RJx4a65c yJx4a65c_get_915e3 yJx4a65c_get_915e3) := sg_okt 1604 (by decide +kernel)
theorem cb_J9_max_7cf53 : sg_cb mi_J9_max_7cf53 2 := ⟨sg_okt 859 (by decide +kernel), sg_okt 18 (by decide +kernel), ⟨by decide +kernel, by decide +kernel⟩, by decide +kernel, by decide +kernel⟩
theorem ms_J9_max_7cf53 : sg_ok (.static yJ9_max_7cf53) := sg_okt 858 (by decide +kernel)
theorem cb_J4_toString_0e30d : sg_cb mi_J4_toString_0e30d 0 := ⟨sg_okt 937 (by decide +kernel), sg_okt 25 (by decide +kernel), ⟨by decide +kernel, by decide +kernel⟩, by decide +kernel, by decide +kernel⟩
theorem mn_J4_toString_0e30d : sg_ok (.instanceMethod yJ4_toString_0e30d) := sg_okt 935 (by decide +kernel)
theorem mv_J4_toString_0e30d : sg_ok (.selects RJ4 yJ4_toString_0e30d yJ4_toString_0e30d) := sg_okt 936 (by decide +kernel)
theorem cb_Jx4a65c_isEmpty_aae02 : sg_cb mi_Jx4a65c_isEmpty_aae02 0 := ⟨sg_okt 1472 (by decide +kernel), sg_okt 8 (by decide +kernel), ⟨by decide +kernel, by decide +kernel⟩, by decide +kernel, by decide +kernel⟩
theorem mn_Jx4a65c_isEmpty_aae02 : sg_ok (.instanceMethod yJx4a65c_isEmpty_aae02) := sg_okt 1470 (by decide +kernel)
theorem mv_Jx4a65c_isEmpty_aae02 : sg_ok (.selects RJx4a65c yJx4a65c_isEmpty_aae02 yJx4a65c_isEmpty_aae02) := sg_okt 1471 (by decide +kernel)
theorem cb_J4_append_15ec4 : sg_cb mi_J4_append_15ec4 1 := ⟨sg_okt 1011 (by decide +kernel), sg_okt 25 (by decide +kernel), ⟨by decide +kernel, by decide +kernel⟩, by decide +kernel, by decide +kernel⟩
theorem mn_J4_append_15ec4 : sg_ok (.instanceMethod yJ4_append_15ec4) := sg_okt 1009 (by decide +kernel)
theorem mv_J4_append_15ec4 : sg_ok (.selects RJ4 yJ4_append_15ec4 yJ4_append_15ec4) := sg_okt 1010 (by decide +kernel)
theorem cb_Jx4a65c_init_da8c8 : sg_cb mi_Jx4a65c_init_da8c8 0 := ⟨sg_okt 1194 (by decide +kernel), sg_okt 8 (by decide +kernel), ⟨by decide +kernel, by decide +kernel⟩, by decide +kernel, by decide +kernel⟩
theorem mn_Jx4a65c_init_da8c8 : sg_ok (.instanceMethod yJx4a65c_init_da8c8) := sg_okt 1193 (by decide +kernel)
theorem cb_J4_append_cf468 : sg_cb mi_J4_append_cf468 1 := ⟨sg_okt 842 (by decide +kernel), sg_okt 25 (by decide +kernel), ⟨by decide +kernel, by decide +kernel⟩, by decide +kernel, by decide +kernel⟩
theorem mn_J4_append_cf468 : sg_ok (.instanceMethod yJ4_append_cf468) := sg_okt 840 (by decide +kernel)
theorem mv_J4_append_cf468 : sg_ok (.selects RJ4 yJ4_append_cf468 yJ4_append_cf468) := sg_okt 841 (by decide +kernel)
theorem cb_Jx4a65c_add_9ea2d : sg_cb mi_Jx4a65c_add_9ea2d 1 := ⟨sg_okt 1263 (by decide +kernel), sg_okt 8 (by decide +kernel), ⟨by decide +kernel, by decide +kernel⟩, by decide +kernel, by decide +kernel⟩
theorem mn_Jx4a65c_add_9ea2d : sg_ok (.instanceMethod yJx4a65c_add_9ea2d) := sg_okt 1261 (by decide +kernel)
theorem mv_Jx4a65c_add_9ea2d : sg_ok (.selects RJx4a65c yJx4a65c_add_9ea2d yJx4a65c_add_9ea2d) := sg_okt 1262 (by decide +kernel)
theorem cb_Jx4a65c_size_8abf5 : sg_cb mi_Jx4a65c_size_8abf5 0 := ⟨sg_okt 1307 (by decide +kernel), sg_okt 8 (by decide +kernel), ⟨by decide +kernel, by decide +kernel⟩, by decide +kernel, by decide +kernel⟩
theorem mn_Jx4a65c_size_8abf5 : sg_ok (.instanceMethod yJx4a65c_size_8abf5) := sg_okt 1305 (by decide +kernel)
theorem mv_Jx4a65c_size_8abf5 : sg_ok (.selects RJx4a65c yJx4a65c_size_8abf5 yJx4a65c_size_8abf5) := sg_okt 1306 (by decide +kernel)
theorem cb_Jx4a65c_remove_915e3 : sg_cb mi_Jx4a65c_remove_915e3 1 := ⟨sg_okt 1311 (by decide +kernel), sg_okt 8 (by decide +kernel), ⟨by decide +kernel, by decide +kernel⟩, by decide +kernel, by decide +kernel⟩
theorem mn_Jx4a65c_remove_915e3 : sg_ok (.instanceMethod yJx4a65c_remove_915e3) := sg_okt 1309 (by decide +kernel)
theorem mv_Jx4a65c_remove_915e3 : sg_ok (.selects RJx4a65c yJx4a65c_remove_915e3 yJx4a65c_remove_915e3) := sg_okt 1310 (by decide +kernel)
theorem cb_J4_init_da8c8 : sg_cb mi_J4_init_da8c8 0 := ⟨sg_okt 809 (by decide +kernel), sg_okt 25 (by decide +kernel), ⟨by decide +kernel, by decide +kernel⟩, by decide +kernel, by decide +kernel⟩
theorem mn_J4_init_da8c8 : sg_ok (.instanceMethod yJ4_init_da8c8) := sg_okt 808 (by decide +kernel)
theorem cb_L_lay : sg_ok (.codeWith yL_lay cL_lay 8 (some .int) hh_L_lay) := sg_okt 454 (by decide +kernel)
theorem cb_L_drop : sg_ok (.codeWith yL_drop cL_drop 5 (some .int) hh_L_drop) := sg_okt 515 (by decide +kernel)
theorem cb_L_copy : sg_ok (.codeWith yL_copy cL_copy 5 (some .int) hh_L_copy) := sg_okt 531 (by decide +kernel)
theorem cb_L_raise : sg_ok (.codeWith yL_raise cL_raise 4 (some .int) hh_L_raise) := sg_okt 539 (by decide +kernel)
theorem cb_L_sink : sg_ok (.codeWith yL_sink cL_sink 4 (some .int) hh_L_sink) := sg_okt 550 (by decide +kernel)
theorem cb_L_sieve : sg_ok (.codeWith yL_sieve cL_sieve 6 (some .int) hh_L_sieve) := sg_okt 557 (by decide +kernel)
theorem cb_L_strip : sg_ok (.codeWith yL_strip cL_strip 4 (some .int) hh_L_strip) := sg_okt 564 (by decide +kernel)
theorem cb_L_turn : sg_ok (.codeWith yL_turn cL_turn 4 (some .int) hh_L_turn) := sg_okt 575 (by decide +kernel)
theorem cb_L_write : sg_ok (.codeWith yL_write cL_write 6 (some .int) hh_L_write) := sg_okt 587 (by decide +kernel)
theorem cb_L_spell : sg_ok (.codeWith yL_spell cL_spell 5 (some .int) hh_L_spell) := sg_okt 605 (by decide +kernel)
theorem cb_L_read : sg_ok (.codeWith yL_read cL_read 5 (some .int) hh_L_read) := sg_okt 626 (by decide +kernel)
theorem cb_L_send : sg_ok (.codeWith yL_send cL_send 5 (some .int) hh_L_send) := sg_okt 636 (by decide +kernel)
theorem cb_L_put : sg_ok (.codeWith yL_put cL_put 5 (some .int) hh_L_put) := sg_okt 648 (by decide +kernel)
theorem cb_L_cut : sg_ok (.codeWith yL_cut cL_cut 5 (some .int) hh_L_cut) := sg_okt 655 (by decide +kernel)
theorem cb_L_flip : sg_ok (.codeWith yL_flip cL_flip 4 (some .int) hh_L_flip) := sg_okt 662 (by decide +kernel)
theorem cb_L_reverse : sg_ok (.codeWith yL_reverse cL_reverse 4 (some .int) hh_L_reverse) := sg_okt 669 (by decide +kernel)
theorem cb_L_undo : sg_ok (.codeWith yL_undo cL_undo 3 (some .int) hh_L_undo) := sg_okt 680 (by decide +kernel)
theorem cb_L_isDigit : sg_ok (.codeWith yL_isDigit cL_isDigit 4 (some .int) hh_L_isDigit) := sg_okt 692 (by decide +kernel)
theorem cb_L_isLetter : sg_ok (.codeWith yL_isLetter cL_isLetter 4 (some .int) hh_L_isLetter) := sg_okt 699 (by decide +kernel)
theorem cb_L_isLetterOrDigit : sg_ok (.codeWith yL_isLetterOrDigit cL_isLetterOrDigit 4 (some .int) hh_L_isLetterOrDigit) := sg_okt 706 (by decide +kernel)
theorem cb_L_isWhite : sg_ok (.codeWith yL_isWhite cL_isWhite 4 (some .int) hh_L_isWhite) := sg_okt 713 (by decide +kernel)
theorem cb_L_isGreat : sg_ok (.codeWith yL_isGreat cL_isGreat 4 (some .int) hh_L_isGreat) := sg_okt 720 (by decide +kernel)
theorem cb_L_kinds : sg_ok (.codeWith yL_kinds cL_kinds 4 (some .int) hh_L_kinds) := sg_okt 727 (by decide +kernel)
theorem cb_L_upper : sg_ok (.codeWith yL_upper cL_upper 5 (some .int) hh_L_upper) := sg_okt 734 (by decide +kernel)
theorem cb_L_lower : sg_ok (.codeWith yL_lower cL_lower 5 (some .int) hh_L_lower) := sg_okt 741 (by decide +kernel)
theorem cb_L_value : sg_ok (.codeWith yL_value cL_value 5 (some .int) hh_L_value) := sg_okt 748 (by decide +kernel)
theorem cb_L_number : sg_ok (.codeWith yL_number cL_number 6 (some .int) hh_L_number) := sg_okt 755 (by decide +kernel)
theorem cb_L_length : sg_ok (.codeWith yL_length cL_length 4 (some .int) hh_L_length) := sg_okt 762 (by decide +kernel)
theorem cb_L_at : sg_ok (.codeWith yL_at cL_at 5 (some .int) hh_L_at) := sg_okt 769 (by decide +kernel)
theorem cb_L_count : sg_ok (.codeWith yL_count cL_count 5 (some .int) hh_L_count) := sg_okt 781 (by decide +kernel)
theorem cb_L_first : sg_ok (.codeWith yL_first cL_first 6 (some .int) hh_L_first) := sg_okt 785 (by decide +kernel)
theorem cb_L_last : sg_ok (.codeWith yL_last cL_last 5 (some .int) hh_L_last) := sg_okt 793 (by decide +kernel)
theorem cb_L_forms : sg_ok (.codeWith yL_forms cL_forms 4 (some .int) hh_L_forms) := sg_okt 800 (by decide +kernel)
theorem cb_L_spelled : sg_ok (.codeWith yL_spelled cL_spelled 4 (some .int) hh_L_spelled) := sg_okt 1074 (by decide +kernel)
theorem cb_L_told : sg_ok (.codeWith yL_told cL_told 5 (some .int) hh_L_told) := sg_okt 1081 (by decide +kernel)
theorem cb_L_sum : sg_ok (.codeWith yL_sum cL_sum 5 (some .int) hh_L_sum) := sg_okt 1085 (by decide +kernel)
theorem cb_L_values : sg_ok (.codeWith yL_values cL_values 4 (some .int) hh_L_values) := sg_okt 1092 (by decide +kernel)
theorem cb_L_words : sg_ok (.codeWith yL_words cL_words 4 (some .int) hh_L_words) := sg_okt 1096 (by decide +kernel)
theorem cb_L_word : sg_ok (.codeWith yL_word cL_word 6 (some .int) hh_L_word) := sg_okt 1100 (by decide +kernel)
theorem cb_L_isAlike : sg_ok (.codeWith yL_isAlike cL_isAlike 5 (some .int) hh_L_isAlike) := sg_okt 1111 (by decide +kernel)
theorem cb_L_order : sg_ok (.codeWith yL_order cL_order 5 (some .int) hh_L_order) := sg_okt 1115 (by decide +kernel)
theorem cb_L_half : sg_ok (.codeWith yL_half cL_half 5 (some .int) hh_L_half) := sg_okt 1119 (by decide +kernel)
theorem cb_L_code : sg_ok (.codeWith yL_code cL_code 5 (some .int) hh_L_code) := sg_okt 1129 (by decide +kernel)
theorem cb_L_ofUnit : sg_ok (.codeWith yL_ofUnit cL_ofUnit 5 (some .int) hh_L_ofUnit) := sg_okt 1138 (by decide +kernel)
theorem cb_L_compare : sg_ok (.codeWith yL_compare cL_compare 5 (some .int) hh_L_compare) := sg_okt 1142 (by decide +kernel)
theorem cb_L_ofTrack : sg_ok (.codeWith yL_ofTrack cL_ofTrack 5 (some .int) hh_L_ofTrack) := sg_okt 1149 (by decide +kernel)
theorem cb_L_unit : sg_ok (.codeWith yL_unit cL_unit 5 (some .int) hh_L_unit) := sg_okt 1156 (by decide +kernel)
theorem cb_L_codeAt : sg_ok (.codeWith yL_codeAt cL_codeAt 5 (some .int) hh_L_codeAt) := sg_okt 1163 (by decide +kernel)
theorem cb_L_nth : sg_ok (.codeWith yL_nth cL_nth 5 (some .int) hh_L_nth) := sg_okt 1170 (by decide +kernel)
theorem cb_L_house : sg_ok (.codeWith yL_house cL_house 4 (some .int) hh_L_house) := sg_okt 1180 (by decide +kernel)
theorem ml_L_185 : sg_ok (.methodLink RL 185 yX5_init) := sg_okt 33 (by decide +kernel)
theorem ml_X5_1 : sg_ok (.methodLink RX5 1 Lib.objectInit) := sg_okt 36 (by decide +kernel)
theorem ml_X5_9 : sg_ok (.methodLink RX5 9 yX3_init) := sg_okt 41 (by decide +kernel)
theorem ml_X3_3 : sg_ok (.methodLink RX3 3 Lib.objectInit) := sg_okt 44 (by decide +kernel)
theorem ml_X3_20 : sg_ok (.methodLink RX3 20 yX0_init) := sg_okt 48 (by decide +kernel)
theorem ml_X0_3 : sg_ok (.methodLink RX0 3 Lib.objectInit) := sg_okt 51 (by decide +kernel)
theorem ml_X5_18 : sg_ok (.methodLink RX5 18 yX1_init) := sg_okt 71 (by decide +kernel)
theorem ml_X1_3 : sg_ok (.methodLink RX1 3 Lib.objectInit) := sg_okt 74 (by decide +kernel)
theorem ml_X1_17 : sg_ok (.methodLink RX1 17 yX3_init) := sg_okt 77 (by decide +kernel)
theorem ml_X5_25 : sg_ok (.methodLink RX5 25 yX0_init) := sg_okt 86 (by decide +kernel)
theorem ml_L_249 : sg_ok (.methodLink RL 249 yX5_knock) := sg_okt 100 (by decide +kernel)
theorem ml_L_284 : sg_ok (.methodLink RL 284 yX5_digit) := sg_okt 104 (by decide +kernel)
theorem ml_X5_126 : sg_ok (.methodLink RX5 126 yX2_digitOf) := sg_okt 108 (by decide +kernel)
theorem ml_X2_36 : sg_ok (.methodLink RX2 36 yX2_isRadix) := sg_okt 111 (by decide +kernel)
theorem ml_X2_9 : sg_ok (.methodLink RX2 9 yX2_isBetween) := sg_okt 114 (by decide +kernel)
theorem ml_L_330 : sg_ok (.methodLink RL 330 yX5_isCode) := sg_okt 117 (by decide +kernel)
theorem ml_X5_154 : sg_ok (.methodLink RX5 154 yX4_isAnyCode) := sg_okt 121 (by decide +kernel)
theorem ml_L_334 : sg_ok (.methodLink RL 334 yX5_isPlain) := sg_okt 125 (by decide +kernel)
theorem ml_X5_234 : sg_ok (.methodLink RX5 234 yX4_isUnit) := sg_okt 129 (by decide +kernel)
theorem ml_L_338 : sg_ok (.methodLink RL 338 yX5_isWide) := sg_okt 133 (by decide +kernel)
theorem ml_X5_237 : sg_ok (.methodLink RX5 237 yX4_isWideCode) := sg_okt 137 (by decide +kernel)
theorem ml_L_342 : sg_ok (.methodLink RL 342 yX5_units) := sg_okt 140 (by decide +kernel)
theorem ml_X5_161 : sg_ok (.methodLink RX5 161 yX4_unitsOf) := sg_okt 144 (by decide +kernel)
theorem ml_L_373 : sg_ok (.methodLink RL 373 yX5_isSound) := sg_okt 147 (by decide +kernel)
theorem ml_X5_36 : sg_ok (.methodLink RX5 36 yX5_rowOf) := sg_okt 151 (by decide +kernel)
theorem ml_X5_278 : sg_ok (.methodLink RX5 278 yX5_isSoundRow) := sg_okt 223 (by decide +kernel)
theorem ml_X5_63 : sg_ok (.methodLink RX5 63 yX0_size) := sg_okt 226 (by decide +kernel)
theorem ml_X5_75 : sg_ok (.methodLink RX5 75 yX0_get) := sg_okt 230 (by decide +kernel)
theorem ml_X0_19 : sg_ok (.methodLink RX0 19 yX0_hasPlace) := sg_okt 234 (by decide +kernel)
theorem ml_X5_336 : sg_ok (.methodLink RX5 336 yX2_isSoundSign) := sg_okt 238 (by decide +kernel)
theorem ml_X2_25 : sg_ok (.methodLink RX2 25 yX2_isOf) := sg_okt 241 (by decide +kernel)
theorem ml_X2_15 : sg_ok (.methodLink RX2 15 yX2_isPlainDigit) := sg_okt 244 (by decide +kernel)
theorem ml_X2_19 : sg_ok (.methodLink RX2 19 yX2_isAnyLetter) := sg_okt 247 (by decide +kernel)
theorem ml_X2_56 : sg_ok (.methodLink RX2 56 yX2_isGreatPlain) := sg_okt 250 (by decide +kernel)
theorem ml_X2_29 : sg_ok (.methodLink RX2 29 yX2_isSmallPlain) := sg_okt 253 (by decide +kernel)
theorem ml_X2_22 : sg_ok (.methodLink RX2 22 yX2_isAnyGreat) := sg_okt 256 (by decide +kernel)
theorem ml_X2_47 : sg_ok (.methodLink RX2 47 yX2_lowerOf) := sg_okt 259 (by decide +kernel)
theorem ml_X2_50 : sg_ok (.methodLink RX2 50 yX2_upperOf) := sg_okt 262 (by decide +kernel)
theorem ml_X2_53 : sg_ok (.methodLink RX2 53 yX2_numberOf) := sg_okt 265 (by decide +kernel)
theorem ml_X2_32 : sg_ok (.methodLink RX2 32 yX2_plainValueOf) := sg_okt 268 (by decide +kernel)
theorem ml_X2_43 : sg_ok (.methodLink RX2 43 yX2_digitOf) := sg_okt 271 (by decide +kernel)
theorem ml_X5_151 : sg_ok (.methodLink RX5 151 yX5_trackOf) := sg_okt 272 (by decide +kernel)
theorem ml_X5_281 : sg_ok (.methodLink RX5 281 yX5_isSoundTrack) := sg_okt 277 (by decide +kernel)
theorem ml_X5_339 : sg_ok (.methodLink RX5 339 yX4_areSentAgain) := sg_okt 280 (by decide +kernel)
theorem ml_X4_46 : sg_ok (.methodLink RX4 46 yX0_size) := sg_okt 283 (by decide +kernel)
theorem ml_X4_50 : sg_ok (.methodLink RX4 50 yX4_isCodeBegin) := sg_okt 284 (by decide +kernel)
theorem ml_X4_39 : sg_ok (.methodLink RX4 39 yX0_get) := sg_okt 287 (by decide +kernel)
theorem ml_X4_19 : sg_ok (.methodLink RX4 19 yX4_isLow) := sg_okt 288 (by decide +kernel)
theorem ml_X4_15 : sg_ok (.methodLink RX4 15 yX4_isHigh) := sg_okt 293 (by decide +kernel)
theorem ml_X4_57 : sg_ok (.methodLink RX4 57 yX4_codeFrom) := sg_okt 297 (by decide +kernel)
theorem ml_X4_42 : sg_ok (.methodLink RX4 42 yX4_codeOf) := sg_okt 300 (by decide +kernel)
theorem ml_X4_68 : sg_ok (.methodLink RX4 68 yX4_standsAt) := sg_okt 303 (by decide +kernel)
theorem ml_X4_23 : sg_ok (.methodLink RX4 23 yX4_isWideCode) := sg_okt 306 (by decide +kernel)
theorem ml_X4_26 : sg_ok (.methodLink RX4 26 yX4_highOf) := sg_okt 307 (by decide +kernel)
theorem ml_X4_36 : sg_ok (.methodLink RX4 36 yX4_lowOf) := sg_okt 310 (by decide +kernel)
theorem ml_X4_72 : sg_ok (.methodLink RX4 72 yX4_unitsOf) := sg_okt 313 (by decide +kernel)
theorem ml_L_378 : sg_ok (.methodLink RL 378 yX5_digest) := sg_okt 314 (by decide +kernel)
theorem ml_X5_286 : sg_ok (.methodLink RX5 286 yX5_withRow) := sg_okt 319 (by decide +kernel)
theorem ml_X5_293 : sg_ok (.methodLink RX5 293 yX5_with) := sg_okt 323 (by decide +kernel)
theorem ml_X5_192 : sg_ok (.methodLink RX5 192 yX2_kindsOf) := sg_okt 327 (by decide +kernel)
theorem ml_X5_78 : sg_ok (.methodLink RX5 78 yX2_upperOf) := sg_okt 330 (by decide +kernel)
theorem ml_X5_90 : sg_ok (.methodLink RX5 90 yX2_lowerOf) := sg_okt 331 (by decide +kernel)
theorem ml_X5_195 : sg_ok (.methodLink RX5 195 yX2_signValue) := sg_okt 332 (by decide +kernel)
theorem ml_X5_148 : sg_ok (.methodLink RX5 148 yX2_numberOf) := sg_okt 335 (by decide +kernel)
theorem ml_X5_344 : sg_ok (.methodLink RX5 344 yX5_count) := sg_okt 336 (by decide +kernel)
theorem ml_X5_93 : sg_ok (.methodLink RX5 93 yX5_checkKind) := sg_okt 340 (by decide +kernel)
theorem ml_X5_96 : sg_ok (.methodLink RX5 96 yX2_isOf) := sg_okt 359 (by decide +kernel)
theorem ml_X5_347 : sg_ok (.methodLink RX5 347 yX5_told) := sg_okt 360 (by decide +kernel)
theorem ml_X5_115 : sg_ok (.methodLink RX5 115 yX5_checkRadix) := sg_okt 364 (by decide +kernel)
theorem ml_X5_325 : sg_ok (.methodLink RX5 325 yX2_isRadix) := sg_okt 367 (by decide +kernel)
theorem ml_X5_350 : sg_ok (.methodLink RX5 350 yX5_values) := sg_okt 370 (by decide +kernel)
theorem ml_X5_353 : sg_ok (.methodLink RX5 353 yX5_words) := sg_okt 374 (by decide +kernel)
theorem ml_X5_219 : sg_ok (.methodLink RX5 219 yX5_isWordBegin) := sg_okt 378 (by decide +kernel)
theorem ml_X5_290 : sg_ok (.methodLink RX5 290 yX5_order) := sg_okt 381 (by decide +kernel)
theorem ml_X5_231 : sg_ok (.methodLink RX5 231 yX5_ahead) := sg_okt 385 (by decide +kernel)
theorem ml_X5_297 : sg_ok (.methodLink RX5 297 yX5_isAlike) := sg_okt 388 (by decide +kernel)
theorem ml_X5_300 : sg_ok (.methodLink RX5 300 yX5_withTrack) := sg_okt 392 (by decide +kernel)
theorem ml_X5_180 : sg_ok (.methodLink RX5 180 yX4_howMany) := sg_okt 396 (by decide +kernel)
theorem ml_X4_61 : sg_ok (.methodLink RX4 61 yX4_isCounted) := sg_okt 399 (by decide +kernel)
theorem ml_X4_65 : sg_ok (.methodLink RX4 65 yX4_isHalf) := sg_okt 402 (by decide +kernel)
theorem ml_X5_356 : sg_ok (.methodLink RX5 356 yX5_ofUnit) := sg_okt 405 (by decide +kernel)
theorem ml_X5_167 : sg_ok (.methodLink RX5 167 yX5_checkUnit) := sg_okt 409 (by decide +kernel)
theorem ml_X5_173 : sg_ok (.methodLink RX5 173 yX4_isHalf) := sg_okt 413 (by decide +kernel)
theorem ml_X5_248 : sg_ok (.methodLink RX5 248 yX4_isHigh) := sg_okt 414 (by decide +kernel)
theorem ml_X5_251 : sg_ok (.methodLink RX5 251 yX4_isLow) := sg_okt 415 (by decide +kernel)
theorem ml_X5_170 : sg_ok (.methodLink RX5 170 yX4_turned) := sg_okt 416 (by decide +kernel)
theorem ml_X5_266 : sg_ok (.methodLink RX5 266 yX4_codeFrom) := sg_okt 420 (by decide +kernel)
theorem ml_X5_303 : sg_ok (.methodLink RX5 303 yX5_house) := sg_okt 421 (by decide +kernel)
theorem ml_X5_272 : sg_ok (.methodLink RX5 272 yX3_howManySigns) := sg_okt 425 (by decide +kernel)
theorem ml_X3_23 : sg_ok (.methodLink RX3 23 yX0_size) := sg_okt 429 (by decide +kernel)
theorem ml_X5_275 : sg_ok (.methodLink RX5 275 yX3_howManyUnits) := sg_okt 430 (by decide +kernel)
theorem ml_X5_183 : sg_ok (.methodLink RX5 183 yX1_size) := sg_okt 434 (by decide +kernel)
theorem ml_X5_306 : sg_ok (.methodLink RX5 306 yX5_isSound) := sg_okt 438 (by decide +kernel)
theorem ml_X6_1 : sg_ok (.methodLink RX6 1 Lib.objectInit) := sg_okt 444 (by decide +kernel)
theorem ml_L_190 : sg_ok (.methodLink RL 190 yL_lay) := sg_okt 452 (by decide +kernel)
theorem ml_L_7 : sg_ok (.methodLink RL 7 yX5_lay) := sg_okt 458 (by decide +kernel)
theorem ml_X5_40 : sg_ok (.methodLink RX5 40 yX5_laid) := sg_okt 462 (by decide +kernel)
theorem ml_X5_189 : sg_ok (.methodLink RX5 189 yX5_checkSign) := sg_okt 465 (by decide +kernel)
theorem ml_X5_83 : sg_ok (.methodLink RX5 83 yX2_isSign) := sg_okt 468 (by decide +kernel)
theorem ml_X5_44 : sg_ok (.methodLink RX5 44 yX0_hasRoomFor) := sg_okt 472 (by decide +kernel)
theorem ml_X5_55 : sg_ok (.methodLink RX5 55 yX1_keep) := sg_okt 492 (by decide +kernel)
theorem ml_X1_22 : sg_ok (.methodLink RX1 22 yX3_become) := sg_okt 496 (by decide +kernel)
theorem ml_X3_27 : sg_ok (.methodLink RX3 27 yX0_become) := sg_okt 500 (by decide +kernel)
theorem ml_X0_27 : sg_ok (.methodLink RX0 27 yX0_get) := sg_okt 504 (by decide +kernel)
theorem ml_X0_23 : sg_ok (.methodLink RX0 23 yX0_add) := sg_okt 505 (by decide +kernel)
theorem ml_X5_59 : sg_ok (.methodLink RX5 59 yX5_addLaid) := sg_okt 509 (by decide +kernel)
theorem ml_X5_129 : sg_ok (.methodLink RX5 129 yX0_add) := sg_okt 512 (by decide +kernel)
theorem ml_L_196 : sg_ok (.methodLink RL 196 yL_drop) := sg_okt 513 (by decide +kernel)
theorem ml_L_25 : sg_ok (.methodLink RL 25 yX5_drop) := sg_okt 516 (by decide +kernel)
theorem ml_X5_67 : sg_ok (.methodLink RX5 67 yX5_shorten) := sg_okt 520 (by decide +kernel)
theorem ml_X5_100 : sg_ok (.methodLink RX5 100 yX0_takeAway) := sg_okt 525 (by decide +kernel)
theorem ml_L_200 : sg_ok (.methodLink RL 200 yL_copy) := sg_okt 529 (by decide +kernel)
theorem ml_L_29 : sg_ok (.methodLink RL 29 yX5_copy) := sg_okt 532 (by decide +kernel)
theorem ml_X5_71 : sg_ok (.methodLink RX5 71 yX0_become) := sg_okt 536 (by decide +kernel)
theorem ml_L_203 : sg_ok (.methodLink RL 203 yL_raise) := sg_okt 537 (by decide +kernel)
theorem ml_L_32 : sg_ok (.methodLink RL 32 yX5_raise) := sg_okt 540 (by decide +kernel)
theorem ml_X5_86 : sg_ok (.methodLink RX5 86 yX0_set) := sg_okt 544 (by decide +kernel)
theorem ml_L_207 : sg_ok (.methodLink RL 207 yL_sink) := sg_okt 548 (by decide +kernel)
theorem ml_L_36 : sg_ok (.methodLink RL 36 yX5_sink) := sg_okt 551 (by decide +kernel)
theorem ml_L_210 : sg_ok (.methodLink RL 210 yL_sieve) := sg_okt 555 (by decide +kernel)
theorem ml_L_39 : sg_ok (.methodLink RL 39 yX5_sieve) := sg_okt 558 (by decide +kernel)
theorem ml_L_214 : sg_ok (.methodLink RL 214 yL_strip) := sg_okt 562 (by decide +kernel)
theorem ml_L_43 : sg_ok (.methodLink RL 43 yX5_strip) := sg_okt 565 (by decide +kernel)
theorem ml_X5_103 : sg_ok (.methodLink RX5 103 yX0_narrow) := sg_okt 569 (by decide +kernel)
theorem ml_L_217 : sg_ok (.methodLink RL 217 yL_turn) := sg_okt 573 (by decide +kernel)
theorem ml_L_46 : sg_ok (.methodLink RL 46 yX5_turn) := sg_okt 576 (by decide +kernel)
theorem ml_X5_106 : sg_ok (.methodLink RX5 106 yX0_turnRound) := sg_okt 580 (by decide +kernel)
theorem ml_X0_31 : sg_ok (.methodLink RX0 31 yX0_set) := sg_okt 584 (by decide +kernel)
theorem ml_L_220 : sg_ok (.methodLink RL 220 yL_write) := sg_okt 585 (by decide +kernel)
theorem ml_L_49 : sg_ok (.methodLink RL 49 yX5_write) := sg_okt 588 (by decide +kernel)
theorem ml_X5_118 : sg_ok (.methodLink RX5 118 yX2_digitsOf) := sg_okt 594 (by decide +kernel)
theorem ml_X2_39 : sg_ok (.methodLink RX2 39 yX2_shifted) := sg_okt 597 (by decide +kernel)
theorem ml_X5_122 : sg_ok (.methodLink RX5 122 yX2_digitNumber) := sg_okt 600 (by decide +kernel)
theorem ml_L_224 : sg_ok (.methodLink RL 224 yL_spell) := sg_okt 603 (by decide +kernel)
theorem ml_L_53 : sg_ok (.methodLink RL 53 yX5_spell) := sg_okt 606 (by decide +kernel)
theorem ml_X5_132 : sg_ok (.methodLink RX5 132 yX5_checkAreTwo) := sg_okt 610 (by decide +kernel)
theorem ml_X5_135 : sg_ok (.methodLink RX5 135 yX0_clear) := sg_okt 614 (by decide +kernel)
theorem ml_X5_138 : sg_ok (.methodLink RX5 138 yX2_firstSpelled) := sg_okt 618 (by decide +kernel)
theorem ml_X5_141 : sg_ok (.methodLink RX5 141 yX2_secondSpelled) := sg_okt 621 (by decide +kernel)
theorem ml_L_227 : sg_ok (.methodLink RL 227 yL_read) := sg_okt 624 (by decide +kernel)
theorem ml_L_56 : sg_ok (.methodLink RL 56 yX5_read) := sg_okt 627 (by decide +kernel)
theorem ml_X5_144 : sg_ok (.methodLink RX5 144 yX5_canBeRead) := sg_okt 631 (by decide +kernel)
theorem ml_L_230 : sg_ok (.methodLink RL 230 yL_send) := sg_okt 634 (by decide +kernel)
theorem ml_L_59 : sg_ok (.methodLink RL 59 yX5_send) := sg_okt 637 (by decide +kernel)
theorem ml_X5_164 : sg_ok (.methodLink RX5 164 yX4_addCode) := sg_okt 642 (by decide +kernel)
theorem ml_X4_30 : sg_ok (.methodLink RX4 30 yX0_add) := sg_okt 645 (by decide +kernel)
theorem ml_L_233 : sg_ok (.methodLink RL 233 yL_put) := sg_okt 646 (by decide +kernel)
theorem ml_L_62 : sg_ok (.methodLink RL 62 yX5_put) := sg_okt 649 (by decide +kernel)
theorem ml_L_236 : sg_ok (.methodLink RL 236 yL_cut) := sg_okt 653 (by decide +kernel)
theorem ml_L_65 : sg_ok (.methodLink RL 65 yX5_cut) := sg_okt 656 (by decide +kernel)
theorem ml_L_239 : sg_ok (.methodLink RL 239 yL_flip) := sg_okt 660 (by decide +kernel)
theorem ml_L_68 : sg_ok (.methodLink RL 68 yX5_flip) := sg_okt 663 (by decide +kernel)
theorem ml_L_242 : sg_ok (.methodLink RL 242 yL_reverse) := sg_okt 667 (by decide +kernel)
theorem ml_L_71 : sg_ok (.methodLink RL 71 yX5_reverse) := sg_okt 670 (by decide +kernel)
theorem ml_X5_176 : sg_ok (.methodLink RX5 176 yX4_listCodes) := sg_okt 674 (by decide +kernel)
theorem ml_X4_54 : sg_ok (.methodLink RX4 54 yX0_clear) := sg_okt 677 (by decide +kernel)
theorem ml_L_245 : sg_ok (.methodLink RL 245 yL_undo) := sg_okt 678 (by decide +kernel)
theorem ml_L_74 : sg_ok (.methodLink RL 74 yX5_undo) := sg_okt 681 (by decide +kernel)
theorem ml_X5_186 : sg_ok (.methodLink RX5 186 yX1_bringBack) := sg_okt 686 (by decide +kernel)
theorem ml_L_253 : sg_ok (.methodLink RL 253 yL_isDigit) := sg_okt 690 (by decide +kernel)
theorem ml_L_78 : sg_ok (.methodLink RL 78 yX5_isDigit) := sg_okt 693 (by decide +kernel)
theorem ml_L_256 : sg_ok (.methodLink RL 256 yL_isLetter) := sg_okt 697 (by decide +kernel)
theorem ml_L_82 : sg_ok (.methodLink RL 82 yX5_isLetter) := sg_okt 700 (by decide +kernel)
theorem ml_L_259 : sg_ok (.methodLink RL 259 yL_isLetterOrDigit) := sg_okt 704 (by decide +kernel)
theorem ml_L_85 : sg_ok (.methodLink RL 85 yX5_isLetterOrDigit) := sg_okt 707 (by decide +kernel)
theorem ml_L_262 : sg_ok (.methodLink RL 262 yL_isWhite) := sg_okt 711 (by decide +kernel)
theorem ml_L_88 : sg_ok (.methodLink RL 88 yX5_isWhite) := sg_okt 714 (by decide +kernel)
theorem ml_L_265 : sg_ok (.methodLink RL 265 yL_isGreat) := sg_okt 718 (by decide +kernel)
theorem ml_L_91 : sg_ok (.methodLink RL 91 yX5_isGreat) := sg_okt 721 (by decide +kernel)
theorem ml_L_268 : sg_ok (.methodLink RL 268 yL_kinds) := sg_okt 725 (by decide +kernel)
theorem ml_L_94 : sg_ok (.methodLink RL 94 yX5_kinds) := sg_okt 728 (by decide +kernel)
theorem ml_L_271 : sg_ok (.methodLink RL 271 yL_upper) := sg_okt 732 (by decide +kernel)
theorem ml_L_97 : sg_ok (.methodLink RL 97 yX5_upper) := sg_okt 735 (by decide +kernel)
theorem ml_L_275 : sg_ok (.methodLink RL 275 yL_lower) := sg_okt 739 (by decide +kernel)
theorem ml_L_101 : sg_ok (.methodLink RL 101 yX5_lower) := sg_okt 742 (by decide +kernel)
theorem ml_L_278 : sg_ok (.methodLink RL 278 yL_value) := sg_okt 746 (by decide +kernel)
theorem ml_L_104 : sg_ok (.methodLink RL 104 yX5_value) := sg_okt 749 (by decide +kernel)
theorem ml_L_281 : sg_ok (.methodLink RL 281 yL_number) := sg_okt 753 (by decide +kernel)
theorem ml_L_107 : sg_ok (.methodLink RL 107 yX5_number) := sg_okt 756 (by decide +kernel)
theorem ml_L_288 : sg_ok (.methodLink RL 288 yL_length) := sg_okt 760 (by decide +kernel)
theorem ml_L_110 : sg_ok (.methodLink RL 110 yX5_length) := sg_okt 763 (by decide +kernel)
theorem ml_L_291 : sg_ok (.methodLink RL 291 yL_at) := sg_okt 767 (by decide +kernel)
theorem ml_L_113 : sg_ok (.methodLink RL 113 yX5_at) := sg_okt 770 (by decide +kernel)
theorem ml_X5_198 : sg_ok (.methodLink RX5 198 yX5_numberAt) := sg_okt 774 (by decide +kernel)
theorem ml_X5_261 : sg_ok (.methodLink RX5 261 yX0_hasPlace) := sg_okt 777 (by decide +kernel)
theorem ml_L_294 : sg_ok (.methodLink RL 294 yL_count) := sg_okt 779 (by decide +kernel)
theorem ml_L_116 : sg_ok (.methodLink RL 116 yX5_count) := sg_okt 782 (by decide +kernel)
theorem ml_L_297 : sg_ok (.methodLink RL 297 yL_first) := sg_okt 783 (by decide +kernel)
theorem ml_L_119 : sg_ok (.methodLink RL 119 yX5_first) := sg_okt 786 (by decide +kernel)
theorem ml_L_300 : sg_ok (.methodLink RL 300 yL_last) := sg_okt 791 (by decide +kernel)
theorem ml_L_122 : sg_ok (.methodLink RL 122 yX5_last) := sg_okt 794 (by decide +kernel)
theorem ml_L_303 : sg_ok (.methodLink RL 303 yL_forms) := sg_okt 798 (by decide +kernel)
theorem ml_L_125 : sg_ok (.methodLink RL 125 yX5_forms) := sg_okt 801 (by decide +kernel)
theorem ml_X5_205 : sg_ok (.methodLink RX5 205 yJ4_init_da8c8) := sg_okt 807 (by decide +kernel)
theorem ml_X5_206 : sg_ok (.methodLink RX5 206 yX2_formOf) := sg_okt 836 (by decide +kernel)
theorem ml_X5_210 : sg_ok (.methodLink RX5 210 yJ4_append_cf468) := sg_okt 839 (by decide +kernel)
theorem ml_X5_214 : sg_ok (.methodLink RX5 214 yJ4_toString_0e30d) := sg_okt 934 (by decide +kernel)
theorem ml_L_306 : sg_ok (.methodLink RL 306 yL_spelled) := sg_okt 1072 (by decide +kernel)
theorem ml_L_133 : sg_ok (.methodLink RL 133 yX5_spelled) := sg_okt 1075 (by decide +kernel)
theorem ml_L_309 : sg_ok (.methodLink RL 309 yL_told) := sg_okt 1079 (by decide +kernel)
theorem ml_L_136 : sg_ok (.methodLink RL 136 yX5_told) := sg_okt 1082 (by decide +kernel)
theorem ml_L_312 : sg_ok (.methodLink RL 312 yL_sum) := sg_okt 1083 (by decide +kernel)
theorem ml_L_139 : sg_ok (.methodLink RL 139 yX5_sum) := sg_okt 1086 (by decide +kernel)
theorem ml_L_315 : sg_ok (.methodLink RL 315 yL_values) := sg_okt 1090 (by decide +kernel)
theorem ml_L_142 : sg_ok (.methodLink RL 142 yX5_values) := sg_okt 1093 (by decide +kernel)
theorem ml_L_318 : sg_ok (.methodLink RL 318 yL_words) := sg_okt 1094 (by decide +kernel)
theorem ml_L_145 : sg_ok (.methodLink RL 145 yX5_words) := sg_okt 1097 (by decide +kernel)
theorem ml_L_321 : sg_ok (.methodLink RL 321 yL_word) := sg_okt 1098 (by decide +kernel)
theorem ml_L_148 : sg_ok (.methodLink RL 148 yX5_word) := sg_okt 1101 (by decide +kernel)
theorem ml_X5_223 : sg_ok (.methodLink RX5 223 yX5_wordBegin) := sg_okt 1105 (by decide +kernel)
theorem ml_L_324 : sg_ok (.methodLink RL 324 yL_isAlike) := sg_okt 1109 (by decide +kernel)
theorem ml_L_151 : sg_ok (.methodLink RL 151 yX5_isAlike) := sg_okt 1112 (by decide +kernel)
theorem ml_L_327 : sg_ok (.methodLink RL 327 yL_order) := sg_okt 1113 (by decide +kernel)
theorem ml_L_155 : sg_ok (.methodLink RL 155 yX5_order) := sg_okt 1116 (by decide +kernel)
theorem ml_L_346 : sg_ok (.methodLink RL 346 yL_half) := sg_okt 1117 (by decide +kernel)
theorem ml_L_158 : sg_ok (.methodLink RL 158 yX5_half) := sg_okt 1120 (by decide +kernel)
theorem ml_X5_242 : sg_ok (.methodLink RX5 242 yX4_highOf) := sg_okt 1125 (by decide +kernel)
theorem ml_X5_245 : sg_ok (.methodLink RX5 245 yX4_lowOf) := sg_okt 1126 (by decide +kernel)
theorem ml_L_349 : sg_ok (.methodLink RL 349 yL_code) := sg_okt 1127 (by decide +kernel)
theorem ml_L_161 : sg_ok (.methodLink RL 161 yX5_code) := sg_okt 1130 (by decide +kernel)
theorem ml_X5_256 : sg_ok (.methodLink RX5 256 yX4_codeOf) := sg_okt 1135 (by decide +kernel)
theorem ml_L_352 : sg_ok (.methodLink RL 352 yL_ofUnit) := sg_okt 1136 (by decide +kernel)
theorem ml_L_164 : sg_ok (.methodLink RL 164 yX5_ofUnit) := sg_okt 1139 (by decide +kernel)
theorem ml_L_355 : sg_ok (.methodLink RL 355 yL_compare) := sg_okt 1140 (by decide +kernel)
theorem ml_L_167 : sg_ok (.methodLink RL 167 yX5_compare) := sg_okt 1143 (by decide +kernel)
theorem ml_L_358 : sg_ok (.methodLink RL 358 yL_ofTrack) := sg_okt 1147 (by decide +kernel)
theorem ml_L_170 : sg_ok (.methodLink RL 170 yX5_ofTrack) := sg_okt 1150 (by decide +kernel)
theorem ml_L_361 : sg_ok (.methodLink RL 361 yL_unit) := sg_okt 1154 (by decide +kernel)
theorem ml_L_173 : sg_ok (.methodLink RL 173 yX5_unit) := sg_okt 1157 (by decide +kernel)
theorem ml_L_364 : sg_ok (.methodLink RL 364 yL_codeAt) := sg_okt 1161 (by decide +kernel)
theorem ml_L_176 : sg_ok (.methodLink RL 176 yX5_codeAt) := sg_okt 1164 (by decide +kernel)
theorem ml_L_367 : sg_ok (.methodLink RL 367 yL_nth) := sg_okt 1168 (by decide +kernel)
theorem ml_L_179 : sg_ok (.methodLink RL 179 yX5_nth) := sg_okt 1171 (by decide +kernel)
theorem ml_X5_269 : sg_ok (.methodLink RX5 269 yX4_codeBegin) := sg_okt 1175 (by decide +kernel)
theorem ml_L_370 : sg_ok (.methodLink RL 370 yL_house) := sg_okt 1178 (by decide +kernel)
theorem ml_L_182 : sg_ok (.methodLink RL 182 yX5_house) := sg_okt 1181 (by decide +kernel)
theorem ml_L_188 : sg_ok (.methodLink RL 188 yX7_init) := sg_okt 1184 (by decide +kernel)
theorem ml_X7_1 : sg_ok (.methodLink RX7 1 Lib.objectInit) := sg_okt 1187 (by decide +kernel)
theorem ml_X7_17 : sg_ok (.methodLink RX7 17 yJx4a65c_init_da8c8) := sg_okt 1192 (by decide +kernel)
theorem ml_L_195 : sg_ok (.methodLink RL 195 yX7_lay) := sg_okt 1229 (by decide +kernel)
theorem ml_X7_65 : sg_ok (.methodLink RX7 65 yX7_isSign) := sg_okt 1233 (by decide +kernel)
theorem ml_X7_22 : sg_ok (.methodLink RX7 22 yX7_isOf) := sg_okt 1236 (by decide +kernel)
theorem ml_X7_68 : sg_ok (.methodLink RX7 68 yX7_isNoRow) := sg_okt 1239 (by decide +kernel)
theorem ml_X7_71 : sg_ok (.methodLink RX7 71 yX7_start) := sg_okt 1242 (by decide +kernel)
theorem ml_X7_45 : sg_ok (.methodLink RX7 45 yX7_refuse) := sg_okt 1246 (by decide +kernel)
theorem ml_X7_74 : sg_ok (.methodLink RX7 74 yX7_only) := sg_okt 1250 (by decide +kernel)
theorem ml_X7_61 : sg_ok (.methodLink RX7 61 yX7_joined) := sg_okt 1253 (by decide +kernel)
theorem ml_X7_78 : sg_ok (.methodLink RX7 78 yX7_set) := sg_okt 1256 (by decide +kernel)
theorem ml_X7_49 : sg_ok (.methodLink RX7 49 yJx4a65c_add_9ea2d) := sg_okt 1260 (by decide +kernel)
theorem ml_X7_53 : sg_ok (.methodLink RX7 53 yJx4a65c_size_8abf5) := sg_okt 1304 (by decide +kernel)
theorem ml_X7_57 : sg_ok (.methodLink RX7 57 yJx4a65c_remove_915e3) := sg_okt 1308 (by decide +kernel)
theorem ml_L_199 : sg_ok (.methodLink RL 199 yX7_drop) := sg_okt 1322 (by decide +kernel)
theorem ml_X7_82 : sg_ok (.methodLink RX7 82 yX7_part) := sg_okt 1326 (by decide +kernel)
theorem ml_L_202 : sg_ok (.methodLink RL 202 yX7_copy) := sg_okt 1329 (by decide +kernel)
theorem ml_L_206 : sg_ok (.methodLink RL 206 yX7_raise) := sg_okt 1333 (by decide +kernel)
theorem ml_X7_96 : sg_ok (.methodLink RX7 96 yX7_cased) := sg_okt 1337 (by decide +kernel)
theorem ml_X7_86 : sg_ok (.methodLink RX7 86 yX7_upperOf) := sg_okt 1341 (by decide +kernel)
theorem ml_X7_89 : sg_ok (.methodLink RX7 89 yX7_lowerOf) := sg_okt 1344 (by decide +kernel)
theorem ml_X7_26 : sg_ok (.methodLink RX7 26 yX7_isKind) := sg_okt 1347 (by decide +kernel)
theorem ml_X7_92 : sg_ok (.methodLink RX7 92 yX7_one) := sg_okt 1352 (by decide +kernel)
theorem ml_L_209 : sg_ok (.methodLink RL 209 yX7_sink) := sg_okt 1355 (by decide +kernel)
theorem ml_L_213 : sg_ok (.methodLink RL 213 yX7_sieve) := sg_okt 1359 (by decide +kernel)
theorem ml_X7_100 : sg_ok (.methodLink RX7 100 yX7_isNoKind) := sg_okt 1363 (by decide +kernel)
theorem ml_L_216 : sg_ok (.methodLink RL 216 yX7_strip) := sg_okt 1366 (by decide +kernel)
theorem ml_L_219 : sg_ok (.methodLink RL 219 yX7_turn) := sg_okt 1370 (by decide +kernel)
theorem ml_X7_103 : sg_ok (.methodLink RX7 103 yX7_turned) := sg_okt 1374 (by decide +kernel)
theorem ml_L_223 : sg_ok (.methodLink RL 223 yX7_write) := sg_okt 1377 (by decide +kernel)
theorem ml_X7_37 : sg_ok (.methodLink RX7 37 yX7_isRadix) := sg_okt 1382 (by decide +kernel)
theorem ml_X7_108 : sg_ok (.methodLink RX7 108 yX7_digitOf) := sg_okt 1385 (by decide +kernel)
theorem ml_L_226 : sg_ok (.methodLink RL 226 yX7_spell) := sg_okt 1388 (by decide +kernel)
theorem ml_X7_112 : sg_ok (.methodLink RX7 112 yX7_spelledOf) := sg_okt 1392 (by decide +kernel)
theorem ml_L_229 : sg_ok (.methodLink RL 229 yX7_read) := sg_okt 1395 (by decide +kernel)
theorem ml_X7_115 : sg_ok (.methodLink RX7 115 yX7_numberOf) := sg_okt 1399 (by decide +kernel)
theorem ml_X7_33 : sg_ok (.methodLink RX7 33 yX7_valueOf) := sg_okt 1402 (by decide +kernel)
theorem ml_L_232 : sg_ok (.methodLink RL 232 yX7_send) := sg_okt 1405 (by decide +kernel)
theorem ml_X7_129 : sg_ok (.methodLink RX7 129 yX7_isNoTrack) := sg_okt 1409 (by decide +kernel)
theorem ml_X7_133 : sg_ok (.methodLink RX7 133 yX7_sent) := sg_okt 1413 (by decide +kernel)
theorem ml_X7_137 : sg_ok (.methodLink RX7 137 yX7_behind) := sg_okt 1419 (by decide +kernel)
theorem ml_L_235 : sg_ok (.methodLink RL 235 yX7_put) := sg_okt 1423 (by decide +kernel)
theorem ml_L_238 : sg_ok (.methodLink RL 238 yX7_cut) := sg_okt 1428 (by decide +kernel)
theorem ml_L_241 : sg_ok (.methodLink RL 241 yX7_flip) := sg_okt 1432 (by decide +kernel)
theorem ml_X7_141 : sg_ok (.methodLink RX7 141 yX7_turnedUnit) := sg_okt 1436 (by decide +kernel)
theorem ml_X7_144 : sg_ok (.methodLink RX7 144 yX7_isHalf) := sg_okt 1439 (by decide +kernel)
theorem ml_X7_122 : sg_ok (.methodLink RX7 122 yX7_isHigh) := sg_okt 1442 (by decide +kernel)
theorem ml_X7_125 : sg_ok (.methodLink RX7 125 yX7_isLow) := sg_okt 1446 (by decide +kernel)
theorem ml_L_244 : sg_ok (.methodLink RL 244 yX7_reverse) := sg_okt 1450 (by decide +kernel)
theorem ml_X7_153 : sg_ok (.methodLink RX7 153 yX7_codes) := sg_okt 1454 (by decide +kernel)
theorem ml_X7_150 : sg_ok (.methodLink RX7 150 yX7_codeOf) := sg_okt 1458 (by decide +kernel)
theorem ml_X7_147 : sg_ok (.methodLink RX7 147 yX7_both) := sg_okt 1462 (by decide +kernel)
theorem ml_L_248 : sg_ok (.methodLink RL 248 yX7_undo) := sg_okt 1465 (by decide +kernel)
theorem ml_X7_156 : sg_ok (.methodLink RX7 156 yJx4a65c_isEmpty_aae02) := sg_okt 1469 (by decide +kernel)
theorem ml_L_252 : sg_ok (.methodLink RL 252 yX7_knock) := sg_okt 1474 (by decide +kernel)
theorem ml_L_255 : sg_ok (.methodLink RL 255 yX7_isDigit) := sg_okt 1478 (by decide +kernel)
theorem ml_X7_164 : sg_ok (.methodLink RX7 164 yX7_kindTold) := sg_okt 1482 (by decide +kernel)
theorem ml_L_258 : sg_ok (.methodLink RL 258 yX7_isLetter) := sg_okt 1486 (by decide +kernel)
theorem ml_L_261 : sg_ok (.methodLink RL 261 yX7_isLetterOrDigit) := sg_okt 1490 (by decide +kernel)
theorem ml_L_264 : sg_ok (.methodLink RL 264 yX7_isWhite) := sg_okt 1494 (by decide +kernel)
theorem ml_L_267 : sg_ok (.methodLink RL 267 yX7_isGreat) := sg_okt 1498 (by decide +kernel)
theorem ml_L_270 : sg_ok (.methodLink RL 270 yX7_kinds) := sg_okt 1502 (by decide +kernel)
theorem ml_X7_167 : sg_ok (.methodLink RX7 167 yX7_kindsOf) := sg_okt 1506 (by decide +kernel)
theorem ml_L_274 : sg_ok (.methodLink RL 274 yX7_upper) := sg_okt 1509 (by decide +kernel)
theorem ml_L_277 : sg_ok (.methodLink RL 277 yX7_lower) := sg_okt 1513 (by decide +kernel)
theorem ml_L_280 : sg_ok (.methodLink RL 280 yX7_value) := sg_okt 1517 (by decide +kernel)
theorem ml_L_283 : sg_ok (.methodLink RL 283 yX7_number) := sg_okt 1521 (by decide +kernel)
theorem ml_L_287 : sg_ok (.methodLink RL 287 yX7_digit) := sg_okt 1525 (by decide +kernel)
theorem ml_L_290 : sg_ok (.methodLink RL 290 yX7_length) := sg_okt 1529 (by decide +kernel)
theorem ml_L_293 : sg_ok (.methodLink RL 293 yX7_at) := sg_okt 1533 (by decide +kernel)
theorem ml_L_296 : sg_ok (.methodLink RL 296 yX7_count) := sg_okt 1537 (by decide +kernel)
theorem ml_X7_170 : sg_ok (.methodLink RX7 170 yX7_countOf) := sg_okt 1541 (by decide +kernel)
theorem ml_L_299 : sg_ok (.methodLink RL 299 yX7_first) := sg_okt 1545 (by decide +kernel)
theorem ml_L_302 : sg_ok (.methodLink RL 302 yX7_last) := sg_okt 1549 (by decide +kernel)
theorem ml_L_305 : sg_ok (.methodLink RL 305 yX7_forms) := sg_okt 1553 (by decide +kernel)
theorem ml_X7_177 : sg_ok (.methodLink RX7 177 yJ4_init_da8c8) := sg_okt 1559 (by decide +kernel)
theorem ml_X7_178 : sg_ok (.methodLink RX7 178 yJ4_append_15ec4) := sg_okt 1560 (by decide +kernel)
theorem ml_X7_192 : sg_ok (.methodLink RX7 192 yJ4_toString_0e30d) := sg_okt 1566 (by decide +kernel)
theorem ml_L_308 : sg_ok (.methodLink RL 308 yX7_spelled) := sg_okt 1567 (by decide +kernel)
theorem ml_X7_196 : sg_ok (.methodLink RX7 196 yJ4_append_cf468) := sg_okt 1571 (by decide +kernel)
theorem ml_L_311 : sg_ok (.methodLink RL 311 yX7_told) := sg_okt 1572 (by decide +kernel)
theorem ml_X7_201 : sg_ok (.methodLink RX7 201 yX7_toldOf) := sg_okt 1576 (by decide +kernel)
theorem ml_L_314 : sg_ok (.methodLink RL 314 yX7_sum) := sg_okt 1581 (by decide +kernel)
theorem ml_X7_204 : sg_ok (.methodLink RX7 204 yJ9_max_7cf53) := sg_okt 1585 (by decide +kernel)
theorem ml_L_317 : sg_ok (.methodLink RL 317 yX7_values) := sg_okt 1586 (by decide +kernel)
theorem ml_X7_209 : sg_ok (.methodLink RX7 209 yX7_valuesOf) := sg_okt 1590 (by decide +kernel)
theorem ml_L_320 : sg_ok (.methodLink RL 320 yX7_words) := sg_okt 1594 (by decide +kernel)
theorem ml_X7_215 : sg_ok (.methodLink RX7 215 yX7_wordsOf) := sg_okt 1598 (by decide +kernel)
theorem ml_X7_212 : sg_ok (.methodLink RX7 212 yJx4a65c_get_915e3) := sg_okt 1602 (by decide +kernel)
theorem ml_L_323 : sg_ok (.methodLink RL 323 yX7_word) := sg_okt 1610 (by decide +kernel)
theorem ml_L_326 : sg_ok (.methodLink RL 326 yX7_isAlike) := sg_okt 1614 (by decide +kernel)
theorem ml_X7_219 : sg_ok (.methodLink RX7 219 yX7_areAlike) := sg_okt 1618 (by decide +kernel)
theorem ml_L_329 : sg_ok (.methodLink RL 329 yX7_order) := sg_okt 1622 (by decide +kernel)
theorem ml_X7_222 : sg_ok (.methodLink RX7 222 yX7_orderOf) := sg_okt 1626 (by decide +kernel)
theorem ml_L_333 : sg_ok (.methodLink RL 333 yX7_isCode) := sg_okt 1630 (by decide +kernel)
theorem ml_L_337 : sg_ok (.methodLink RL 337 yX7_isPlain) := sg_okt 1634 (by decide +kernel)
theorem ml_L_341 : sg_ok (.methodLink RL 341 yX7_isWide) := sg_okt 1638 (by decide +kernel)
theorem ml_L_345 : sg_ok (.methodLink RL 345 yX7_units) := sg_okt 1642 (by decide +kernel)
theorem ml_L_348 : sg_ok (.methodLink RL 348 yX7_half) := sg_okt 1646 (by decide +kernel)
theorem ml_L_351 : sg_ok (.methodLink RL 351 yX7_code) := sg_okt 1650 (by decide +kernel)
theorem ml_L_354 : sg_ok (.methodLink RL 354 yX7_ofUnit) := sg_okt 1654 (by decide +kernel)
theorem ml_X7_226 : sg_ok (.methodLink RX7 226 yX7_ofUnitTold) := sg_okt 1658 (by decide +kernel)
theorem ml_L_357 : sg_ok (.methodLink RL 357 yX7_compare) := sg_okt 1661 (by decide +kernel)
theorem ml_L_360 : sg_ok (.methodLink RL 360 yX7_ofTrack) := sg_okt 1665 (by decide +kernel)
theorem ml_X7_229 : sg_ok (.methodLink RX7 229 yX7_trackTold) := sg_okt 1669 (by decide +kernel)
theorem ml_L_363 : sg_ok (.methodLink RL 363 yX7_unit) := sg_okt 1673 (by decide +kernel)
theorem ml_X7_232 : sg_ok (.methodLink RX7 232 yX7_isNoPlace) := sg_okt 1677 (by decide +kernel)
theorem ml_L_366 : sg_ok (.methodLink RL 366 yX7_codeAt) := sg_okt 1681 (by decide +kernel)
theorem ml_L_369 : sg_ok (.methodLink RL 369 yX7_nth) := sg_okt 1685 (by decide +kernel)
theorem ml_L_372 : sg_ok (.methodLink RL 372 yX7_house) := sg_okt 1689 (by decide +kernel)
theorem ml_X7_235 : sg_ok (.methodLink RX7 235 yX7_houseOf) := sg_okt 1693 (by decide +kernel)
theorem ml_L_377 : sg_ok (.methodLink RL 377 yX7_isSound) := sg_okt 1697 (by decide +kernel)
theorem ml_L_382 : sg_ok (.methodLink RL 382 yX7_digest) := sg_okt 1701 (by decide +kernel)
theorem ml_X7_242 : sg_ok (.methodLink RX7 242 yX7_isSound) := sg_okt 1707 (by decide +kernel)
theorem mn_obj : sg_ok (.instanceMethod Lib.objectInit) := sg_okt 37 (by decide +kernel)
theorem mc_obj : sg_ok (.code Lib.objectInit ⟨#[0xb1]⟩ 1 none) := sg_okt 38 (by decide +kernel)
theorem cn_X4_22 : sg_ok (.constant RX4 22 1114111) := sg_okt 124 (by decide +kernel)
theorem cn_X4_11 : sg_ok (.constant RX4 11 65536) := sg_okt 132 (by decide +kernel)
theorem cn_X4_13 : sg_ok (.constant RX4 13 56320) := sg_okt 291 (by decide +kernel)
theorem cn_X4_14 : sg_ok (.constant RX4 14 57344) := sg_okt 292 (by decide +kernel)
theorem cn_X4_12 : sg_ok (.constant RX4 12 55296) := sg_okt 296 (by decide +kernel)
theorem cn_X5_218 : sg_ok (.constant RX5 218 1000003) := sg_okt 369 (by decide +kernel)
theorem cn_X5_109 : sg_ok (.constant RX5 109 999999) := sg_okt 592 (by decide +kernel)
theorem cn_X7_107 : sg_ok (.constant RX7 107 999999) := sg_okt 1381 (by decide +kernel)
theorem cn_X7_132 : sg_ok (.constant RX7 132 1114111) := sg_okt 1412 (by decide +kernel)
theorem cn_X7_128 : sg_ok (.constant RX7 128 65536) := sg_okt 1416 (by decide +kernel)
theorem cn_X7_118 : sg_ok (.constant RX7 118 55296) := sg_okt 1417 (by decide +kernel)
theorem cn_X7_120 : sg_ok (.constant RX7 120 56320) := sg_okt 1418 (by decide +kernel)
theorem cn_X7_140 : sg_ok (.constant RX7 140 65535) := sg_okt 1427 (by decide +kernel)
theorem cn_X7_119 : sg_ok (.constant RX7 119 56319) := sg_okt 1445 (by decide +kernel)
theorem cn_X7_121 : sg_ok (.constant RX7 121 57343) := sg_okt 1449 (by decide +kernel)
theorem cn_X5_284 : sg_ok (.constantLong RX5 284 7707) := sg_okt 318 (by decide +kernel)
theorem cn_X5_342 : sg_ok (.constantLong RX5 342 31) := sg_okt 326 (by decide +kernel)
theorem cn_X7_199 : sg_ok (.constantLong RX7 199 1000003) := sg_okt 1580 (by decide +kernel)
theorem cn_X7_238 : sg_ok (.constantLong RX7 238 7707) := sg_okt 1705 (by decide +kernel)
theorem cn_X7_240 : sg_ok (.constantLong RX7 240 31) := sg_okt 1706 (by decide +kernel)
theorem cl_L_8 : sg_ok (.classLink RL 8 "Signkinds") := sg_okt 31 (by decide +kernel)
theorem cl_X5_7 : sg_ok (.classLink RX5 7 "Signkinds$State") := sg_okt 39 (by decide +kernel)
theorem cl_X3_9 : sg_ok (.classLink RX3 9 "Signkinds$Line") := sg_okt 45 (by decide +kernel)
theorem cl_X5_16 : sg_ok (.classLink RX5 16 "Signkinds$Past") := sg_okt 69 (by decide +kernel)
theorem cl_X1_9 : sg_ok (.classLink RX1 9 "Signkinds$State") := sg_okt 75 (by decide +kernel)
theorem cl_X5_23 : sg_ok (.classLink RX5 23 "Signkinds$Line") := sg_okt 85 (by decide +kernel)
theorem cl_X5_226 : sg_ok (.classLink RX5 226 "java/lang/IndexOutOfBoundsException") := sg_okt 155 (by decide +kernel)
theorem cl_X5_110 : sg_ok (.classLink RX5 110 "java/lang/IllegalArgumentException") := sg_okt 343 (by decide +kernel)
theorem cl_L_14 : sg_ok (.classLink RL 14 "SignkindsLaw$Out") := sg_okt 439 (by decide +kernel)
theorem cl_L_19 : sg_ok (.classLink RL 19 "java/lang/IndexOutOfBoundsException") := sg_okt 455 (by decide +kernel)
theorem cl_L_21 : sg_ok (.classLink RL 21 "java/lang/IllegalArgumentException") := sg_okt 456 (by decide +kernel)
theorem cl_L_23 : sg_ok (.classLink RL 23 "java/lang/IllegalStateException") := sg_okt 457 (by decide +kernel)
theorem cl_X5_48 : sg_ok (.classLink RX5 48 "java/lang/IllegalStateException") := sg_okt 476 (by decide +kernel)
theorem cl_X5_203 : sg_ok (.classLink RX5 203 "java/lang/StringBuilder") := sg_okt 805 (by decide +kernel)
theorem cl_L_186 : sg_ok (.classLink RL 186 "SignkindsModel") := sg_okt 1182 (by decide +kernel)
theorem cl_X7_7 : sg_ok (.classLink RX7 7 "[I") := sg_okt 1188 (by decide +kernel)
theorem cl_X7_15 : sg_ok (.classLink RX7 15 "java/util/ArrayList") := sg_okt 1190 (by decide +kernel)
theorem cl_X7_160 : sg_ok (.classLink RX7 160 "[[I") := sg_okt 1473 (by decide +kernel)
theorem cl_X7_175 : sg_ok (.classLink RX7 175 "java/lang/StringBuilder") := sg_okt 1558 (by decide +kernel)
end
section
theorem cw_0 : ∀ x ∈ u_ws RJ0 TJ0 4, sg_ok x := fun x hx => by
  rcases List.mem_map.mp hx with ⟨j, hj, rfl⟩
  have hj := List.mem_range.mp hj
  rcases (show j = 0 ∨ j = 1 ∨ j = 2 ∨ j = 3 by omega) with rfl | rfl | rfl | rfl
  · exact sg_okt 1063 (by decide +kernel)
  · exact sg_okt 1065 (by decide +kernel)
  · exact sg_okt 1067 (by decide +kernel)
  · exact sg_okt 1069 (by decide +kernel)
theorem sgo_0 : sg_co (RJ0, TJ0, 4) tyJ0 := ⟨cw_0, nmJ0, tyJ0_ok⟩
theorem cw_1 : ∀ x ∈ u_ws RJ4 TJ4 4, sg_ok x := fun x hx => by
  rcases List.mem_map.mp hx with ⟨j, hj, rfl⟩
  have hj := List.mem_range.mp hj
  rcases (show j = 0 ∨ j = 1 ∨ j = 2 ∨ j = 3 by omega) with rfl | rfl | rfl | rfl
  · exact sg_okt 827 (by decide +kernel)
  · exact sg_okt 829 (by decide +kernel)
  · exact sg_okt 831 (by decide +kernel)
  · exact sg_okt 833 (by decide +kernel)
theorem sgo_1 : sg_co (RJ4, TJ4, 4) tyJ4 := ⟨cw_1, nmJ4, tyJ4_ok⟩
theorem cw_2 : ∀ x ∈ u_ws RJx4a65c TJx4a65c 3, sg_ok x := fun x hx => by
  rcases List.mem_map.mp hx with ⟨j, hj, rfl⟩
  have hj := List.mem_range.mp hj
  rcases (show j = 0 ∨ j = 1 ∨ j = 2 by omega) with rfl | rfl | rfl
  · exact sg_okt 1213 (by decide +kernel)
  · exact sg_okt 1209 (by decide +kernel)
  · exact sg_okt 1211 (by decide +kernel)
theorem sgo_2 : sg_co (RJx4a65c, TJx4a65c, 3) tyJx4a65c := ⟨cw_2, nmJx4a65c, tyJx4a65c_ok⟩
theorem cw_3 : ∀ x ∈ u_ws RX0 TX0 2, sg_ok x := fun x hx => by
  rcases List.mem_map.mp hx with ⟨j, hj, rfl⟩
  have hj := List.mem_range.mp hj
  rcases (show j = 0 ∨ j = 1 by omega) with rfl | rfl
  · exact sg_okt 54 (by decide +kernel)
  · exact sg_okt 56 (by decide +kernel)
theorem sgo_3 : sg_co (RX0, TX0, 2) tyX0 := ⟨cw_3, nmX0, tyX0_ok⟩
theorem cw_4 : ∀ x ∈ u_ws RX1 TX1 2, sg_ok x := fun x hx => by
  rcases List.mem_map.mp hx with ⟨j, hj, rfl⟩
  have hj := List.mem_range.mp hj
  rcases (show j = 0 ∨ j = 1 by omega) with rfl | rfl
  · exact sg_okt 80 (by decide +kernel)
  · exact sg_okt 82 (by decide +kernel)
theorem sgo_4 : sg_co (RX1, TX1, 2) tyX1 := ⟨cw_4, nmX1, tyX1_ok⟩
theorem cw_5 : ∀ x ∈ u_ws RX3 TX3 2, sg_ok x := fun x hx => by
  rcases List.mem_map.mp hx with ⟨j, hj, rfl⟩
  have hj := List.mem_range.mp hj
  rcases (show j = 0 ∨ j = 1 by omega) with rfl | rfl
  · exact sg_okt 64 (by decide +kernel)
  · exact sg_okt 66 (by decide +kernel)
theorem sgo_5 : sg_co (RX3, TX3, 2) tyX3 := ⟨cw_5, nmX3, tyX3_ok⟩
theorem cw_6 : ∀ x ∈ u_ws RX5 TX5 4, sg_ok x := fun x hx => by
  rcases List.mem_map.mp hx with ⟨j, hj, rfl⟩
  have hj := List.mem_range.mp hj
  rcases (show j = 0 ∨ j = 1 ∨ j = 2 ∨ j = 3 by omega) with rfl | rfl | rfl | rfl
  · exact sg_okt 91 (by decide +kernel)
  · exact sg_okt 93 (by decide +kernel)
  · exact sg_okt 95 (by decide +kernel)
  · exact sg_okt 97 (by decide +kernel)
theorem sgo_6 : sg_co (RX5, TX5, 4) tyX5 := ⟨cw_6, nmX5, tyX5_ok⟩
theorem cw_7 : ∀ x ∈ u_ws RX6 TX6 2, sg_ok x := fun x hx => by
  rcases List.mem_map.mp hx with ⟨j, hj, rfl⟩
  have hj := List.mem_range.mp hj
  rcases (show j = 0 ∨ j = 1 by omega) with rfl | rfl
  · exact sg_okt 447 (by decide +kernel)
  · exact sg_okt 449 (by decide +kernel)
theorem sgo_7 : sg_co (RX6, TX6, 2) tyX6 := ⟨cw_7, nmX6, tyX6_ok⟩
theorem cw_8 : ∀ x ∈ u_ws RX7 TX7 4, sg_ok x := fun x hx => by
  rcases List.mem_map.mp hx with ⟨j, hj, rfl⟩
  have hj := List.mem_range.mp hj
  rcases (show j = 0 ∨ j = 1 ∨ j = 2 ∨ j = 3 by omega) with rfl | rfl | rfl | rfl
  · exact sg_okt 1220 (by decide +kernel)
  · exact sg_okt 1222 (by decide +kernel)
  · exact sg_okt 1224 (by decide +kernel)
  · exact sg_okt 1226 (by decide +kernel)
theorem sgo_8 : sg_co (RX7, TX7, 4) tyX7 := ⟨cw_8, nmX7, tyX7_ok⟩
theorem fk_X0_9 : sg_fk RX0 9 3 0 true (.array .int) := ⟨by decide +kernel, (RX0, TX0, 2), tyX0, "Signkinds$Line", rfl, by decide +kernel, sgo_3, rfl, rfl, fun _ => rfl, sg_okt 52 (by decide +kernel), Or.inl rfl⟩
theorem fk_X0_15 : sg_fk RX0 15 3 1 false .int := ⟨by decide +kernel, (RX0, TX0, 2), tyX0, "Signkinds$Line", rfl, by decide +kernel, sgo_3, rfl, rfl, fun h => (nomatch h), sg_okt 53 (by decide +kernel), Or.inl rfl⟩
theorem fk_X3_11 : sg_fk RX3 11 5 0 true (.array (.object "Signkinds$Line")) := ⟨by decide +kernel, (RX3, TX3, 2), tyX3, "Signkinds$State", rfl, by decide +kernel, sgo_5, rfl, rfl, fun _ => rfl, sg_okt 60 (by decide +kernel), Or.inl rfl⟩
theorem fk_X3_17 : sg_fk RX3 17 5 1 true (.array (.object "Signkinds$Line")) := ⟨by decide +kernel, (RX3, TX3, 2), tyX3, "Signkinds$State", rfl, by decide +kernel, sgo_5, rfl, rfl, fun _ => rfl, sg_okt 62 (by decide +kernel), Or.inl rfl⟩
theorem fk_X1_11 : sg_fk RX1 11 4 0 true (.array (.object "Signkinds$State")) := ⟨by decide +kernel, (RX1, TX1, 2), tyX1, "Signkinds$Past", rfl, by decide +kernel, sgo_4, rfl, rfl, fun _ => rfl, sg_okt 78 (by decide +kernel), Or.inl rfl⟩
theorem fk_X1_18 : sg_fk RX1 18 4 1 false .int := ⟨by decide +kernel, (RX1, TX1, 2), tyX1, "Signkinds$Past", rfl, by decide +kernel, sgo_4, rfl, rfl, fun h => (nomatch h), sg_okt 79 (by decide +kernel), Or.inl rfl⟩
theorem fk_X5_10 : sg_fk RX5 10 6 0 true (.object "Signkinds$State") := ⟨by decide +kernel, (RX5, TX5, 4), tyX5, "Signkinds", rfl, by decide +kernel, sgo_6, rfl, rfl, fun _ => rfl, sg_okt 87 (by decide +kernel), Or.inl rfl⟩
theorem fk_X5_19 : sg_fk RX5 19 6 1 true (.object "Signkinds$Past") := ⟨by decide +kernel, (RX5, TX5, 4), tyX5, "Signkinds", rfl, by decide +kernel, sgo_6, rfl, rfl, fun _ => rfl, sg_okt 88 (by decide +kernel), Or.inl rfl⟩
theorem fk_X5_28 : sg_fk RX5 28 6 2 true (.object "Signkinds$Line") := ⟨by decide +kernel, (RX5, TX5, 4), tyX5, "Signkinds", rfl, by decide +kernel, sgo_6, rfl, rfl, fun _ => rfl, sg_okt 89 (by decide +kernel), Or.inl rfl⟩
theorem fk_X5_32 : sg_fk RX5 32 6 3 false .int := ⟨by decide +kernel, (RX5, TX5, 4), tyX5, "Signkinds", rfl, by decide +kernel, sgo_6, rfl, rfl, fun h => (nomatch h), sg_okt 90 (by decide +kernel), Or.inl rfl⟩
theorem fk_X7_41 : sg_fk RX7 41 8 0 false .int := ⟨by decide +kernel, (RX7, TX7, 4), tyX7, "SignkindsModel", rfl, by decide +kernel, sgo_8, rfl, rfl, fun h => (nomatch h), sg_okt 1216 (by decide +kernel), Or.inl rfl⟩
theorem fk_X7_9 : sg_fk RX7 9 8 1 false (.array (.array .int)) := ⟨by decide +kernel, (RX7, TX7, 4), tyX7, "SignkindsModel", rfl, by decide +kernel, sgo_8, rfl, rfl, fun h => (nomatch h), sg_okt 1217 (by decide +kernel), Or.inl rfl⟩
theorem fk_X7_18 : sg_fk RX7 18 8 2 true (.object "java/util/ArrayList") := ⟨by decide +kernel, (RX7, TX7, 4), tyX7, "SignkindsModel", rfl, by decide +kernel, sgo_8, rfl, rfl, fun _ => rfl, sg_okt 1218 (by decide +kernel), Or.inl rfl⟩
theorem fk_X7_161 : sg_fk RX7 161 8 3 false .int := ⟨by decide +kernel, (RX7, TX7, 4), tyX7, "SignkindsModel", rfl, by decide +kernel, sgo_8, rfl, rfl, fun h => (nomatch h), sg_okt 1219 (by decide +kernel), Or.inl rfl⟩
theorem fk_X5_312 : sg_fkN RX5 312 5 0 true (.array (.object "Signkinds$Line")) := ⟨by decide +kernel, (RX3, TX3, 2), tyX3, "Signkinds", rfl, by decide +kernel, sgo_5, rfl, rfl, List.mem_append_right _ (List.mem_of_getElem? (i := 61) (by decide +kernel))⟩
theorem fk_X5_318 : sg_fkN RX5 318 5 1 true (.array (.object "Signkinds$Line")) := ⟨by decide +kernel, (RX3, TX3, 2), tyX3, "Signkinds", rfl, by decide +kernel, sgo_5, rfl, rfl, List.mem_append_right _ (List.mem_of_getElem? (i := 63) (by decide +kernel))⟩
theorem fk_L_13 : sg_fkN RL 13 7 0 false .long := ⟨by decide +kernel, (RX6, TX6, 2), tyX6, "SignkindsLaw", rfl, by decide +kernel, sgo_7, rfl, rfl, List.mem_append_right _ (List.mem_of_getElem? (i := 445) (by decide +kernel))⟩
theorem fk_L_129 : sg_fkN RL 129 7 1 false (.object "java/lang/String") := ⟨by decide +kernel, (RX6, TX6, 2), tyX6, "SignkindsLaw", rfl, by decide +kernel, sgo_7, rfl, rfl, List.mem_append_right _ (List.mem_of_getElem? (i := 446) (by decide +kernel))⟩
theorem nv_L_8 : ∀ (j : Nat) (v : sg_V), ([sg_n, sg_n, sg_n, sg_i 0] : List sg_V)[j]? = some v → sg_v v (defaultValue (tyX5 j)) := fun j v hv => by
  have hj : j < 4 := (List.getElem?_eq_some_iff.mp hv).1
  rcases (show j = 0 ∨ j = 1 ∨ j = 2 ∨ j = 3 by omega) with rfl | rfl | rfl | rfl
  · cases Option.some.inj hv; exact rfl
  · cases Option.some.inj hv; exact rfl
  · cases Option.some.inj hv; exact rfl
  · cases Option.some.inj hv; exact ⟨0, rfl, rfl⟩
theorem nk_L_8 : sg_nk RL 8 6 [sg_n, sg_n, sg_n, sg_i 0] 4 := ⟨by decide +kernel, (RX5, TX5, 4), tyX5, rfl, sgo_6, rfl, rfl, nv_L_8, sg_okt 31 (by decide +kernel), sg_okt 32 (by decide +kernel), sg_okt 1 (by decide +kernel)⟩
theorem nv_X5_7 : ∀ (j : Nat) (v : sg_V), ([sg_n, sg_n] : List sg_V)[j]? = some v → sg_v v (defaultValue (tyX3 j)) := fun j v hv => by
  have hj : j < 2 := (List.getElem?_eq_some_iff.mp hv).1
  rcases (show j = 0 ∨ j = 1 by omega) with rfl | rfl
  · cases Option.some.inj hv; exact rfl
  · cases Option.some.inj hv; exact rfl
theorem nk_X5_7 : sg_nk RX5 7 5 [sg_n, sg_n] 2 := ⟨by decide +kernel, (RX3, TX3, 2), tyX3, rfl, sgo_5, rfl, rfl, nv_X5_7, sg_okt 39 (by decide +kernel), sg_okt 40 (by decide +kernel), sg_okt 2 (by decide +kernel)⟩
theorem nv_X3_9 : ∀ (j : Nat) (v : sg_V), ([sg_n, sg_i 0] : List sg_V)[j]? = some v → sg_v v (defaultValue (tyX0 j)) := fun j v hv => by
  have hj : j < 2 := (List.getElem?_eq_some_iff.mp hv).1
  rcases (show j = 0 ∨ j = 1 by omega) with rfl | rfl
  · cases Option.some.inj hv; exact rfl
  · cases Option.some.inj hv; exact ⟨0, rfl, rfl⟩
theorem nk_X3_9 : sg_nk RX3 9 3 [sg_n, sg_i 0] 2 := ⟨by decide +kernel, (RX0, TX0, 2), tyX0, rfl, sgo_3, rfl, rfl, nv_X3_9, sg_okt 45 (by decide +kernel), sg_okt 47 (by decide +kernel), sg_okt 3 (by decide +kernel)⟩
theorem nv_X5_16 : ∀ (j : Nat) (v : sg_V), ([sg_n, sg_i 0] : List sg_V)[j]? = some v → sg_v v (defaultValue (tyX1 j)) := fun j v hv => by
  have hj : j < 2 := (List.getElem?_eq_some_iff.mp hv).1
  rcases (show j = 0 ∨ j = 1 by omega) with rfl | rfl
  · cases Option.some.inj hv; exact rfl
  · cases Option.some.inj hv; exact ⟨0, rfl, rfl⟩
theorem nk_X5_16 : sg_nk RX5 16 4 [sg_n, sg_i 0] 2 := ⟨by decide +kernel, (RX1, TX1, 2), tyX1, rfl, sgo_4, rfl, rfl, nv_X5_16, sg_okt 69 (by decide +kernel), sg_okt 70 (by decide +kernel), sg_okt 4 (by decide +kernel)⟩
theorem nv_X1_9 : ∀ (j : Nat) (v : sg_V), ([sg_n, sg_n] : List sg_V)[j]? = some v → sg_v v (defaultValue (tyX3 j)) := fun j v hv => by
  have hj : j < 2 := (List.getElem?_eq_some_iff.mp hv).1
  rcases (show j = 0 ∨ j = 1 by omega) with rfl | rfl
  · cases Option.some.inj hv; exact rfl
  · cases Option.some.inj hv; exact rfl
theorem nk_X1_9 : sg_nk RX1 9 5 [sg_n, sg_n] 2 := ⟨by decide +kernel, (RX3, TX3, 2), tyX3, rfl, sgo_5, rfl, rfl, nv_X1_9, sg_okt 75 (by decide +kernel), sg_okt 40 (by decide +kernel), sg_okt 2 (by decide +kernel)⟩
theorem nv_X5_23 : ∀ (j : Nat) (v : sg_V), ([sg_n, sg_i 0] : List sg_V)[j]? = some v → sg_v v (defaultValue (tyX0 j)) := fun j v hv => by
  have hj : j < 2 := (List.getElem?_eq_some_iff.mp hv).1
  rcases (show j = 0 ∨ j = 1 by omega) with rfl | rfl
  · cases Option.some.inj hv; exact rfl
  · cases Option.some.inj hv; exact ⟨0, rfl, rfl⟩
theorem nk_X5_23 : sg_nk RX5 23 3 [sg_n, sg_i 0] 2 := ⟨by decide +kernel, (RX0, TX0, 2), tyX0, rfl, sgo_3, rfl, rfl, nv_X5_23, sg_okt 85 (by decide +kernel), sg_okt 47 (by decide +kernel), sg_okt 3 (by decide +kernel)⟩
theorem nv_L_14 : ∀ (j : Nat) (v : sg_V), ([sg_l 0, sg_n] : List sg_V)[j]? = some v → sg_v v (defaultValue (tyX6 j)) := fun j v hv => by
  have hj : j < 2 := (List.getElem?_eq_some_iff.mp hv).1
  rcases (show j = 0 ∨ j = 1 by omega) with rfl | rfl
  · cases Option.some.inj hv; exact ⟨0, rfl, rfl⟩
  · cases Option.some.inj hv; exact rfl
theorem nk_L_14 : sg_nk RL 14 7 [sg_l 0, sg_n] 2 := ⟨by decide +kernel, (RX6, TX6, 2), tyX6, rfl, sgo_7, rfl, rfl, nv_L_14, sg_okt 439 (by decide +kernel), sg_okt 440 (by decide +kernel), sg_okt 9 (by decide +kernel)⟩
theorem nv_X5_203 : ∀ (j : Nat) (v : sg_V), ([sg_n, sg_i 0, sg_i 0, sg_i 0] : List sg_V)[j]? = some v → sg_v v (defaultValue (tyJ4 j)) := fun j v hv => by
  have hj : j < 4 := (List.getElem?_eq_some_iff.mp hv).1
  rcases (show j = 0 ∨ j = 1 ∨ j = 2 ∨ j = 3 by omega) with rfl | rfl | rfl | rfl
  · cases Option.some.inj hv; exact rfl
  · cases Option.some.inj hv; exact ⟨0, rfl, rfl⟩
  · cases Option.some.inj hv; exact ⟨0, rfl, rfl⟩
  · cases Option.some.inj hv; exact ⟨0, rfl, rfl⟩
theorem nk_X5_203 : sg_nk RX5 203 1 [sg_n, sg_i 0, sg_i 0, sg_i 0] 4 := ⟨by decide +kernel, (RJ4, TJ4, 4), tyJ4, rfl, sgo_1, rfl, rfl, nv_X5_203, sg_okt 805 (by decide +kernel), sg_okt 806 (by decide +kernel), sg_okt 25 (by decide +kernel)⟩
theorem nv_L_186 : ∀ (j : Nat) (v : sg_V), ([sg_i 0, sg_n, sg_n, sg_i 0] : List sg_V)[j]? = some v → sg_v v (defaultValue (tyX7 j)) := fun j v hv => by
  have hj : j < 4 := (List.getElem?_eq_some_iff.mp hv).1
  rcases (show j = 0 ∨ j = 1 ∨ j = 2 ∨ j = 3 by omega) with rfl | rfl | rfl | rfl
  · cases Option.some.inj hv; exact ⟨0, rfl, rfl⟩
  · cases Option.some.inj hv; exact rfl
  · cases Option.some.inj hv; exact rfl
  · cases Option.some.inj hv; exact ⟨0, rfl, rfl⟩
theorem nk_L_186 : sg_nk RL 186 8 [sg_i 0, sg_n, sg_n, sg_i 0] 4 := ⟨by decide +kernel, (RX7, TX7, 4), tyX7, rfl, sgo_8, rfl, rfl, nv_L_186, sg_okt 1182 (by decide +kernel), sg_okt 1183 (by decide +kernel), sg_okt 5 (by decide +kernel)⟩
theorem nv_X7_15 : ∀ (j : Nat) (v : sg_V), ([sg_i 0, sg_n, sg_i 0] : List sg_V)[j]? = some v → sg_v v (defaultValue (tyJx4a65c j)) := fun j v hv => by
  have hj : j < 3 := (List.getElem?_eq_some_iff.mp hv).1
  rcases (show j = 0 ∨ j = 1 ∨ j = 2 by omega) with rfl | rfl | rfl
  · cases Option.some.inj hv; exact ⟨0, rfl, rfl⟩
  · cases Option.some.inj hv; exact rfl
  · cases Option.some.inj hv; exact ⟨0, rfl, rfl⟩
theorem nk_X7_15 : sg_nk RX7 15 2 [sg_i 0, sg_n, sg_i 0] 3 := ⟨by decide +kernel, (RJx4a65c, TJx4a65c, 3), tyJx4a65c, rfl, sgo_2, rfl, rfl, nv_X7_15, sg_okt 1190 (by decide +kernel), sg_okt 1191 (by decide +kernel), sg_okt 8 (by decide +kernel)⟩
theorem nv_X7_175 : ∀ (j : Nat) (v : sg_V), ([sg_n, sg_i 0, sg_i 0, sg_i 0] : List sg_V)[j]? = some v → sg_v v (defaultValue (tyJ4 j)) := fun j v hv => by
  have hj : j < 4 := (List.getElem?_eq_some_iff.mp hv).1
  rcases (show j = 0 ∨ j = 1 ∨ j = 2 ∨ j = 3 by omega) with rfl | rfl | rfl | rfl
  · cases Option.some.inj hv; exact rfl
  · cases Option.some.inj hv; exact ⟨0, rfl, rfl⟩
  · cases Option.some.inj hv; exact ⟨0, rfl, rfl⟩
  · cases Option.some.inj hv; exact ⟨0, rfl, rfl⟩
theorem nk_X7_175 : sg_nk RX7 175 1 [sg_n, sg_i 0, sg_i 0, sg_i 0] 4 := ⟨by decide +kernel, (RJ4, TJ4, 4), tyJ4, rfl, sgo_1, rfl, rfl, nv_X7_175, sg_okt 1558 (by decide +kernel), sg_okt 806 (by decide +kernel), sg_okt 25 (by decide +kernel)⟩
theorem ac_int : sg_ok (.arrayClass (newarray.typeOf .int)) := sg_okt 59 (by decide +kernel)
theorem ac_boolean : sg_ok (.arrayClass (newarray.typeOf .boolean)) := sg_okt 1321 (by decide +kernel)
theorem ac_byte : sg_ok (.arrayClass (newarray.typeOf .byte)) := sg_okt 222 (by decide +kernel)
end
section
theorem dX0_init_0 : decode cX0_init 0 = .ok (.aload_n 0, 1) := by decide +kernel
theorem dX0_init_1 : decode cX0_init 1 = .ok (.invokespecial 3, 3) := by decide +kernel
theorem dX0_init_4 : decode cX0_init 4 = .ok (.aload_n 0, 1) := by decide +kernel
theorem dX0_init_5 : decode cX0_init 5 = .ok (.iload_n 1, 1) := by decide +kernel
theorem dX0_init_6 : decode cX0_init 6 = .ok (.ifCond .ge 7, 3) := by decide +kernel
theorem dX0_init_9 : decode cX0_init 9 = .ok (.iconst 0, 1) := by decide +kernel
theorem dX0_init_10 : decode cX0_init 10 = .ok (.goto 4, 3) := by decide +kernel
theorem dX0_init_13 : decode cX0_init 13 = .ok (.iload_n 1, 1) := by decide +kernel
theorem dX0_init_14 : decode cX0_init 14 = .ok (.newarray .int, 2) := by decide +kernel
theorem dX0_init_16 : decode cX0_init 16 = .ok (.putfield 9, 3) := by decide +kernel
theorem dX0_init_19 : decode cX0_init 19 = .ok (.aload_n 0, 1) := by decide +kernel
theorem dX0_init_20 : decode cX0_init 20 = .ok (.iconst 0, 1) := by decide +kernel
theorem dX0_init_21 : decode cX0_init 21 = .ok (.putfield 15, 3) := by decide +kernel
theorem dX0_init_24 : decode cX0_init 24 = .ok (.return_, 1) := by decide +kernel
theorem dX0_size_0 : decode cX0_size 0 = .ok (.aload_n 0, 1) := by decide +kernel
theorem dX0_size_1 : decode cX0_size 1 = .ok (.getfield 15, 3) := by decide +kernel
theorem dX0_size_4 : decode cX0_size 4 = .ok (.ireturn, 1) := by decide +kernel
theorem dX0_hasPlace_0 : decode cX0_hasPlace 0 = .ok (.iload_n 1, 1) := by decide +kernel
theorem dX0_hasPlace_1 : decode cX0_hasPlace 1 = .ok (.ifCond .lt 24, 3) := by decide +kernel
theorem dX0_hasPlace_4 : decode cX0_hasPlace 4 = .ok (.iload_n 1, 1) := by decide +kernel
theorem dX0_hasPlace_5 : decode cX0_hasPlace 5 = .ok (.aload_n 0, 1) := by decide +kernel
theorem dX0_hasPlace_6 : decode cX0_hasPlace 6 = .ok (.getfield 15, 3) := by decide +kernel
theorem dX0_hasPlace_9 : decode cX0_hasPlace 9 = .ok (.if_icmp .ge 16, 3) := by decide +kernel
theorem dX0_hasPlace_12 : decode cX0_hasPlace 12 = .ok (.iload_n 1, 1) := by decide +kernel
theorem dX0_hasPlace_13 : decode cX0_hasPlace 13 = .ok (.aload_n 0, 1) := by decide +kernel
theorem dX0_hasPlace_14 : decode cX0_hasPlace 14 = .ok (.getfield 9, 3) := by decide +kernel
theorem dX0_hasPlace_17 : decode cX0_hasPlace 17 = .ok (.arraylength, 1) := by decide +kernel
theorem dX0_hasPlace_18 : decode cX0_hasPlace 18 = .ok (.if_icmp .ge 7, 3) := by decide +kernel
theorem dX0_hasPlace_21 : decode cX0_hasPlace 21 = .ok (.iconst 1, 1) := by decide +kernel
theorem dX0_hasPlace_22 : decode cX0_hasPlace 22 = .ok (.goto 4, 3) := by decide +kernel
theorem dX0_hasPlace_25 : decode cX0_hasPlace 25 = .ok (.iconst 0, 1) := by decide +kernel
theorem dX0_hasPlace_26 : decode cX0_hasPlace 26 = .ok (.ireturn, 1) := by decide +kernel
theorem dX0_hasRoomFor_0 : decode cX0_hasRoomFor 0 = .ok (.iload_n 1, 1) := by decide +kernel
theorem dX0_hasRoomFor_1 : decode cX0_hasRoomFor 1 = .ok (.aload_n 0, 1) := by decide +kernel
theorem dX0_hasRoomFor_2 : decode cX0_hasRoomFor 2 = .ok (.getfield 9, 3) := by decide +kernel
theorem dX0_hasRoomFor_5 : decode cX0_hasRoomFor 5 = .ok (.arraylength, 1) := by decide +kernel
theorem dX0_hasRoomFor_6 : decode cX0_hasRoomFor 6 = .ok (.aload_n 0, 1) := by decide +kernel
theorem dX0_hasRoomFor_7 : decode cX0_hasRoomFor 7 = .ok (.getfield 15, 3) := by decide +kernel
theorem dX0_hasRoomFor_10 : decode cX0_hasRoomFor 10 = .ok (.isub, 1) := by decide +kernel
theorem dX0_hasRoomFor_11 : decode cX0_hasRoomFor 11 = .ok (.if_icmp .gt 7, 3) := by decide +kernel
theorem dX0_hasRoomFor_14 : decode cX0_hasRoomFor 14 = .ok (.iconst 1, 1) := by decide +kernel
theorem dX0_hasRoomFor_15 : decode cX0_hasRoomFor 15 = .ok (.goto 4, 3) := by decide +kernel
theorem dX0_hasRoomFor_18 : decode cX0_hasRoomFor 18 = .ok (.iconst 0, 1) := by decide +kernel
theorem dX0_hasRoomFor_19 : decode cX0_hasRoomFor 19 = .ok (.ireturn, 1) := by decide +kernel
theorem dX0_get_0 : decode cX0_get 0 = .ok (.aload_n 0, 1) := by decide +kernel
theorem dX0_get_1 : decode cX0_get 1 = .ok (.iload_n 1, 1) := by decide +kernel
theorem dX0_get_2 : decode cX0_get 2 = .ok (.invokevirtual 19, 3) := by decide +kernel
theorem dX0_get_5 : decode cX0_get 5 = .ok (.ifCond .eq 12, 3) := by decide +kernel
theorem dX0_get_8 : decode cX0_get 8 = .ok (.aload_n 0, 1) := by decide +kernel
theorem dX0_get_9 : decode cX0_get 9 = .ok (.getfield 9, 3) := by decide +kernel
theorem dX0_get_12 : decode cX0_get 12 = .ok (.iload_n 1, 1) := by decide +kernel
theorem dX0_get_13 : decode cX0_get 13 = .ok (.iaload, 1) := by decide +kernel
theorem dX0_get_14 : decode cX0_get 14 = .ok (.goto 4, 3) := by decide +kernel
theorem dX0_get_17 : decode cX0_get 17 = .ok (.iconst (-1), 1) := by decide +kernel
theorem dX0_get_18 : decode cX0_get 18 = .ok (.ireturn, 1) := by decide +kernel
theorem dX0_set_0 : decode cX0_set 0 = .ok (.aload_n 0, 1) := by decide +kernel
theorem dX0_set_1 : decode cX0_set 1 = .ok (.iload_n 1, 1) := by decide +kernel
theorem dX0_set_2 : decode cX0_set 2 = .ok (.invokevirtual 19, 3) := by decide +kernel
theorem dX0_set_5 : decode cX0_set 5 = .ok (.ifCond .eq 10, 3) := by decide +kernel
theorem dX0_set_8 : decode cX0_set 8 = .ok (.aload_n 0, 1) := by decide +kernel
theorem dX0_set_9 : decode cX0_set 9 = .ok (.getfield 9, 3) := by decide +kernel
theorem dX0_set_12 : decode cX0_set 12 = .ok (.iload_n 1, 1) := by decide +kernel
theorem dX0_set_13 : decode cX0_set 13 = .ok (.iload_n 2, 1) := by decide +kernel
theorem dX0_set_14 : decode cX0_set 14 = .ok (.iastore, 1) := by decide +kernel
theorem dX0_set_15 : decode cX0_set 15 = .ok (.return_, 1) := by decide +kernel
theorem dX0_add_0 : decode cX0_add 0 = .ok (.aload_n 0, 1) := by decide +kernel
theorem dX0_add_1 : decode cX0_add 1 = .ok (.getfield 15, 3) := by decide +kernel
theorem dX0_add_4 : decode cX0_add 4 = .ok (.ifCond .lt 35, 3) := by decide +kernel
theorem dX0_add_7 : decode cX0_add 7 = .ok (.aload_n 0, 1) := by decide +kernel
theorem dX0_add_8 : decode cX0_add 8 = .ok (.getfield 15, 3) := by decide +kernel
theorem dX0_add_11 : decode cX0_add 11 = .ok (.aload_n 0, 1) := by decide +kernel
theorem dX0_add_12 : decode cX0_add 12 = .ok (.getfield 9, 3) := by decide +kernel
theorem dX0_add_15 : decode cX0_add 15 = .ok (.arraylength, 1) := by decide +kernel
theorem dX0_add_16 : decode cX0_add 16 = .ok (.if_icmp .ge 23, 3) := by decide +kernel
theorem dX0_add_19 : decode cX0_add 19 = .ok (.aload_n 0, 1) := by decide +kernel
theorem dX0_add_20 : decode cX0_add 20 = .ok (.getfield 9, 3) := by decide +kernel
theorem dX0_add_23 : decode cX0_add 23 = .ok (.aload_n 0, 1) := by decide +kernel
theorem dX0_add_24 : decode cX0_add 24 = .ok (.getfield 15, 3) := by decide +kernel
theorem dX0_add_27 : decode cX0_add 27 = .ok (.iload_n 1, 1) := by decide +kernel
theorem dX0_add_28 : decode cX0_add 28 = .ok (.iastore, 1) := by decide +kernel
theorem dX0_add_29 : decode cX0_add 29 = .ok (.aload_n 0, 1) := by decide +kernel
theorem dX0_add_30 : decode cX0_add 30 = .ok (.dup, 1) := by decide +kernel
theorem dX0_add_31 : decode cX0_add 31 = .ok (.getfield 15, 3) := by decide +kernel
theorem dX0_add_34 : decode cX0_add 34 = .ok (.iconst 1, 1) := by decide +kernel
theorem dX0_add_35 : decode cX0_add 35 = .ok (.iadd, 1) := by decide +kernel
theorem dX0_add_36 : decode cX0_add 36 = .ok (.putfield 15, 3) := by decide +kernel
theorem dX0_add_39 : decode cX0_add 39 = .ok (.return_, 1) := by decide +kernel
theorem dX0_clear_0 : decode cX0_clear 0 = .ok (.aload_n 0, 1) := by decide +kernel
theorem dX0_clear_1 : decode cX0_clear 1 = .ok (.iconst 0, 1) := by decide +kernel
theorem dX0_clear_2 : decode cX0_clear 2 = .ok (.putfield 15, 3) := by decide +kernel
theorem dX0_clear_5 : decode cX0_clear 5 = .ok (.return_, 1) := by decide +kernel
theorem dX0_takeAway_0 : decode cX0_takeAway 0 = .ok (.iload_n 1, 1) := by decide +kernel
theorem dX0_takeAway_1 : decode cX0_takeAway 1 = .ok (.ifCond .lt 21, 3) := by decide +kernel
theorem dX0_takeAway_4 : decode cX0_takeAway 4 = .ok (.iload_n 1, 1) := by decide +kernel
theorem dX0_takeAway_5 : decode cX0_takeAway 5 = .ok (.aload_n 0, 1) := by decide +kernel
theorem dX0_takeAway_6 : decode cX0_takeAway 6 = .ok (.getfield 15, 3) := by decide +kernel
theorem dX0_takeAway_9 : decode cX0_takeAway 9 = .ok (.if_icmp .gt 13, 3) := by decide +kernel
theorem dX0_takeAway_12 : decode cX0_takeAway 12 = .ok (.aload_n 0, 1) := by decide +kernel
theorem dX0_takeAway_13 : decode cX0_takeAway 13 = .ok (.dup, 1) := by decide +kernel
theorem dX0_takeAway_14 : decode cX0_takeAway 14 = .ok (.getfield 15, 3) := by decide +kernel
theorem dX0_takeAway_17 : decode cX0_takeAway 17 = .ok (.iload_n 1, 1) := by decide +kernel
theorem dX0_takeAway_18 : decode cX0_takeAway 18 = .ok (.isub, 1) := by decide +kernel
theorem dX0_takeAway_19 : decode cX0_takeAway 19 = .ok (.putfield 15, 3) := by decide +kernel
theorem dX0_takeAway_22 : decode cX0_takeAway 22 = .ok (.return_, 1) := by decide +kernel
theorem dX0_narrow_0 : decode cX0_narrow 0 = .ok (.aload_n 0, 1) := by decide +kernel
theorem dX0_narrow_1 : decode cX0_narrow 1 = .ok (.iconst 0, 1) := by decide +kernel
theorem dX0_narrow_2 : decode cX0_narrow 2 = .ok (.putfield 15, 3) := by decide +kernel
theorem dX0_narrow_5 : decode cX0_narrow 5 = .ok (.iload_n 1, 1) := by decide +kernel
theorem dX0_narrow_6 : decode cX0_narrow 6 = .ok (.istore_n 3, 1) := by decide +kernel
theorem dX0_narrow_7 : decode cX0_narrow 7 = .ok (.iload_n 3, 1) := by decide +kernel
theorem dX0_narrow_8 : decode cX0_narrow 8 = .ok (.ifCond .lt 33, 3) := by decide +kernel
theorem dX0_narrow_11 : decode cX0_narrow 11 = .ok (.iload_n 3, 1) := by decide +kernel
theorem dX0_narrow_12 : decode cX0_narrow 12 = .ok (.iload_n 2, 1) := by decide +kernel
theorem dX0_narrow_13 : decode cX0_narrow 13 = .ok (.if_icmp .ge 28, 3) := by decide +kernel
theorem dX0_narrow_16 : decode cX0_narrow 16 = .ok (.iload_n 3, 1) := by decide +kernel
theorem dX0_narrow_17 : decode cX0_narrow 17 = .ok (.aload_n 0, 1) := by decide +kernel
theorem dX0_narrow_18 : decode cX0_narrow 18 = .ok (.getfield 9, 3) := by decide +kernel
theorem dX0_narrow_21 : decode cX0_narrow 21 = .ok (.arraylength, 1) := by decide +kernel
theorem dX0_narrow_22 : decode cX0_narrow 22 = .ok (.if_icmp .ge 19, 3) := by decide +kernel
theorem dX0_narrow_25 : decode cX0_narrow 25 = .ok (.aload_n 0, 1) := by decide +kernel
theorem dX0_narrow_26 : decode cX0_narrow 26 = .ok (.aload_n 0, 1) := by decide +kernel
theorem dX0_narrow_27 : decode cX0_narrow 27 = .ok (.getfield 9, 3) := by decide +kernel
theorem dX0_narrow_30 : decode cX0_narrow 30 = .ok (.iload_n 3, 1) := by decide +kernel
theorem dX0_narrow_31 : decode cX0_narrow 31 = .ok (.iaload, 1) := by decide +kernel
theorem dX0_narrow_32 : decode cX0_narrow 32 = .ok (.invokevirtual 23, 3) := by decide +kernel
theorem dX0_narrow_35 : decode cX0_narrow 35 = .ok (.iinc 3 1, 3) := by decide +kernel
theorem dX0_narrow_38 : decode cX0_narrow 38 = .ok (.goto (-31), 3) := by decide +kernel
theorem dX0_narrow_41 : decode cX0_narrow 41 = .ok (.return_, 1) := by decide +kernel
theorem dX0_turnRound_0 : decode cX0_turnRound 0 = .ok (.iconst 0, 1) := by decide +kernel
theorem dX0_turnRound_1 : decode cX0_turnRound 1 = .ok (.istore_n 1, 1) := by decide +kernel
theorem dX0_turnRound_2 : decode cX0_turnRound 2 = .ok (.aload_n 0, 1) := by decide +kernel
theorem dX0_turnRound_3 : decode cX0_turnRound 3 = .ok (.getfield 15, 3) := by decide +kernel
theorem dX0_turnRound_6 : decode cX0_turnRound 6 = .ok (.iconst 1, 1) := by decide +kernel
theorem dX0_turnRound_7 : decode cX0_turnRound 7 = .ok (.isub, 1) := by decide +kernel
theorem dX0_turnRound_8 : decode cX0_turnRound 8 = .ok (.istore_n 2, 1) := by decide +kernel
theorem dX0_turnRound_9 : decode cX0_turnRound 9 = .ok (.iload_n 1, 1) := by decide +kernel
theorem dX0_turnRound_10 : decode cX0_turnRound 10 = .ok (.iload_n 2, 1) := by decide +kernel
theorem dX0_turnRound_11 : decode cX0_turnRound 11 = .ok (.if_icmp .ge 34, 3) := by decide +kernel
theorem dX0_turnRound_14 : decode cX0_turnRound 14 = .ok (.aload_n 0, 1) := by decide +kernel
theorem dX0_turnRound_15 : decode cX0_turnRound 15 = .ok (.iload_n 1, 1) := by decide +kernel
theorem dX0_turnRound_16 : decode cX0_turnRound 16 = .ok (.invokevirtual 27, 3) := by decide +kernel
theorem dX0_turnRound_19 : decode cX0_turnRound 19 = .ok (.istore_n 3, 1) := by decide +kernel
theorem dX0_turnRound_20 : decode cX0_turnRound 20 = .ok (.aload_n 0, 1) := by decide +kernel
theorem dX0_turnRound_21 : decode cX0_turnRound 21 = .ok (.iload_n 1, 1) := by decide +kernel
theorem dX0_turnRound_22 : decode cX0_turnRound 22 = .ok (.aload_n 0, 1) := by decide +kernel
theorem dX0_turnRound_23 : decode cX0_turnRound 23 = .ok (.iload_n 2, 1) := by decide +kernel
theorem dX0_turnRound_24 : decode cX0_turnRound 24 = .ok (.invokevirtual 27, 3) := by decide +kernel
theorem dX0_turnRound_27 : decode cX0_turnRound 27 = .ok (.invokevirtual 31, 3) := by decide +kernel
theorem dX0_turnRound_30 : decode cX0_turnRound 30 = .ok (.aload_n 0, 1) := by decide +kernel
theorem dX0_turnRound_31 : decode cX0_turnRound 31 = .ok (.iload_n 2, 1) := by decide +kernel
theorem dX0_turnRound_32 : decode cX0_turnRound 32 = .ok (.iload_n 3, 1) := by decide +kernel
theorem dX0_turnRound_33 : decode cX0_turnRound 33 = .ok (.invokevirtual 31, 3) := by decide +kernel
theorem dX0_turnRound_36 : decode cX0_turnRound 36 = .ok (.iinc 1 1, 3) := by decide +kernel
theorem dX0_turnRound_39 : decode cX0_turnRound 39 = .ok (.iinc 2 (-1), 3) := by decide +kernel
theorem dX0_turnRound_42 : decode cX0_turnRound 42 = .ok (.goto (-33), 3) := by decide +kernel
theorem dX0_turnRound_45 : decode cX0_turnRound 45 = .ok (.return_, 1) := by decide +kernel
theorem dX0_become_0 : decode cX0_become 0 = .ok (.aload_n 0, 1) := by decide +kernel
theorem dX0_become_1 : decode cX0_become 1 = .ok (.iconst 0, 1) := by decide +kernel
theorem dX0_become_2 : decode cX0_become 2 = .ok (.putfield 15, 3) := by decide +kernel
theorem dX0_become_5 : decode cX0_become 5 = .ok (.iconst 0, 1) := by decide +kernel
theorem dX0_become_6 : decode cX0_become 6 = .ok (.istore_n 2, 1) := by decide +kernel
theorem dX0_become_7 : decode cX0_become 7 = .ok (.iload_n 2, 1) := by decide +kernel
theorem dX0_become_8 : decode cX0_become 8 = .ok (.aload_n 1, 1) := by decide +kernel
theorem dX0_become_9 : decode cX0_become 9 = .ok (.getfield 15, 3) := by decide +kernel
theorem dX0_become_12 : decode cX0_become 12 = .ok (.if_icmp .ge 18, 3) := by decide +kernel
theorem dX0_become_15 : decode cX0_become 15 = .ok (.aload_n 0, 1) := by decide +kernel
theorem dX0_become_16 : decode cX0_become 16 = .ok (.aload_n 1, 1) := by decide +kernel
theorem dX0_become_17 : decode cX0_become 17 = .ok (.iload_n 2, 1) := by decide +kernel
theorem dX0_become_18 : decode cX0_become 18 = .ok (.invokevirtual 27, 3) := by decide +kernel
theorem dX0_become_21 : decode cX0_become 21 = .ok (.invokevirtual 23, 3) := by decide +kernel
theorem dX0_become_24 : decode cX0_become 24 = .ok (.iinc 2 1, 3) := by decide +kernel
theorem dX0_become_27 : decode cX0_become 27 = .ok (.goto (-20), 3) := by decide +kernel
theorem dX0_become_30 : decode cX0_become 30 = .ok (.return_, 1) := by decide +kernel
theorem dX1_init_0 : decode cX1_init 0 = .ok (.aload_n 0, 1) := by decide +kernel
theorem dX1_init_1 : decode cX1_init 1 = .ok (.invokespecial 3, 3) := by decide +kernel
theorem dX1_init_4 : decode cX1_init 4 = .ok (.aload_n 0, 1) := by decide +kernel
theorem dX1_init_5 : decode cX1_init 5 = .ok (.bipush 6, 2) := by decide +kernel
theorem dX1_init_7 : decode cX1_init 7 = .ok (.anewarray 9, 3) := by decide +kernel
theorem dX1_init_10 : decode cX1_init 10 = .ok (.putfield 11, 3) := by decide +kernel
theorem dX1_init_13 : decode cX1_init 13 = .ok (.iconst 0, 1) := by decide +kernel
theorem dX1_init_14 : decode cX1_init 14 = .ok (.istore_n 1, 1) := by decide +kernel
theorem dX1_init_15 : decode cX1_init 15 = .ok (.iload_n 1, 1) := by decide +kernel
theorem dX1_init_16 : decode cX1_init 16 = .ok (.bipush 6, 2) := by decide +kernel
theorem dX1_init_18 : decode cX1_init 18 = .ok (.if_icmp .ge 22, 3) := by decide +kernel
theorem dX1_init_21 : decode cX1_init 21 = .ok (.aload_n 0, 1) := by decide +kernel
theorem dX1_init_22 : decode cX1_init 22 = .ok (.getfield 11, 3) := by decide +kernel
theorem dX1_init_25 : decode cX1_init 25 = .ok (.iload_n 1, 1) := by decide +kernel
theorem dX1_init_26 : decode cX1_init 26 = .ok (.new 9, 3) := by decide +kernel
theorem dX1_init_29 : decode cX1_init 29 = .ok (.dup, 1) := by decide +kernel
theorem dX1_init_30 : decode cX1_init 30 = .ok (.invokespecial 17, 3) := by decide +kernel
theorem dX1_init_33 : decode cX1_init 33 = .ok (.aastore, 1) := by decide +kernel
theorem dX1_init_34 : decode cX1_init 34 = .ok (.iinc 1 1, 3) := by decide +kernel
theorem dX1_init_37 : decode cX1_init 37 = .ok (.goto (-22), 3) := by decide +kernel
theorem dX1_init_40 : decode cX1_init 40 = .ok (.aload_n 0, 1) := by decide +kernel
theorem dX1_init_41 : decode cX1_init 41 = .ok (.iconst 0, 1) := by decide +kernel
theorem dX1_init_42 : decode cX1_init 42 = .ok (.putfield 18, 3) := by decide +kernel
theorem dX1_init_45 : decode cX1_init 45 = .ok (.return_, 1) := by decide +kernel
theorem dX1_size_0 : decode cX1_size 0 = .ok (.aload_n 0, 1) := by decide +kernel
theorem dX1_size_1 : decode cX1_size 1 = .ok (.getfield 18, 3) := by decide +kernel
theorem dX1_size_4 : decode cX1_size 4 = .ok (.ireturn, 1) := by decide +kernel
theorem dX1_keep_0 : decode cX1_keep 0 = .ok (.aload_n 0, 1) := by decide +kernel
theorem dX1_keep_1 : decode cX1_keep 1 = .ok (.getfield 11, 3) := by decide +kernel
theorem dX1_keep_4 : decode cX1_keep 4 = .ok (.iconst 5, 1) := by decide +kernel
theorem dX1_keep_5 : decode cX1_keep 5 = .ok (.aaload, 1) := by decide +kernel
theorem dX1_keep_6 : decode cX1_keep 6 = .ok (.astore_n 2, 1) := by decide +kernel
theorem dX1_keep_7 : decode cX1_keep 7 = .ok (.iconst 5, 1) := by decide +kernel
theorem dX1_keep_8 : decode cX1_keep 8 = .ok (.istore_n 3, 1) := by decide +kernel
theorem dX1_keep_9 : decode cX1_keep 9 = .ok (.iload_n 3, 1) := by decide +kernel
theorem dX1_keep_10 : decode cX1_keep 10 = .ok (.ifCond .le 23, 3) := by decide +kernel
theorem dX1_keep_13 : decode cX1_keep 13 = .ok (.aload_n 0, 1) := by decide +kernel
theorem dX1_keep_14 : decode cX1_keep 14 = .ok (.getfield 11, 3) := by decide +kernel
theorem dX1_keep_17 : decode cX1_keep 17 = .ok (.iload_n 3, 1) := by decide +kernel
theorem dX1_keep_18 : decode cX1_keep 18 = .ok (.aload_n 0, 1) := by decide +kernel
theorem dX1_keep_19 : decode cX1_keep 19 = .ok (.getfield 11, 3) := by decide +kernel
theorem dX1_keep_22 : decode cX1_keep 22 = .ok (.iload_n 3, 1) := by decide +kernel
theorem dX1_keep_23 : decode cX1_keep 23 = .ok (.iconst 1, 1) := by decide +kernel
theorem dX1_keep_24 : decode cX1_keep 24 = .ok (.isub, 1) := by decide +kernel
theorem dX1_keep_25 : decode cX1_keep 25 = .ok (.aaload, 1) := by decide +kernel
theorem dX1_keep_26 : decode cX1_keep 26 = .ok (.aastore, 1) := by decide +kernel
theorem dX1_keep_27 : decode cX1_keep 27 = .ok (.iinc 3 (-1), 3) := by decide +kernel
theorem dX1_keep_30 : decode cX1_keep 30 = .ok (.goto (-21), 3) := by decide +kernel
theorem dX1_keep_33 : decode cX1_keep 33 = .ok (.aload_n 0, 1) := by decide +kernel
theorem dX1_keep_34 : decode cX1_keep 34 = .ok (.getfield 11, 3) := by decide +kernel
theorem dX1_keep_37 : decode cX1_keep 37 = .ok (.iconst 0, 1) := by decide +kernel
theorem dX1_keep_38 : decode cX1_keep 38 = .ok (.aload_n 2, 1) := by decide +kernel
theorem dX1_keep_39 : decode cX1_keep 39 = .ok (.aastore, 1) := by decide +kernel
theorem dX1_keep_40 : decode cX1_keep 40 = .ok (.aload_n 2, 1) := by decide +kernel
theorem dX1_keep_41 : decode cX1_keep 41 = .ok (.aload_n 1, 1) := by decide +kernel
theorem dX1_keep_42 : decode cX1_keep 42 = .ok (.invokevirtual 22, 3) := by decide +kernel
theorem dX1_keep_45 : decode cX1_keep 45 = .ok (.aload_n 0, 1) := by decide +kernel
theorem dX1_keep_46 : decode cX1_keep 46 = .ok (.getfield 18, 3) := by decide +kernel
theorem dX1_keep_49 : decode cX1_keep 49 = .ok (.bipush 6, 2) := by decide +kernel
theorem dX1_keep_51 : decode cX1_keep 51 = .ok (.if_icmp .ge 13, 3) := by decide +kernel
theorem dX1_keep_54 : decode cX1_keep 54 = .ok (.aload_n 0, 1) := by decide +kernel
theorem dX1_keep_55 : decode cX1_keep 55 = .ok (.dup, 1) := by decide +kernel
theorem dX1_keep_56 : decode cX1_keep 56 = .ok (.getfield 18, 3) := by decide +kernel
theorem dX1_keep_59 : decode cX1_keep 59 = .ok (.iconst 1, 1) := by decide +kernel
theorem dX1_keep_60 : decode cX1_keep 60 = .ok (.iadd, 1) := by decide +kernel
theorem dX1_keep_61 : decode cX1_keep 61 = .ok (.putfield 18, 3) := by decide +kernel
theorem dX1_keep_64 : decode cX1_keep 64 = .ok (.return_, 1) := by decide +kernel
theorem dX1_bringBack_0 : decode cX1_bringBack 0 = .ok (.aload_n 0, 1) := by decide +kernel
theorem dX1_bringBack_1 : decode cX1_bringBack 1 = .ok (.getfield 18, 3) := by decide +kernel
theorem dX1_bringBack_4 : decode cX1_bringBack 4 = .ok (.ifCond .ne 4, 3) := by decide +kernel
theorem dX1_bringBack_7 : decode cX1_bringBack 7 = .ok (.return_, 1) := by decide +kernel
theorem dX1_bringBack_8 : decode cX1_bringBack 8 = .ok (.aload_n 0, 1) := by decide +kernel
theorem dX1_bringBack_9 : decode cX1_bringBack 9 = .ok (.getfield 11, 3) := by decide +kernel
theorem dX1_bringBack_12 : decode cX1_bringBack 12 = .ok (.iconst 0, 1) := by decide +kernel
theorem dX1_bringBack_13 : decode cX1_bringBack 13 = .ok (.aaload, 1) := by decide +kernel
theorem dX1_bringBack_14 : decode cX1_bringBack 14 = .ok (.astore_n 2, 1) := by decide +kernel
theorem dX1_bringBack_15 : decode cX1_bringBack 15 = .ok (.aload_n 1, 1) := by decide +kernel
theorem dX1_bringBack_16 : decode cX1_bringBack 16 = .ok (.aload_n 2, 1) := by decide +kernel
theorem dX1_bringBack_17 : decode cX1_bringBack 17 = .ok (.invokevirtual 22, 3) := by decide +kernel
theorem dX1_bringBack_20 : decode cX1_bringBack 20 = .ok (.iconst 0, 1) := by decide +kernel
theorem dX1_bringBack_21 : decode cX1_bringBack 21 = .ok (.istore_n 3, 1) := by decide +kernel
theorem dX1_bringBack_22 : decode cX1_bringBack 22 = .ok (.iload_n 3, 1) := by decide +kernel
theorem dX1_bringBack_23 : decode cX1_bringBack 23 = .ok (.iconst 1, 1) := by decide +kernel
theorem dX1_bringBack_24 : decode cX1_bringBack 24 = .ok (.iadd, 1) := by decide +kernel
theorem dX1_bringBack_25 : decode cX1_bringBack 25 = .ok (.bipush 6, 2) := by decide +kernel
theorem dX1_bringBack_27 : decode cX1_bringBack 27 = .ok (.if_icmp .ge 23, 3) := by decide +kernel
theorem dX1_bringBack_30 : decode cX1_bringBack 30 = .ok (.aload_n 0, 1) := by decide +kernel
theorem dX1_bringBack_31 : decode cX1_bringBack 31 = .ok (.getfield 11, 3) := by decide +kernel
theorem dX1_bringBack_34 : decode cX1_bringBack 34 = .ok (.iload_n 3, 1) := by decide +kernel
theorem dX1_bringBack_35 : decode cX1_bringBack 35 = .ok (.aload_n 0, 1) := by decide +kernel
theorem dX1_bringBack_36 : decode cX1_bringBack 36 = .ok (.getfield 11, 3) := by decide +kernel
theorem dX1_bringBack_39 : decode cX1_bringBack 39 = .ok (.iload_n 3, 1) := by decide +kernel
theorem dX1_bringBack_40 : decode cX1_bringBack 40 = .ok (.iconst 1, 1) := by decide +kernel
theorem dX1_bringBack_41 : decode cX1_bringBack 41 = .ok (.iadd, 1) := by decide +kernel
theorem dX1_bringBack_42 : decode cX1_bringBack 42 = .ok (.aaload, 1) := by decide +kernel
theorem dX1_bringBack_43 : decode cX1_bringBack 43 = .ok (.aastore, 1) := by decide +kernel
theorem dX1_bringBack_44 : decode cX1_bringBack 44 = .ok (.iinc 3 1, 3) := by decide +kernel
theorem dX1_bringBack_47 : decode cX1_bringBack 47 = .ok (.goto (-25), 3) := by decide +kernel
theorem dX1_bringBack_50 : decode cX1_bringBack 50 = .ok (.aload_n 0, 1) := by decide +kernel
theorem dX1_bringBack_51 : decode cX1_bringBack 51 = .ok (.getfield 11, 3) := by decide +kernel
theorem dX1_bringBack_54 : decode cX1_bringBack 54 = .ok (.iconst 5, 1) := by decide +kernel
theorem dX1_bringBack_55 : decode cX1_bringBack 55 = .ok (.aload_n 2, 1) := by decide +kernel
theorem dX1_bringBack_56 : decode cX1_bringBack 56 = .ok (.aastore, 1) := by decide +kernel
theorem dX1_bringBack_57 : decode cX1_bringBack 57 = .ok (.aload_n 0, 1) := by decide +kernel
theorem dX1_bringBack_58 : decode cX1_bringBack 58 = .ok (.dup, 1) := by decide +kernel
theorem dX1_bringBack_59 : decode cX1_bringBack 59 = .ok (.getfield 18, 3) := by decide +kernel
theorem dX1_bringBack_62 : decode cX1_bringBack 62 = .ok (.iconst 1, 1) := by decide +kernel
theorem dX1_bringBack_63 : decode cX1_bringBack 63 = .ok (.isub, 1) := by decide +kernel
theorem dX1_bringBack_64 : decode cX1_bringBack 64 = .ok (.putfield 18, 3) := by decide +kernel
theorem dX1_bringBack_67 : decode cX1_bringBack 67 = .ok (.return_, 1) := by decide +kernel
theorem dX2_isSign_0 : decode cX2_isSign 0 = .ok (.iload_n 0, 1) := by decide +kernel
theorem dX2_isSign_1 : decode cX2_isSign 1 = .ok (.iconst 0, 1) := by decide +kernel
theorem dX2_isSign_2 : decode cX2_isSign 2 = .ok (.sipush 255, 3) := by decide +kernel
theorem dX2_isSign_5 : decode cX2_isSign 5 = .ok (.invokestatic 9, 3) := by decide +kernel
theorem dX2_isSign_8 : decode cX2_isSign 8 = .ok (.ireturn, 1) := by decide +kernel
theorem dX2_isRadix_0 : decode cX2_isRadix 0 = .ok (.iload_n 0, 1) := by decide +kernel
theorem dX2_isRadix_1 : decode cX2_isRadix 1 = .ok (.iconst 2, 1) := by decide +kernel
theorem dX2_isRadix_2 : decode cX2_isRadix 2 = .ok (.bipush 36, 2) := by decide +kernel
theorem dX2_isRadix_4 : decode cX2_isRadix 4 = .ok (.invokestatic 9, 3) := by decide +kernel
theorem dX2_isRadix_7 : decode cX2_isRadix 7 = .ok (.ireturn, 1) := by decide +kernel
theorem dX2_isOf_0 : decode cX2_isOf 0 = .ok (.iload_n 1, 1) := by decide +kernel
theorem dX2_isOf_1 : decode cX2_isOf 1 = .ok (.tableswitch 98 0 4 #[35, 40, 45, 65, 93], 35) := by decide +kernel
theorem dX2_isOf_36 : decode cX2_isOf 36 = .ok (.iload_n 0, 1) := by decide +kernel
theorem dX2_isOf_37 : decode cX2_isOf 37 = .ok (.invokestatic 15, 3) := by decide +kernel
theorem dX2_isOf_40 : decode cX2_isOf 40 = .ok (.ireturn, 1) := by decide +kernel
theorem dX2_isOf_41 : decode cX2_isOf 41 = .ok (.iload_n 0, 1) := by decide +kernel
theorem dX2_isOf_42 : decode cX2_isOf 42 = .ok (.invokestatic 19, 3) := by decide +kernel
theorem dX2_isOf_45 : decode cX2_isOf 45 = .ok (.ireturn, 1) := by decide +kernel
theorem dX2_isOf_46 : decode cX2_isOf 46 = .ok (.iload_n 0, 1) := by decide +kernel
theorem dX2_isOf_47 : decode cX2_isOf 47 = .ok (.invokestatic 19, 3) := by decide +kernel
theorem dX2_isOf_50 : decode cX2_isOf 50 = .ok (.ifCond .ne 10, 3) := by decide +kernel
theorem dX2_isOf_53 : decode cX2_isOf 53 = .ok (.iload_n 0, 1) := by decide +kernel
theorem dX2_isOf_54 : decode cX2_isOf 54 = .ok (.invokestatic 15, 3) := by decide +kernel
theorem dX2_isOf_57 : decode cX2_isOf 57 = .ok (.ifCond .eq 7, 3) := by decide +kernel
theorem dX2_isOf_60 : decode cX2_isOf 60 = .ok (.iconst 1, 1) := by decide +kernel
theorem dX2_isOf_61 : decode cX2_isOf 61 = .ok (.goto 4, 3) := by decide +kernel
theorem dX2_isOf_64 : decode cX2_isOf 64 = .ok (.iconst 0, 1) := by decide +kernel
theorem dX2_isOf_65 : decode cX2_isOf 65 = .ok (.ireturn, 1) := by decide +kernel
theorem dX2_isOf_66 : decode cX2_isOf 66 = .ok (.iload_n 0, 1) := by decide +kernel
theorem dX2_isOf_67 : decode cX2_isOf 67 = .ok (.bipush 9, 2) := by decide +kernel
theorem dX2_isOf_69 : decode cX2_isOf 69 = .ok (.bipush 13, 2) := by decide +kernel
theorem dX2_isOf_71 : decode cX2_isOf 71 = .ok (.invokestatic 9, 3) := by decide +kernel
theorem dX2_isOf_74 : decode cX2_isOf 74 = .ok (.ifCond .ne 14, 3) := by decide +kernel
theorem dX2_isOf_77 : decode cX2_isOf 77 = .ok (.iload_n 0, 1) := by decide +kernel
theorem dX2_isOf_78 : decode cX2_isOf 78 = .ok (.bipush 28, 2) := by decide +kernel
theorem dX2_isOf_80 : decode cX2_isOf 80 = .ok (.bipush 32, 2) := by decide +kernel
theorem dX2_isOf_82 : decode cX2_isOf 82 = .ok (.invokestatic 9, 3) := by decide +kernel
theorem dX2_isOf_85 : decode cX2_isOf 85 = .ok (.ifCond .eq 7, 3) := by decide +kernel
theorem dX2_isOf_88 : decode cX2_isOf 88 = .ok (.iconst 1, 1) := by decide +kernel
theorem dX2_isOf_89 : decode cX2_isOf 89 = .ok (.goto 4, 3) := by decide +kernel
theorem dX2_isOf_92 : decode cX2_isOf 92 = .ok (.iconst 0, 1) := by decide +kernel
theorem dX2_isOf_93 : decode cX2_isOf 93 = .ok (.ireturn, 1) := by decide +kernel
theorem dX2_isOf_94 : decode cX2_isOf 94 = .ok (.iload_n 0, 1) := by decide +kernel
theorem dX2_isOf_95 : decode cX2_isOf 95 = .ok (.invokestatic 22, 3) := by decide +kernel
theorem dX2_isOf_98 : decode cX2_isOf 98 = .ok (.ireturn, 1) := by decide +kernel
theorem dX2_isOf_99 : decode cX2_isOf 99 = .ok (.iconst 0, 1) := by decide +kernel
theorem dX2_isOf_100 : decode cX2_isOf 100 = .ok (.ireturn, 1) := by decide +kernel
theorem dX2_kindsOf_0 : decode cX2_kindsOf 0 = .ok (.iconst 0, 1) := by decide +kernel
theorem dX2_kindsOf_1 : decode cX2_kindsOf 1 = .ok (.istore_n 1, 1) := by decide +kernel
theorem dX2_kindsOf_2 : decode cX2_kindsOf 2 = .ok (.iconst 0, 1) := by decide +kernel
theorem dX2_kindsOf_3 : decode cX2_kindsOf 3 = .ok (.istore_n 2, 1) := by decide +kernel
theorem dX2_kindsOf_4 : decode cX2_kindsOf 4 = .ok (.iload_n 2, 1) := by decide +kernel
theorem dX2_kindsOf_5 : decode cX2_kindsOf 5 = .ok (.iconst 5, 1) := by decide +kernel
theorem dX2_kindsOf_6 : decode cX2_kindsOf 6 = .ok (.if_icmp .ge 23, 3) := by decide +kernel
theorem dX2_kindsOf_9 : decode cX2_kindsOf 9 = .ok (.iload_n 0, 1) := by decide +kernel
theorem dX2_kindsOf_10 : decode cX2_kindsOf 10 = .ok (.iload_n 2, 1) := by decide +kernel
theorem dX2_kindsOf_11 : decode cX2_kindsOf 11 = .ok (.invokestatic 25, 3) := by decide +kernel
theorem dX2_kindsOf_14 : decode cX2_kindsOf 14 = .ok (.ifCond .eq 9, 3) := by decide +kernel
theorem dX2_kindsOf_17 : decode cX2_kindsOf 17 = .ok (.iload_n 1, 1) := by decide +kernel
theorem dX2_kindsOf_18 : decode cX2_kindsOf 18 = .ok (.iconst 1, 1) := by decide +kernel
theorem dX2_kindsOf_19 : decode cX2_kindsOf 19 = .ok (.iload_n 2, 1) := by decide +kernel
theorem dX2_kindsOf_20 : decode cX2_kindsOf 20 = .ok (.ishl, 1) := by decide +kernel
theorem dX2_kindsOf_21 : decode cX2_kindsOf 21 = .ok (.iadd, 1) := by decide +kernel
theorem dX2_kindsOf_22 : decode cX2_kindsOf 22 = .ok (.istore_n 1, 1) := by decide +kernel
theorem dX2_kindsOf_23 : decode cX2_kindsOf 23 = .ok (.iinc 2 1, 3) := by decide +kernel
theorem dX2_kindsOf_26 : decode cX2_kindsOf 26 = .ok (.goto (-22), 3) := by decide +kernel
theorem dX2_kindsOf_29 : decode cX2_kindsOf 29 = .ok (.iload_n 1, 1) := by decide +kernel
theorem dX2_kindsOf_30 : decode cX2_kindsOf 30 = .ok (.ireturn, 1) := by decide +kernel
theorem dX2_upperOf_0 : decode cX2_upperOf 0 = .ok (.iload_n 0, 1) := by decide +kernel
theorem dX2_upperOf_1 : decode cX2_upperOf 1 = .ok (.invokestatic 29, 3) := by decide +kernel
theorem dX2_upperOf_4 : decode cX2_upperOf 4 = .ok (.ifCond .ne 29, 3) := by decide +kernel
theorem dX2_upperOf_7 : decode cX2_upperOf 7 = .ok (.iload_n 0, 1) := by decide +kernel
theorem dX2_upperOf_8 : decode cX2_upperOf 8 = .ok (.sipush 224, 3) := by decide +kernel
theorem dX2_upperOf_11 : decode cX2_upperOf 11 = .ok (.sipush 246, 3) := by decide +kernel
theorem dX2_upperOf_14 : decode cX2_upperOf 14 = .ok (.invokestatic 9, 3) := by decide +kernel
theorem dX2_upperOf_17 : decode cX2_upperOf 17 = .ok (.ifCond .ne 16, 3) := by decide +kernel
theorem dX2_upperOf_20 : decode cX2_upperOf 20 = .ok (.iload_n 0, 1) := by decide +kernel
theorem dX2_upperOf_21 : decode cX2_upperOf 21 = .ok (.sipush 248, 3) := by decide +kernel
theorem dX2_upperOf_24 : decode cX2_upperOf 24 = .ok (.sipush 254, 3) := by decide +kernel
theorem dX2_upperOf_27 : decode cX2_upperOf 27 = .ok (.invokestatic 9, 3) := by decide +kernel
theorem dX2_upperOf_30 : decode cX2_upperOf 30 = .ok (.ifCond .eq 8, 3) := by decide +kernel
theorem dX2_upperOf_33 : decode cX2_upperOf 33 = .ok (.iload_n 0, 1) := by decide +kernel
theorem dX2_upperOf_34 : decode cX2_upperOf 34 = .ok (.bipush 32, 2) := by decide +kernel
theorem dX2_upperOf_36 : decode cX2_upperOf 36 = .ok (.isub, 1) := by decide +kernel
theorem dX2_upperOf_37 : decode cX2_upperOf 37 = .ok (.ireturn, 1) := by decide +kernel
theorem dX2_upperOf_38 : decode cX2_upperOf 38 = .ok (.iload_n 0, 1) := by decide +kernel
theorem dX2_upperOf_39 : decode cX2_upperOf 39 = .ok (.sipush 181, 3) := by decide +kernel
theorem dX2_upperOf_42 : decode cX2_upperOf 42 = .ok (.if_icmp .ne 7, 3) := by decide +kernel
theorem dX2_upperOf_45 : decode cX2_upperOf 45 = .ok (.sipush 924, 3) := by decide +kernel
theorem dX2_upperOf_48 : decode cX2_upperOf 48 = .ok (.ireturn, 1) := by decide +kernel
theorem dX2_upperOf_49 : decode cX2_upperOf 49 = .ok (.iload_n 0, 1) := by decide +kernel
theorem dX2_upperOf_50 : decode cX2_upperOf 50 = .ok (.sipush 255, 3) := by decide +kernel
theorem dX2_upperOf_53 : decode cX2_upperOf 53 = .ok (.if_icmp .ne 9, 3) := by decide +kernel
theorem dX2_upperOf_56 : decode cX2_upperOf 56 = .ok (.sipush 376, 3) := by decide +kernel
theorem dX2_upperOf_59 : decode cX2_upperOf 59 = .ok (.goto 4, 3) := by decide +kernel
theorem dX2_upperOf_62 : decode cX2_upperOf 62 = .ok (.iload_n 0, 1) := by decide +kernel
theorem dX2_upperOf_63 : decode cX2_upperOf 63 = .ok (.ireturn, 1) := by decide +kernel
theorem dX2_lowerOf_0 : decode cX2_lowerOf 0 = .ok (.iload_n 0, 1) := by decide +kernel
theorem dX2_lowerOf_1 : decode cX2_lowerOf 1 = .ok (.invokestatic 22, 3) := by decide +kernel
theorem dX2_lowerOf_4 : decode cX2_lowerOf 4 = .ok (.ifCond .eq 10, 3) := by decide +kernel
theorem dX2_lowerOf_7 : decode cX2_lowerOf 7 = .ok (.iload_n 0, 1) := by decide +kernel
theorem dX2_lowerOf_8 : decode cX2_lowerOf 8 = .ok (.bipush 32, 2) := by decide +kernel
theorem dX2_lowerOf_10 : decode cX2_lowerOf 10 = .ok (.iadd, 1) := by decide +kernel
theorem dX2_lowerOf_11 : decode cX2_lowerOf 11 = .ok (.goto 4, 3) := by decide +kernel
theorem dX2_lowerOf_14 : decode cX2_lowerOf 14 = .ok (.iload_n 0, 1) := by decide +kernel
theorem dX2_lowerOf_15 : decode cX2_lowerOf 15 = .ok (.ireturn, 1) := by decide +kernel
theorem dX2_signValue_0 : decode cX2_signValue 0 = .ok (.iload_n 0, 1) := by decide +kernel
theorem dX2_signValue_1 : decode cX2_signValue 1 = .ok (.tableswitch 76 178 190 #[67, 69, 76, 76, 76, 76, 76, 71, 76, 76, 73, 73, 73], 67) := by decide +kernel
theorem dX2_signValue_68 : decode cX2_signValue 68 = .ok (.iconst 2, 1) := by decide +kernel
theorem dX2_signValue_69 : decode cX2_signValue 69 = .ok (.ireturn, 1) := by decide +kernel
theorem dX2_signValue_70 : decode cX2_signValue 70 = .ok (.iconst 3, 1) := by decide +kernel
theorem dX2_signValue_71 : decode cX2_signValue 71 = .ok (.ireturn, 1) := by decide +kernel
theorem dX2_signValue_72 : decode cX2_signValue 72 = .ok (.iconst 1, 1) := by decide +kernel
theorem dX2_signValue_73 : decode cX2_signValue 73 = .ok (.ireturn, 1) := by decide +kernel
theorem dX2_signValue_74 : decode cX2_signValue 74 = .ok (.bipush (-2), 2) := by decide +kernel
theorem dX2_signValue_76 : decode cX2_signValue 76 = .ok (.ireturn, 1) := by decide +kernel
theorem dX2_signValue_77 : decode cX2_signValue 77 = .ok (.iload_n 0, 1) := by decide +kernel
theorem dX2_signValue_78 : decode cX2_signValue 78 = .ok (.invokestatic 32, 3) := by decide +kernel
theorem dX2_signValue_81 : decode cX2_signValue 81 = .ok (.ireturn, 1) := by decide +kernel
theorem dX2_numberOf_0 : decode cX2_numberOf 0 = .ok (.iload_n 0, 1) := by decide +kernel
theorem dX2_numberOf_1 : decode cX2_numberOf 1 = .ok (.invokestatic 32, 3) := by decide +kernel
theorem dX2_numberOf_4 : decode cX2_numberOf 4 = .ok (.istore_n 2, 1) := by decide +kernel
theorem dX2_numberOf_5 : decode cX2_numberOf 5 = .ok (.iload_n 1, 1) := by decide +kernel
theorem dX2_numberOf_6 : decode cX2_numberOf 6 = .ok (.invokestatic 36, 3) := by decide +kernel
theorem dX2_numberOf_9 : decode cX2_numberOf 9 = .ok (.ifCond .eq 12, 3) := by decide +kernel
theorem dX2_numberOf_12 : decode cX2_numberOf 12 = .ok (.iload_n 2, 1) := by decide +kernel
theorem dX2_numberOf_13 : decode cX2_numberOf 13 = .ok (.iload_n 1, 1) := by decide +kernel
theorem dX2_numberOf_14 : decode cX2_numberOf 14 = .ok (.if_icmp .ge 7, 3) := by decide +kernel
theorem dX2_numberOf_17 : decode cX2_numberOf 17 = .ok (.iload_n 2, 1) := by decide +kernel
theorem dX2_numberOf_18 : decode cX2_numberOf 18 = .ok (.goto 4, 3) := by decide +kernel
theorem dX2_numberOf_21 : decode cX2_numberOf 21 = .ok (.iconst (-1), 1) := by decide +kernel
theorem dX2_numberOf_22 : decode cX2_numberOf 22 = .ok (.ireturn, 1) := by decide +kernel
theorem dX2_digitOf_0 : decode cX2_digitOf 0 = .ok (.iload_n 1, 1) := by decide +kernel
theorem dX2_digitOf_1 : decode cX2_digitOf 1 = .ok (.invokestatic 36, 3) := by decide +kernel
theorem dX2_digitOf_4 : decode cX2_digitOf 4 = .ok (.ifCond .eq 12, 3) := by decide +kernel
theorem dX2_digitOf_7 : decode cX2_digitOf 7 = .ok (.iload_n 0, 1) := by decide +kernel
theorem dX2_digitOf_8 : decode cX2_digitOf 8 = .ok (.ifCond .lt 8, 3) := by decide +kernel
theorem dX2_digitOf_11 : decode cX2_digitOf 11 = .ok (.iload_n 0, 1) := by decide +kernel
theorem dX2_digitOf_12 : decode cX2_digitOf 12 = .ok (.iload_n 1, 1) := by decide +kernel
theorem dX2_digitOf_13 : decode cX2_digitOf 13 = .ok (.if_icmp .lt 5, 3) := by decide +kernel
theorem dX2_digitOf_16 : decode cX2_digitOf 16 = .ok (.iconst 0, 1) := by decide +kernel
theorem dX2_digitOf_17 : decode cX2_digitOf 17 = .ok (.ireturn, 1) := by decide +kernel
theorem dX2_digitOf_18 : decode cX2_digitOf 18 = .ok (.iload_n 0, 1) := by decide +kernel
theorem dX2_digitOf_19 : decode cX2_digitOf 19 = .ok (.bipush 10, 2) := by decide +kernel
theorem dX2_digitOf_21 : decode cX2_digitOf 21 = .ok (.if_icmp .ge 10, 3) := by decide +kernel
theorem dX2_digitOf_24 : decode cX2_digitOf 24 = .ok (.iload_n 0, 1) := by decide +kernel
theorem dX2_digitOf_25 : decode cX2_digitOf 25 = .ok (.bipush 48, 2) := by decide +kernel
theorem dX2_digitOf_27 : decode cX2_digitOf 27 = .ok (.iadd, 1) := by decide +kernel
theorem dX2_digitOf_28 : decode cX2_digitOf 28 = .ok (.goto 7, 3) := by decide +kernel
theorem dX2_digitOf_31 : decode cX2_digitOf 31 = .ok (.iload_n 0, 1) := by decide +kernel
theorem dX2_digitOf_32 : decode cX2_digitOf 32 = .ok (.bipush 87, 2) := by decide +kernel
theorem dX2_digitOf_34 : decode cX2_digitOf 34 = .ok (.iadd, 1) := by decide +kernel
theorem dX2_digitOf_35 : decode cX2_digitOf 35 = .ok (.ireturn, 1) := by decide +kernel
theorem dX2_digitsOf_0 : decode cX2_digitsOf 0 = .ok (.iconst 1, 1) := by decide +kernel
theorem dX2_digitsOf_1 : decode cX2_digitsOf 1 = .ok (.istore_n 2, 1) := by decide +kernel
theorem dX2_digitsOf_2 : decode cX2_digitsOf 2 = .ok (.iload_n 2, 1) := by decide +kernel
theorem dX2_digitsOf_3 : decode cX2_digitsOf 3 = .ok (.bipush 20, 2) := by decide +kernel
theorem dX2_digitsOf_5 : decode cX2_digitsOf 5 = .ok (.if_icmp .ge 18, 3) := by decide +kernel
theorem dX2_digitsOf_8 : decode cX2_digitsOf 8 = .ok (.iload_n 0, 1) := by decide +kernel
theorem dX2_digitsOf_9 : decode cX2_digitsOf 9 = .ok (.iload_n 1, 1) := by decide +kernel
theorem dX2_digitsOf_10 : decode cX2_digitsOf 10 = .ok (.iload_n 2, 1) := by decide +kernel
theorem dX2_digitsOf_11 : decode cX2_digitsOf 11 = .ok (.invokestatic 39, 3) := by decide +kernel
theorem dX2_digitsOf_14 : decode cX2_digitsOf 14 = .ok (.ifCond .le 9, 3) := by decide +kernel
theorem dX2_digitsOf_17 : decode cX2_digitsOf 17 = .ok (.iinc 2 1, 3) := by decide +kernel
theorem dX2_digitsOf_20 : decode cX2_digitsOf 20 = .ok (.goto (-18), 3) := by decide +kernel
theorem dX2_digitsOf_23 : decode cX2_digitsOf 23 = .ok (.iload_n 2, 1) := by decide +kernel
theorem dX2_digitsOf_24 : decode cX2_digitsOf 24 = .ok (.ireturn, 1) := by decide +kernel
theorem dX2_digitNumber_0 : decode cX2_digitNumber 0 = .ok (.iload_n 1, 1) := by decide +kernel
theorem dX2_digitNumber_1 : decode cX2_digitNumber 1 = .ok (.invokestatic 36, 3) := by decide +kernel
theorem dX2_digitNumber_4 : decode cX2_digitNumber 4 = .ok (.ifCond .eq 14, 3) := by decide +kernel
theorem dX2_digitNumber_7 : decode cX2_digitNumber 7 = .ok (.iload_n 0, 1) := by decide +kernel
theorem dX2_digitNumber_8 : decode cX2_digitNumber 8 = .ok (.iload_n 1, 1) := by decide +kernel
theorem dX2_digitNumber_9 : decode cX2_digitNumber 9 = .ok (.iload_n 2, 1) := by decide +kernel
theorem dX2_digitNumber_10 : decode cX2_digitNumber 10 = .ok (.invokestatic 39, 3) := by decide +kernel
theorem dX2_digitNumber_13 : decode cX2_digitNumber 13 = .ok (.iload_n 1, 1) := by decide +kernel
theorem dX2_digitNumber_14 : decode cX2_digitNumber 14 = .ok (.irem, 1) := by decide +kernel
theorem dX2_digitNumber_15 : decode cX2_digitNumber 15 = .ok (.goto 4, 3) := by decide +kernel
theorem dX2_digitNumber_18 : decode cX2_digitNumber 18 = .ok (.iconst 0, 1) := by decide +kernel
theorem dX2_digitNumber_19 : decode cX2_digitNumber 19 = .ok (.ireturn, 1) := by decide +kernel
theorem dX2_shifted_0 : decode cX2_shifted 0 = .ok (.iload_n 1, 1) := by decide +kernel
theorem dX2_shifted_1 : decode cX2_shifted 1 = .ok (.invokestatic 36, 3) := by decide +kernel
theorem dX2_shifted_4 : decode cX2_shifted 4 = .ok (.ifCond .ne 5, 3) := by decide +kernel
theorem dX2_shifted_7 : decode cX2_shifted 7 = .ok (.iconst 0, 1) := by decide +kernel
theorem dX2_shifted_8 : decode cX2_shifted 8 = .ok (.ireturn, 1) := by decide +kernel
theorem dX2_shifted_9 : decode cX2_shifted 9 = .ok (.iload_n 0, 1) := by decide +kernel
theorem dX2_shifted_10 : decode cX2_shifted 10 = .ok (.istore_n 3, 1) := by decide +kernel
theorem dX2_shifted_11 : decode cX2_shifted 11 = .ok (.iconst 0, 1) := by decide +kernel
theorem dX2_shifted_12 : decode cX2_shifted 12 = .ok (.istore 4, 2) := by decide +kernel
theorem dX2_shifted_14 : decode cX2_shifted 14 = .ok (.iload 4, 2) := by decide +kernel
theorem dX2_shifted_16 : decode cX2_shifted 16 = .ok (.iload_n 2, 1) := by decide +kernel
theorem dX2_shifted_17 : decode cX2_shifted 17 = .ok (.if_icmp .ge 13, 3) := by decide +kernel
theorem dX2_shifted_20 : decode cX2_shifted 20 = .ok (.iload_n 3, 1) := by decide +kernel
theorem dX2_shifted_21 : decode cX2_shifted 21 = .ok (.iload_n 1, 1) := by decide +kernel
theorem dX2_shifted_22 : decode cX2_shifted 22 = .ok (.idiv, 1) := by decide +kernel
theorem dX2_shifted_23 : decode cX2_shifted 23 = .ok (.istore_n 3, 1) := by decide +kernel
theorem dX2_shifted_24 : decode cX2_shifted 24 = .ok (.iinc 4 1, 3) := by decide +kernel
theorem dX2_shifted_27 : decode cX2_shifted 27 = .ok (.goto (-13), 3) := by decide +kernel
theorem dX2_shifted_30 : decode cX2_shifted 30 = .ok (.iload_n 3, 1) := by decide +kernel
theorem dX2_shifted_31 : decode cX2_shifted 31 = .ok (.ireturn, 1) := by decide +kernel
theorem dX2_firstSpelled_0 : decode cX2_firstSpelled 0 = .ok (.iload_n 0, 1) := by decide +kernel
theorem dX2_firstSpelled_1 : decode cX2_firstSpelled 1 = .ok (.bipush 16, 2) := by decide +kernel
theorem dX2_firstSpelled_3 : decode cX2_firstSpelled 3 = .ok (.idiv, 1) := by decide +kernel
theorem dX2_firstSpelled_4 : decode cX2_firstSpelled 4 = .ok (.bipush 16, 2) := by decide +kernel
theorem dX2_firstSpelled_6 : decode cX2_firstSpelled 6 = .ok (.invokestatic 43, 3) := by decide +kernel
theorem dX2_firstSpelled_9 : decode cX2_firstSpelled 9 = .ok (.ireturn, 1) := by decide +kernel
theorem dX2_secondSpelled_0 : decode cX2_secondSpelled 0 = .ok (.iload_n 0, 1) := by decide +kernel
theorem dX2_secondSpelled_1 : decode cX2_secondSpelled 1 = .ok (.bipush 16, 2) := by decide +kernel
theorem dX2_secondSpelled_3 : decode cX2_secondSpelled 3 = .ok (.irem, 1) := by decide +kernel
theorem dX2_secondSpelled_4 : decode cX2_secondSpelled 4 = .ok (.bipush 16, 2) := by decide +kernel
theorem dX2_secondSpelled_6 : decode cX2_secondSpelled 6 = .ok (.invokestatic 43, 3) := by decide +kernel
theorem dX2_secondSpelled_9 : decode cX2_secondSpelled 9 = .ok (.ireturn, 1) := by decide +kernel
theorem dX2_formOf_0 : decode cX2_formOf 0 = .ok (.iload_n 0, 1) := by decide +kernel
theorem dX2_formOf_1 : decode cX2_formOf 1 = .ok (.iconst 0, 1) := by decide +kernel
theorem dX2_formOf_2 : decode cX2_formOf 2 = .ok (.invokestatic 25, 3) := by decide +kernel
theorem dX2_formOf_5 : decode cX2_formOf 5 = .ok (.ifCond .eq 6, 3) := by decide +kernel
theorem dX2_formOf_8 : decode cX2_formOf 8 = .ok (.bipush 100, 2) := by decide +kernel
theorem dX2_formOf_10 : decode cX2_formOf 10 = .ok (.ireturn, 1) := by decide +kernel
theorem dX2_formOf_11 : decode cX2_formOf 11 = .ok (.iload_n 0, 1) := by decide +kernel
theorem dX2_formOf_12 : decode cX2_formOf 12 = .ok (.iconst 4, 1) := by decide +kernel
theorem dX2_formOf_13 : decode cX2_formOf 13 = .ok (.invokestatic 25, 3) := by decide +kernel
theorem dX2_formOf_16 : decode cX2_formOf 16 = .ok (.ifCond .eq 6, 3) := by decide +kernel
theorem dX2_formOf_19 : decode cX2_formOf 19 = .ok (.bipush 117, 2) := by decide +kernel
theorem dX2_formOf_21 : decode cX2_formOf 21 = .ok (.ireturn, 1) := by decide +kernel
theorem dX2_formOf_22 : decode cX2_formOf 22 = .ok (.iload_n 0, 1) := by decide +kernel
theorem dX2_formOf_23 : decode cX2_formOf 23 = .ok (.iconst 1, 1) := by decide +kernel
theorem dX2_formOf_24 : decode cX2_formOf 24 = .ok (.invokestatic 25, 3) := by decide +kernel
theorem dX2_formOf_27 : decode cX2_formOf 27 = .ok (.ifCond .eq 6, 3) := by decide +kernel
theorem dX2_formOf_30 : decode cX2_formOf 30 = .ok (.bipush 108, 2) := by decide +kernel
theorem dX2_formOf_32 : decode cX2_formOf 32 = .ok (.ireturn, 1) := by decide +kernel
theorem dX2_formOf_33 : decode cX2_formOf 33 = .ok (.iload_n 0, 1) := by decide +kernel
theorem dX2_formOf_34 : decode cX2_formOf 34 = .ok (.iconst 3, 1) := by decide +kernel
theorem dX2_formOf_35 : decode cX2_formOf 35 = .ok (.invokestatic 25, 3) := by decide +kernel
theorem dX2_formOf_38 : decode cX2_formOf 38 = .ok (.ifCond .eq 8, 3) := by decide +kernel
theorem dX2_formOf_41 : decode cX2_formOf 41 = .ok (.bipush 119, 2) := by decide +kernel
theorem dX2_formOf_43 : decode cX2_formOf 43 = .ok (.goto 5, 3) := by decide +kernel
theorem dX2_formOf_46 : decode cX2_formOf 46 = .ok (.bipush 45, 2) := by decide +kernel
theorem dX2_formOf_48 : decode cX2_formOf 48 = .ok (.ireturn, 1) := by decide +kernel
theorem dX2_isSoundSign_0 : decode cX2_isSoundSign 0 = .ok (.iload_n 0, 1) := by decide +kernel
theorem dX2_isSoundSign_1 : decode cX2_isSoundSign 1 = .ok (.iconst 1, 1) := by decide +kernel
theorem dX2_isSoundSign_2 : decode cX2_isSoundSign 2 = .ok (.invokestatic 25, 3) := by decide +kernel
theorem dX2_isSoundSign_5 : decode cX2_isSoundSign 5 = .ok (.ifCond .ne 11, 3) := by decide +kernel
theorem dX2_isSoundSign_8 : decode cX2_isSoundSign 8 = .ok (.iload_n 0, 1) := by decide +kernel
theorem dX2_isSoundSign_9 : decode cX2_isSoundSign 9 = .ok (.iconst 0, 1) := by decide +kernel
theorem dX2_isSoundSign_10 : decode cX2_isSoundSign 10 = .ok (.invokestatic 25, 3) := by decide +kernel
theorem dX2_isSoundSign_13 : decode cX2_isSoundSign 13 = .ok (.ifCond .eq 7, 3) := by decide +kernel
theorem dX2_isSoundSign_16 : decode cX2_isSoundSign 16 = .ok (.iconst 1, 1) := by decide +kernel
theorem dX2_isSoundSign_17 : decode cX2_isSoundSign 17 = .ok (.goto 4, 3) := by decide +kernel
theorem dX2_isSoundSign_20 : decode cX2_isSoundSign 20 = .ok (.iconst 0, 1) := by decide +kernel
theorem dX2_isSoundSign_21 : decode cX2_isSoundSign 21 = .ok (.istore_n 1, 1) := by decide +kernel
theorem dX2_isSoundSign_22 : decode cX2_isSoundSign 22 = .ok (.iload_n 0, 1) := by decide +kernel
theorem dX2_isSoundSign_23 : decode cX2_isSoundSign 23 = .ok (.iconst 2, 1) := by decide +kernel
theorem dX2_isSoundSign_24 : decode cX2_isSoundSign 24 = .ok (.invokestatic 25, 3) := by decide +kernel
theorem dX2_isSoundSign_27 : decode cX2_isSoundSign 27 = .ok (.iload_n 1, 1) := by decide +kernel
theorem dX2_isSoundSign_28 : decode cX2_isSoundSign 28 = .ok (.if_icmp .eq 5, 3) := by decide +kernel
theorem dX2_isSoundSign_31 : decode cX2_isSoundSign 31 = .ok (.iconst 0, 1) := by decide +kernel
theorem dX2_isSoundSign_32 : decode cX2_isSoundSign 32 = .ok (.ireturn, 1) := by decide +kernel
theorem dX2_isSoundSign_33 : decode cX2_isSoundSign 33 = .ok (.iload_n 0, 1) := by decide +kernel
theorem dX2_isSoundSign_34 : decode cX2_isSoundSign 34 = .ok (.invokestatic 47, 3) := by decide +kernel
theorem dX2_isSoundSign_37 : decode cX2_isSoundSign 37 = .ok (.istore_n 2, 1) := by decide +kernel
theorem dX2_isSoundSign_38 : decode cX2_isSoundSign 38 = .ok (.iload_n 0, 1) := by decide +kernel
theorem dX2_isSoundSign_39 : decode cX2_isSoundSign 39 = .ok (.iconst 4, 1) := by decide +kernel
theorem dX2_isSoundSign_40 : decode cX2_isSoundSign 40 = .ok (.invokestatic 25, 3) := by decide +kernel
theorem dX2_isSoundSign_43 : decode cX2_isSoundSign 43 = .ok (.ifCond .eq 18, 3) := by decide +kernel
theorem dX2_isSoundSign_46 : decode cX2_isSoundSign 46 = .ok (.iload_n 2, 1) := by decide +kernel
theorem dX2_isSoundSign_47 : decode cX2_isSoundSign 47 = .ok (.iload_n 0, 1) := by decide +kernel
theorem dX2_isSoundSign_48 : decode cX2_isSoundSign 48 = .ok (.if_icmp .eq 11, 3) := by decide +kernel
theorem dX2_isSoundSign_51 : decode cX2_isSoundSign 51 = .ok (.iload_n 2, 1) := by decide +kernel
theorem dX2_isSoundSign_52 : decode cX2_isSoundSign 52 = .ok (.invokestatic 50, 3) := by decide +kernel
theorem dX2_isSoundSign_55 : decode cX2_isSoundSign 55 = .ok (.iload_n 0, 1) := by decide +kernel
theorem dX2_isSoundSign_56 : decode cX2_isSoundSign 56 = .ok (.if_icmp .eq 5, 3) := by decide +kernel
theorem dX2_isSoundSign_59 : decode cX2_isSoundSign 59 = .ok (.iconst 0, 1) := by decide +kernel
theorem dX2_isSoundSign_60 : decode cX2_isSoundSign 60 = .ok (.ireturn, 1) := by decide +kernel
theorem dX2_isSoundSign_61 : decode cX2_isSoundSign 61 = .ok (.iload_n 0, 1) := by decide +kernel
theorem dX2_isSoundSign_62 : decode cX2_isSoundSign 62 = .ok (.bipush 36, 2) := by decide +kernel
theorem dX2_isSoundSign_64 : decode cX2_isSoundSign 64 = .ok (.invokestatic 53, 3) := by decide +kernel
theorem dX2_isSoundSign_67 : decode cX2_isSoundSign 67 = .ok (.istore_n 3, 1) := by decide +kernel
theorem dX2_isSoundSign_68 : decode cX2_isSoundSign 68 = .ok (.iload_n 3, 1) := by decide +kernel
theorem dX2_isSoundSign_69 : decode cX2_isSoundSign 69 = .ok (.iconst (-1), 1) := by decide +kernel
theorem dX2_isSoundSign_70 : decode cX2_isSoundSign 70 = .ok (.if_icmp .eq 19, 3) := by decide +kernel
theorem dX2_isSoundSign_73 : decode cX2_isSoundSign 73 = .ok (.iload_n 3, 1) := by decide +kernel
theorem dX2_isSoundSign_74 : decode cX2_isSoundSign 74 = .ok (.bipush 36, 2) := by decide +kernel
theorem dX2_isSoundSign_76 : decode cX2_isSoundSign 76 = .ok (.invokestatic 43, 3) := by decide +kernel
theorem dX2_isSoundSign_79 : decode cX2_isSoundSign 79 = .ok (.invokestatic 50, 3) := by decide +kernel
theorem dX2_isSoundSign_82 : decode cX2_isSoundSign 82 = .ok (.iload_n 0, 1) := by decide +kernel
theorem dX2_isSoundSign_83 : decode cX2_isSoundSign 83 = .ok (.invokestatic 50, 3) := by decide +kernel
theorem dX2_isSoundSign_86 : decode cX2_isSoundSign 86 = .ok (.if_icmp .ne 7, 3) := by decide +kernel
theorem dX2_isSoundSign_89 : decode cX2_isSoundSign 89 = .ok (.iconst 1, 1) := by decide +kernel
theorem dX2_isSoundSign_90 : decode cX2_isSoundSign 90 = .ok (.goto 4, 3) := by decide +kernel
theorem dX2_isSoundSign_93 : decode cX2_isSoundSign 93 = .ok (.iconst 0, 1) := by decide +kernel
theorem dX2_isSoundSign_94 : decode cX2_isSoundSign 94 = .ok (.ireturn, 1) := by decide +kernel
theorem dX2_plainValueOf_0 : decode cX2_plainValueOf 0 = .ok (.iload_n 0, 1) := by decide +kernel
theorem dX2_plainValueOf_1 : decode cX2_plainValueOf 1 = .ok (.invokestatic 15, 3) := by decide +kernel
theorem dX2_plainValueOf_4 : decode cX2_plainValueOf 4 = .ok (.ifCond .eq 8, 3) := by decide +kernel
theorem dX2_plainValueOf_7 : decode cX2_plainValueOf 7 = .ok (.iload_n 0, 1) := by decide +kernel
theorem dX2_plainValueOf_8 : decode cX2_plainValueOf 8 = .ok (.bipush 48, 2) := by decide +kernel
theorem dX2_plainValueOf_10 : decode cX2_plainValueOf 10 = .ok (.isub, 1) := by decide +kernel
theorem dX2_plainValueOf_11 : decode cX2_plainValueOf 11 = .ok (.ireturn, 1) := by decide +kernel
theorem dX2_plainValueOf_12 : decode cX2_plainValueOf 12 = .ok (.iload_n 0, 1) := by decide +kernel
theorem dX2_plainValueOf_13 : decode cX2_plainValueOf 13 = .ok (.invokestatic 56, 3) := by decide +kernel
theorem dX2_plainValueOf_16 : decode cX2_plainValueOf 16 = .ok (.ifCond .eq 8, 3) := by decide +kernel
theorem dX2_plainValueOf_19 : decode cX2_plainValueOf 19 = .ok (.iload_n 0, 1) := by decide +kernel
theorem dX2_plainValueOf_20 : decode cX2_plainValueOf 20 = .ok (.bipush 55, 2) := by decide +kernel
theorem dX2_plainValueOf_22 : decode cX2_plainValueOf 22 = .ok (.isub, 1) := by decide +kernel
theorem dX2_plainValueOf_23 : decode cX2_plainValueOf 23 = .ok (.ireturn, 1) := by decide +kernel
theorem dX2_plainValueOf_24 : decode cX2_plainValueOf 24 = .ok (.iload_n 0, 1) := by decide +kernel
theorem dX2_plainValueOf_25 : decode cX2_plainValueOf 25 = .ok (.invokestatic 29, 3) := by decide +kernel
theorem dX2_plainValueOf_28 : decode cX2_plainValueOf 28 = .ok (.ifCond .eq 10, 3) := by decide +kernel
theorem dX2_plainValueOf_31 : decode cX2_plainValueOf 31 = .ok (.iload_n 0, 1) := by decide +kernel
theorem dX2_plainValueOf_32 : decode cX2_plainValueOf 32 = .ok (.bipush 87, 2) := by decide +kernel
theorem dX2_plainValueOf_34 : decode cX2_plainValueOf 34 = .ok (.isub, 1) := by decide +kernel
theorem dX2_plainValueOf_35 : decode cX2_plainValueOf 35 = .ok (.goto 4, 3) := by decide +kernel
theorem dX2_plainValueOf_38 : decode cX2_plainValueOf 38 = .ok (.iconst (-1), 1) := by decide +kernel
theorem dX2_plainValueOf_39 : decode cX2_plainValueOf 39 = .ok (.ireturn, 1) := by decide +kernel
theorem dX2_isPlainDigit_0 : decode cX2_isPlainDigit 0 = .ok (.iload_n 0, 1) := by decide +kernel
theorem dX2_isPlainDigit_1 : decode cX2_isPlainDigit 1 = .ok (.bipush 48, 2) := by decide +kernel
theorem dX2_isPlainDigit_3 : decode cX2_isPlainDigit 3 = .ok (.if_icmp .lt 13, 3) := by decide +kernel
theorem dX2_isPlainDigit_6 : decode cX2_isPlainDigit 6 = .ok (.iload_n 0, 1) := by decide +kernel
theorem dX2_isPlainDigit_7 : decode cX2_isPlainDigit 7 = .ok (.bipush 57, 2) := by decide +kernel
theorem dX2_isPlainDigit_9 : decode cX2_isPlainDigit 9 = .ok (.if_icmp .gt 7, 3) := by decide +kernel
theorem dX2_isPlainDigit_12 : decode cX2_isPlainDigit 12 = .ok (.iconst 1, 1) := by decide +kernel
theorem dX2_isPlainDigit_13 : decode cX2_isPlainDigit 13 = .ok (.goto 4, 3) := by decide +kernel
theorem dX2_isPlainDigit_16 : decode cX2_isPlainDigit 16 = .ok (.iconst 0, 1) := by decide +kernel
theorem dX2_isPlainDigit_17 : decode cX2_isPlainDigit 17 = .ok (.ireturn, 1) := by decide +kernel
theorem dX2_isGreatPlain_0 : decode cX2_isGreatPlain 0 = .ok (.iload_n 0, 1) := by decide +kernel
theorem dX2_isGreatPlain_1 : decode cX2_isGreatPlain 1 = .ok (.bipush 65, 2) := by decide +kernel
theorem dX2_isGreatPlain_3 : decode cX2_isGreatPlain 3 = .ok (.if_icmp .lt 13, 3) := by decide +kernel
theorem dX2_isGreatPlain_6 : decode cX2_isGreatPlain 6 = .ok (.iload_n 0, 1) := by decide +kernel
theorem dX2_isGreatPlain_7 : decode cX2_isGreatPlain 7 = .ok (.bipush 90, 2) := by decide +kernel
theorem dX2_isGreatPlain_9 : decode cX2_isGreatPlain 9 = .ok (.if_icmp .gt 7, 3) := by decide +kernel
theorem dX2_isGreatPlain_12 : decode cX2_isGreatPlain 12 = .ok (.iconst 1, 1) := by decide +kernel
theorem dX2_isGreatPlain_13 : decode cX2_isGreatPlain 13 = .ok (.goto 4, 3) := by decide +kernel
theorem dX2_isGreatPlain_16 : decode cX2_isGreatPlain 16 = .ok (.iconst 0, 1) := by decide +kernel
theorem dX2_isGreatPlain_17 : decode cX2_isGreatPlain 17 = .ok (.ireturn, 1) := by decide +kernel
theorem dX2_isSmallPlain_0 : decode cX2_isSmallPlain 0 = .ok (.iload_n 0, 1) := by decide +kernel
theorem dX2_isSmallPlain_1 : decode cX2_isSmallPlain 1 = .ok (.bipush 97, 2) := by decide +kernel
theorem dX2_isSmallPlain_3 : decode cX2_isSmallPlain 3 = .ok (.if_icmp .lt 13, 3) := by decide +kernel
theorem dX2_isSmallPlain_6 : decode cX2_isSmallPlain 6 = .ok (.iload_n 0, 1) := by decide +kernel
theorem dX2_isSmallPlain_7 : decode cX2_isSmallPlain 7 = .ok (.bipush 122, 2) := by decide +kernel
theorem dX2_isSmallPlain_9 : decode cX2_isSmallPlain 9 = .ok (.if_icmp .gt 7, 3) := by decide +kernel
theorem dX2_isSmallPlain_12 : decode cX2_isSmallPlain 12 = .ok (.iconst 1, 1) := by decide +kernel
theorem dX2_isSmallPlain_13 : decode cX2_isSmallPlain 13 = .ok (.goto 4, 3) := by decide +kernel
theorem dX2_isSmallPlain_16 : decode cX2_isSmallPlain 16 = .ok (.iconst 0, 1) := by decide +kernel
theorem dX2_isSmallPlain_17 : decode cX2_isSmallPlain 17 = .ok (.ireturn, 1) := by decide +kernel
theorem dX2_isAnyGreat_0 : decode cX2_isAnyGreat 0 = .ok (.iload_n 0, 1) := by decide +kernel
theorem dX2_isAnyGreat_1 : decode cX2_isAnyGreat 1 = .ok (.invokestatic 56, 3) := by decide +kernel
theorem dX2_isAnyGreat_4 : decode cX2_isAnyGreat 4 = .ok (.ifCond .ne 29, 3) := by decide +kernel
theorem dX2_isAnyGreat_7 : decode cX2_isAnyGreat 7 = .ok (.iload_n 0, 1) := by decide +kernel
theorem dX2_isAnyGreat_8 : decode cX2_isAnyGreat 8 = .ok (.sipush 192, 3) := by decide +kernel
theorem dX2_isAnyGreat_11 : decode cX2_isAnyGreat 11 = .ok (.sipush 214, 3) := by decide +kernel
theorem dX2_isAnyGreat_14 : decode cX2_isAnyGreat 14 = .ok (.invokestatic 9, 3) := by decide +kernel
theorem dX2_isAnyGreat_17 : decode cX2_isAnyGreat 17 = .ok (.ifCond .ne 16, 3) := by decide +kernel
theorem dX2_isAnyGreat_20 : decode cX2_isAnyGreat 20 = .ok (.iload_n 0, 1) := by decide +kernel
theorem dX2_isAnyGreat_21 : decode cX2_isAnyGreat 21 = .ok (.sipush 216, 3) := by decide +kernel
theorem dX2_isAnyGreat_24 : decode cX2_isAnyGreat 24 = .ok (.sipush 222, 3) := by decide +kernel
theorem dX2_isAnyGreat_27 : decode cX2_isAnyGreat 27 = .ok (.invokestatic 9, 3) := by decide +kernel
theorem dX2_isAnyGreat_30 : decode cX2_isAnyGreat 30 = .ok (.ifCond .eq 7, 3) := by decide +kernel
theorem dX2_isAnyGreat_33 : decode cX2_isAnyGreat 33 = .ok (.iconst 1, 1) := by decide +kernel
theorem dX2_isAnyGreat_34 : decode cX2_isAnyGreat 34 = .ok (.goto 4, 3) := by decide +kernel
theorem dX2_isAnyGreat_37 : decode cX2_isAnyGreat 37 = .ok (.iconst 0, 1) := by decide +kernel
theorem dX2_isAnyGreat_38 : decode cX2_isAnyGreat 38 = .ok (.ireturn, 1) := by decide +kernel
theorem dX2_isAnyLetter_0 : decode cX2_isAnyLetter 0 = .ok (.iload_n 0, 1) := by decide +kernel
theorem dX2_isAnyLetter_1 : decode cX2_isAnyLetter 1 = .ok (.invokestatic 56, 3) := by decide +kernel
theorem dX2_isAnyLetter_4 : decode cX2_isAnyLetter 4 = .ok (.ifCond .ne 10, 3) := by decide +kernel
theorem dX2_isAnyLetter_7 : decode cX2_isAnyLetter 7 = .ok (.iload_n 0, 1) := by decide +kernel
theorem dX2_isAnyLetter_8 : decode cX2_isAnyLetter 8 = .ok (.invokestatic 29, 3) := by decide +kernel
theorem dX2_isAnyLetter_11 : decode cX2_isAnyLetter 11 = .ok (.ifCond .eq 5, 3) := by decide +kernel
theorem dX2_isAnyLetter_14 : decode cX2_isAnyLetter 14 = .ok (.iconst 1, 1) := by decide +kernel
theorem dX2_isAnyLetter_15 : decode cX2_isAnyLetter 15 = .ok (.ireturn, 1) := by decide +kernel
theorem dX2_isAnyLetter_16 : decode cX2_isAnyLetter 16 = .ok (.iload_n 0, 1) := by decide +kernel
theorem dX2_isAnyLetter_17 : decode cX2_isAnyLetter 17 = .ok (.sipush 170, 3) := by decide +kernel
theorem dX2_isAnyLetter_20 : decode cX2_isAnyLetter 20 = .ok (.if_icmp .eq 17, 3) := by decide +kernel
theorem dX2_isAnyLetter_23 : decode cX2_isAnyLetter 23 = .ok (.iload_n 0, 1) := by decide +kernel
theorem dX2_isAnyLetter_24 : decode cX2_isAnyLetter 24 = .ok (.sipush 181, 3) := by decide +kernel
theorem dX2_isAnyLetter_27 : decode cX2_isAnyLetter 27 = .ok (.if_icmp .eq 10, 3) := by decide +kernel
theorem dX2_isAnyLetter_30 : decode cX2_isAnyLetter 30 = .ok (.iload_n 0, 1) := by decide +kernel
theorem dX2_isAnyLetter_31 : decode cX2_isAnyLetter 31 = .ok (.sipush 186, 3) := by decide +kernel
theorem dX2_isAnyLetter_34 : decode cX2_isAnyLetter 34 = .ok (.if_icmp .ne 5, 3) := by decide +kernel
theorem dX2_isAnyLetter_37 : decode cX2_isAnyLetter 37 = .ok (.iconst 1, 1) := by decide +kernel
theorem dX2_isAnyLetter_38 : decode cX2_isAnyLetter 38 = .ok (.ireturn, 1) := by decide +kernel
theorem dX2_isAnyLetter_39 : decode cX2_isAnyLetter 39 = .ok (.iload_n 0, 1) := by decide +kernel
theorem dX2_isAnyLetter_40 : decode cX2_isAnyLetter 40 = .ok (.sipush 192, 3) := by decide +kernel
theorem dX2_isAnyLetter_43 : decode cX2_isAnyLetter 43 = .ok (.sipush 214, 3) := by decide +kernel
theorem dX2_isAnyLetter_46 : decode cX2_isAnyLetter 46 = .ok (.invokestatic 9, 3) := by decide +kernel
theorem dX2_isAnyLetter_49 : decode cX2_isAnyLetter 49 = .ok (.ifCond .ne 29, 3) := by decide +kernel
theorem dX2_isAnyLetter_52 : decode cX2_isAnyLetter 52 = .ok (.iload_n 0, 1) := by decide +kernel
theorem dX2_isAnyLetter_53 : decode cX2_isAnyLetter 53 = .ok (.sipush 216, 3) := by decide +kernel
theorem dX2_isAnyLetter_56 : decode cX2_isAnyLetter 56 = .ok (.sipush 246, 3) := by decide +kernel
theorem dX2_isAnyLetter_59 : decode cX2_isAnyLetter 59 = .ok (.invokestatic 9, 3) := by decide +kernel
theorem dX2_isAnyLetter_62 : decode cX2_isAnyLetter 62 = .ok (.ifCond .ne 16, 3) := by decide +kernel
theorem dX2_isAnyLetter_65 : decode cX2_isAnyLetter 65 = .ok (.iload_n 0, 1) := by decide +kernel
theorem dX2_isAnyLetter_66 : decode cX2_isAnyLetter 66 = .ok (.sipush 248, 3) := by decide +kernel
theorem dX2_isAnyLetter_69 : decode cX2_isAnyLetter 69 = .ok (.sipush 255, 3) := by decide +kernel
theorem dX2_isAnyLetter_72 : decode cX2_isAnyLetter 72 = .ok (.invokestatic 9, 3) := by decide +kernel
theorem dX2_isAnyLetter_75 : decode cX2_isAnyLetter 75 = .ok (.ifCond .eq 7, 3) := by decide +kernel
theorem dX2_isAnyLetter_78 : decode cX2_isAnyLetter 78 = .ok (.iconst 1, 1) := by decide +kernel
theorem dX2_isAnyLetter_79 : decode cX2_isAnyLetter 79 = .ok (.goto 4, 3) := by decide +kernel
theorem dX2_isAnyLetter_82 : decode cX2_isAnyLetter 82 = .ok (.iconst 0, 1) := by decide +kernel
theorem dX2_isAnyLetter_83 : decode cX2_isAnyLetter 83 = .ok (.ireturn, 1) := by decide +kernel
theorem dX2_isBetween_0 : decode cX2_isBetween 0 = .ok (.iload_n 0, 1) := by decide +kernel
theorem dX2_isBetween_1 : decode cX2_isBetween 1 = .ok (.iload_n 1, 1) := by decide +kernel
theorem dX2_isBetween_2 : decode cX2_isBetween 2 = .ok (.if_icmp .lt 12, 3) := by decide +kernel
theorem dX2_isBetween_5 : decode cX2_isBetween 5 = .ok (.iload_n 0, 1) := by decide +kernel
theorem dX2_isBetween_6 : decode cX2_isBetween 6 = .ok (.iload_n 2, 1) := by decide +kernel
theorem dX2_isBetween_7 : decode cX2_isBetween 7 = .ok (.if_icmp .gt 7, 3) := by decide +kernel
theorem dX2_isBetween_10 : decode cX2_isBetween 10 = .ok (.iconst 1, 1) := by decide +kernel
theorem dX2_isBetween_11 : decode cX2_isBetween 11 = .ok (.goto 4, 3) := by decide +kernel
theorem dX2_isBetween_14 : decode cX2_isBetween 14 = .ok (.iconst 0, 1) := by decide +kernel
theorem dX2_isBetween_15 : decode cX2_isBetween 15 = .ok (.ireturn, 1) := by decide +kernel
theorem dX3_init_0 : decode cX3_init 0 = .ok (.aload_n 0, 1) := by decide +kernel
theorem dX3_init_1 : decode cX3_init 1 = .ok (.invokespecial 3, 3) := by decide +kernel
theorem dX3_init_4 : decode cX3_init 4 = .ok (.aload_n 0, 1) := by decide +kernel
theorem dX3_init_5 : decode cX3_init 5 = .ok (.iconst 4, 1) := by decide +kernel
theorem dX3_init_6 : decode cX3_init 6 = .ok (.anewarray 9, 3) := by decide +kernel
theorem dX3_init_9 : decode cX3_init 9 = .ok (.putfield 11, 3) := by decide +kernel
theorem dX3_init_12 : decode cX3_init 12 = .ok (.aload_n 0, 1) := by decide +kernel
theorem dX3_init_13 : decode cX3_init 13 = .ok (.iconst 2, 1) := by decide +kernel
theorem dX3_init_14 : decode cX3_init 14 = .ok (.anewarray 9, 3) := by decide +kernel
theorem dX3_init_17 : decode cX3_init 17 = .ok (.putfield 17, 3) := by decide +kernel
theorem dX3_init_20 : decode cX3_init 20 = .ok (.iconst 0, 1) := by decide +kernel
theorem dX3_init_21 : decode cX3_init 21 = .ok (.istore_n 1, 1) := by decide +kernel
theorem dX3_init_22 : decode cX3_init 22 = .ok (.iload_n 1, 1) := by decide +kernel
theorem dX3_init_23 : decode cX3_init 23 = .ok (.iconst 4, 1) := by decide +kernel
theorem dX3_init_24 : decode cX3_init 24 = .ok (.if_icmp .ge 24, 3) := by decide +kernel
theorem dX3_init_27 : decode cX3_init 27 = .ok (.aload_n 0, 1) := by decide +kernel
theorem dX3_init_28 : decode cX3_init 28 = .ok (.getfield 11, 3) := by decide +kernel
theorem dX3_init_31 : decode cX3_init 31 = .ok (.iload_n 1, 1) := by decide +kernel
theorem dX3_init_32 : decode cX3_init 32 = .ok (.new 9, 3) := by decide +kernel
theorem dX3_init_35 : decode cX3_init 35 = .ok (.dup, 1) := by decide +kernel
theorem dX3_init_36 : decode cX3_init 36 = .ok (.bipush 40, 2) := by decide +kernel
theorem dX3_init_38 : decode cX3_init 38 = .ok (.invokespecial 20, 3) := by decide +kernel
theorem dX3_init_41 : decode cX3_init 41 = .ok (.aastore, 1) := by decide +kernel
theorem dX3_init_42 : decode cX3_init 42 = .ok (.iinc 1 1, 3) := by decide +kernel
theorem dX3_init_45 : decode cX3_init 45 = .ok (.goto (-23), 3) := by decide +kernel
theorem dX3_init_48 : decode cX3_init 48 = .ok (.iconst 0, 1) := by decide +kernel
theorem dX3_init_49 : decode cX3_init 49 = .ok (.istore_n 1, 1) := by decide +kernel
theorem dX3_init_50 : decode cX3_init 50 = .ok (.iload_n 1, 1) := by decide +kernel
theorem dX3_init_51 : decode cX3_init 51 = .ok (.iconst 2, 1) := by decide +kernel
theorem dX3_init_52 : decode cX3_init 52 = .ok (.if_icmp .ge 24, 3) := by decide +kernel
theorem dX3_init_55 : decode cX3_init 55 = .ok (.aload_n 0, 1) := by decide +kernel
theorem dX3_init_56 : decode cX3_init 56 = .ok (.getfield 17, 3) := by decide +kernel
theorem dX3_init_59 : decode cX3_init 59 = .ok (.iload_n 1, 1) := by decide +kernel
theorem dX3_init_60 : decode cX3_init 60 = .ok (.new 9, 3) := by decide +kernel
theorem dX3_init_63 : decode cX3_init 63 = .ok (.dup, 1) := by decide +kernel
theorem dX3_init_64 : decode cX3_init 64 = .ok (.bipush 24, 2) := by decide +kernel
theorem dX3_init_66 : decode cX3_init 66 = .ok (.invokespecial 20, 3) := by decide +kernel
theorem dX3_init_69 : decode cX3_init 69 = .ok (.aastore, 1) := by decide +kernel
theorem dX3_init_70 : decode cX3_init 70 = .ok (.iinc 1 1, 3) := by decide +kernel
theorem dX3_init_73 : decode cX3_init 73 = .ok (.goto (-23), 3) := by decide +kernel
theorem dX3_init_76 : decode cX3_init 76 = .ok (.return_, 1) := by decide +kernel
theorem dX3_howManySigns_0 : decode cX3_howManySigns 0 = .ok (.iconst 0, 1) := by decide +kernel
theorem dX3_howManySigns_1 : decode cX3_howManySigns 1 = .ok (.istore_n 1, 1) := by decide +kernel
theorem dX3_howManySigns_2 : decode cX3_howManySigns 2 = .ok (.iconst 0, 1) := by decide +kernel
theorem dX3_howManySigns_3 : decode cX3_howManySigns 3 = .ok (.istore_n 2, 1) := by decide +kernel
theorem dX3_howManySigns_4 : decode cX3_howManySigns 4 = .ok (.iload_n 2, 1) := by decide +kernel
theorem dX3_howManySigns_5 : decode cX3_howManySigns 5 = .ok (.iconst 4, 1) := by decide +kernel
theorem dX3_howManySigns_6 : decode cX3_howManySigns 6 = .ok (.if_icmp .ge 21, 3) := by decide +kernel
theorem dX3_howManySigns_9 : decode cX3_howManySigns 9 = .ok (.iload_n 1, 1) := by decide +kernel
theorem dX3_howManySigns_10 : decode cX3_howManySigns 10 = .ok (.aload_n 0, 1) := by decide +kernel
theorem dX3_howManySigns_11 : decode cX3_howManySigns 11 = .ok (.getfield 11, 3) := by decide +kernel
theorem dX3_howManySigns_14 : decode cX3_howManySigns 14 = .ok (.iload_n 2, 1) := by decide +kernel
theorem dX3_howManySigns_15 : decode cX3_howManySigns 15 = .ok (.aaload, 1) := by decide +kernel
theorem dX3_howManySigns_16 : decode cX3_howManySigns 16 = .ok (.invokevirtual 23, 3) := by decide +kernel
theorem dX3_howManySigns_19 : decode cX3_howManySigns 19 = .ok (.iadd, 1) := by decide +kernel
theorem dX3_howManySigns_20 : decode cX3_howManySigns 20 = .ok (.istore_n 1, 1) := by decide +kernel
theorem dX3_howManySigns_21 : decode cX3_howManySigns 21 = .ok (.iinc 2 1, 3) := by decide +kernel
theorem dX3_howManySigns_24 : decode cX3_howManySigns 24 = .ok (.goto (-20), 3) := by decide +kernel
theorem dX3_howManySigns_27 : decode cX3_howManySigns 27 = .ok (.iload_n 1, 1) := by decide +kernel
theorem dX3_howManySigns_28 : decode cX3_howManySigns 28 = .ok (.ireturn, 1) := by decide +kernel
theorem dX3_howManyUnits_0 : decode cX3_howManyUnits 0 = .ok (.iconst 0, 1) := by decide +kernel
theorem dX3_howManyUnits_1 : decode cX3_howManyUnits 1 = .ok (.istore_n 1, 1) := by decide +kernel
theorem dX3_howManyUnits_2 : decode cX3_howManyUnits 2 = .ok (.iconst 0, 1) := by decide +kernel
theorem dX3_howManyUnits_3 : decode cX3_howManyUnits 3 = .ok (.istore_n 2, 1) := by decide +kernel
theorem dX3_howManyUnits_4 : decode cX3_howManyUnits 4 = .ok (.iload_n 2, 1) := by decide +kernel
theorem dX3_howManyUnits_5 : decode cX3_howManyUnits 5 = .ok (.iconst 2, 1) := by decide +kernel
theorem dX3_howManyUnits_6 : decode cX3_howManyUnits 6 = .ok (.if_icmp .ge 21, 3) := by decide +kernel
theorem dX3_howManyUnits_9 : decode cX3_howManyUnits 9 = .ok (.iload_n 1, 1) := by decide +kernel
theorem dX3_howManyUnits_10 : decode cX3_howManyUnits 10 = .ok (.aload_n 0, 1) := by decide +kernel
theorem dX3_howManyUnits_11 : decode cX3_howManyUnits 11 = .ok (.getfield 17, 3) := by decide +kernel
theorem dX3_howManyUnits_14 : decode cX3_howManyUnits 14 = .ok (.iload_n 2, 1) := by decide +kernel
theorem dX3_howManyUnits_15 : decode cX3_howManyUnits 15 = .ok (.aaload, 1) := by decide +kernel
theorem dX3_howManyUnits_16 : decode cX3_howManyUnits 16 = .ok (.invokevirtual 23, 3) := by decide +kernel
theorem dX3_howManyUnits_19 : decode cX3_howManyUnits 19 = .ok (.iadd, 1) := by decide +kernel
theorem dX3_howManyUnits_20 : decode cX3_howManyUnits 20 = .ok (.istore_n 1, 1) := by decide +kernel
theorem dX3_howManyUnits_21 : decode cX3_howManyUnits 21 = .ok (.iinc 2 1, 3) := by decide +kernel
theorem dX3_howManyUnits_24 : decode cX3_howManyUnits 24 = .ok (.goto (-20), 3) := by decide +kernel
theorem dX3_howManyUnits_27 : decode cX3_howManyUnits 27 = .ok (.iload_n 1, 1) := by decide +kernel
theorem dX3_howManyUnits_28 : decode cX3_howManyUnits 28 = .ok (.ireturn, 1) := by decide +kernel
theorem dX3_become_0 : decode cX3_become 0 = .ok (.iconst 0, 1) := by decide +kernel
theorem dX3_become_1 : decode cX3_become 1 = .ok (.istore_n 2, 1) := by decide +kernel
theorem dX3_become_2 : decode cX3_become 2 = .ok (.iload_n 2, 1) := by decide +kernel
theorem dX3_become_3 : decode cX3_become 3 = .ok (.iconst 4, 1) := by decide +kernel
theorem dX3_become_4 : decode cX3_become 4 = .ok (.if_icmp .ge 24, 3) := by decide +kernel
theorem dX3_become_7 : decode cX3_become 7 = .ok (.aload_n 0, 1) := by decide +kernel
theorem dX3_become_8 : decode cX3_become 8 = .ok (.getfield 11, 3) := by decide +kernel
theorem dX3_become_11 : decode cX3_become 11 = .ok (.iload_n 2, 1) := by decide +kernel
theorem dX3_become_12 : decode cX3_become 12 = .ok (.aaload, 1) := by decide +kernel
theorem dX3_become_13 : decode cX3_become 13 = .ok (.aload_n 1, 1) := by decide +kernel
theorem dX3_become_14 : decode cX3_become 14 = .ok (.getfield 11, 3) := by decide +kernel
theorem dX3_become_17 : decode cX3_become 17 = .ok (.iload_n 2, 1) := by decide +kernel
theorem dX3_become_18 : decode cX3_become 18 = .ok (.aaload, 1) := by decide +kernel
theorem dX3_become_19 : decode cX3_become 19 = .ok (.invokevirtual 27, 3) := by decide +kernel
theorem dX3_become_22 : decode cX3_become 22 = .ok (.iinc 2 1, 3) := by decide +kernel
theorem dX3_become_25 : decode cX3_become 25 = .ok (.goto (-23), 3) := by decide +kernel
theorem dX3_become_28 : decode cX3_become 28 = .ok (.iconst 0, 1) := by decide +kernel
theorem dX3_become_29 : decode cX3_become 29 = .ok (.istore_n 2, 1) := by decide +kernel
theorem dX3_become_30 : decode cX3_become 30 = .ok (.iload_n 2, 1) := by decide +kernel
theorem dX3_become_31 : decode cX3_become 31 = .ok (.iconst 2, 1) := by decide +kernel
theorem dX3_become_32 : decode cX3_become 32 = .ok (.if_icmp .ge 24, 3) := by decide +kernel
theorem dX3_become_35 : decode cX3_become 35 = .ok (.aload_n 0, 1) := by decide +kernel
theorem dX3_become_36 : decode cX3_become 36 = .ok (.getfield 17, 3) := by decide +kernel
theorem dX3_become_39 : decode cX3_become 39 = .ok (.iload_n 2, 1) := by decide +kernel
theorem dX3_become_40 : decode cX3_become 40 = .ok (.aaload, 1) := by decide +kernel
theorem dX3_become_41 : decode cX3_become 41 = .ok (.aload_n 1, 1) := by decide +kernel
theorem dX3_become_42 : decode cX3_become 42 = .ok (.getfield 17, 3) := by decide +kernel
theorem dX3_become_45 : decode cX3_become 45 = .ok (.iload_n 2, 1) := by decide +kernel
theorem dX3_become_46 : decode cX3_become 46 = .ok (.aaload, 1) := by decide +kernel
theorem dX3_become_47 : decode cX3_become 47 = .ok (.invokevirtual 27, 3) := by decide +kernel
theorem dX3_become_50 : decode cX3_become 50 = .ok (.iinc 2 1, 3) := by decide +kernel
theorem dX3_become_53 : decode cX3_become 53 = .ok (.goto (-23), 3) := by decide +kernel
theorem dX3_become_56 : decode cX3_become 56 = .ok (.return_, 1) := by decide +kernel
theorem dX4_isUnit_0 : decode cX4_isUnit 0 = .ok (.iload_n 0, 1) := by decide +kernel
theorem dX4_isUnit_1 : decode cX4_isUnit 1 = .ok (.ifCond .lt 13, 3) := by decide +kernel
theorem dX4_isUnit_4 : decode cX4_isUnit 4 = .ok (.iload_n 0, 1) := by decide +kernel
theorem dX4_isUnit_5 : decode cX4_isUnit 5 = .ok (.ldc 11, 2) := by decide +kernel
theorem dX4_isUnit_7 : decode cX4_isUnit 7 = .ok (.if_icmp .ge 7, 3) := by decide +kernel
theorem dX4_isUnit_10 : decode cX4_isUnit 10 = .ok (.iconst 1, 1) := by decide +kernel
theorem dX4_isUnit_11 : decode cX4_isUnit 11 = .ok (.goto 4, 3) := by decide +kernel
theorem dX4_isUnit_14 : decode cX4_isUnit 14 = .ok (.iconst 0, 1) := by decide +kernel
theorem dX4_isUnit_15 : decode cX4_isUnit 15 = .ok (.ireturn, 1) := by decide +kernel
theorem dX4_isHigh_0 : decode cX4_isHigh 0 = .ok (.iload_n 0, 1) := by decide +kernel
theorem dX4_isHigh_1 : decode cX4_isHigh 1 = .ok (.ldc 12, 2) := by decide +kernel
theorem dX4_isHigh_3 : decode cX4_isHigh 3 = .ok (.if_icmp .lt 13, 3) := by decide +kernel
theorem dX4_isHigh_6 : decode cX4_isHigh 6 = .ok (.iload_n 0, 1) := by decide +kernel
theorem dX4_isHigh_7 : decode cX4_isHigh 7 = .ok (.ldc 13, 2) := by decide +kernel
theorem dX4_isHigh_9 : decode cX4_isHigh 9 = .ok (.if_icmp .ge 7, 3) := by decide +kernel
theorem dX4_isHigh_12 : decode cX4_isHigh 12 = .ok (.iconst 1, 1) := by decide +kernel
theorem dX4_isHigh_13 : decode cX4_isHigh 13 = .ok (.goto 4, 3) := by decide +kernel
theorem dX4_isHigh_16 : decode cX4_isHigh 16 = .ok (.iconst 0, 1) := by decide +kernel
theorem dX4_isHigh_17 : decode cX4_isHigh 17 = .ok (.ireturn, 1) := by decide +kernel
theorem dX4_isLow_0 : decode cX4_isLow 0 = .ok (.iload_n 0, 1) := by decide +kernel
theorem dX4_isLow_1 : decode cX4_isLow 1 = .ok (.ldc 13, 2) := by decide +kernel
theorem dX4_isLow_3 : decode cX4_isLow 3 = .ok (.if_icmp .lt 13, 3) := by decide +kernel
theorem dX4_isLow_6 : decode cX4_isLow 6 = .ok (.iload_n 0, 1) := by decide +kernel
theorem dX4_isLow_7 : decode cX4_isLow 7 = .ok (.ldc 14, 2) := by decide +kernel
theorem dX4_isLow_9 : decode cX4_isLow 9 = .ok (.if_icmp .ge 7, 3) := by decide +kernel
theorem dX4_isLow_12 : decode cX4_isLow 12 = .ok (.iconst 1, 1) := by decide +kernel
theorem dX4_isLow_13 : decode cX4_isLow 13 = .ok (.goto 4, 3) := by decide +kernel
theorem dX4_isLow_16 : decode cX4_isLow 16 = .ok (.iconst 0, 1) := by decide +kernel
theorem dX4_isLow_17 : decode cX4_isLow 17 = .ok (.ireturn, 1) := by decide +kernel
theorem dX4_isHalf_0 : decode cX4_isHalf 0 = .ok (.iload_n 0, 1) := by decide +kernel
theorem dX4_isHalf_1 : decode cX4_isHalf 1 = .ok (.invokestatic 15, 3) := by decide +kernel
theorem dX4_isHalf_4 : decode cX4_isHalf 4 = .ok (.ifCond .ne 10, 3) := by decide +kernel
theorem dX4_isHalf_7 : decode cX4_isHalf 7 = .ok (.iload_n 0, 1) := by decide +kernel
theorem dX4_isHalf_8 : decode cX4_isHalf 8 = .ok (.invokestatic 19, 3) := by decide +kernel
theorem dX4_isHalf_11 : decode cX4_isHalf 11 = .ok (.ifCond .eq 7, 3) := by decide +kernel
theorem dX4_isHalf_14 : decode cX4_isHalf 14 = .ok (.iconst 1, 1) := by decide +kernel
theorem dX4_isHalf_15 : decode cX4_isHalf 15 = .ok (.goto 4, 3) := by decide +kernel
theorem dX4_isHalf_18 : decode cX4_isHalf 18 = .ok (.iconst 0, 1) := by decide +kernel
theorem dX4_isHalf_19 : decode cX4_isHalf 19 = .ok (.ireturn, 1) := by decide +kernel
theorem dX4_isAnyCode_0 : decode cX4_isAnyCode 0 = .ok (.iload_n 0, 1) := by decide +kernel
theorem dX4_isAnyCode_1 : decode cX4_isAnyCode 1 = .ok (.ifCond .lt 13, 3) := by decide +kernel
theorem dX4_isAnyCode_4 : decode cX4_isAnyCode 4 = .ok (.iload_n 0, 1) := by decide +kernel
theorem dX4_isAnyCode_5 : decode cX4_isAnyCode 5 = .ok (.ldc 22, 2) := by decide +kernel
theorem dX4_isAnyCode_7 : decode cX4_isAnyCode 7 = .ok (.if_icmp .gt 7, 3) := by decide +kernel
theorem dX4_isAnyCode_10 : decode cX4_isAnyCode 10 = .ok (.iconst 1, 1) := by decide +kernel
theorem dX4_isAnyCode_11 : decode cX4_isAnyCode 11 = .ok (.goto 4, 3) := by decide +kernel
theorem dX4_isAnyCode_14 : decode cX4_isAnyCode 14 = .ok (.iconst 0, 1) := by decide +kernel
theorem dX4_isAnyCode_15 : decode cX4_isAnyCode 15 = .ok (.ireturn, 1) := by decide +kernel
theorem dX4_isWideCode_0 : decode cX4_isWideCode 0 = .ok (.iload_n 0, 1) := by decide +kernel
theorem dX4_isWideCode_1 : decode cX4_isWideCode 1 = .ok (.ldc 11, 2) := by decide +kernel
theorem dX4_isWideCode_3 : decode cX4_isWideCode 3 = .ok (.if_icmp .lt 13, 3) := by decide +kernel
theorem dX4_isWideCode_6 : decode cX4_isWideCode 6 = .ok (.iload_n 0, 1) := by decide +kernel
theorem dX4_isWideCode_7 : decode cX4_isWideCode 7 = .ok (.ldc 22, 2) := by decide +kernel
theorem dX4_isWideCode_9 : decode cX4_isWideCode 9 = .ok (.if_icmp .gt 7, 3) := by decide +kernel
theorem dX4_isWideCode_12 : decode cX4_isWideCode 12 = .ok (.iconst 1, 1) := by decide +kernel
theorem dX4_isWideCode_13 : decode cX4_isWideCode 13 = .ok (.goto 4, 3) := by decide +kernel
theorem dX4_isWideCode_16 : decode cX4_isWideCode 16 = .ok (.iconst 0, 1) := by decide +kernel
theorem dX4_isWideCode_17 : decode cX4_isWideCode 17 = .ok (.ireturn, 1) := by decide +kernel
theorem dX4_unitsOf_0 : decode cX4_unitsOf 0 = .ok (.iload_n 0, 1) := by decide +kernel
theorem dX4_unitsOf_1 : decode cX4_unitsOf 1 = .ok (.ldc 11, 2) := by decide +kernel
theorem dX4_unitsOf_3 : decode cX4_unitsOf 3 = .ok (.if_icmp .lt 7, 3) := by decide +kernel
theorem dX4_unitsOf_6 : decode cX4_unitsOf 6 = .ok (.iconst 2, 1) := by decide +kernel
theorem dX4_unitsOf_7 : decode cX4_unitsOf 7 = .ok (.goto 4, 3) := by decide +kernel
theorem dX4_unitsOf_10 : decode cX4_unitsOf 10 = .ok (.iconst 1, 1) := by decide +kernel
theorem dX4_unitsOf_11 : decode cX4_unitsOf 11 = .ok (.ireturn, 1) := by decide +kernel
theorem dX4_highOf_0 : decode cX4_highOf 0 = .ok (.ldc 12, 2) := by decide +kernel
theorem dX4_highOf_2 : decode cX4_highOf 2 = .ok (.iload_n 0, 1) := by decide +kernel
theorem dX4_highOf_3 : decode cX4_highOf 3 = .ok (.ldc 11, 2) := by decide +kernel
theorem dX4_highOf_5 : decode cX4_highOf 5 = .ok (.isub, 1) := by decide +kernel
theorem dX4_highOf_6 : decode cX4_highOf 6 = .ok (.sipush 1024, 3) := by decide +kernel
theorem dX4_highOf_9 : decode cX4_highOf 9 = .ok (.idiv, 1) := by decide +kernel
theorem dX4_highOf_10 : decode cX4_highOf 10 = .ok (.iadd, 1) := by decide +kernel
theorem dX4_highOf_11 : decode cX4_highOf 11 = .ok (.ireturn, 1) := by decide +kernel
theorem dX4_lowOf_0 : decode cX4_lowOf 0 = .ok (.ldc 13, 2) := by decide +kernel
theorem dX4_lowOf_2 : decode cX4_lowOf 2 = .ok (.iload_n 0, 1) := by decide +kernel
theorem dX4_lowOf_3 : decode cX4_lowOf 3 = .ok (.ldc 11, 2) := by decide +kernel
theorem dX4_lowOf_5 : decode cX4_lowOf 5 = .ok (.isub, 1) := by decide +kernel
theorem dX4_lowOf_6 : decode cX4_lowOf 6 = .ok (.sipush 1024, 3) := by decide +kernel
theorem dX4_lowOf_9 : decode cX4_lowOf 9 = .ok (.irem, 1) := by decide +kernel
theorem dX4_lowOf_10 : decode cX4_lowOf 10 = .ok (.iadd, 1) := by decide +kernel
theorem dX4_lowOf_11 : decode cX4_lowOf 11 = .ok (.ireturn, 1) := by decide +kernel
theorem dX4_codeOf_0 : decode cX4_codeOf 0 = .ok (.ldc 11, 2) := by decide +kernel
theorem dX4_codeOf_2 : decode cX4_codeOf 2 = .ok (.iload_n 0, 1) := by decide +kernel
theorem dX4_codeOf_3 : decode cX4_codeOf 3 = .ok (.ldc 12, 2) := by decide +kernel
theorem dX4_codeOf_5 : decode cX4_codeOf 5 = .ok (.isub, 1) := by decide +kernel
theorem dX4_codeOf_6 : decode cX4_codeOf 6 = .ok (.sipush 1024, 3) := by decide +kernel
theorem dX4_codeOf_9 : decode cX4_codeOf 9 = .ok (.imul, 1) := by decide +kernel
theorem dX4_codeOf_10 : decode cX4_codeOf 10 = .ok (.iadd, 1) := by decide +kernel
theorem dX4_codeOf_11 : decode cX4_codeOf 11 = .ok (.iload_n 1, 1) := by decide +kernel
theorem dX4_codeOf_12 : decode cX4_codeOf 12 = .ok (.ldc 13, 2) := by decide +kernel
theorem dX4_codeOf_14 : decode cX4_codeOf 14 = .ok (.isub, 1) := by decide +kernel
theorem dX4_codeOf_15 : decode cX4_codeOf 15 = .ok (.iadd, 1) := by decide +kernel
theorem dX4_codeOf_16 : decode cX4_codeOf 16 = .ok (.ireturn, 1) := by decide +kernel
theorem dX4_turned_0 : decode cX4_turned 0 = .ok (.iload_n 0, 1) := by decide +kernel
theorem dX4_turned_1 : decode cX4_turned 1 = .ok (.sipush 256, 3) := by decide +kernel
theorem dX4_turned_4 : decode cX4_turned 4 = .ok (.irem, 1) := by decide +kernel
theorem dX4_turned_5 : decode cX4_turned 5 = .ok (.sipush 256, 3) := by decide +kernel
theorem dX4_turned_8 : decode cX4_turned 8 = .ok (.imul, 1) := by decide +kernel
theorem dX4_turned_9 : decode cX4_turned 9 = .ok (.iload_n 0, 1) := by decide +kernel
theorem dX4_turned_10 : decode cX4_turned 10 = .ok (.sipush 256, 3) := by decide +kernel
theorem dX4_turned_13 : decode cX4_turned 13 = .ok (.idiv, 1) := by decide +kernel
theorem dX4_turned_14 : decode cX4_turned 14 = .ok (.iadd, 1) := by decide +kernel
theorem dX4_turned_15 : decode cX4_turned 15 = .ok (.ireturn, 1) := by decide +kernel
theorem dX4_addCode_0 : decode cX4_addCode 0 = .ok (.iload_n 1, 1) := by decide +kernel
theorem dX4_addCode_1 : decode cX4_addCode 1 = .ok (.invokestatic 23, 3) := by decide +kernel
theorem dX4_addCode_4 : decode cX4_addCode 4 = .ok (.ifCond .eq 22, 3) := by decide +kernel
theorem dX4_addCode_7 : decode cX4_addCode 7 = .ok (.aload_n 0, 1) := by decide +kernel
theorem dX4_addCode_8 : decode cX4_addCode 8 = .ok (.iload_n 1, 1) := by decide +kernel
theorem dX4_addCode_9 : decode cX4_addCode 9 = .ok (.invokestatic 26, 3) := by decide +kernel
theorem dX4_addCode_12 : decode cX4_addCode 12 = .ok (.invokevirtual 30, 3) := by decide +kernel
theorem dX4_addCode_15 : decode cX4_addCode 15 = .ok (.aload_n 0, 1) := by decide +kernel
theorem dX4_addCode_16 : decode cX4_addCode 16 = .ok (.iload_n 1, 1) := by decide +kernel
theorem dX4_addCode_17 : decode cX4_addCode 17 = .ok (.invokestatic 36, 3) := by decide +kernel
theorem dX4_addCode_20 : decode cX4_addCode 20 = .ok (.invokevirtual 30, 3) := by decide +kernel
theorem dX4_addCode_23 : decode cX4_addCode 23 = .ok (.goto 8, 3) := by decide +kernel
theorem dX4_addCode_26 : decode cX4_addCode 26 = .ok (.aload_n 0, 1) := by decide +kernel
theorem dX4_addCode_27 : decode cX4_addCode 27 = .ok (.iload_n 1, 1) := by decide +kernel
theorem dX4_addCode_28 : decode cX4_addCode 28 = .ok (.invokevirtual 30, 3) := by decide +kernel
theorem dX4_addCode_31 : decode cX4_addCode 31 = .ok (.return_, 1) := by decide +kernel
theorem dX4_codeFrom_0 : decode cX4_codeFrom 0 = .ok (.aload_n 0, 1) := by decide +kernel
theorem dX4_codeFrom_1 : decode cX4_codeFrom 1 = .ok (.iload_n 1, 1) := by decide +kernel
theorem dX4_codeFrom_2 : decode cX4_codeFrom 2 = .ok (.invokevirtual 39, 3) := by decide +kernel
theorem dX4_codeFrom_5 : decode cX4_codeFrom 5 = .ok (.istore_n 2, 1) := by decide +kernel
theorem dX4_codeFrom_6 : decode cX4_codeFrom 6 = .ok (.iload_n 2, 1) := by decide +kernel
theorem dX4_codeFrom_7 : decode cX4_codeFrom 7 = .ok (.invokestatic 15, 3) := by decide +kernel
theorem dX4_codeFrom_10 : decode cX4_codeFrom 10 = .ok (.ifCond .eq 28, 3) := by decide +kernel
theorem dX4_codeFrom_13 : decode cX4_codeFrom 13 = .ok (.aload_n 0, 1) := by decide +kernel
theorem dX4_codeFrom_14 : decode cX4_codeFrom 14 = .ok (.iload_n 1, 1) := by decide +kernel
theorem dX4_codeFrom_15 : decode cX4_codeFrom 15 = .ok (.iconst 1, 1) := by decide +kernel
theorem dX4_codeFrom_16 : decode cX4_codeFrom 16 = .ok (.iadd, 1) := by decide +kernel
theorem dX4_codeFrom_17 : decode cX4_codeFrom 17 = .ok (.invokevirtual 39, 3) := by decide +kernel
theorem dX4_codeFrom_20 : decode cX4_codeFrom 20 = .ok (.invokestatic 19, 3) := by decide +kernel
theorem dX4_codeFrom_23 : decode cX4_codeFrom 23 = .ok (.ifCond .eq 15, 3) := by decide +kernel
theorem dX4_codeFrom_26 : decode cX4_codeFrom 26 = .ok (.iload_n 2, 1) := by decide +kernel
theorem dX4_codeFrom_27 : decode cX4_codeFrom 27 = .ok (.aload_n 0, 1) := by decide +kernel
theorem dX4_codeFrom_28 : decode cX4_codeFrom 28 = .ok (.iload_n 1, 1) := by decide +kernel
theorem dX4_codeFrom_29 : decode cX4_codeFrom 29 = .ok (.iconst 1, 1) := by decide +kernel
theorem dX4_codeFrom_30 : decode cX4_codeFrom 30 = .ok (.iadd, 1) := by decide +kernel
theorem dX4_codeFrom_31 : decode cX4_codeFrom 31 = .ok (.invokevirtual 39, 3) := by decide +kernel
theorem dX4_codeFrom_34 : decode cX4_codeFrom 34 = .ok (.invokestatic 42, 3) := by decide +kernel
theorem dX4_codeFrom_37 : decode cX4_codeFrom 37 = .ok (.ireturn, 1) := by decide +kernel
theorem dX4_codeFrom_38 : decode cX4_codeFrom 38 = .ok (.iload_n 2, 1) := by decide +kernel
theorem dX4_codeFrom_39 : decode cX4_codeFrom 39 = .ok (.ireturn, 1) := by decide +kernel
theorem dX4_isCodeBegin_0 : decode cX4_isCodeBegin 0 = .ok (.iload_n 1, 1) := by decide +kernel
theorem dX4_isCodeBegin_1 : decode cX4_isCodeBegin 1 = .ok (.ifCond .eq 27, 3) := by decide +kernel
theorem dX4_isCodeBegin_4 : decode cX4_isCodeBegin 4 = .ok (.aload_n 0, 1) := by decide +kernel
theorem dX4_isCodeBegin_5 : decode cX4_isCodeBegin 5 = .ok (.iload_n 1, 1) := by decide +kernel
theorem dX4_isCodeBegin_6 : decode cX4_isCodeBegin 6 = .ok (.invokevirtual 39, 3) := by decide +kernel
theorem dX4_isCodeBegin_9 : decode cX4_isCodeBegin 9 = .ok (.invokestatic 19, 3) := by decide +kernel
theorem dX4_isCodeBegin_12 : decode cX4_isCodeBegin 12 = .ok (.ifCond .eq 16, 3) := by decide +kernel
theorem dX4_isCodeBegin_15 : decode cX4_isCodeBegin 15 = .ok (.aload_n 0, 1) := by decide +kernel
theorem dX4_isCodeBegin_16 : decode cX4_isCodeBegin 16 = .ok (.iload_n 1, 1) := by decide +kernel
theorem dX4_isCodeBegin_17 : decode cX4_isCodeBegin 17 = .ok (.iconst 1, 1) := by decide +kernel
theorem dX4_isCodeBegin_18 : decode cX4_isCodeBegin 18 = .ok (.isub, 1) := by decide +kernel
theorem dX4_isCodeBegin_19 : decode cX4_isCodeBegin 19 = .ok (.invokevirtual 39, 3) := by decide +kernel
theorem dX4_isCodeBegin_22 : decode cX4_isCodeBegin 22 = .ok (.invokestatic 15, 3) := by decide +kernel
theorem dX4_isCodeBegin_25 : decode cX4_isCodeBegin 25 = .ok (.ifCond .ne 7, 3) := by decide +kernel
theorem dX4_isCodeBegin_28 : decode cX4_isCodeBegin 28 = .ok (.iconst 1, 1) := by decide +kernel
theorem dX4_isCodeBegin_29 : decode cX4_isCodeBegin 29 = .ok (.goto 4, 3) := by decide +kernel
theorem dX4_isCodeBegin_32 : decode cX4_isCodeBegin 32 = .ok (.iconst 0, 1) := by decide +kernel
theorem dX4_isCodeBegin_33 : decode cX4_isCodeBegin 33 = .ok (.ireturn, 1) := by decide +kernel
theorem dX4_codeBegin_0 : decode cX4_codeBegin 0 = .ok (.iconst 0, 1) := by decide +kernel
theorem dX4_codeBegin_1 : decode cX4_codeBegin 1 = .ok (.istore_n 2, 1) := by decide +kernel
theorem dX4_codeBegin_2 : decode cX4_codeBegin 2 = .ok (.iconst 0, 1) := by decide +kernel
theorem dX4_codeBegin_3 : decode cX4_codeBegin 3 = .ok (.istore_n 3, 1) := by decide +kernel
theorem dX4_codeBegin_4 : decode cX4_codeBegin 4 = .ok (.iload_n 3, 1) := by decide +kernel
theorem dX4_codeBegin_5 : decode cX4_codeBegin 5 = .ok (.aload_n 0, 1) := by decide +kernel
theorem dX4_codeBegin_6 : decode cX4_codeBegin 6 = .ok (.invokevirtual 46, 3) := by decide +kernel
theorem dX4_codeBegin_9 : decode cX4_codeBegin 9 = .ok (.if_icmp .ge 27, 3) := by decide +kernel
theorem dX4_codeBegin_12 : decode cX4_codeBegin 12 = .ok (.aload_n 0, 1) := by decide +kernel
theorem dX4_codeBegin_13 : decode cX4_codeBegin 13 = .ok (.iload_n 3, 1) := by decide +kernel
theorem dX4_codeBegin_14 : decode cX4_codeBegin 14 = .ok (.invokestatic 50, 3) := by decide +kernel
theorem dX4_codeBegin_17 : decode cX4_codeBegin 17 = .ok (.ifCond .eq 13, 3) := by decide +kernel
theorem dX4_codeBegin_20 : decode cX4_codeBegin 20 = .ok (.iload_n 2, 1) := by decide +kernel
theorem dX4_codeBegin_21 : decode cX4_codeBegin 21 = .ok (.iload_n 1, 1) := by decide +kernel
theorem dX4_codeBegin_22 : decode cX4_codeBegin 22 = .ok (.if_icmp .ne 5, 3) := by decide +kernel
theorem dX4_codeBegin_25 : decode cX4_codeBegin 25 = .ok (.iload_n 3, 1) := by decide +kernel
theorem dX4_codeBegin_26 : decode cX4_codeBegin 26 = .ok (.ireturn, 1) := by decide +kernel
theorem dX4_codeBegin_27 : decode cX4_codeBegin 27 = .ok (.iinc 2 1, 3) := by decide +kernel
theorem dX4_codeBegin_30 : decode cX4_codeBegin 30 = .ok (.iinc 3 1, 3) := by decide +kernel
theorem dX4_codeBegin_33 : decode cX4_codeBegin 33 = .ok (.goto (-29), 3) := by decide +kernel
theorem dX4_codeBegin_36 : decode cX4_codeBegin 36 = .ok (.iconst (-1), 1) := by decide +kernel
theorem dX4_codeBegin_37 : decode cX4_codeBegin 37 = .ok (.ireturn, 1) := by decide +kernel
theorem dX4_listCodes_0 : decode cX4_listCodes 0 = .ok (.aload_n 1, 1) := by decide +kernel
theorem dX4_listCodes_1 : decode cX4_listCodes 1 = .ok (.invokevirtual 54, 3) := by decide +kernel
theorem dX4_listCodes_4 : decode cX4_listCodes 4 = .ok (.iconst 0, 1) := by decide +kernel
theorem dX4_listCodes_5 : decode cX4_listCodes 5 = .ok (.istore_n 2, 1) := by decide +kernel
theorem dX4_listCodes_6 : decode cX4_listCodes 6 = .ok (.iload_n 2, 1) := by decide +kernel
theorem dX4_listCodes_7 : decode cX4_listCodes 7 = .ok (.aload_n 0, 1) := by decide +kernel
theorem dX4_listCodes_8 : decode cX4_listCodes 8 = .ok (.invokevirtual 46, 3) := by decide +kernel
theorem dX4_listCodes_11 : decode cX4_listCodes 11 = .ok (.if_icmp .ge 26, 3) := by decide +kernel
theorem dX4_listCodes_14 : decode cX4_listCodes 14 = .ok (.aload_n 0, 1) := by decide +kernel
theorem dX4_listCodes_15 : decode cX4_listCodes 15 = .ok (.iload_n 2, 1) := by decide +kernel
theorem dX4_listCodes_16 : decode cX4_listCodes 16 = .ok (.invokestatic 50, 3) := by decide +kernel
theorem dX4_listCodes_19 : decode cX4_listCodes 19 = .ok (.ifCond .eq 12, 3) := by decide +kernel
theorem dX4_listCodes_22 : decode cX4_listCodes 22 = .ok (.aload_n 1, 1) := by decide +kernel
theorem dX4_listCodes_23 : decode cX4_listCodes 23 = .ok (.aload_n 0, 1) := by decide +kernel
theorem dX4_listCodes_24 : decode cX4_listCodes 24 = .ok (.iload_n 2, 1) := by decide +kernel
theorem dX4_listCodes_25 : decode cX4_listCodes 25 = .ok (.invokestatic 57, 3) := by decide +kernel
theorem dX4_listCodes_28 : decode cX4_listCodes 28 = .ok (.invokevirtual 30, 3) := by decide +kernel
theorem dX4_listCodes_31 : decode cX4_listCodes 31 = .ok (.iinc 2 1, 3) := by decide +kernel
theorem dX4_listCodes_34 : decode cX4_listCodes 34 = .ok (.goto (-28), 3) := by decide +kernel
theorem dX4_listCodes_37 : decode cX4_listCodes 37 = .ok (.return_, 1) := by decide +kernel
theorem dX4_howMany_0 : decode cX4_howMany 0 = .ok (.iload_n 1, 1) := by decide +kernel
theorem dX4_howMany_1 : decode cX4_howMany 1 = .ok (.ifCond .ne 8, 3) := by decide +kernel
theorem dX4_howMany_4 : decode cX4_howMany 4 = .ok (.aload_n 0, 1) := by decide +kernel
theorem dX4_howMany_5 : decode cX4_howMany 5 = .ok (.invokevirtual 46, 3) := by decide +kernel
theorem dX4_howMany_8 : decode cX4_howMany 8 = .ok (.ireturn, 1) := by decide +kernel
theorem dX4_howMany_9 : decode cX4_howMany 9 = .ok (.iconst 0, 1) := by decide +kernel
theorem dX4_howMany_10 : decode cX4_howMany 10 = .ok (.istore_n 2, 1) := by decide +kernel
theorem dX4_howMany_11 : decode cX4_howMany 11 = .ok (.iconst 0, 1) := by decide +kernel
theorem dX4_howMany_12 : decode cX4_howMany 12 = .ok (.istore_n 3, 1) := by decide +kernel
theorem dX4_howMany_13 : decode cX4_howMany 13 = .ok (.iload_n 3, 1) := by decide +kernel
theorem dX4_howMany_14 : decode cX4_howMany 14 = .ok (.aload_n 0, 1) := by decide +kernel
theorem dX4_howMany_15 : decode cX4_howMany 15 = .ok (.invokevirtual 46, 3) := by decide +kernel
theorem dX4_howMany_18 : decode cX4_howMany 18 = .ok (.if_icmp .ge 32, 3) := by decide +kernel
theorem dX4_howMany_21 : decode cX4_howMany 21 = .ok (.aload_n 0, 1) := by decide +kernel
theorem dX4_howMany_22 : decode cX4_howMany 22 = .ok (.iload_n 3, 1) := by decide +kernel
theorem dX4_howMany_23 : decode cX4_howMany 23 = .ok (.invokestatic 50, 3) := by decide +kernel
theorem dX4_howMany_26 : decode cX4_howMany 26 = .ok (.ifCond .eq 18, 3) := by decide +kernel
theorem dX4_howMany_29 : decode cX4_howMany 29 = .ok (.aload_n 0, 1) := by decide +kernel
theorem dX4_howMany_30 : decode cX4_howMany 30 = .ok (.iload_n 3, 1) := by decide +kernel
theorem dX4_howMany_31 : decode cX4_howMany 31 = .ok (.invokestatic 57, 3) := by decide +kernel
theorem dX4_howMany_34 : decode cX4_howMany 34 = .ok (.iload_n 1, 1) := by decide +kernel
theorem dX4_howMany_35 : decode cX4_howMany 35 = .ok (.invokestatic 61, 3) := by decide +kernel
theorem dX4_howMany_38 : decode cX4_howMany 38 = .ok (.ifCond .eq 6, 3) := by decide +kernel
theorem dX4_howMany_41 : decode cX4_howMany 41 = .ok (.iinc 2 1, 3) := by decide +kernel
theorem dX4_howMany_44 : decode cX4_howMany 44 = .ok (.iinc 3 1, 3) := by decide +kernel
theorem dX4_howMany_47 : decode cX4_howMany 47 = .ok (.goto (-34), 3) := by decide +kernel
theorem dX4_howMany_50 : decode cX4_howMany 50 = .ok (.iload_n 2, 1) := by decide +kernel
theorem dX4_howMany_51 : decode cX4_howMany 51 = .ok (.ireturn, 1) := by decide +kernel
theorem dX4_isCounted_0 : decode cX4_isCounted 0 = .ok (.iload_n 1, 1) := by decide +kernel
theorem dX4_isCounted_1 : decode cX4_isCounted 1 = .ok (.tableswitch 39 1 3 #[27, 29, 34], 27) := by decide +kernel
theorem dX4_isCounted_28 : decode cX4_isCounted 28 = .ok (.iconst 1, 1) := by decide +kernel
theorem dX4_isCounted_29 : decode cX4_isCounted 29 = .ok (.ireturn, 1) := by decide +kernel
theorem dX4_isCounted_30 : decode cX4_isCounted 30 = .ok (.iload_n 0, 1) := by decide +kernel
theorem dX4_isCounted_31 : decode cX4_isCounted 31 = .ok (.invokestatic 23, 3) := by decide +kernel
theorem dX4_isCounted_34 : decode cX4_isCounted 34 = .ok (.ireturn, 1) := by decide +kernel
theorem dX4_isCounted_35 : decode cX4_isCounted 35 = .ok (.iload_n 0, 1) := by decide +kernel
theorem dX4_isCounted_36 : decode cX4_isCounted 36 = .ok (.invokestatic 65, 3) := by decide +kernel
theorem dX4_isCounted_39 : decode cX4_isCounted 39 = .ok (.ireturn, 1) := by decide +kernel
theorem dX4_isCounted_40 : decode cX4_isCounted 40 = .ok (.iconst 0, 1) := by decide +kernel
theorem dX4_isCounted_41 : decode cX4_isCounted 41 = .ok (.ireturn, 1) := by decide +kernel
theorem dX4_areSentAgain_0 : decode cX4_areSentAgain 0 = .ok (.iconst 0, 1) := by decide +kernel
theorem dX4_areSentAgain_1 : decode cX4_areSentAgain 1 = .ok (.istore_n 1, 1) := by decide +kernel
theorem dX4_areSentAgain_2 : decode cX4_areSentAgain 2 = .ok (.iconst 0, 1) := by decide +kernel
theorem dX4_areSentAgain_3 : decode cX4_areSentAgain 3 = .ok (.istore_n 2, 1) := by decide +kernel
theorem dX4_areSentAgain_4 : decode cX4_areSentAgain 4 = .ok (.iload_n 2, 1) := by decide +kernel
theorem dX4_areSentAgain_5 : decode cX4_areSentAgain 5 = .ok (.aload_n 0, 1) := by decide +kernel
theorem dX4_areSentAgain_6 : decode cX4_areSentAgain 6 = .ok (.invokevirtual 46, 3) := by decide +kernel
theorem dX4_areSentAgain_9 : decode cX4_areSentAgain 9 = .ok (.if_icmp .ge 41, 3) := by decide +kernel
theorem dX4_areSentAgain_12 : decode cX4_areSentAgain 12 = .ok (.aload_n 0, 1) := by decide +kernel
theorem dX4_areSentAgain_13 : decode cX4_areSentAgain 13 = .ok (.iload_n 2, 1) := by decide +kernel
theorem dX4_areSentAgain_14 : decode cX4_areSentAgain 14 = .ok (.invokestatic 50, 3) := by decide +kernel
theorem dX4_areSentAgain_17 : decode cX4_areSentAgain 17 = .ok (.ifCond .eq 27, 3) := by decide +kernel
theorem dX4_areSentAgain_20 : decode cX4_areSentAgain 20 = .ok (.aload_n 0, 1) := by decide +kernel
theorem dX4_areSentAgain_21 : decode cX4_areSentAgain 21 = .ok (.iload_n 2, 1) := by decide +kernel
theorem dX4_areSentAgain_22 : decode cX4_areSentAgain 22 = .ok (.invokestatic 57, 3) := by decide +kernel
theorem dX4_areSentAgain_25 : decode cX4_areSentAgain 25 = .ok (.istore_n 3, 1) := by decide +kernel
theorem dX4_areSentAgain_26 : decode cX4_areSentAgain 26 = .ok (.aload_n 0, 1) := by decide +kernel
theorem dX4_areSentAgain_27 : decode cX4_areSentAgain 27 = .ok (.iload_n 1, 1) := by decide +kernel
theorem dX4_areSentAgain_28 : decode cX4_areSentAgain 28 = .ok (.iload_n 3, 1) := by decide +kernel
theorem dX4_areSentAgain_29 : decode cX4_areSentAgain 29 = .ok (.invokestatic 68, 3) := by decide +kernel
theorem dX4_areSentAgain_32 : decode cX4_areSentAgain 32 = .ok (.ifCond .ne 5, 3) := by decide +kernel
theorem dX4_areSentAgain_35 : decode cX4_areSentAgain 35 = .ok (.iconst 0, 1) := by decide +kernel
theorem dX4_areSentAgain_36 : decode cX4_areSentAgain 36 = .ok (.ireturn, 1) := by decide +kernel
theorem dX4_areSentAgain_37 : decode cX4_areSentAgain 37 = .ok (.iload_n 1, 1) := by decide +kernel
theorem dX4_areSentAgain_38 : decode cX4_areSentAgain 38 = .ok (.iload_n 3, 1) := by decide +kernel
theorem dX4_areSentAgain_39 : decode cX4_areSentAgain 39 = .ok (.invokestatic 72, 3) := by decide +kernel
theorem dX4_areSentAgain_42 : decode cX4_areSentAgain 42 = .ok (.iadd, 1) := by decide +kernel
theorem dX4_areSentAgain_43 : decode cX4_areSentAgain 43 = .ok (.istore_n 1, 1) := by decide +kernel
theorem dX4_areSentAgain_44 : decode cX4_areSentAgain 44 = .ok (.iinc 2 1, 3) := by decide +kernel
theorem dX4_areSentAgain_47 : decode cX4_areSentAgain 47 = .ok (.goto (-43), 3) := by decide +kernel
theorem dX4_areSentAgain_50 : decode cX4_areSentAgain 50 = .ok (.iload_n 1, 1) := by decide +kernel
theorem dX4_areSentAgain_51 : decode cX4_areSentAgain 51 = .ok (.aload_n 0, 1) := by decide +kernel
theorem dX4_areSentAgain_52 : decode cX4_areSentAgain 52 = .ok (.invokevirtual 46, 3) := by decide +kernel
theorem dX4_areSentAgain_55 : decode cX4_areSentAgain 55 = .ok (.if_icmp .ne 7, 3) := by decide +kernel
theorem dX4_areSentAgain_58 : decode cX4_areSentAgain 58 = .ok (.iconst 1, 1) := by decide +kernel
theorem dX4_areSentAgain_59 : decode cX4_areSentAgain 59 = .ok (.goto 4, 3) := by decide +kernel
theorem dX4_areSentAgain_62 : decode cX4_areSentAgain 62 = .ok (.iconst 0, 1) := by decide +kernel
theorem dX4_areSentAgain_63 : decode cX4_areSentAgain 63 = .ok (.ireturn, 1) := by decide +kernel
theorem dX4_standsAt_0 : decode cX4_standsAt 0 = .ok (.iload_n 2, 1) := by decide +kernel
theorem dX4_standsAt_1 : decode cX4_standsAt 1 = .ok (.invokestatic 23, 3) := by decide +kernel
theorem dX4_standsAt_4 : decode cX4_standsAt 4 = .ok (.ifCond .ne 18, 3) := by decide +kernel
theorem dX4_standsAt_7 : decode cX4_standsAt 7 = .ok (.aload_n 0, 1) := by decide +kernel
theorem dX4_standsAt_8 : decode cX4_standsAt 8 = .ok (.iload_n 1, 1) := by decide +kernel
theorem dX4_standsAt_9 : decode cX4_standsAt 9 = .ok (.invokevirtual 39, 3) := by decide +kernel
theorem dX4_standsAt_12 : decode cX4_standsAt 12 = .ok (.iload_n 2, 1) := by decide +kernel
theorem dX4_standsAt_13 : decode cX4_standsAt 13 = .ok (.if_icmp .ne 7, 3) := by decide +kernel
theorem dX4_standsAt_16 : decode cX4_standsAt 16 = .ok (.iconst 1, 1) := by decide +kernel
theorem dX4_standsAt_17 : decode cX4_standsAt 17 = .ok (.goto 4, 3) := by decide +kernel
theorem dX4_standsAt_20 : decode cX4_standsAt 20 = .ok (.iconst 0, 1) := by decide +kernel
theorem dX4_standsAt_21 : decode cX4_standsAt 21 = .ok (.ireturn, 1) := by decide +kernel
theorem dX4_standsAt_22 : decode cX4_standsAt 22 = .ok (.aload_n 0, 1) := by decide +kernel
theorem dX4_standsAt_23 : decode cX4_standsAt 23 = .ok (.iload_n 1, 1) := by decide +kernel
theorem dX4_standsAt_24 : decode cX4_standsAt 24 = .ok (.invokevirtual 39, 3) := by decide +kernel
theorem dX4_standsAt_27 : decode cX4_standsAt 27 = .ok (.iload_n 2, 1) := by decide +kernel
theorem dX4_standsAt_28 : decode cX4_standsAt 28 = .ok (.invokestatic 26, 3) := by decide +kernel
theorem dX4_standsAt_31 : decode cX4_standsAt 31 = .ok (.if_icmp .ne 21, 3) := by decide +kernel
theorem dX4_standsAt_34 : decode cX4_standsAt 34 = .ok (.aload_n 0, 1) := by decide +kernel
theorem dX4_standsAt_35 : decode cX4_standsAt 35 = .ok (.iload_n 1, 1) := by decide +kernel
theorem dX4_standsAt_36 : decode cX4_standsAt 36 = .ok (.iconst 1, 1) := by decide +kernel
theorem dX4_standsAt_37 : decode cX4_standsAt 37 = .ok (.iadd, 1) := by decide +kernel
theorem dX4_standsAt_38 : decode cX4_standsAt 38 = .ok (.invokevirtual 39, 3) := by decide +kernel
theorem dX4_standsAt_41 : decode cX4_standsAt 41 = .ok (.iload_n 2, 1) := by decide +kernel
theorem dX4_standsAt_42 : decode cX4_standsAt 42 = .ok (.invokestatic 36, 3) := by decide +kernel
theorem dX4_standsAt_45 : decode cX4_standsAt 45 = .ok (.if_icmp .ne 7, 3) := by decide +kernel
theorem dX4_standsAt_48 : decode cX4_standsAt 48 = .ok (.iconst 1, 1) := by decide +kernel
theorem dX4_standsAt_49 : decode cX4_standsAt 49 = .ok (.goto 4, 3) := by decide +kernel
theorem dX4_standsAt_52 : decode cX4_standsAt 52 = .ok (.iconst 0, 1) := by decide +kernel
theorem dX4_standsAt_53 : decode cX4_standsAt 53 = .ok (.ireturn, 1) := by decide +kernel
theorem dX6_init_0 : decode cX6_init 0 = .ok (.aload_n 0, 1) := by decide +kernel
theorem dX6_init_1 : decode cX6_init 1 = .ok (.invokespecial 1, 3) := by decide +kernel
theorem dX6_init_4 : decode cX6_init 4 = .ok (.return_, 1) := by decide +kernel
end
section
section
variable {w : sg_W} {mi : sg_M} {d mc ms : Nat} {Q : sg_O → sg_H → Prop} {pc : Nat} {lv : List (Nat × sg_V)} {st : List sg_V} {h : sg_H} {k n : Nat}
/-- a number in the locals, or on the stack, is an int -/
theorem sg_rng {j : Nat} {z : Int} (hl : sg_lk lv j = some (sg_i z)) (K : -2147483648 ≤ z → z ≤ 2147483647 → sg_R w mi d mc ms Q pc lv st h k n) : sg_R w mi d mc ms Q pc lv st h k n := by
  intro p e s m args below meth c H locs ls sv l hF hW hlv hL hs hR hO
  obtain ⟨cv, hm, x, rfl, hx⟩ := sg_lk_at hl hL
  have := sg_toInt_range x
  exact K (by omega) (by omega) p e s m args below meth c H locs ls sv l hF hW hlv hL hs hR hO
theorem sg_rngS {z : Int} (K : -2147483648 ≤ z → z ≤ 2147483647 → sg_R w mi d mc ms Q pc lv (sg_i z :: st) h k n) : sg_R w mi d mc ms Q pc lv (sg_i z :: st) h k n := by
  intro p e s m args below meth c H locs ls sv l hF hW hlv hL hs hR hO
  obtain ⟨x, b, rfl, hx, hb⟩ := sg_vs_i hs
  have := sg_toInt_range x
  exact K (by omega) (by omega) p e s m args below meth c H locs ls _ l hF hW hlv hL hs hR hO
theorem sg_idivP {a b : Int} (hd : decode mi.2.1 pc = .ok (.idiv, 1)) (h0 : 0 ≤ a) (h1 : a ≤ 2147483647) (hb : 0 < b) (K : sg_R w mi d mc ms Q (pc + 1) lv (sg_i (a / b) :: st) h k n) : sg_R w mi d mc ms Q pc lv (sg_i b :: sg_i a :: st) h k n := by
  refine sg_idiv hd (by omega) ?_
  have h2 : 0 ≤ a / b := Int.ediv_nonneg h0 (by omega)
  have h3 : a / b ≤ a := Int.ediv_le_self b h0
  rw [Int.tdiv_eq_ediv_of_nonneg h0, sg_w_id (by omega) (by omega)]
  exact K
theorem sg_iremP {a b : Int} (hd : decode mi.2.1 pc = .ok (.irem, 1)) (h0 : 0 ≤ a) (hb : 0 < b) (K : sg_R w mi d mc ms Q (pc + 1) lv (sg_i (a % b) :: st) h k n) : sg_R w mi d mc ms Q pc lv (sg_i b :: sg_i a :: st) h k n := by
  refine sg_irem hd (by omega) ?_
  rw [Int.tmod_eq_emod_of_nonneg h0]
  exact K
theorem sg_narC {x : Int32} (h0 : 0 ≤ x.toInt) (h1 : x.toInt < 65536) : narrow .char (.int x) = .int x := by
  have e : x = nI x.toInt.toNat := Int32.toInt_inj.mp (by rw [nI_toInt (by omega)]; omega)
  rw [e]
  exact (pk_charN (by omega)).1
theorem sg_cret {z : Int} (hd : decode mi.2.1 pc = .ok (.ireturn, 1)) (hr : mi.2.2.2 = some .char) (h0 : 0 ≤ z) (h1 : z < 65536) (hk : k ≤ mc) (hn : n ≤ ms) (K : Q (.inl (some (sg_i z))) h) : sg_R w mi d mc ms Q pc lv [sg_i z] h k n := by
  intro p e s m args below meth c H locs ls sv l hF hW hlv hL hs hR hO
  obtain ⟨x, b, rfl, hx, hb⟩ := sg_vs_i hs
  rw [sg_vs_nil hb]
  refine W.widen hk hn (vx_ret (W.zret hF.1 hF.2.1 (hF.2.2.2.2.1.trans hr) (sg_narC (by omega) (by omega)) (fun t ht _ => ⟨some (sg_i z), some (.int x), h, rfl, ⟨⟨x, rfl, hx⟩, trivial⟩, by rw [ht]; exact hR, K⟩) hO.1 hd hF.2.2.2.2.2.1))
theorem sg_bret {z : Int} (hd : decode mi.2.1 pc = .ok (.ireturn, 1)) (hr : mi.2.2.2 = some .byte) (h0 : z = 0) (hk : k ≤ mc) (hn : n ≤ ms) (K : Q (.inl (some (sg_i z))) h) : sg_R w mi d mc ms Q pc lv [sg_i z] h k n := by
  intro p e s m args below meth c H locs ls sv l hF hW hlv hL hs hR hO
  obtain ⟨x, b, rfl, hx, hb⟩ := sg_vs_i hs
  rw [sg_vs_nil hb]
  subst h0
  have hx0 : x = 0 := Int32.toInt_inj.mp hx
  subst hx0
  refine W.widen hk hn (vx_ret (W.zret hF.1 hF.2.1 (hF.2.2.2.2.1.trans hr) rfl (fun t ht _ => ⟨some (sg_i 0), some (.int 0), h, rfl, ⟨⟨0, rfl, hx⟩, trivial⟩, by rw [ht]; exact hR, K⟩) hO.1 hd hF.2.2.2.2.2.1))
end
end
section
/-! what part 1 and 3 of the document tell of numbers, as functions of whole numbers -/
def fn_betw (x a b : Int) : Int := if a ≤ x ∧ x ≤ b then 1 else 0
def fn_sign (s : Int) : Int := if 0 ≤ s ∧ s ≤ 255 then 1 else 0
def fn_radix (r : Int) : Int := if 2 ≤ r ∧ r ≤ 36 then 1 else 0
def fn_dig (s : Int) : Int := if 48 ≤ s ∧ s ≤ 57 then 1 else 0
def fn_gp (s : Int) : Int := if 65 ≤ s ∧ s ≤ 90 then 1 else 0
def fn_sp (s : Int) : Int := if 97 ≤ s ∧ s ≤ 122 then 1 else 0
def fn_great (s : Int) : Int := if (65 ≤ s ∧ s ≤ 90) ∨ (192 ≤ s ∧ s ≤ 214) ∨ (216 ≤ s ∧ s ≤ 222) then 1 else 0
def fn_letter (s : Int) : Int := if (65 ≤ s ∧ s ≤ 90) ∨ (97 ≤ s ∧ s ≤ 122) ∨ s = 170 ∨ s = 181 ∨ s = 186 ∨ (192 ≤ s ∧ s ≤ 214) ∨ (216 ≤ s ∧ s ≤ 246) ∨ (248 ≤ s ∧ s ≤ 255) then 1 else 0
def fn_lod (s : Int) : Int := if fn_letter s = 1 ∨ fn_dig s = 1 then 1 else 0
def fn_white (s : Int) : Int := if (9 ≤ s ∧ s ≤ 13) ∨ (28 ≤ s ∧ s ≤ 32) then 1 else 0
def fn_isOf (s k : Int) : Int := if k = 0 then fn_dig s else if k = 1 then fn_letter s else if k = 2 then fn_lod s else if k = 3 then fn_white s else if k = 4 then fn_great s else 0
def fn_upper (s : Int) : Int := if (97 ≤ s ∧ s ≤ 122) ∨ (224 ≤ s ∧ s ≤ 246) ∨ (248 ≤ s ∧ s ≤ 254) then s - 32 else if s = 181 then 924 else if s = 255 then 376 else s
def fn_lower (s : Int) : Int := if fn_great s = 1 then s + 32 else s
def fn_plain (s : Int) : Int := if 48 ≤ s ∧ s ≤ 57 then s - 48 else if 65 ≤ s ∧ s ≤ 90 then s - 55 else if 97 ≤ s ∧ s ≤ 122 then s - 87 else -1
def fn_val (s : Int) : Int := if s = 178 then 2 else if s = 179 then 3 else if s = 185 then 1 else if 188 ≤ s ∧ s ≤ 190 then -2 else fn_plain s
def fn_num (s r : Int) : Int := if fn_radix r = 1 ∧ fn_plain s < r then fn_plain s else -1
def fn_digit (x r : Int) : Int := if fn_radix r = 1 ∧ 0 ≤ x ∧ x < r then (if x < 10 then x + 48 else x + 87) else 0
def fn_unit (u : Int) : Int := if 0 ≤ u ∧ u < 65536 then 1 else 0
def fn_high (u : Int) : Int := if 55296 ≤ u ∧ u < 56320 then 1 else 0
def fn_low (u : Int) : Int := if 56320 ≤ u ∧ u < 57344 then 1 else 0
def fn_half (u : Int) : Int := if 55296 ≤ u ∧ u < 57344 then 1 else 0
def fn_code (c : Int) : Int := if 0 ≤ c ∧ c ≤ 1114111 then 1 else 0
def fn_wide (c : Int) : Int := if 65536 ≤ c ∧ c ≤ 1114111 then 1 else 0
def fn_units (c : Int) : Int := if 65536 ≤ c then 2 else 1
end
section
set_option maxRecDepth 100000 in
theorem s_X2_isBetween {w : sg_W} {Q : sg_O → sg_H → Prop} {h : sg_H} (g : sg_G w) {d : Nat} (hd : 1 ≤ d) {x a b : Int} (hQ : ∀ z, z = fn_betw x a b → (z = 0 ∨ z = 1) → Q (.inl (some (sg_i z))) h) : sg_C w mi_X2_isBetween d 0 0 [sg_i x, sg_i a, sg_i b] h Q := by
  refine sg_of (by decide +kernel) (Nat.le_of_ble_eq_true rfl) ?_
  refine sg_iload_n (pc := 0) (j := 0) dX2_isBetween_0 rfl rfl ?_
  refine sg_iload_n (pc := 1) (j := 1) dX2_isBetween_1 rfl rfl ?_
  refine sg_icmp_lt (pc := 2) (tgt := 14) dX2_isBetween_2 (by decide) (fun c2 => ?_) (fun c2 => ?_)
  · refine sg_iconst (pc := 14) (z := 0) dX2_isBetween_14 (by decide) ?_
    refine sg_zret (pc := 15) dX2_isBetween_15 rfl (by first | exact Or.inl rfl | exact Or.inr rfl | omega | assumption) (by omega) (by omega) ?_
    exact hQ _ (by (try simp only [fn_betw] at *) <;> first | omega | ((repeat' split) <;> omega) | grind) (by first | exact Or.inl rfl | exact Or.inr rfl | omega | assumption)
  · refine sg_iload_n (pc := 5) (j := 0) dX2_isBetween_5 rfl rfl ?_
    refine sg_iload_n (pc := 6) (j := 2) dX2_isBetween_6 rfl rfl ?_
    refine sg_icmp_gt (pc := 7) (tgt := 14) dX2_isBetween_7 (by decide) (fun c7 => ?_) (fun c7 => ?_)
    · refine sg_iconst (pc := 14) (z := 0) dX2_isBetween_14 (by decide) ?_
      refine sg_zret (pc := 15) dX2_isBetween_15 rfl (by first | exact Or.inl rfl | exact Or.inr rfl | omega | assumption) (by omega) (by omega) ?_
      exact hQ _ (by (try simp only [fn_betw] at *) <;> first | omega | ((repeat' split) <;> omega) | grind) (by first | exact Or.inl rfl | exact Or.inr rfl | omega | assumption)
    · refine sg_iconst (pc := 10) (z := 1) dX2_isBetween_10 (by decide) ?_
      refine sg_goto (pc := 11) (tgt := 15) dX2_isBetween_11 (by decide) ?_
      refine sg_zret (pc := 15) dX2_isBetween_15 rfl (by first | exact Or.inl rfl | exact Or.inr rfl | omega | assumption) (by omega) (by omega) ?_
      exact hQ _ (by (try simp only [fn_betw] at *) <;> first | omega | ((repeat' split) <;> omega) | grind) (by first | exact Or.inl rfl | exact Or.inr rfl | omega | assumption)

set_option maxRecDepth 100000 in
theorem s_X2_isPlainDigit {w : sg_W} {Q : sg_O → sg_H → Prop} {h : sg_H} (g : sg_G w) {d : Nat} (hd : 1 ≤ d) {x : Int} (hQ : ∀ z, z = fn_dig x → (z = 0 ∨ z = 1) → Q (.inl (some (sg_i z))) h) : sg_C w mi_X2_isPlainDigit d 0 0 [sg_i x] h Q := by
  refine sg_of (by decide +kernel) (Nat.le_of_ble_eq_true rfl) ?_
  refine sg_iload_n (pc := 0) (j := 0) dX2_isPlainDigit_0 rfl rfl ?_
  refine sg_bipush (pc := 1) (z := 48) dX2_isPlainDigit_1 (by decide) ?_
  refine sg_icmp_lt (pc := 3) (tgt := 16) dX2_isPlainDigit_3 (by decide) (fun c3 => ?_) (fun c3 => ?_)
  · refine sg_iconst (pc := 16) (z := 0) dX2_isPlainDigit_16 (by decide) ?_
    refine sg_zret (pc := 17) dX2_isPlainDigit_17 rfl (by first | exact Or.inl rfl | exact Or.inr rfl | omega | assumption) (by omega) (by omega) ?_
    exact hQ _ (by (try simp only [fn_dig] at *) <;> first | omega | ((repeat' split) <;> omega) | grind) (by first | exact Or.inl rfl | exact Or.inr rfl | omega | assumption)
  · refine sg_iload_n (pc := 6) (j := 0) dX2_isPlainDigit_6 rfl rfl ?_
    refine sg_bipush (pc := 7) (z := 57) dX2_isPlainDigit_7 (by decide) ?_
    refine sg_icmp_gt (pc := 9) (tgt := 16) dX2_isPlainDigit_9 (by decide) (fun c9 => ?_) (fun c9 => ?_)
    · refine sg_iconst (pc := 16) (z := 0) dX2_isPlainDigit_16 (by decide) ?_
      refine sg_zret (pc := 17) dX2_isPlainDigit_17 rfl (by first | exact Or.inl rfl | exact Or.inr rfl | omega | assumption) (by omega) (by omega) ?_
      exact hQ _ (by (try simp only [fn_dig] at *) <;> first | omega | ((repeat' split) <;> omega) | grind) (by first | exact Or.inl rfl | exact Or.inr rfl | omega | assumption)
    · refine sg_iconst (pc := 12) (z := 1) dX2_isPlainDigit_12 (by decide) ?_
      refine sg_goto (pc := 13) (tgt := 17) dX2_isPlainDigit_13 (by decide) ?_
      refine sg_zret (pc := 17) dX2_isPlainDigit_17 rfl (by first | exact Or.inl rfl | exact Or.inr rfl | omega | assumption) (by omega) (by omega) ?_
      exact hQ _ (by (try simp only [fn_dig] at *) <;> first | omega | ((repeat' split) <;> omega) | grind) (by first | exact Or.inl rfl | exact Or.inr rfl | omega | assumption)

set_option maxRecDepth 100000 in
theorem s_X2_isGreatPlain {w : sg_W} {Q : sg_O → sg_H → Prop} {h : sg_H} (g : sg_G w) {d : Nat} (hd : 1 ≤ d) {x : Int} (hQ : ∀ z, z = fn_gp x → (z = 0 ∨ z = 1) → Q (.inl (some (sg_i z))) h) : sg_C w mi_X2_isGreatPlain d 0 0 [sg_i x] h Q := by
  refine sg_of (by decide +kernel) (Nat.le_of_ble_eq_true rfl) ?_
  refine sg_iload_n (pc := 0) (j := 0) dX2_isGreatPlain_0 rfl rfl ?_
  refine sg_bipush (pc := 1) (z := 65) dX2_isGreatPlain_1 (by decide) ?_
  refine sg_icmp_lt (pc := 3) (tgt := 16) dX2_isGreatPlain_3 (by decide) (fun c3 => ?_) (fun c3 => ?_)
  · refine sg_iconst (pc := 16) (z := 0) dX2_isGreatPlain_16 (by decide) ?_
    refine sg_zret (pc := 17) dX2_isGreatPlain_17 rfl (by first | exact Or.inl rfl | exact Or.inr rfl | omega | assumption) (by omega) (by omega) ?_
    exact hQ _ (by (try simp only [fn_gp] at *) <;> first | omega | ((repeat' split) <;> omega) | grind) (by first | exact Or.inl rfl | exact Or.inr rfl | omega | assumption)
  · refine sg_iload_n (pc := 6) (j := 0) dX2_isGreatPlain_6 rfl rfl ?_
    refine sg_bipush (pc := 7) (z := 90) dX2_isGreatPlain_7 (by decide) ?_
    refine sg_icmp_gt (pc := 9) (tgt := 16) dX2_isGreatPlain_9 (by decide) (fun c9 => ?_) (fun c9 => ?_)
    · refine sg_iconst (pc := 16) (z := 0) dX2_isGreatPlain_16 (by decide) ?_
      refine sg_zret (pc := 17) dX2_isGreatPlain_17 rfl (by first | exact Or.inl rfl | exact Or.inr rfl | omega | assumption) (by omega) (by omega) ?_
      exact hQ _ (by (try simp only [fn_gp] at *) <;> first | omega | ((repeat' split) <;> omega) | grind) (by first | exact Or.inl rfl | exact Or.inr rfl | omega | assumption)
    · refine sg_iconst (pc := 12) (z := 1) dX2_isGreatPlain_12 (by decide) ?_
      refine sg_goto (pc := 13) (tgt := 17) dX2_isGreatPlain_13 (by decide) ?_
      refine sg_zret (pc := 17) dX2_isGreatPlain_17 rfl (by first | exact Or.inl rfl | exact Or.inr rfl | omega | assumption) (by omega) (by omega) ?_
      exact hQ _ (by (try simp only [fn_gp] at *) <;> first | omega | ((repeat' split) <;> omega) | grind) (by first | exact Or.inl rfl | exact Or.inr rfl | omega | assumption)

set_option maxRecDepth 100000 in
theorem s_X2_isSmallPlain {w : sg_W} {Q : sg_O → sg_H → Prop} {h : sg_H} (g : sg_G w) {d : Nat} (hd : 1 ≤ d) {x : Int} (hQ : ∀ z, z = fn_sp x → (z = 0 ∨ z = 1) → Q (.inl (some (sg_i z))) h) : sg_C w mi_X2_isSmallPlain d 0 0 [sg_i x] h Q := by
  refine sg_of (by decide +kernel) (Nat.le_of_ble_eq_true rfl) ?_
  refine sg_iload_n (pc := 0) (j := 0) dX2_isSmallPlain_0 rfl rfl ?_
  refine sg_bipush (pc := 1) (z := 97) dX2_isSmallPlain_1 (by decide) ?_
  refine sg_icmp_lt (pc := 3) (tgt := 16) dX2_isSmallPlain_3 (by decide) (fun c3 => ?_) (fun c3 => ?_)
  · refine sg_iconst (pc := 16) (z := 0) dX2_isSmallPlain_16 (by decide) ?_
    refine sg_zret (pc := 17) dX2_isSmallPlain_17 rfl (by first | exact Or.inl rfl | exact Or.inr rfl | omega | assumption) (by omega) (by omega) ?_
    exact hQ _ (by (try simp only [fn_sp] at *) <;> first | omega | ((repeat' split) <;> omega) | grind) (by first | exact Or.inl rfl | exact Or.inr rfl | omega | assumption)
  · refine sg_iload_n (pc := 6) (j := 0) dX2_isSmallPlain_6 rfl rfl ?_
    refine sg_bipush (pc := 7) (z := 122) dX2_isSmallPlain_7 (by decide) ?_
    refine sg_icmp_gt (pc := 9) (tgt := 16) dX2_isSmallPlain_9 (by decide) (fun c9 => ?_) (fun c9 => ?_)
    · refine sg_iconst (pc := 16) (z := 0) dX2_isSmallPlain_16 (by decide) ?_
      refine sg_zret (pc := 17) dX2_isSmallPlain_17 rfl (by first | exact Or.inl rfl | exact Or.inr rfl | omega | assumption) (by omega) (by omega) ?_
      exact hQ _ (by (try simp only [fn_sp] at *) <;> first | omega | ((repeat' split) <;> omega) | grind) (by first | exact Or.inl rfl | exact Or.inr rfl | omega | assumption)
    · refine sg_iconst (pc := 12) (z := 1) dX2_isSmallPlain_12 (by decide) ?_
      refine sg_goto (pc := 13) (tgt := 17) dX2_isSmallPlain_13 (by decide) ?_
      refine sg_zret (pc := 17) dX2_isSmallPlain_17 rfl (by first | exact Or.inl rfl | exact Or.inr rfl | omega | assumption) (by omega) (by omega) ?_
      exact hQ _ (by (try simp only [fn_sp] at *) <;> first | omega | ((repeat' split) <;> omega) | grind) (by first | exact Or.inl rfl | exact Or.inr rfl | omega | assumption)

set_option maxRecDepth 100000 in
theorem s_X2_isSign {w : sg_W} {Q : sg_O → sg_H → Prop} {h : sg_H} (g : sg_G w) {d : Nat} (hd : 2 ≤ d) {x : Int} (hQ : ∀ z, z = fn_sign x → (z = 0 ∨ z = 1) → Q (.inl (some (sg_i z))) h) : sg_C w mi_X2_isSign d 0 0 [sg_i x] h Q := by
  refine sg_of (by decide +kernel) (Nat.le_of_ble_eq_true rfl) ?_
  refine sg_iload_n (pc := 0) (j := 0) dX2_isSign_0 rfl rfl ?_
  refine sg_iconst (pc := 1) (z := 0) dX2_isSign_1 (by decide) ?_
  refine sg_sipush (pc := 2) (z := 255) dX2_isSign_2 (by decide) ?_
  refine sg_cS3 (pc := 5) (d' := d - 1) (mc' := 0) (ms' := 0) g dX2_isSign_5 cb_X2_isBetween ml_X2_9 ms_X2_isBetween (Nat.le_of_ble_eq_true rfl) (by omega) (by omega) (by omega) ?_
  refine s_X2_isBetween g (by omega) (fun z5 h5 b5 => sg_K1 ?_)
  (try simp only [fn_sign, fn_betw] at h5)
  refine sg_zret (pc := 8) dX2_isSign_8 rfl (by first | exact Or.inl rfl | exact Or.inr rfl | omega | assumption) (by omega) (by omega) ?_
  exact hQ _ (by (try simp only [fn_sign, fn_betw] at *) <;> first | omega | ((repeat' split) <;> omega) | grind) (by first | exact Or.inl rfl | exact Or.inr rfl | omega | assumption)

set_option maxRecDepth 100000 in
theorem s_X2_isRadix {w : sg_W} {Q : sg_O → sg_H → Prop} {h : sg_H} (g : sg_G w) {d : Nat} (hd : 2 ≤ d) {x : Int} (hQ : ∀ z, z = fn_radix x → (z = 0 ∨ z = 1) → Q (.inl (some (sg_i z))) h) : sg_C w mi_X2_isRadix d 0 0 [sg_i x] h Q := by
  refine sg_of (by decide +kernel) (Nat.le_of_ble_eq_true rfl) ?_
  refine sg_iload_n (pc := 0) (j := 0) dX2_isRadix_0 rfl rfl ?_
  refine sg_iconst (pc := 1) (z := 2) dX2_isRadix_1 (by decide) ?_
  refine sg_bipush (pc := 2) (z := 36) dX2_isRadix_2 (by decide) ?_
  refine sg_cS3 (pc := 4) (d' := d - 1) (mc' := 0) (ms' := 0) g dX2_isRadix_4 cb_X2_isBetween ml_X2_9 ms_X2_isBetween (Nat.le_of_ble_eq_true rfl) (by omega) (by omega) (by omega) ?_
  refine s_X2_isBetween g (by omega) (fun z4 h4 b4 => sg_K1 ?_)
  (try simp only [fn_radix, fn_betw] at h4)
  refine sg_zret (pc := 7) dX2_isRadix_7 rfl (by first | exact Or.inl rfl | exact Or.inr rfl | omega | assumption) (by omega) (by omega) ?_
  exact hQ _ (by (try simp only [fn_radix, fn_betw] at *) <;> first | omega | ((repeat' split) <;> omega) | grind) (by first | exact Or.inl rfl | exact Or.inr rfl | omega | assumption)

set_option maxRecDepth 100000 in
theorem s_X2_isAnyGreat {w : sg_W} {Q : sg_O → sg_H → Prop} {h : sg_H} (g : sg_G w) {d : Nat} (hd : 2 ≤ d) {x : Int} (hQ : ∀ z, z = fn_great x → (z = 0 ∨ z = 1) → Q (.inl (some (sg_i z))) h) : sg_C w mi_X2_isAnyGreat d 0 0 [sg_i x] h Q := by
  refine sg_of (by decide +kernel) (Nat.le_of_ble_eq_true rfl) ?_
  refine sg_iload_n (pc := 0) (j := 0) dX2_isAnyGreat_0 rfl rfl ?_
  refine sg_cS1 (pc := 1) (d' := d - 1) (mc' := 0) (ms' := 0) g dX2_isAnyGreat_1 cb_X2_isGreatPlain ml_X2_56 ms_X2_isGreatPlain (Nat.le_of_ble_eq_true rfl) (by omega) (by omega) (by omega) ?_
  refine s_X2_isGreatPlain g (by omega) (fun z1 h1 b1 => sg_K1 ?_)
  (try simp only [fn_great, fn_gp, fn_betw] at h1)
  refine sg_if_ne (pc := 4) (tgt := 33) dX2_isAnyGreat_4 (by decide) (fun c4 => ?_) (fun c4 => ?_)
  · refine sg_iconst (pc := 33) (z := 1) dX2_isAnyGreat_33 (by decide) ?_
    refine sg_goto (pc := 34) (tgt := 38) dX2_isAnyGreat_34 (by decide) ?_
    refine sg_zret (pc := 38) dX2_isAnyGreat_38 rfl (by first | exact Or.inl rfl | exact Or.inr rfl | omega | assumption) (by omega) (by omega) ?_
    exact hQ _ (by (try simp only [fn_great, fn_gp, fn_betw] at *) <;> first | omega | ((repeat' split) <;> omega) | grind) (by first | exact Or.inl rfl | exact Or.inr rfl | omega | assumption)
  · refine sg_iload_n (pc := 7) (j := 0) dX2_isAnyGreat_7 rfl rfl ?_
    refine sg_sipush (pc := 8) (z := 192) dX2_isAnyGreat_8 (by decide) ?_
    refine sg_sipush (pc := 11) (z := 214) dX2_isAnyGreat_11 (by decide) ?_
    refine sg_cS3 (pc := 14) (d' := d - 1) (mc' := 0) (ms' := 0) g dX2_isAnyGreat_14 cb_X2_isBetween ml_X2_9 ms_X2_isBetween (Nat.le_of_ble_eq_true rfl) (by omega) (by omega) (by omega) ?_
    refine s_X2_isBetween g (by omega) (fun z14 h14 b14 => sg_K1 ?_)
    (try simp only [fn_great, fn_gp, fn_betw] at h14)
    refine sg_if_ne (pc := 17) (tgt := 33) dX2_isAnyGreat_17 (by decide) (fun c17 => ?_) (fun c17 => ?_)
    · refine sg_iconst (pc := 33) (z := 1) dX2_isAnyGreat_33 (by decide) ?_
      refine sg_goto (pc := 34) (tgt := 38) dX2_isAnyGreat_34 (by decide) ?_
      refine sg_zret (pc := 38) dX2_isAnyGreat_38 rfl (by first | exact Or.inl rfl | exact Or.inr rfl | omega | assumption) (by omega) (by omega) ?_
      exact hQ _ (by (try simp only [fn_great, fn_gp, fn_betw] at *) <;> first | omega | ((repeat' split) <;> omega) | grind) (by first | exact Or.inl rfl | exact Or.inr rfl | omega | assumption)
    · refine sg_iload_n (pc := 20) (j := 0) dX2_isAnyGreat_20 rfl rfl ?_
      refine sg_sipush (pc := 21) (z := 216) dX2_isAnyGreat_21 (by decide) ?_
      refine sg_sipush (pc := 24) (z := 222) dX2_isAnyGreat_24 (by decide) ?_
      refine sg_cS3 (pc := 27) (d' := d - 1) (mc' := 0) (ms' := 0) g dX2_isAnyGreat_27 cb_X2_isBetween ml_X2_9 ms_X2_isBetween (Nat.le_of_ble_eq_true rfl) (by omega) (by omega) (by omega) ?_
      refine s_X2_isBetween g (by omega) (fun z27 h27 b27 => sg_K1 ?_)
      (try simp only [fn_great, fn_gp, fn_betw] at h27)
      refine sg_if_eq (pc := 30) (tgt := 37) dX2_isAnyGreat_30 (by decide) (fun c30 => ?_) (fun c30 => ?_)
      · refine sg_iconst (pc := 37) (z := 0) dX2_isAnyGreat_37 (by decide) ?_
        refine sg_zret (pc := 38) dX2_isAnyGreat_38 rfl (by first | exact Or.inl rfl | exact Or.inr rfl | omega | assumption) (by omega) (by omega) ?_
        exact hQ _ (by (try simp only [fn_great, fn_gp, fn_betw] at *) <;> first | omega | ((repeat' split) <;> omega) | grind) (by first | exact Or.inl rfl | exact Or.inr rfl | omega | assumption)
      · refine sg_iconst (pc := 33) (z := 1) dX2_isAnyGreat_33 (by decide) ?_
        refine sg_goto (pc := 34) (tgt := 38) dX2_isAnyGreat_34 (by decide) ?_
        refine sg_zret (pc := 38) dX2_isAnyGreat_38 rfl (by first | exact Or.inl rfl | exact Or.inr rfl | omega | assumption) (by omega) (by omega) ?_
        exact hQ _ (by (try simp only [fn_great, fn_gp, fn_betw] at *) <;> first | omega | ((repeat' split) <;> omega) | grind) (by first | exact Or.inl rfl | exact Or.inr rfl | omega | assumption)

set_option maxRecDepth 100000 in
theorem s_X2_isAnyLetter {w : sg_W} {Q : sg_O → sg_H → Prop} {h : sg_H} (g : sg_G w) {d : Nat} (hd : 2 ≤ d) {x : Int} (hQ : ∀ z, z = fn_letter x → (z = 0 ∨ z = 1) → Q (.inl (some (sg_i z))) h) : sg_C w mi_X2_isAnyLetter d 0 0 [sg_i x] h Q := by
  refine sg_of (by decide +kernel) (Nat.le_of_ble_eq_true rfl) ?_
  refine sg_iload_n (pc := 0) (j := 0) dX2_isAnyLetter_0 rfl rfl ?_
  refine sg_cS1 (pc := 1) (d' := d - 1) (mc' := 0) (ms' := 0) g dX2_isAnyLetter_1 cb_X2_isGreatPlain ml_X2_56 ms_X2_isGreatPlain (Nat.le_of_ble_eq_true rfl) (by omega) (by omega) (by omega) ?_
  refine s_X2_isGreatPlain g (by omega) (fun z1 h1 b1 => sg_K1 ?_)
  (try simp only [fn_letter, fn_gp, fn_sp, fn_betw] at h1)
  refine sg_if_ne (pc := 4) (tgt := 14) dX2_isAnyLetter_4 (by decide) (fun c4 => ?_) (fun c4 => ?_)
  · refine sg_iconst (pc := 14) (z := 1) dX2_isAnyLetter_14 (by decide) ?_
    refine sg_zret (pc := 15) dX2_isAnyLetter_15 rfl (by first | exact Or.inl rfl | exact Or.inr rfl | omega | assumption) (by omega) (by omega) ?_
    exact hQ _ (by (try simp only [fn_letter, fn_gp, fn_sp, fn_betw] at *) <;> first | omega | ((repeat' split) <;> omega) | grind) (by first | exact Or.inl rfl | exact Or.inr rfl | omega | assumption)
  · refine sg_iload_n (pc := 7) (j := 0) dX2_isAnyLetter_7 rfl rfl ?_
    refine sg_cS1 (pc := 8) (d' := d - 1) (mc' := 0) (ms' := 0) g dX2_isAnyLetter_8 cb_X2_isSmallPlain ml_X2_29 ms_X2_isSmallPlain (Nat.le_of_ble_eq_true rfl) (by omega) (by omega) (by omega) ?_
    refine s_X2_isSmallPlain g (by omega) (fun z8 h8 b8 => sg_K1 ?_)
    (try simp only [fn_letter, fn_gp, fn_sp, fn_betw] at h8)
    refine sg_if_eq (pc := 11) (tgt := 16) dX2_isAnyLetter_11 (by decide) (fun c11 => ?_) (fun c11 => ?_)
    · refine sg_iload_n (pc := 16) (j := 0) dX2_isAnyLetter_16 rfl rfl ?_
      refine sg_sipush (pc := 17) (z := 170) dX2_isAnyLetter_17 (by decide) ?_
      refine sg_icmp_eq (pc := 20) (tgt := 37) dX2_isAnyLetter_20 (by decide) (fun c20 => ?_) (fun c20 => ?_)
      · refine sg_iconst (pc := 37) (z := 1) dX2_isAnyLetter_37 (by decide) ?_
        refine sg_zret (pc := 38) dX2_isAnyLetter_38 rfl (by first | exact Or.inl rfl | exact Or.inr rfl | omega | assumption) (by omega) (by omega) ?_
        exact hQ _ (by (try simp only [fn_letter, fn_gp, fn_sp, fn_betw] at *) <;> first | omega | ((repeat' split) <;> omega) | grind) (by first | exact Or.inl rfl | exact Or.inr rfl | omega | assumption)
      · refine sg_iload_n (pc := 23) (j := 0) dX2_isAnyLetter_23 rfl rfl ?_
        refine sg_sipush (pc := 24) (z := 181) dX2_isAnyLetter_24 (by decide) ?_
        refine sg_icmp_eq (pc := 27) (tgt := 37) dX2_isAnyLetter_27 (by decide) (fun c27 => ?_) (fun c27 => ?_)
        · refine sg_iconst (pc := 37) (z := 1) dX2_isAnyLetter_37 (by decide) ?_
          refine sg_zret (pc := 38) dX2_isAnyLetter_38 rfl (by first | exact Or.inl rfl | exact Or.inr rfl | omega | assumption) (by omega) (by omega) ?_
          exact hQ _ (by (try simp only [fn_letter, fn_gp, fn_sp, fn_betw] at *) <;> first | omega | ((repeat' split) <;> omega) | grind) (by first | exact Or.inl rfl | exact Or.inr rfl | omega | assumption)
        · refine sg_iload_n (pc := 30) (j := 0) dX2_isAnyLetter_30 rfl rfl ?_
          refine sg_sipush (pc := 31) (z := 186) dX2_isAnyLetter_31 (by decide) ?_
          refine sg_icmp_ne (pc := 34) (tgt := 39) dX2_isAnyLetter_34 (by decide) (fun c34 => ?_) (fun c34 => ?_)
          · refine sg_iload_n (pc := 39) (j := 0) dX2_isAnyLetter_39 rfl rfl ?_
            refine sg_sipush (pc := 40) (z := 192) dX2_isAnyLetter_40 (by decide) ?_
            refine sg_sipush (pc := 43) (z := 214) dX2_isAnyLetter_43 (by decide) ?_
            refine sg_cS3 (pc := 46) (d' := d - 1) (mc' := 0) (ms' := 0) g dX2_isAnyLetter_46 cb_X2_isBetween ml_X2_9 ms_X2_isBetween (Nat.le_of_ble_eq_true rfl) (by omega) (by omega) (by omega) ?_
            refine s_X2_isBetween g (by omega) (fun z46 h46 b46 => sg_K1 ?_)
            (try simp only [fn_letter, fn_gp, fn_sp, fn_betw] at h46)
            refine sg_if_ne (pc := 49) (tgt := 78) dX2_isAnyLetter_49 (by decide) (fun c49 => ?_) (fun c49 => ?_)
            · refine sg_iconst (pc := 78) (z := 1) dX2_isAnyLetter_78 (by decide) ?_
              refine sg_goto (pc := 79) (tgt := 83) dX2_isAnyLetter_79 (by decide) ?_
              refine sg_zret (pc := 83) dX2_isAnyLetter_83 rfl (by first | exact Or.inl rfl | exact Or.inr rfl | omega | assumption) (by omega) (by omega) ?_
              exact hQ _ (by (try simp only [fn_letter, fn_gp, fn_sp, fn_betw] at *) <;> first | omega | ((repeat' split) <;> omega) | grind) (by first | exact Or.inl rfl | exact Or.inr rfl | omega | assumption)
            · refine sg_iload_n (pc := 52) (j := 0) dX2_isAnyLetter_52 rfl rfl ?_
              refine sg_sipush (pc := 53) (z := 216) dX2_isAnyLetter_53 (by decide) ?_
              refine sg_sipush (pc := 56) (z := 246) dX2_isAnyLetter_56 (by decide) ?_
              refine sg_cS3 (pc := 59) (d' := d - 1) (mc' := 0) (ms' := 0) g dX2_isAnyLetter_59 cb_X2_isBetween ml_X2_9 ms_X2_isBetween (Nat.le_of_ble_eq_true rfl) (by omega) (by omega) (by omega) ?_
              refine s_X2_isBetween g (by omega) (fun z59 h59 b59 => sg_K1 ?_)
              (try simp only [fn_letter, fn_gp, fn_sp, fn_betw] at h59)
              refine sg_if_ne (pc := 62) (tgt := 78) dX2_isAnyLetter_62 (by decide) (fun c62 => ?_) (fun c62 => ?_)
              · refine sg_iconst (pc := 78) (z := 1) dX2_isAnyLetter_78 (by decide) ?_
                refine sg_goto (pc := 79) (tgt := 83) dX2_isAnyLetter_79 (by decide) ?_
                refine sg_zret (pc := 83) dX2_isAnyLetter_83 rfl (by first | exact Or.inl rfl | exact Or.inr rfl | omega | assumption) (by omega) (by omega) ?_
                exact hQ _ (by (try simp only [fn_letter, fn_gp, fn_sp, fn_betw] at *) <;> first | omega | ((repeat' split) <;> omega) | grind) (by first | exact Or.inl rfl | exact Or.inr rfl | omega | assumption)
              · refine sg_iload_n (pc := 65) (j := 0) dX2_isAnyLetter_65 rfl rfl ?_
                refine sg_sipush (pc := 66) (z := 248) dX2_isAnyLetter_66 (by decide) ?_
                refine sg_sipush (pc := 69) (z := 255) dX2_isAnyLetter_69 (by decide) ?_
                refine sg_cS3 (pc := 72) (d' := d - 1) (mc' := 0) (ms' := 0) g dX2_isAnyLetter_72 cb_X2_isBetween ml_X2_9 ms_X2_isBetween (Nat.le_of_ble_eq_true rfl) (by omega) (by omega) (by omega) ?_
                refine s_X2_isBetween g (by omega) (fun z72 h72 b72 => sg_K1 ?_)
                (try simp only [fn_letter, fn_gp, fn_sp, fn_betw] at h72)
                refine sg_if_eq (pc := 75) (tgt := 82) dX2_isAnyLetter_75 (by decide) (fun c75 => ?_) (fun c75 => ?_)
                · refine sg_iconst (pc := 82) (z := 0) dX2_isAnyLetter_82 (by decide) ?_
                  refine sg_zret (pc := 83) dX2_isAnyLetter_83 rfl (by first | exact Or.inl rfl | exact Or.inr rfl | omega | assumption) (by omega) (by omega) ?_
                  exact hQ _ (by (try simp only [fn_letter, fn_gp, fn_sp, fn_betw] at *) <;> first | omega | ((repeat' split) <;> omega) | grind) (by first | exact Or.inl rfl | exact Or.inr rfl | omega | assumption)
                · refine sg_iconst (pc := 78) (z := 1) dX2_isAnyLetter_78 (by decide) ?_
                  refine sg_goto (pc := 79) (tgt := 83) dX2_isAnyLetter_79 (by decide) ?_
                  refine sg_zret (pc := 83) dX2_isAnyLetter_83 rfl (by first | exact Or.inl rfl | exact Or.inr rfl | omega | assumption) (by omega) (by omega) ?_
                  exact hQ _ (by (try simp only [fn_letter, fn_gp, fn_sp, fn_betw] at *) <;> first | omega | ((repeat' split) <;> omega) | grind) (by first | exact Or.inl rfl | exact Or.inr rfl | omega | assumption)
          · refine sg_iconst (pc := 37) (z := 1) dX2_isAnyLetter_37 (by decide) ?_
            refine sg_zret (pc := 38) dX2_isAnyLetter_38 rfl (by first | exact Or.inl rfl | exact Or.inr rfl | omega | assumption) (by omega) (by omega) ?_
            exact hQ _ (by (try simp only [fn_letter, fn_gp, fn_sp, fn_betw] at *) <;> first | omega | ((repeat' split) <;> omega) | grind) (by first | exact Or.inl rfl | exact Or.inr rfl | omega | assumption)
    · refine sg_iconst (pc := 14) (z := 1) dX2_isAnyLetter_14 (by decide) ?_
      refine sg_zret (pc := 15) dX2_isAnyLetter_15 rfl (by first | exact Or.inl rfl | exact Or.inr rfl | omega | assumption) (by omega) (by omega) ?_
      exact hQ _ (by (try simp only [fn_letter, fn_gp, fn_sp, fn_betw] at *) <;> first | omega | ((repeat' split) <;> omega) | grind) (by first | exact Or.inl rfl | exact Or.inr rfl | omega | assumption)

set_option maxRecDepth 100000 in
theorem s_X2_isOf {w : sg_W} {Q : sg_O → sg_H → Prop} {h : sg_H} (g : sg_G w) {d : Nat} (hd : 3 ≤ d) {x y : Int} (hQ : ∀ z, z = fn_isOf x y → (z = 0 ∨ z = 1) → Q (.inl (some (sg_i z))) h) : sg_C w mi_X2_isOf d 0 0 [sg_i x, sg_i y] h Q := by
  refine sg_of (by decide +kernel) (Nat.le_of_ble_eq_true rfl) ?_
  refine sg_iload_n (pc := 0) (j := 1) dX2_isOf_0 rfl rfl ?_
  by_cases cs : y < 0 ∨ 4 < y
  · refine sg_tsOut (pc := 1) (tgt := 99) dX2_isOf_1 cs (by decide) ?_
    refine sg_iconst (pc := 99) (z := 0) dX2_isOf_99 (by decide) ?_
    refine sg_zret (pc := 100) dX2_isOf_100 rfl (by first | exact Or.inl rfl | exact Or.inr rfl | omega | assumption) (by omega) (by omega) ?_
    exact hQ _ (by (try simp only [fn_isOf, fn_lod, fn_white, fn_betw] at *) <;> first | omega | ((repeat' split) <;> omega) | grind) (by first | exact Or.inl rfl | exact Or.inr rfl | omega | assumption)
  · rcases (show y = 0 ∨ y = 1 ∨ y = 2 ∨ y = 3 ∨ y = 4 by omega) with rfl | rfl | rfl | rfl | rfl
    · refine sg_tsIn (pc := 1) (tgt := 36) dX2_isOf_1 (by omega) (by omega) rfl (by decide) ?_
      refine sg_iload_n (pc := 36) (j := 0) dX2_isOf_36 rfl rfl ?_
      refine sg_cS1 (pc := 37) (d' := d - 1) (mc' := 0) (ms' := 0) g dX2_isOf_37 cb_X2_isPlainDigit ml_X2_15 ms_X2_isPlainDigit (Nat.le_of_ble_eq_true rfl) (by omega) (by omega) (by omega) ?_
      refine s_X2_isPlainDigit g (by omega) (fun z37 h37 b37 => sg_K1 ?_)
      (try simp only [fn_isOf, fn_lod, fn_white, fn_betw] at h37)
      refine sg_zret (pc := 40) dX2_isOf_40 rfl (by first | exact Or.inl rfl | exact Or.inr rfl | omega | assumption) (by omega) (by omega) ?_
      exact hQ _ (by (try simp only [fn_isOf, fn_lod, fn_white, fn_betw] at *) <;> first | omega | ((repeat' split) <;> omega) | grind) (by first | exact Or.inl rfl | exact Or.inr rfl | omega | assumption)
    · refine sg_tsIn (pc := 1) (tgt := 41) dX2_isOf_1 (by omega) (by omega) rfl (by decide) ?_
      refine sg_iload_n (pc := 41) (j := 0) dX2_isOf_41 rfl rfl ?_
      refine sg_cS1 (pc := 42) (d' := d - 1) (mc' := 0) (ms' := 0) g dX2_isOf_42 cb_X2_isAnyLetter ml_X2_19 ms_X2_isAnyLetter (Nat.le_of_ble_eq_true rfl) (by omega) (by omega) (by omega) ?_
      refine s_X2_isAnyLetter g (by omega) (fun z42 h42 b42 => sg_K1 ?_)
      (try simp only [fn_isOf, fn_lod, fn_white, fn_betw] at h42)
      refine sg_zret (pc := 45) dX2_isOf_45 rfl (by first | exact Or.inl rfl | exact Or.inr rfl | omega | assumption) (by omega) (by omega) ?_
      exact hQ _ (by (try simp only [fn_isOf, fn_lod, fn_white, fn_betw] at *) <;> first | omega | ((repeat' split) <;> omega) | grind) (by first | exact Or.inl rfl | exact Or.inr rfl | omega | assumption)
    · refine sg_tsIn (pc := 1) (tgt := 46) dX2_isOf_1 (by omega) (by omega) rfl (by decide) ?_
      refine sg_iload_n (pc := 46) (j := 0) dX2_isOf_46 rfl rfl ?_
      refine sg_cS1 (pc := 47) (d' := d - 1) (mc' := 0) (ms' := 0) g dX2_isOf_47 cb_X2_isAnyLetter ml_X2_19 ms_X2_isAnyLetter (Nat.le_of_ble_eq_true rfl) (by omega) (by omega) (by omega) ?_
      refine s_X2_isAnyLetter g (by omega) (fun z47 h47 b47 => sg_K1 ?_)
      (try simp only [fn_isOf, fn_lod, fn_white, fn_betw] at h47)
      refine sg_if_ne (pc := 50) (tgt := 60) dX2_isOf_50 (by decide) (fun c50 => ?_) (fun c50 => ?_)
      · refine sg_iconst (pc := 60) (z := 1) dX2_isOf_60 (by decide) ?_
        refine sg_goto (pc := 61) (tgt := 65) dX2_isOf_61 (by decide) ?_
        refine sg_zret (pc := 65) dX2_isOf_65 rfl (by first | exact Or.inl rfl | exact Or.inr rfl | omega | assumption) (by omega) (by omega) ?_
        exact hQ _ (by (try simp only [fn_isOf, fn_lod, fn_white, fn_betw] at *) <;> first | omega | ((repeat' split) <;> omega) | grind) (by first | exact Or.inl rfl | exact Or.inr rfl | omega | assumption)
      · refine sg_iload_n (pc := 53) (j := 0) dX2_isOf_53 rfl rfl ?_
        refine sg_cS1 (pc := 54) (d' := d - 1) (mc' := 0) (ms' := 0) g dX2_isOf_54 cb_X2_isPlainDigit ml_X2_15 ms_X2_isPlainDigit (Nat.le_of_ble_eq_true rfl) (by omega) (by omega) (by omega) ?_
        refine s_X2_isPlainDigit g (by omega) (fun z54 h54 b54 => sg_K1 ?_)
        (try simp only [fn_isOf, fn_lod, fn_white, fn_betw] at h54)
        refine sg_if_eq (pc := 57) (tgt := 64) dX2_isOf_57 (by decide) (fun c57 => ?_) (fun c57 => ?_)
        · refine sg_iconst (pc := 64) (z := 0) dX2_isOf_64 (by decide) ?_
          refine sg_zret (pc := 65) dX2_isOf_65 rfl (by first | exact Or.inl rfl | exact Or.inr rfl | omega | assumption) (by omega) (by omega) ?_
          exact hQ _ (by (try simp only [fn_isOf, fn_lod, fn_white, fn_betw] at *) <;> first | omega | ((repeat' split) <;> omega) | grind) (by first | exact Or.inl rfl | exact Or.inr rfl | omega | assumption)
        · refine sg_iconst (pc := 60) (z := 1) dX2_isOf_60 (by decide) ?_
          refine sg_goto (pc := 61) (tgt := 65) dX2_isOf_61 (by decide) ?_
          refine sg_zret (pc := 65) dX2_isOf_65 rfl (by first | exact Or.inl rfl | exact Or.inr rfl | omega | assumption) (by omega) (by omega) ?_
          exact hQ _ (by (try simp only [fn_isOf, fn_lod, fn_white, fn_betw] at *) <;> first | omega | ((repeat' split) <;> omega) | grind) (by first | exact Or.inl rfl | exact Or.inr rfl | omega | assumption)
    · refine sg_tsIn (pc := 1) (tgt := 66) dX2_isOf_1 (by omega) (by omega) rfl (by decide) ?_
      refine sg_iload_n (pc := 66) (j := 0) dX2_isOf_66 rfl rfl ?_
      refine sg_bipush (pc := 67) (z := 9) dX2_isOf_67 (by decide) ?_
      refine sg_bipush (pc := 69) (z := 13) dX2_isOf_69 (by decide) ?_
      refine sg_cS3 (pc := 71) (d' := d - 1) (mc' := 0) (ms' := 0) g dX2_isOf_71 cb_X2_isBetween ml_X2_9 ms_X2_isBetween (Nat.le_of_ble_eq_true rfl) (by omega) (by omega) (by omega) ?_
      refine s_X2_isBetween g (by omega) (fun z71 h71 b71 => sg_K1 ?_)
      (try simp only [fn_isOf, fn_lod, fn_white, fn_betw] at h71)
      refine sg_if_ne (pc := 74) (tgt := 88) dX2_isOf_74 (by decide) (fun c74 => ?_) (fun c74 => ?_)
      · refine sg_iconst (pc := 88) (z := 1) dX2_isOf_88 (by decide) ?_
        refine sg_goto (pc := 89) (tgt := 93) dX2_isOf_89 (by decide) ?_
        refine sg_zret (pc := 93) dX2_isOf_93 rfl (by first | exact Or.inl rfl | exact Or.inr rfl | omega | assumption) (by omega) (by omega) ?_
        exact hQ _ (by (try simp only [fn_isOf, fn_lod, fn_white, fn_betw] at *) <;> first | omega | ((repeat' split) <;> omega) | grind) (by first | exact Or.inl rfl | exact Or.inr rfl | omega | assumption)
      · refine sg_iload_n (pc := 77) (j := 0) dX2_isOf_77 rfl rfl ?_
        refine sg_bipush (pc := 78) (z := 28) dX2_isOf_78 (by decide) ?_
        refine sg_bipush (pc := 80) (z := 32) dX2_isOf_80 (by decide) ?_
        refine sg_cS3 (pc := 82) (d' := d - 1) (mc' := 0) (ms' := 0) g dX2_isOf_82 cb_X2_isBetween ml_X2_9 ms_X2_isBetween (Nat.le_of_ble_eq_true rfl) (by omega) (by omega) (by omega) ?_
        refine s_X2_isBetween g (by omega) (fun z82 h82 b82 => sg_K1 ?_)
        (try simp only [fn_isOf, fn_lod, fn_white, fn_betw] at h82)
        refine sg_if_eq (pc := 85) (tgt := 92) dX2_isOf_85 (by decide) (fun c85 => ?_) (fun c85 => ?_)
        · refine sg_iconst (pc := 92) (z := 0) dX2_isOf_92 (by decide) ?_
          refine sg_zret (pc := 93) dX2_isOf_93 rfl (by first | exact Or.inl rfl | exact Or.inr rfl | omega | assumption) (by omega) (by omega) ?_
          exact hQ _ (by (try simp only [fn_isOf, fn_lod, fn_white, fn_betw] at *) <;> first | omega | ((repeat' split) <;> omega) | grind) (by first | exact Or.inl rfl | exact Or.inr rfl | omega | assumption)
        · refine sg_iconst (pc := 88) (z := 1) dX2_isOf_88 (by decide) ?_
          refine sg_goto (pc := 89) (tgt := 93) dX2_isOf_89 (by decide) ?_
          refine sg_zret (pc := 93) dX2_isOf_93 rfl (by first | exact Or.inl rfl | exact Or.inr rfl | omega | assumption) (by omega) (by omega) ?_
          exact hQ _ (by (try simp only [fn_isOf, fn_lod, fn_white, fn_betw] at *) <;> first | omega | ((repeat' split) <;> omega) | grind) (by first | exact Or.inl rfl | exact Or.inr rfl | omega | assumption)
    · refine sg_tsIn (pc := 1) (tgt := 94) dX2_isOf_1 (by omega) (by omega) rfl (by decide) ?_
      refine sg_iload_n (pc := 94) (j := 0) dX2_isOf_94 rfl rfl ?_
      refine sg_cS1 (pc := 95) (d' := d - 1) (mc' := 0) (ms' := 0) g dX2_isOf_95 cb_X2_isAnyGreat ml_X2_22 ms_X2_isAnyGreat (Nat.le_of_ble_eq_true rfl) (by omega) (by omega) (by omega) ?_
      refine s_X2_isAnyGreat g (by omega) (fun z95 h95 b95 => sg_K1 ?_)
      (try simp only [fn_isOf, fn_lod, fn_white, fn_betw] at h95)
      refine sg_zret (pc := 98) dX2_isOf_98 rfl (by first | exact Or.inl rfl | exact Or.inr rfl | omega | assumption) (by omega) (by omega) ?_
      exact hQ _ (by (try simp only [fn_isOf, fn_lod, fn_white, fn_betw] at *) <;> first | omega | ((repeat' split) <;> omega) | grind) (by first | exact Or.inl rfl | exact Or.inr rfl | omega | assumption)

set_option maxRecDepth 100000 in
theorem s_X2_upperOf {w : sg_W} {Q : sg_O → sg_H → Prop} {h : sg_H} (g : sg_G w) {d : Nat} (hd : 2 ≤ d) {x : Int} (hQ : ∀ z, z = fn_upper x → Q (.inl (some (sg_i z))) h) : sg_C w mi_X2_upperOf d 0 0 [sg_i x] h Q := by
  refine sg_of (by decide +kernel) (Nat.le_of_ble_eq_true rfl) ?_
  refine sg_iload_n (pc := 0) (j := 0) dX2_upperOf_0 rfl rfl ?_
  refine sg_cS1 (pc := 1) (d' := d - 1) (mc' := 0) (ms' := 0) g dX2_upperOf_1 cb_X2_isSmallPlain ml_X2_29 ms_X2_isSmallPlain (Nat.le_of_ble_eq_true rfl) (by omega) (by omega) (by omega) ?_
  refine s_X2_isSmallPlain g (by omega) (fun z1 h1 b1 => sg_K1 ?_)
  (try simp only [fn_upper, fn_betw, fn_sp] at h1)
  refine sg_if_ne (pc := 4) (tgt := 33) dX2_upperOf_4 (by decide) (fun c4 => ?_) (fun c4 => ?_)
  · refine sg_iload_n (pc := 33) (j := 0) dX2_upperOf_33 rfl rfl ?_
    refine sg_bipush (pc := 34) (z := 32) dX2_upperOf_34 (by decide) ?_
    first | refine sg_isubB (pc := 36) dX2_upperOf_36 (by omega) (by omega) ?_ | refine sg_isub (pc := 36) dX2_upperOf_36 ?_
    refine sg_iret (pc := 37) dX2_upperOf_37 rfl (by omega) (by omega) ?_
    exact hQ _ (by (try simp only [fn_upper, fn_betw, fn_sp] at *) <;> first | omega | ((repeat' split) <;> omega) | grind)
  · refine sg_iload_n (pc := 7) (j := 0) dX2_upperOf_7 rfl rfl ?_
    refine sg_sipush (pc := 8) (z := 224) dX2_upperOf_8 (by decide) ?_
    refine sg_sipush (pc := 11) (z := 246) dX2_upperOf_11 (by decide) ?_
    refine sg_cS3 (pc := 14) (d' := d - 1) (mc' := 0) (ms' := 0) g dX2_upperOf_14 cb_X2_isBetween ml_X2_9 ms_X2_isBetween (Nat.le_of_ble_eq_true rfl) (by omega) (by omega) (by omega) ?_
    refine s_X2_isBetween g (by omega) (fun z14 h14 b14 => sg_K1 ?_)
    (try simp only [fn_upper, fn_betw, fn_sp] at h14)
    refine sg_if_ne (pc := 17) (tgt := 33) dX2_upperOf_17 (by decide) (fun c17 => ?_) (fun c17 => ?_)
    · refine sg_iload_n (pc := 33) (j := 0) dX2_upperOf_33 rfl rfl ?_
      refine sg_bipush (pc := 34) (z := 32) dX2_upperOf_34 (by decide) ?_
      first | refine sg_isubB (pc := 36) dX2_upperOf_36 (by omega) (by omega) ?_ | refine sg_isub (pc := 36) dX2_upperOf_36 ?_
      refine sg_iret (pc := 37) dX2_upperOf_37 rfl (by omega) (by omega) ?_
      exact hQ _ (by (try simp only [fn_upper, fn_betw, fn_sp] at *) <;> first | omega | ((repeat' split) <;> omega) | grind)
    · refine sg_iload_n (pc := 20) (j := 0) dX2_upperOf_20 rfl rfl ?_
      refine sg_sipush (pc := 21) (z := 248) dX2_upperOf_21 (by decide) ?_
      refine sg_sipush (pc := 24) (z := 254) dX2_upperOf_24 (by decide) ?_
      refine sg_cS3 (pc := 27) (d' := d - 1) (mc' := 0) (ms' := 0) g dX2_upperOf_27 cb_X2_isBetween ml_X2_9 ms_X2_isBetween (Nat.le_of_ble_eq_true rfl) (by omega) (by omega) (by omega) ?_
      refine s_X2_isBetween g (by omega) (fun z27 h27 b27 => sg_K1 ?_)
      (try simp only [fn_upper, fn_betw, fn_sp] at h27)
      refine sg_if_eq (pc := 30) (tgt := 38) dX2_upperOf_30 (by decide) (fun c30 => ?_) (fun c30 => ?_)
      · refine sg_iload_n (pc := 38) (j := 0) dX2_upperOf_38 rfl rfl ?_
        refine sg_sipush (pc := 39) (z := 181) dX2_upperOf_39 (by decide) ?_
        refine sg_icmp_ne (pc := 42) (tgt := 49) dX2_upperOf_42 (by decide) (fun c42 => ?_) (fun c42 => ?_)
        · refine sg_iload_n (pc := 49) (j := 0) dX2_upperOf_49 rfl rfl ?_
          refine sg_sipush (pc := 50) (z := 255) dX2_upperOf_50 (by decide) ?_
          refine sg_icmp_ne (pc := 53) (tgt := 62) dX2_upperOf_53 (by decide) (fun c53 => ?_) (fun c53 => ?_)
          · refine sg_iload_n (pc := 62) (j := 0) dX2_upperOf_62 rfl rfl ?_
            refine sg_iret (pc := 63) dX2_upperOf_63 rfl (by omega) (by omega) ?_
            exact hQ _ (by (try simp only [fn_upper, fn_betw, fn_sp] at *) <;> first | omega | ((repeat' split) <;> omega) | grind)
          · refine sg_sipush (pc := 56) (z := 376) dX2_upperOf_56 (by decide) ?_
            refine sg_goto (pc := 59) (tgt := 63) dX2_upperOf_59 (by decide) ?_
            refine sg_iret (pc := 63) dX2_upperOf_63 rfl (by omega) (by omega) ?_
            exact hQ _ (by (try simp only [fn_upper, fn_betw, fn_sp] at *) <;> first | omega | ((repeat' split) <;> omega) | grind)
        · refine sg_sipush (pc := 45) (z := 924) dX2_upperOf_45 (by decide) ?_
          refine sg_iret (pc := 48) dX2_upperOf_48 rfl (by omega) (by omega) ?_
          exact hQ _ (by (try simp only [fn_upper, fn_betw, fn_sp] at *) <;> first | omega | ((repeat' split) <;> omega) | grind)
      · refine sg_iload_n (pc := 33) (j := 0) dX2_upperOf_33 rfl rfl ?_
        refine sg_bipush (pc := 34) (z := 32) dX2_upperOf_34 (by decide) ?_
        first | refine sg_isubB (pc := 36) dX2_upperOf_36 (by omega) (by omega) ?_ | refine sg_isub (pc := 36) dX2_upperOf_36 ?_
        refine sg_iret (pc := 37) dX2_upperOf_37 rfl (by omega) (by omega) ?_
        exact hQ _ (by (try simp only [fn_upper, fn_betw, fn_sp] at *) <;> first | omega | ((repeat' split) <;> omega) | grind)

set_option maxRecDepth 100000 in
theorem s_X2_lowerOf {w : sg_W} {Q : sg_O → sg_H → Prop} {h : sg_H} (g : sg_G w) {d : Nat} (hd : 3 ≤ d) {x : Int} (hQ : ∀ z, z = fn_lower x → Q (.inl (some (sg_i z))) h) : sg_C w mi_X2_lowerOf d 0 0 [sg_i x] h Q := by
  refine sg_of (by decide +kernel) (Nat.le_of_ble_eq_true rfl) ?_
  refine sg_iload_n (pc := 0) (j := 0) dX2_lowerOf_0 rfl rfl ?_
  refine sg_cS1 (pc := 1) (d' := d - 1) (mc' := 0) (ms' := 0) g dX2_lowerOf_1 cb_X2_isAnyGreat ml_X2_22 ms_X2_isAnyGreat (Nat.le_of_ble_eq_true rfl) (by omega) (by omega) (by omega) ?_
  refine s_X2_isAnyGreat g (by omega) (fun z1 h1 b1 => sg_K1 ?_)
  (try simp only [fn_lower, fn_great] at h1)
  refine sg_if_eq (pc := 4) (tgt := 14) dX2_lowerOf_4 (by decide) (fun c4 => ?_) (fun c4 => ?_)
  · refine sg_iload_n (pc := 14) (j := 0) dX2_lowerOf_14 rfl rfl ?_
    refine sg_iret (pc := 15) dX2_lowerOf_15 rfl (by omega) (by omega) ?_
    exact hQ _ (by (try simp only [fn_lower, fn_great] at *) <;> first | omega | ((repeat' split) <;> omega) | grind)
  · refine sg_iload_n (pc := 7) (j := 0) dX2_lowerOf_7 rfl rfl ?_
    refine sg_bipush (pc := 8) (z := 32) dX2_lowerOf_8 (by decide) ?_
    first | refine sg_iaddB (pc := 10) dX2_lowerOf_10 (by omega) (by omega) ?_ | refine sg_iadd (pc := 10) dX2_lowerOf_10 ?_
    refine sg_goto (pc := 11) (tgt := 15) dX2_lowerOf_11 (by decide) ?_
    refine sg_iret (pc := 15) dX2_lowerOf_15 rfl (by omega) (by omega) ?_
    exact hQ _ (by (try simp only [fn_lower, fn_great] at *) <;> first | omega | ((repeat' split) <;> omega) | grind)

set_option maxRecDepth 100000 in
theorem s_X2_plainValueOf {w : sg_W} {Q : sg_O → sg_H → Prop} {h : sg_H} (g : sg_G w) {d : Nat} (hd : 2 ≤ d) {x : Int} (hQ : ∀ z, z = fn_plain x → Q (.inl (some (sg_i z))) h) : sg_C w mi_X2_plainValueOf d 0 0 [sg_i x] h Q := by
  refine sg_of (by decide +kernel) (Nat.le_of_ble_eq_true rfl) ?_
  refine sg_iload_n (pc := 0) (j := 0) dX2_plainValueOf_0 rfl rfl ?_
  refine sg_cS1 (pc := 1) (d' := d - 1) (mc' := 0) (ms' := 0) g dX2_plainValueOf_1 cb_X2_isPlainDigit ml_X2_15 ms_X2_isPlainDigit (Nat.le_of_ble_eq_true rfl) (by omega) (by omega) (by omega) ?_
  refine s_X2_isPlainDigit g (by omega) (fun z1 h1 b1 => sg_K1 ?_)
  (try simp only [fn_plain, fn_dig, fn_gp, fn_sp] at h1)
  refine sg_if_eq (pc := 4) (tgt := 12) dX2_plainValueOf_4 (by decide) (fun c4 => ?_) (fun c4 => ?_)
  · refine sg_iload_n (pc := 12) (j := 0) dX2_plainValueOf_12 rfl rfl ?_
    refine sg_cS1 (pc := 13) (d' := d - 1) (mc' := 0) (ms' := 0) g dX2_plainValueOf_13 cb_X2_isGreatPlain ml_X2_56 ms_X2_isGreatPlain (Nat.le_of_ble_eq_true rfl) (by omega) (by omega) (by omega) ?_
    refine s_X2_isGreatPlain g (by omega) (fun z13 h13 b13 => sg_K1 ?_)
    (try simp only [fn_plain, fn_dig, fn_gp, fn_sp] at h13)
    refine sg_if_eq (pc := 16) (tgt := 24) dX2_plainValueOf_16 (by decide) (fun c16 => ?_) (fun c16 => ?_)
    · refine sg_iload_n (pc := 24) (j := 0) dX2_plainValueOf_24 rfl rfl ?_
      refine sg_cS1 (pc := 25) (d' := d - 1) (mc' := 0) (ms' := 0) g dX2_plainValueOf_25 cb_X2_isSmallPlain ml_X2_29 ms_X2_isSmallPlain (Nat.le_of_ble_eq_true rfl) (by omega) (by omega) (by omega) ?_
      refine s_X2_isSmallPlain g (by omega) (fun z25 h25 b25 => sg_K1 ?_)
      (try simp only [fn_plain, fn_dig, fn_gp, fn_sp] at h25)
      refine sg_if_eq (pc := 28) (tgt := 38) dX2_plainValueOf_28 (by decide) (fun c28 => ?_) (fun c28 => ?_)
      · refine sg_iconst (pc := 38) (z := -1) dX2_plainValueOf_38 (by decide) ?_
        refine sg_iret (pc := 39) dX2_plainValueOf_39 rfl (by omega) (by omega) ?_
        exact hQ _ (by (try simp only [fn_plain, fn_dig, fn_gp, fn_sp] at *) <;> first | omega | ((repeat' split) <;> omega) | grind)
      · refine sg_iload_n (pc := 31) (j := 0) dX2_plainValueOf_31 rfl rfl ?_
        refine sg_bipush (pc := 32) (z := 87) dX2_plainValueOf_32 (by decide) ?_
        first | refine sg_isubB (pc := 34) dX2_plainValueOf_34 (by omega) (by omega) ?_ | refine sg_isub (pc := 34) dX2_plainValueOf_34 ?_
        refine sg_goto (pc := 35) (tgt := 39) dX2_plainValueOf_35 (by decide) ?_
        refine sg_iret (pc := 39) dX2_plainValueOf_39 rfl (by omega) (by omega) ?_
        exact hQ _ (by (try simp only [fn_plain, fn_dig, fn_gp, fn_sp] at *) <;> first | omega | ((repeat' split) <;> omega) | grind)
    · refine sg_iload_n (pc := 19) (j := 0) dX2_plainValueOf_19 rfl rfl ?_
      refine sg_bipush (pc := 20) (z := 55) dX2_plainValueOf_20 (by decide) ?_
      first | refine sg_isubB (pc := 22) dX2_plainValueOf_22 (by omega) (by omega) ?_ | refine sg_isub (pc := 22) dX2_plainValueOf_22 ?_
      refine sg_iret (pc := 23) dX2_plainValueOf_23 rfl (by omega) (by omega) ?_
      exact hQ _ (by (try simp only [fn_plain, fn_dig, fn_gp, fn_sp] at *) <;> first | omega | ((repeat' split) <;> omega) | grind)
  · refine sg_iload_n (pc := 7) (j := 0) dX2_plainValueOf_7 rfl rfl ?_
    refine sg_bipush (pc := 8) (z := 48) dX2_plainValueOf_8 (by decide) ?_
    first | refine sg_isubB (pc := 10) dX2_plainValueOf_10 (by omega) (by omega) ?_ | refine sg_isub (pc := 10) dX2_plainValueOf_10 ?_
    refine sg_iret (pc := 11) dX2_plainValueOf_11 rfl (by omega) (by omega) ?_
    exact hQ _ (by (try simp only [fn_plain, fn_dig, fn_gp, fn_sp] at *) <;> first | omega | ((repeat' split) <;> omega) | grind)

set_option maxRecDepth 100000 in
theorem s_X2_numberOf {w : sg_W} {Q : sg_O → sg_H → Prop} {h : sg_H} (g : sg_G w) {d : Nat} (hd : 3 ≤ d) {x r : Int} (hQ : ∀ z, z = fn_num x r → Q (.inl (some (sg_i z))) h) : sg_C w mi_X2_numberOf d 0 0 [sg_i x, sg_i r] h Q := by
  refine sg_of (by decide +kernel) (Nat.le_of_ble_eq_true rfl) ?_
  refine sg_iload_n (pc := 0) (j := 0) dX2_numberOf_0 rfl rfl ?_
  refine sg_cS1 (pc := 1) (d' := d - 1) (mc' := 0) (ms' := 0) g dX2_numberOf_1 cb_X2_plainValueOf ml_X2_32 ms_X2_plainValueOf (Nat.le_of_ble_eq_true rfl) (by omega) (by omega) (by omega) ?_
  refine s_X2_plainValueOf g (by omega) (fun z1 h1 => sg_K1 ?_)
  (try simp only [fn_num] at h1)
  refine sg_istore_n (pc := 4) (j := 2) dX2_numberOf_4 rfl (by decide) ?_
  refine sg_iload_n (pc := 5) (j := 1) dX2_numberOf_5 rfl rfl ?_
  refine sg_cS1 (pc := 6) (d' := d - 1) (mc' := 0) (ms' := 0) g dX2_numberOf_6 cb_X2_isRadix ml_X2_36 ms_X2_isRadix (Nat.le_of_ble_eq_true rfl) (by omega) (by omega) (by omega) ?_
  refine s_X2_isRadix g (by omega) (fun z6 h6 b6 => sg_K1 ?_)
  (try simp only [fn_num] at h6)
  refine sg_if_eq (pc := 9) (tgt := 21) dX2_numberOf_9 (by decide) (fun c9 => ?_) (fun c9 => ?_)
  · refine sg_iconst (pc := 21) (z := -1) dX2_numberOf_21 (by decide) ?_
    refine sg_iret (pc := 22) dX2_numberOf_22 rfl (by omega) (by omega) ?_
    exact hQ _ (by (try simp only [fn_num] at *) <;> first | omega | ((repeat' split) <;> omega) | grind)
  · refine sg_iload_n (pc := 12) (j := 2) dX2_numberOf_12 rfl rfl ?_
    refine sg_iload_n (pc := 13) (j := 1) dX2_numberOf_13 rfl rfl ?_
    refine sg_icmp_ge (pc := 14) (tgt := 21) dX2_numberOf_14 (by decide) (fun c14 => ?_) (fun c14 => ?_)
    · refine sg_iconst (pc := 21) (z := -1) dX2_numberOf_21 (by decide) ?_
      refine sg_iret (pc := 22) dX2_numberOf_22 rfl (by omega) (by omega) ?_
      exact hQ _ (by (try simp only [fn_num] at *) <;> first | omega | ((repeat' split) <;> omega) | grind)
    · refine sg_iload_n (pc := 17) (j := 2) dX2_numberOf_17 rfl rfl ?_
      refine sg_goto (pc := 18) (tgt := 22) dX2_numberOf_18 (by decide) ?_
      refine sg_iret (pc := 22) dX2_numberOf_22 rfl (by omega) (by omega) ?_
      exact hQ _ (by (try simp only [fn_num] at *) <;> first | omega | ((repeat' split) <;> omega) | grind)

set_option maxRecDepth 100000 in
theorem s_X2_digitOf {w : sg_W} {Q : sg_O → sg_H → Prop} {h : sg_H} (g : sg_G w) {d : Nat} (hd : 3 ≤ d) {x r : Int} (hQ : ∀ z, z = fn_digit x r → Q (.inl (some (sg_i z))) h) : sg_C w mi_X2_digitOf d 0 0 [sg_i x, sg_i r] h Q := by
  refine sg_of (by decide +kernel) (Nat.le_of_ble_eq_true rfl) ?_
  refine sg_iload_n (pc := 0) (j := 1) dX2_digitOf_0 rfl rfl ?_
  refine sg_cS1 (pc := 1) (d' := d - 1) (mc' := 0) (ms' := 0) g dX2_digitOf_1 cb_X2_isRadix ml_X2_36 ms_X2_isRadix (Nat.le_of_ble_eq_true rfl) (by omega) (by omega) (by omega) ?_
  refine s_X2_isRadix g (by omega) (fun z1 h1 b1 => sg_K1 ?_)
  (try simp only [fn_digit, fn_radix] at h1)
  refine sg_if_eq (pc := 4) (tgt := 16) dX2_digitOf_4 (by decide) (fun c4 => ?_) (fun c4 => ?_)
  · refine sg_iconst (pc := 16) (z := 0) dX2_digitOf_16 (by decide) ?_
    refine sg_iret (pc := 17) dX2_digitOf_17 rfl (by omega) (by omega) ?_
    exact hQ _ (by (try simp only [fn_digit, fn_radix] at *) <;> first | omega | ((repeat' split) <;> omega) | grind)
  · refine sg_iload_n (pc := 7) (j := 0) dX2_digitOf_7 rfl rfl ?_
    refine sg_if_lt (pc := 8) (tgt := 16) dX2_digitOf_8 (by decide) (fun c8 => ?_) (fun c8 => ?_)
    · refine sg_iconst (pc := 16) (z := 0) dX2_digitOf_16 (by decide) ?_
      refine sg_iret (pc := 17) dX2_digitOf_17 rfl (by omega) (by omega) ?_
      exact hQ _ (by (try simp only [fn_digit, fn_radix] at *) <;> first | omega | ((repeat' split) <;> omega) | grind)
    · refine sg_iload_n (pc := 11) (j := 0) dX2_digitOf_11 rfl rfl ?_
      refine sg_iload_n (pc := 12) (j := 1) dX2_digitOf_12 rfl rfl ?_
      refine sg_icmp_lt (pc := 13) (tgt := 18) dX2_digitOf_13 (by decide) (fun c13 => ?_) (fun c13 => ?_)
      · refine sg_iload_n (pc := 18) (j := 0) dX2_digitOf_18 rfl rfl ?_
        refine sg_bipush (pc := 19) (z := 10) dX2_digitOf_19 (by decide) ?_
        refine sg_icmp_ge (pc := 21) (tgt := 31) dX2_digitOf_21 (by decide) (fun c21 => ?_) (fun c21 => ?_)
        · refine sg_iload_n (pc := 31) (j := 0) dX2_digitOf_31 rfl rfl ?_
          refine sg_bipush (pc := 32) (z := 87) dX2_digitOf_32 (by decide) ?_
          first | refine sg_iaddB (pc := 34) dX2_digitOf_34 (by omega) (by omega) ?_ | refine sg_iadd (pc := 34) dX2_digitOf_34 ?_
          refine sg_iret (pc := 35) dX2_digitOf_35 rfl (by omega) (by omega) ?_
          exact hQ _ (by (try simp only [fn_digit, fn_radix] at *) <;> first | omega | ((repeat' split) <;> omega) | grind)
        · refine sg_iload_n (pc := 24) (j := 0) dX2_digitOf_24 rfl rfl ?_
          refine sg_bipush (pc := 25) (z := 48) dX2_digitOf_25 (by decide) ?_
          first | refine sg_iaddB (pc := 27) dX2_digitOf_27 (by omega) (by omega) ?_ | refine sg_iadd (pc := 27) dX2_digitOf_27 ?_
          refine sg_goto (pc := 28) (tgt := 35) dX2_digitOf_28 (by decide) ?_
          refine sg_iret (pc := 35) dX2_digitOf_35 rfl (by omega) (by omega) ?_
          exact hQ _ (by (try simp only [fn_digit, fn_radix] at *) <;> first | omega | ((repeat' split) <;> omega) | grind)
      · refine sg_iconst (pc := 16) (z := 0) dX2_digitOf_16 (by decide) ?_
        refine sg_iret (pc := 17) dX2_digitOf_17 rfl (by omega) (by omega) ?_
        exact hQ _ (by (try simp only [fn_digit, fn_radix] at *) <;> first | omega | ((repeat' split) <;> omega) | grind)

set_option maxRecDepth 100000 in
theorem s_X4_isUnit {w : sg_W} {Q : sg_O → sg_H → Prop} {h : sg_H} (g : sg_G w) {d : Nat} (hd : 1 ≤ d) {x : Int} (hQ : ∀ z, z = fn_unit x → (z = 0 ∨ z = 1) → Q (.inl (some (sg_i z))) h) : sg_C w mi_X4_isUnit d 0 0 [sg_i x] h Q := by
  refine sg_of (by decide +kernel) (Nat.le_of_ble_eq_true rfl) ?_
  refine sg_iload_n (pc := 0) (j := 0) dX4_isUnit_0 rfl rfl ?_
  refine sg_if_lt (pc := 1) (tgt := 14) dX4_isUnit_1 (by decide) (fun c1 => ?_) (fun c1 => ?_)
  · refine sg_iconst (pc := 14) (z := 0) dX4_isUnit_14 (by decide) ?_
    refine sg_zret (pc := 15) dX4_isUnit_15 rfl (by first | exact Or.inl rfl | exact Or.inr rfl | omega | assumption) (by omega) (by omega) ?_
    exact hQ _ (by (try simp only [fn_unit] at *) <;> first | omega | ((repeat' split) <;> omega) | grind) (by first | exact Or.inl rfl | exact Or.inr rfl | omega | assumption)
  · refine sg_iload_n (pc := 4) (j := 0) dX4_isUnit_4 rfl rfl ?_
    refine sg_ldc (pc := 5) (z := 65536) g dX4_isUnit_5 cn_X4_11 (by decide) ?_
    refine sg_icmp_ge (pc := 7) (tgt := 14) dX4_isUnit_7 (by decide) (fun c7 => ?_) (fun c7 => ?_)
    · refine sg_iconst (pc := 14) (z := 0) dX4_isUnit_14 (by decide) ?_
      refine sg_zret (pc := 15) dX4_isUnit_15 rfl (by first | exact Or.inl rfl | exact Or.inr rfl | omega | assumption) (by omega) (by omega) ?_
      exact hQ _ (by (try simp only [fn_unit] at *) <;> first | omega | ((repeat' split) <;> omega) | grind) (by first | exact Or.inl rfl | exact Or.inr rfl | omega | assumption)
    · refine sg_iconst (pc := 10) (z := 1) dX4_isUnit_10 (by decide) ?_
      refine sg_goto (pc := 11) (tgt := 15) dX4_isUnit_11 (by decide) ?_
      refine sg_zret (pc := 15) dX4_isUnit_15 rfl (by first | exact Or.inl rfl | exact Or.inr rfl | omega | assumption) (by omega) (by omega) ?_
      exact hQ _ (by (try simp only [fn_unit] at *) <;> first | omega | ((repeat' split) <;> omega) | grind) (by first | exact Or.inl rfl | exact Or.inr rfl | omega | assumption)

set_option maxRecDepth 100000 in
theorem s_X4_isHigh {w : sg_W} {Q : sg_O → sg_H → Prop} {h : sg_H} (g : sg_G w) {d : Nat} (hd : 1 ≤ d) {x : Int} (hQ : ∀ z, z = fn_high x → (z = 0 ∨ z = 1) → Q (.inl (some (sg_i z))) h) : sg_C w mi_X4_isHigh d 0 0 [sg_i x] h Q := by
  refine sg_of (by decide +kernel) (Nat.le_of_ble_eq_true rfl) ?_
  refine sg_iload_n (pc := 0) (j := 0) dX4_isHigh_0 rfl rfl ?_
  refine sg_ldc (pc := 1) (z := 55296) g dX4_isHigh_1 cn_X4_12 (by decide) ?_
  refine sg_icmp_lt (pc := 3) (tgt := 16) dX4_isHigh_3 (by decide) (fun c3 => ?_) (fun c3 => ?_)
  · refine sg_iconst (pc := 16) (z := 0) dX4_isHigh_16 (by decide) ?_
    refine sg_zret (pc := 17) dX4_isHigh_17 rfl (by first | exact Or.inl rfl | exact Or.inr rfl | omega | assumption) (by omega) (by omega) ?_
    exact hQ _ (by (try simp only [fn_high] at *) <;> first | omega | ((repeat' split) <;> omega) | grind) (by first | exact Or.inl rfl | exact Or.inr rfl | omega | assumption)
  · refine sg_iload_n (pc := 6) (j := 0) dX4_isHigh_6 rfl rfl ?_
    refine sg_ldc (pc := 7) (z := 56320) g dX4_isHigh_7 cn_X4_13 (by decide) ?_
    refine sg_icmp_ge (pc := 9) (tgt := 16) dX4_isHigh_9 (by decide) (fun c9 => ?_) (fun c9 => ?_)
    · refine sg_iconst (pc := 16) (z := 0) dX4_isHigh_16 (by decide) ?_
      refine sg_zret (pc := 17) dX4_isHigh_17 rfl (by first | exact Or.inl rfl | exact Or.inr rfl | omega | assumption) (by omega) (by omega) ?_
      exact hQ _ (by (try simp only [fn_high] at *) <;> first | omega | ((repeat' split) <;> omega) | grind) (by first | exact Or.inl rfl | exact Or.inr rfl | omega | assumption)
    · refine sg_iconst (pc := 12) (z := 1) dX4_isHigh_12 (by decide) ?_
      refine sg_goto (pc := 13) (tgt := 17) dX4_isHigh_13 (by decide) ?_
      refine sg_zret (pc := 17) dX4_isHigh_17 rfl (by first | exact Or.inl rfl | exact Or.inr rfl | omega | assumption) (by omega) (by omega) ?_
      exact hQ _ (by (try simp only [fn_high] at *) <;> first | omega | ((repeat' split) <;> omega) | grind) (by first | exact Or.inl rfl | exact Or.inr rfl | omega | assumption)

set_option maxRecDepth 100000 in
theorem s_X4_isLow {w : sg_W} {Q : sg_O → sg_H → Prop} {h : sg_H} (g : sg_G w) {d : Nat} (hd : 1 ≤ d) {x : Int} (hQ : ∀ z, z = fn_low x → (z = 0 ∨ z = 1) → Q (.inl (some (sg_i z))) h) : sg_C w mi_X4_isLow d 0 0 [sg_i x] h Q := by
  refine sg_of (by decide +kernel) (Nat.le_of_ble_eq_true rfl) ?_
  refine sg_iload_n (pc := 0) (j := 0) dX4_isLow_0 rfl rfl ?_
  refine sg_ldc (pc := 1) (z := 56320) g dX4_isLow_1 cn_X4_13 (by decide) ?_
  refine sg_icmp_lt (pc := 3) (tgt := 16) dX4_isLow_3 (by decide) (fun c3 => ?_) (fun c3 => ?_)
  · refine sg_iconst (pc := 16) (z := 0) dX4_isLow_16 (by decide) ?_
    refine sg_zret (pc := 17) dX4_isLow_17 rfl (by first | exact Or.inl rfl | exact Or.inr rfl | omega | assumption) (by omega) (by omega) ?_
    exact hQ _ (by (try simp only [fn_low] at *) <;> first | omega | ((repeat' split) <;> omega) | grind) (by first | exact Or.inl rfl | exact Or.inr rfl | omega | assumption)
  · refine sg_iload_n (pc := 6) (j := 0) dX4_isLow_6 rfl rfl ?_
    refine sg_ldc (pc := 7) (z := 57344) g dX4_isLow_7 cn_X4_14 (by decide) ?_
    refine sg_icmp_ge (pc := 9) (tgt := 16) dX4_isLow_9 (by decide) (fun c9 => ?_) (fun c9 => ?_)
    · refine sg_iconst (pc := 16) (z := 0) dX4_isLow_16 (by decide) ?_
      refine sg_zret (pc := 17) dX4_isLow_17 rfl (by first | exact Or.inl rfl | exact Or.inr rfl | omega | assumption) (by omega) (by omega) ?_
      exact hQ _ (by (try simp only [fn_low] at *) <;> first | omega | ((repeat' split) <;> omega) | grind) (by first | exact Or.inl rfl | exact Or.inr rfl | omega | assumption)
    · refine sg_iconst (pc := 12) (z := 1) dX4_isLow_12 (by decide) ?_
      refine sg_goto (pc := 13) (tgt := 17) dX4_isLow_13 (by decide) ?_
      refine sg_zret (pc := 17) dX4_isLow_17 rfl (by first | exact Or.inl rfl | exact Or.inr rfl | omega | assumption) (by omega) (by omega) ?_
      exact hQ _ (by (try simp only [fn_low] at *) <;> first | omega | ((repeat' split) <;> omega) | grind) (by first | exact Or.inl rfl | exact Or.inr rfl | omega | assumption)

set_option maxRecDepth 100000 in
theorem s_X4_isHalf {w : sg_W} {Q : sg_O → sg_H → Prop} {h : sg_H} (g : sg_G w) {d : Nat} (hd : 2 ≤ d) {x : Int} (hQ : ∀ z, z = fn_half x → (z = 0 ∨ z = 1) → Q (.inl (some (sg_i z))) h) : sg_C w mi_X4_isHalf d 0 0 [sg_i x] h Q := by
  refine sg_of (by decide +kernel) (Nat.le_of_ble_eq_true rfl) ?_
  refine sg_iload_n (pc := 0) (j := 0) dX4_isHalf_0 rfl rfl ?_
  refine sg_cS1 (pc := 1) (d' := d - 1) (mc' := 0) (ms' := 0) g dX4_isHalf_1 cb_X4_isHigh ml_X4_15 ms_X4_isHigh (Nat.le_of_ble_eq_true rfl) (by omega) (by omega) (by omega) ?_
  refine s_X4_isHigh g (by omega) (fun z1 h1 b1 => sg_K1 ?_)
  (try simp only [fn_half, fn_high, fn_low] at h1)
  refine sg_if_ne (pc := 4) (tgt := 14) dX4_isHalf_4 (by decide) (fun c4 => ?_) (fun c4 => ?_)
  · refine sg_iconst (pc := 14) (z := 1) dX4_isHalf_14 (by decide) ?_
    refine sg_goto (pc := 15) (tgt := 19) dX4_isHalf_15 (by decide) ?_
    refine sg_zret (pc := 19) dX4_isHalf_19 rfl (by first | exact Or.inl rfl | exact Or.inr rfl | omega | assumption) (by omega) (by omega) ?_
    exact hQ _ (by (try simp only [fn_half, fn_high, fn_low] at *) <;> first | omega | ((repeat' split) <;> omega) | grind) (by first | exact Or.inl rfl | exact Or.inr rfl | omega | assumption)
  · refine sg_iload_n (pc := 7) (j := 0) dX4_isHalf_7 rfl rfl ?_
    refine sg_cS1 (pc := 8) (d' := d - 1) (mc' := 0) (ms' := 0) g dX4_isHalf_8 cb_X4_isLow ml_X4_19 ms_X4_isLow (Nat.le_of_ble_eq_true rfl) (by omega) (by omega) (by omega) ?_
    refine s_X4_isLow g (by omega) (fun z8 h8 b8 => sg_K1 ?_)
    (try simp only [fn_half, fn_high, fn_low] at h8)
    refine sg_if_eq (pc := 11) (tgt := 18) dX4_isHalf_11 (by decide) (fun c11 => ?_) (fun c11 => ?_)
    · refine sg_iconst (pc := 18) (z := 0) dX4_isHalf_18 (by decide) ?_
      refine sg_zret (pc := 19) dX4_isHalf_19 rfl (by first | exact Or.inl rfl | exact Or.inr rfl | omega | assumption) (by omega) (by omega) ?_
      exact hQ _ (by (try simp only [fn_half, fn_high, fn_low] at *) <;> first | omega | ((repeat' split) <;> omega) | grind) (by first | exact Or.inl rfl | exact Or.inr rfl | omega | assumption)
    · refine sg_iconst (pc := 14) (z := 1) dX4_isHalf_14 (by decide) ?_
      refine sg_goto (pc := 15) (tgt := 19) dX4_isHalf_15 (by decide) ?_
      refine sg_zret (pc := 19) dX4_isHalf_19 rfl (by first | exact Or.inl rfl | exact Or.inr rfl | omega | assumption) (by omega) (by omega) ?_
      exact hQ _ (by (try simp only [fn_half, fn_high, fn_low] at *) <;> first | omega | ((repeat' split) <;> omega) | grind) (by first | exact Or.inl rfl | exact Or.inr rfl | omega | assumption)

set_option maxRecDepth 100000 in
theorem s_X4_isAnyCode {w : sg_W} {Q : sg_O → sg_H → Prop} {h : sg_H} (g : sg_G w) {d : Nat} (hd : 1 ≤ d) {x : Int} (hQ : ∀ z, z = fn_code x → (z = 0 ∨ z = 1) → Q (.inl (some (sg_i z))) h) : sg_C w mi_X4_isAnyCode d 0 0 [sg_i x] h Q := by
  refine sg_of (by decide +kernel) (Nat.le_of_ble_eq_true rfl) ?_
  refine sg_iload_n (pc := 0) (j := 0) dX4_isAnyCode_0 rfl rfl ?_
  refine sg_if_lt (pc := 1) (tgt := 14) dX4_isAnyCode_1 (by decide) (fun c1 => ?_) (fun c1 => ?_)
  · refine sg_iconst (pc := 14) (z := 0) dX4_isAnyCode_14 (by decide) ?_
    refine sg_zret (pc := 15) dX4_isAnyCode_15 rfl (by first | exact Or.inl rfl | exact Or.inr rfl | omega | assumption) (by omega) (by omega) ?_
    exact hQ _ (by (try simp only [fn_code] at *) <;> first | omega | ((repeat' split) <;> omega) | grind) (by first | exact Or.inl rfl | exact Or.inr rfl | omega | assumption)
  · refine sg_iload_n (pc := 4) (j := 0) dX4_isAnyCode_4 rfl rfl ?_
    refine sg_ldc (pc := 5) (z := 1114111) g dX4_isAnyCode_5 cn_X4_22 (by decide) ?_
    refine sg_icmp_gt (pc := 7) (tgt := 14) dX4_isAnyCode_7 (by decide) (fun c7 => ?_) (fun c7 => ?_)
    · refine sg_iconst (pc := 14) (z := 0) dX4_isAnyCode_14 (by decide) ?_
      refine sg_zret (pc := 15) dX4_isAnyCode_15 rfl (by first | exact Or.inl rfl | exact Or.inr rfl | omega | assumption) (by omega) (by omega) ?_
      exact hQ _ (by (try simp only [fn_code] at *) <;> first | omega | ((repeat' split) <;> omega) | grind) (by first | exact Or.inl rfl | exact Or.inr rfl | omega | assumption)
    · refine sg_iconst (pc := 10) (z := 1) dX4_isAnyCode_10 (by decide) ?_
      refine sg_goto (pc := 11) (tgt := 15) dX4_isAnyCode_11 (by decide) ?_
      refine sg_zret (pc := 15) dX4_isAnyCode_15 rfl (by first | exact Or.inl rfl | exact Or.inr rfl | omega | assumption) (by omega) (by omega) ?_
      exact hQ _ (by (try simp only [fn_code] at *) <;> first | omega | ((repeat' split) <;> omega) | grind) (by first | exact Or.inl rfl | exact Or.inr rfl | omega | assumption)

set_option maxRecDepth 100000 in
theorem s_X4_isWideCode {w : sg_W} {Q : sg_O → sg_H → Prop} {h : sg_H} (g : sg_G w) {d : Nat} (hd : 1 ≤ d) {x : Int} (hQ : ∀ z, z = fn_wide x → (z = 0 ∨ z = 1) → Q (.inl (some (sg_i z))) h) : sg_C w mi_X4_isWideCode d 0 0 [sg_i x] h Q := by
  refine sg_of (by decide +kernel) (Nat.le_of_ble_eq_true rfl) ?_
  refine sg_iload_n (pc := 0) (j := 0) dX4_isWideCode_0 rfl rfl ?_
  refine sg_ldc (pc := 1) (z := 65536) g dX4_isWideCode_1 cn_X4_11 (by decide) ?_
  refine sg_icmp_lt (pc := 3) (tgt := 16) dX4_isWideCode_3 (by decide) (fun c3 => ?_) (fun c3 => ?_)
  · refine sg_iconst (pc := 16) (z := 0) dX4_isWideCode_16 (by decide) ?_
    refine sg_zret (pc := 17) dX4_isWideCode_17 rfl (by first | exact Or.inl rfl | exact Or.inr rfl | omega | assumption) (by omega) (by omega) ?_
    exact hQ _ (by (try simp only [fn_wide] at *) <;> first | omega | ((repeat' split) <;> omega) | grind) (by first | exact Or.inl rfl | exact Or.inr rfl | omega | assumption)
  · refine sg_iload_n (pc := 6) (j := 0) dX4_isWideCode_6 rfl rfl ?_
    refine sg_ldc (pc := 7) (z := 1114111) g dX4_isWideCode_7 cn_X4_22 (by decide) ?_
    refine sg_icmp_gt (pc := 9) (tgt := 16) dX4_isWideCode_9 (by decide) (fun c9 => ?_) (fun c9 => ?_)
    · refine sg_iconst (pc := 16) (z := 0) dX4_isWideCode_16 (by decide) ?_
      refine sg_zret (pc := 17) dX4_isWideCode_17 rfl (by first | exact Or.inl rfl | exact Or.inr rfl | omega | assumption) (by omega) (by omega) ?_
      exact hQ _ (by (try simp only [fn_wide] at *) <;> first | omega | ((repeat' split) <;> omega) | grind) (by first | exact Or.inl rfl | exact Or.inr rfl | omega | assumption)
    · refine sg_iconst (pc := 12) (z := 1) dX4_isWideCode_12 (by decide) ?_
      refine sg_goto (pc := 13) (tgt := 17) dX4_isWideCode_13 (by decide) ?_
      refine sg_zret (pc := 17) dX4_isWideCode_17 rfl (by first | exact Or.inl rfl | exact Or.inr rfl | omega | assumption) (by omega) (by omega) ?_
      exact hQ _ (by (try simp only [fn_wide] at *) <;> first | omega | ((repeat' split) <;> omega) | grind) (by first | exact Or.inl rfl | exact Or.inr rfl | omega | assumption)

set_option maxRecDepth 100000 in
theorem s_X4_unitsOf {w : sg_W} {Q : sg_O → sg_H → Prop} {h : sg_H} (g : sg_G w) {d : Nat} (hd : 1 ≤ d) {x : Int} (hQ : ∀ z, z = fn_units x → Q (.inl (some (sg_i z))) h) : sg_C w mi_X4_unitsOf d 0 0 [sg_i x] h Q := by
  refine sg_of (by decide +kernel) (Nat.le_of_ble_eq_true rfl) ?_
  refine sg_iload_n (pc := 0) (j := 0) dX4_unitsOf_0 rfl rfl ?_
  refine sg_ldc (pc := 1) (z := 65536) g dX4_unitsOf_1 cn_X4_11 (by decide) ?_
  refine sg_icmp_lt (pc := 3) (tgt := 10) dX4_unitsOf_3 (by decide) (fun c3 => ?_) (fun c3 => ?_)
  · refine sg_iconst (pc := 10) (z := 1) dX4_unitsOf_10 (by decide) ?_
    refine sg_iret (pc := 11) dX4_unitsOf_11 rfl (by omega) (by omega) ?_
    exact hQ _ (by (try simp only [fn_units] at *) <;> first | omega | ((repeat' split) <;> omega) | grind)
  · refine sg_iconst (pc := 6) (z := 2) dX4_unitsOf_6 (by decide) ?_
    refine sg_goto (pc := 7) (tgt := 11) dX4_unitsOf_7 (by decide) ?_
    refine sg_iret (pc := 11) dX4_unitsOf_11 rfl (by omega) (by omega) ?_
    exact hQ _ (by (try simp only [fn_units] at *) <;> first | omega | ((repeat' split) <;> omega) | grind)
end
section
/-! THE CLASS'S CELLS: 110 of them from B on, each of its kind (1 a Line, 2 its numbers, 3 a State, 4 its rows, 5 its tracks, 6 the Past, 7 its states, 0 the object) -/
def ck_st : List (Nat × Nat) := [(3, 0), (4, 0), (5, 0), (1, 40), (2, 40), (1, 40), (2, 40), (1, 40), (2, 40), (1, 40), (2, 40), (1, 24), (2, 24), (1, 24), (2, 24)]
def ck_tb : List (Nat × Nat) := [(0, 0)] ++ ck_st ++ [(6, 0), (7, 0)] ++ ck_st ++ ck_st ++ ck_st ++ ck_st ++ ck_st ++ ck_st ++ [(1, 24), (2, 24)]
def ck (i : Nat) : Nat × Nat := ck_tb.getD i (9, 0)
def ck_ok (B i : Nat) (e : sg_E) : Prop := match (ck i).1 with
  | 0 => ∃ z : Int, e = (6, [sg_r (B + 1), sg_r (B + 16), sg_r (B + 108), sg_i z])
  | 1 => ∃ z : Int, 0 ≤ z ∧ z ≤ ((ck i).2 : Int) ∧ e = (3, [sg_r (B + i + 1), sg_i z])
  | 2 => ∃ zs : List Int, zs.length = (ck i).2 ∧ e = (100, zs.map sg_i)
  | 3 => e = (5, [sg_r (B + i + 1), sg_r (B + i + 2)])
  | 4 => e = (111, [sg_r (B + i + 2), sg_r (B + i + 4), sg_r (B + i + 6), sg_r (B + i + 8)])
  | 5 => e = (111, [sg_r (B + i + 9), sg_r (B + i + 11)])
  | 6 => ∃ z : Int, e = (4, [sg_r (B + 17), sg_i z])
  | 7 => ∃ f : List Nat, f.length = 6 ∧ (∀ x ∈ f, x < 110 ∧ (ck x).1 = 3) ∧ e = (112, f.map fun x => sg_r (B + x))
  | _ => False
def ck_X (h : sg_H) (B : Nat) : Prop := ∀ i, i < 110 → ∃ e, h.2 (B + i) = some e ∧ ck_ok B i e
/-- nothing but the class's cells has changed -/
def ck_F (B : Nat) (h h' : sg_H) : Prop := h.1 ≤ h'.1 ∧ ∀ q, (q < B ∨ B + 110 ≤ q) → h'.2 q = h.2 q
theorem ck_F0 {B : Nat} {h : sg_H} : ck_F B h h := ⟨Nat.le_refl _, fun _ _ => rfl⟩
theorem ck_Ft {B : Nat} {h h' h'' : sg_H} (a : ck_F B h h') (b : ck_F B h' h'') : ck_F B h h'' := ⟨Nat.le_trans a.1 b.1, fun q hq => (b.2 q hq).trans (a.2 q hq)⟩
theorem ck_put {B i : Nat} {h : sg_H} {e : sg_E} (hx : ck_X h B) (hi : i < 110) (he : ck_ok B i e) : ck_X (h.1, sg_up h.2 (B + i) e) B ∧ ck_F B h (h.1, sg_up h.2 (B + i) e) := by
  refine ⟨fun j hj => ?_, Nat.le_refl _, fun q hq => sg_up_n (by omega)⟩
  by_cases c : j = i
  · subst c
    exact ⟨e, sg_up_s, he⟩
  · obtain ⟨e', h1, h2⟩ := hx j hj
    exact ⟨e', by rw [← h1]; exact sg_up_n (by omega), h2⟩
def ck_L (B a c : Nat) : Prop := ∃ i, i < 110 ∧ a = B + i ∧ ck i = (1, c)
theorem ck_nx : ∀ i, i < 110 → (ck i).1 = 1 → ck (i + 1) = (2, (ck i).2) ∧ i + 1 < 110 ∧ (ck i).2 ≤ 40 := by decide +kernel
theorem ck_ln {B a c : Nat} {h : sg_H} (hx : ck_X h B) (hl : ck_L B a c) : ∃ (n : Int) (zs : List Int), 0 ≤ n ∧ n ≤ (c : Int) ∧ c ≤ 40 ∧ zs.length = c ∧ (zs.map sg_i).length = c ∧ h.2 a = some (3, [sg_r (a + 1), sg_i n]) ∧ h.2 (a + 1) = some (100, zs.map sg_i) := by
  obtain ⟨i, hi, rfl, hc⟩ := hl
  obtain ⟨h2, h3, h4⟩ := ck_nx i hi (by rw [hc])
  obtain ⟨e, e1, e2⟩ := hx i hi
  obtain ⟨f, f1, f2⟩ := hx (i + 1) h3
  unfold ck_ok at e2 f2
  rw [hc] at e2
  rw [h2, hc] at f2
  rw [hc] at h4
  obtain ⟨z, z1, z2, rfl⟩ := e2
  obtain ⟨zs, z3, rfl⟩ := f2
  exact ⟨z, zs, z1, z2, h4, z3, by rw [List.length_map]; exact z3, e1, f1⟩
theorem ck_at {zs : List Int} {j : Nat} (h : j < zs.length) : (zs.map sg_i)[j]? = some (sg_i zs[j]) := by simp [h]
section
variable {w : sg_W} {mi : sg_M} {d mc ms : Nat} {Q : sg_O → sg_H → Prop} {pc : Nat} {lv : List (Nat × sg_V)} {st : List sg_V} {h : sg_H} {k n : Nat} {B a c : Nat} {m : Int} {zs : List Int}
theorem sg_alenN {N t : Nat} {vs : List sg_V} (hd : decode mi.2.1 pc = .ok (.arraylength, 1)) (ha : h.2 a = some (t, vs)) (ht : 100 ≤ t % 200) (hl : vs.length = N) (hN : N < 2147483648) (K : sg_R w mi d mc ms Q (pc + 1) lv (sg_i (N : Int) :: st) h k n) : sg_R w mi d mc ms Q pc lv (sg_r a :: st) h k n := by
  subst hl
  exact sg_alen hd ha ht hN K
theorem ck_ast {z x : Int} (hd : decode mi.2.1 pc = .ok (.iastore, 1)) (hx : ck_X h B) (hl : ck_L B a c) (hA : h.2 a = some (3, [sg_r (a + 1), sg_i m])) (hN : h.2 (a + 1) = some (100, zs.map sg_i)) (hz : zs.length = c) (h0 : 0 ≤ z) (h1 : z.toNat < c)
    (K : ∀ h' : sg_H, ck_X h' B → ck_F B h h' → h'.2 a = some (3, [sg_r (a + 1), sg_i m]) → sg_R w mi d mc ms Q (pc + 1) lv st h' k n) : sg_R w mi d mc ms Q pc lv (sg_i x :: sg_i z :: sg_r (a + 1) :: st) h k n := by
  refine sg_iast hd hN h0 (by rw [List.length_map, hz]; exact h1) ?_
  obtain ⟨i, hi, rfl, hc⟩ := hl
  obtain ⟨h2, h3, -⟩ := ck_nx i hi (by rw [hc])
  have hok : ck_ok B (i + 1) (100, (zs.map sg_i).set z.toNat (sg_i x)) := by
    unfold ck_ok
    rw [h2, hc]
    exact ⟨zs.set z.toNat x, by rw [List.length_set]; exact hz, by rw [List.map_set]⟩
  obtain ⟨p1, p2⟩ := ck_put hx h3 hok
  exact K _ p1 p2 ((sg_up_n (by omega)).trans hA)
theorem ck_psz {z : Int} {idx : Nat} (g : sg_G w) (hd : decode mi.2.1 pc = .ok (.putfield idx, 3)) (hf : sg_fk mi.1.cls idx 3 1 false .int) (hx : ck_X h B) (hl : ck_L B a c) (hA : h.2 a = some (3, [sg_r (a + 1), sg_i m])) (h0 : 0 ≤ z) (h1 : z ≤ (c : Int))
    (K : ∀ h' : sg_H, ck_X h' B → ck_F B h h' → sg_R w mi d mc ms Q (pc + 3) lv st h' k n) : sg_R w mi d mc ms Q pc lv (sg_i z :: sg_r a :: st) h k n := by
  refine sg_putf g hd hf hA sg_ft_i ?_
  obtain ⟨i, hi, rfl, hc⟩ := hl
  have hok : ck_ok B i (3, [sg_r (B + i + 1), sg_i z]) := by
    unfold ck_ok
    rw [hc]
    exact ⟨z, h0, h1, rfl⟩
  obtain ⟨p1, p2⟩ := ck_put hx hi hok
  exact K _ p1 p2
end
end
section
set_option maxRecDepth 100000 in
theorem s_X0_size {w : sg_W} {Q : sg_O → sg_H → Prop} {h : sg_H} (g : sg_G w) {d : Nat} (hd : 1 ≤ d) {B a c : Nat} (hx : ck_X h B) (hl : ck_L B a c) (hQ : ∀ z : Int, 0 ≤ z → z ≤ (c : Int) → Q (.inl (some (sg_i z))) h) : sg_C w mi_X0_size d 0 0 [sg_r a] h Q := by
  refine sg_of (by decide +kernel) (Nat.le_of_ble_eq_true rfl) ?_
  obtain ⟨n, zs, n0, n1, c40, hz, hzm, hA, hN⟩ := ck_ln hx hl
  refine sg_aload_n (pc := 0) (j := 0) dX0_size_0 rfl rfl ?_
  refine sg_getf (pc := 1) g dX0_size_1 fk_X0_15 hA rfl rfl ?_
  refine sg_iret (pc := 4) dX0_size_4 rfl (by omega) (by omega) ?_
  exact hQ _ n0 n1

set_option maxRecDepth 100000 in
theorem s_X0_hasPlace {w : sg_W} {Q : sg_O → sg_H → Prop} {h : sg_H} (g : sg_G w) {d : Nat} (hd : 1 ≤ d) {B a c : Nat} (hx : ck_X h B) (hl : ck_L B a c) {p : Int} (hQ : ∀ z : Int, (z = 0 ∨ z = 1) → (z ≠ 0 → 0 ≤ p ∧ p < (c : Int)) → Q (.inl (some (sg_i z))) h) : sg_C w mi_X0_hasPlace d 0 0 [sg_r a, sg_i p] h Q := by
  refine sg_of (by decide +kernel) (Nat.le_of_ble_eq_true rfl) ?_
  obtain ⟨n, zs, n0, n1, c40, hz, hzm, hA, hN⟩ := ck_ln hx hl
  refine sg_iload_n (pc := 0) (j := 1) dX0_hasPlace_0 rfl rfl ?_
  refine sg_if_lt (pc := 1) (tgt := 25) dX0_hasPlace_1 (by decide) (fun c1 => ?_) (fun c1 => ?_)
  · refine sg_iconst (pc := 25) (z := 0) dX0_hasPlace_25 (by decide) ?_
    refine sg_zret (pc := 26) dX0_hasPlace_26 rfl (by first | exact Or.inl rfl | exact Or.inr rfl | omega | assumption) (by omega) (by omega) ?_
    exact hQ _ (by omega) (by omega)
  · refine sg_iload_n (pc := 4) (j := 1) dX0_hasPlace_4 rfl rfl ?_
    refine sg_aload_n (pc := 5) (j := 0) dX0_hasPlace_5 rfl rfl ?_
    refine sg_getf (pc := 6) g dX0_hasPlace_6 fk_X0_15 hA rfl rfl ?_
    refine sg_icmp_ge (pc := 9) (tgt := 25) dX0_hasPlace_9 (by decide) (fun c9 => ?_) (fun c9 => ?_)
    · refine sg_iconst (pc := 25) (z := 0) dX0_hasPlace_25 (by decide) ?_
      refine sg_zret (pc := 26) dX0_hasPlace_26 rfl (by first | exact Or.inl rfl | exact Or.inr rfl | omega | assumption) (by omega) (by omega) ?_
      exact hQ _ (by omega) (by omega)
    · refine sg_iload_n (pc := 12) (j := 1) dX0_hasPlace_12 rfl rfl ?_
      refine sg_aload_n (pc := 13) (j := 0) dX0_hasPlace_13 rfl rfl ?_
      refine sg_getf (pc := 14) g dX0_hasPlace_14 fk_X0_9 hA rfl rfl ?_
      refine sg_alenN (pc := 17) dX0_hasPlace_17 hN (Nat.le_of_ble_eq_true rfl) hzm (by omega) ?_
      refine sg_icmp_ge (pc := 18) (tgt := 25) dX0_hasPlace_18 (by decide) (fun c18 => ?_) (fun c18 => ?_)
      · refine sg_iconst (pc := 25) (z := 0) dX0_hasPlace_25 (by decide) ?_
        refine sg_zret (pc := 26) dX0_hasPlace_26 rfl (by first | exact Or.inl rfl | exact Or.inr rfl | omega | assumption) (by omega) (by omega) ?_
        exact hQ _ (by omega) (by omega)
      · refine sg_iconst (pc := 21) (z := 1) dX0_hasPlace_21 (by decide) ?_
        refine sg_goto (pc := 22) (tgt := 26) dX0_hasPlace_22 (by decide) ?_
        refine sg_zret (pc := 26) dX0_hasPlace_26 rfl (by first | exact Or.inl rfl | exact Or.inr rfl | omega | assumption) (by omega) (by omega) ?_
        exact hQ _ (by omega) (by omega)

set_option maxRecDepth 100000 in
theorem s_X0_hasRoomFor {w : sg_W} {Q : sg_O → sg_H → Prop} {h : sg_H} (g : sg_G w) {d : Nat} (hd : 1 ≤ d) {B a c : Nat} (hx : ck_X h B) (hl : ck_L B a c) {p : Int} (hQ : ∀ z : Int, (z = 0 ∨ z = 1) → Q (.inl (some (sg_i z))) h) : sg_C w mi_X0_hasRoomFor d 0 0 [sg_r a, sg_i p] h Q := by
  refine sg_of (by decide +kernel) (Nat.le_of_ble_eq_true rfl) ?_
  obtain ⟨n, zs, n0, n1, c40, hz, hzm, hA, hN⟩ := ck_ln hx hl
  refine sg_iload_n (pc := 0) (j := 1) dX0_hasRoomFor_0 rfl rfl ?_
  refine sg_aload_n (pc := 1) (j := 0) dX0_hasRoomFor_1 rfl rfl ?_
  refine sg_getf (pc := 2) g dX0_hasRoomFor_2 fk_X0_9 hA rfl rfl ?_
  refine sg_alenN (pc := 5) dX0_hasRoomFor_5 hN (Nat.le_of_ble_eq_true rfl) hzm (by omega) ?_
  refine sg_aload_n (pc := 6) (j := 0) dX0_hasRoomFor_6 rfl rfl ?_
  refine sg_getf (pc := 7) g dX0_hasRoomFor_7 fk_X0_15 hA rfl rfl ?_
  first | refine sg_isubB (pc := 10) dX0_hasRoomFor_10 (by omega) (by omega) ?_ | refine sg_isub (pc := 10) dX0_hasRoomFor_10 ?_
  refine sg_icmp_gt (pc := 11) (tgt := 18) dX0_hasRoomFor_11 (by decide) (fun c11 => ?_) (fun c11 => ?_)
  · refine sg_iconst (pc := 18) (z := 0) dX0_hasRoomFor_18 (by decide) ?_
    refine sg_zret (pc := 19) dX0_hasRoomFor_19 rfl (by first | exact Or.inl rfl | exact Or.inr rfl | omega | assumption) (by omega) (by omega) ?_
    exact hQ _ (by omega)
  · refine sg_iconst (pc := 14) (z := 1) dX0_hasRoomFor_14 (by decide) ?_
    refine sg_goto (pc := 15) (tgt := 19) dX0_hasRoomFor_15 (by decide) ?_
    refine sg_zret (pc := 19) dX0_hasRoomFor_19 rfl (by first | exact Or.inl rfl | exact Or.inr rfl | omega | assumption) (by omega) (by omega) ?_
    exact hQ _ (by omega)

set_option maxRecDepth 100000 in
theorem s_X0_get {w : sg_W} {Q : sg_O → sg_H → Prop} {h : sg_H} (g : sg_G w) {d : Nat} (hd : 2 ≤ d) {B a c : Nat} (hx : ck_X h B) (hl : ck_L B a c) {p : Int} (hQ : ∀ z : Int, Q (.inl (some (sg_i z))) h) : sg_C w mi_X0_get d 0 0 [sg_r a, sg_i p] h Q := by
  refine sg_of (by decide +kernel) (Nat.le_of_ble_eq_true rfl) ?_
  obtain ⟨n, zs, n0, n1, c40, hz, hzm, hA, hN⟩ := ck_ln hx hl
  refine sg_aload_n (pc := 0) (j := 0) dX0_get_0 rfl rfl ?_
  refine sg_iload_n (pc := 1) (j := 1) dX0_get_1 rfl rfl ?_
  refine sg_cV1 (pc := 2) (d' := d - 1) (mc' := 0) (ms' := 0) g dX0_get_2 cb_X0_hasPlace ml_X0_19 mn_X0_hasPlace mv_X0_hasPlace hA (Nat.le_of_ble_eq_true rfl) rfl (Nat.le_of_ble_eq_true rfl) (by omega) (by omega) (by omega) ?_
  refine s_X0_hasPlace g (by omega) hx hl (fun z2 b2 i2 => sg_K1 ?_)
  refine sg_if_eq (pc := 5) (tgt := 17) dX0_get_5 (by decide) (fun c5 => ?_) (fun c5 => ?_)
  · refine sg_iconst (pc := 17) (z := -1) dX0_get_17 (by decide) ?_
    refine sg_iret (pc := 18) dX0_get_18 rfl (by omega) (by omega) ?_
    exact hQ _
  · refine sg_aload_n (pc := 8) (j := 0) dX0_get_8 rfl rfl ?_
    refine sg_getf (pc := 9) g dX0_get_9 fk_X0_9 hA rfl rfl ?_
    refine sg_iload_n (pc := 12) (j := 1) dX0_get_12 rfl rfl ?_
    refine sg_iald (pc := 13) dX0_get_13 hN rfl (by omega) (ck_at (by rw [hz]; omega)) ?_
    refine sg_goto (pc := 14) (tgt := 18) dX0_get_14 (by decide) ?_
    refine sg_iret (pc := 18) dX0_get_18 rfl (by omega) (by omega) ?_
    exact hQ _

set_option maxRecDepth 100000 in
theorem s_X0_set {w : sg_W} {Q : sg_O → sg_H → Prop} {h : sg_H} (g : sg_G w) {d : Nat} (hd : 2 ≤ d) {B a c : Nat} (hx : ck_X h B) (hl : ck_L B a c) {p v : Int} (hQ : ∀ h' : sg_H, ck_X h' B → ck_F B h h' → Q (.inl none) h') : sg_C w mi_X0_set d 0 0 [sg_r a, sg_i p, sg_i v] h Q := by
  refine sg_of (by decide +kernel) (Nat.le_of_ble_eq_true rfl) ?_
  obtain ⟨n, zs, n0, n1, c40, hz, hzm, hA, hN⟩ := ck_ln hx hl
  refine sg_aload_n (pc := 0) (j := 0) dX0_set_0 rfl rfl ?_
  refine sg_iload_n (pc := 1) (j := 1) dX0_set_1 rfl rfl ?_
  refine sg_cV1 (pc := 2) (d' := d - 1) (mc' := 0) (ms' := 0) g dX0_set_2 cb_X0_hasPlace ml_X0_19 mn_X0_hasPlace mv_X0_hasPlace hA (Nat.le_of_ble_eq_true rfl) rfl (Nat.le_of_ble_eq_true rfl) (by omega) (by omega) (by omega) ?_
  refine s_X0_hasPlace g (by omega) hx hl (fun z2 b2 i2 => sg_K1 ?_)
  refine sg_if_eq (pc := 5) (tgt := 15) dX0_set_5 (by decide) (fun c5 => ?_) (fun c5 => ?_)
  · refine sg_vret (pc := 15) dX0_set_15 rfl (by omega) (by omega) ?_
    exact hQ _ (by assumption) (by first | assumption | exact ck_F0)
  · refine sg_aload_n (pc := 8) (j := 0) dX0_set_8 rfl rfl ?_
    refine sg_getf (pc := 9) g dX0_set_9 fk_X0_9 hA rfl rfl ?_
    refine sg_iload_n (pc := 12) (j := 1) dX0_set_12 rfl rfl ?_
    refine sg_iload_n (pc := 13) (j := 2) dX0_set_13 rfl rfl ?_
    refine ck_ast (pc := 14) dX0_set_14 hx hl hA hN hz (by omega) (by omega) (fun h' hx' hf' hA' => ?_)
    refine sg_vret (pc := 15) dX0_set_15 rfl (by omega) (by omega) ?_
    exact hQ _ (by assumption) (by first | assumption | exact ck_F0)

set_option maxRecDepth 100000 in
theorem s_X0_add {w : sg_W} {Q : sg_O → sg_H → Prop} {h : sg_H} (g : sg_G w) {d : Nat} (hd : 1 ≤ d) {B a c : Nat} (hx : ck_X h B) (hl : ck_L B a c) {v : Int} (hQ : ∀ h' : sg_H, ck_X h' B → ck_F B h h' → Q (.inl none) h') : sg_C w mi_X0_add d 0 0 [sg_r a, sg_i v] h Q := by
  refine sg_of (by decide +kernel) (Nat.le_of_ble_eq_true rfl) ?_
  obtain ⟨n, zs, n0, n1, c40, hz, hzm, hA, hN⟩ := ck_ln hx hl
  refine sg_aload_n (pc := 0) (j := 0) dX0_add_0 rfl rfl ?_
  refine sg_getf (pc := 1) g dX0_add_1 fk_X0_15 hA rfl rfl ?_
  refine sg_if_lt (pc := 4) (tgt := 39) dX0_add_4 (by decide) (fun c4 => ?_) (fun c4 => ?_)
  · refine sg_vret (pc := 39) dX0_add_39 rfl (by omega) (by omega) ?_
    first | exact hQ _ hx2 (ck_Ft hf' hf2) | exact hQ _ hx ck_F0
  · refine sg_aload_n (pc := 7) (j := 0) dX0_add_7 rfl rfl ?_
    refine sg_getf (pc := 8) g dX0_add_8 fk_X0_15 hA rfl rfl ?_
    refine sg_aload_n (pc := 11) (j := 0) dX0_add_11 rfl rfl ?_
    refine sg_getf (pc := 12) g dX0_add_12 fk_X0_9 hA rfl rfl ?_
    refine sg_alenN (pc := 15) dX0_add_15 hN (Nat.le_of_ble_eq_true rfl) hzm (by omega) ?_
    refine sg_icmp_ge (pc := 16) (tgt := 39) dX0_add_16 (by decide) (fun c16 => ?_) (fun c16 => ?_)
    · refine sg_vret (pc := 39) dX0_add_39 rfl (by omega) (by omega) ?_
      first | exact hQ _ hx2 (ck_Ft hf' hf2) | exact hQ _ hx ck_F0
    · refine sg_aload_n (pc := 19) (j := 0) dX0_add_19 rfl rfl ?_
      refine sg_getf (pc := 20) g dX0_add_20 fk_X0_9 hA rfl rfl ?_
      refine sg_aload_n (pc := 23) (j := 0) dX0_add_23 rfl rfl ?_
      refine sg_getf (pc := 24) g dX0_add_24 fk_X0_15 hA rfl rfl ?_
      refine sg_iload_n (pc := 27) (j := 1) dX0_add_27 rfl rfl ?_
      refine ck_ast (pc := 28) dX0_add_28 hx hl hA hN hz (by omega) (by omega) (fun h' hx' hf' hA' => ?_)
      refine sg_aload_n (pc := 29) (j := 0) dX0_add_29 rfl rfl ?_
      refine sg_dup (pc := 30) dX0_add_30 rfl ?_
      refine sg_getf (pc := 31) g dX0_add_31 fk_X0_15 hA' rfl rfl ?_
      refine sg_iconst (pc := 34) (z := 1) dX0_add_34 (by decide) ?_
      first | refine sg_iaddB (pc := 35) dX0_add_35 (by omega) (by omega) ?_ | refine sg_iadd (pc := 35) dX0_add_35 ?_
      refine ck_psz (pc := 36) g dX0_add_36 fk_X0_15 hx' hl hA' (by omega) (by omega) (fun h2 hx2 hf2 => ?_)
      refine sg_vret (pc := 39) dX0_add_39 rfl (by omega) (by omega) ?_
      first | exact hQ _ hx2 (ck_Ft hf' hf2) | exact hQ _ hx ck_F0

set_option maxRecDepth 100000 in
theorem s_X0_clear {w : sg_W} {Q : sg_O → sg_H → Prop} {h : sg_H} (g : sg_G w) {d : Nat} (hd : 1 ≤ d) {B a c : Nat} (hx : ck_X h B) (hl : ck_L B a c) (hQ : ∀ h' : sg_H, ck_X h' B → ck_F B h h' → Q (.inl none) h') : sg_C w mi_X0_clear d 0 0 [sg_r a] h Q := by
  refine sg_of (by decide +kernel) (Nat.le_of_ble_eq_true rfl) ?_
  obtain ⟨n, zs, n0, n1, c40, hz, hzm, hA, hN⟩ := ck_ln hx hl
  refine sg_aload_n (pc := 0) (j := 0) dX0_clear_0 rfl rfl ?_
  refine sg_iconst (pc := 1) (z := 0) dX0_clear_1 (by decide) ?_
  refine ck_psz (pc := 2) g dX0_clear_2 fk_X0_15 hx hl hA (by omega) (by omega) (fun h2 hx2 hf2 => ?_)
  refine sg_vret (pc := 5) dX0_clear_5 rfl (by omega) (by omega) ?_
  exact hQ _ hx2 hf2

set_option maxRecDepth 100000 in
theorem s_X0_takeAway {w : sg_W} {Q : sg_O → sg_H → Prop} {h : sg_H} (g : sg_G w) {d : Nat} (hd : 1 ≤ d) {B a c : Nat} (hx : ck_X h B) (hl : ck_L B a c) {v : Int} (hQ : ∀ h' : sg_H, ck_X h' B → ck_F B h h' → Q (.inl none) h') : sg_C w mi_X0_takeAway d 0 0 [sg_r a, sg_i v] h Q := by
  refine sg_of (by decide +kernel) (Nat.le_of_ble_eq_true rfl) ?_
  obtain ⟨n, zs, n0, n1, c40, hz, hzm, hA, hN⟩ := ck_ln hx hl
  refine sg_iload_n (pc := 0) (j := 1) dX0_takeAway_0 rfl rfl ?_
  refine sg_if_lt (pc := 1) (tgt := 22) dX0_takeAway_1 (by decide) (fun c1 => ?_) (fun c1 => ?_)
  · refine sg_vret (pc := 22) dX0_takeAway_22 rfl (by omega) (by omega) ?_
    first | exact hQ _ hx2 hf2 | exact hQ _ hx ck_F0
  · refine sg_iload_n (pc := 4) (j := 1) dX0_takeAway_4 rfl rfl ?_
    refine sg_aload_n (pc := 5) (j := 0) dX0_takeAway_5 rfl rfl ?_
    refine sg_getf (pc := 6) g dX0_takeAway_6 fk_X0_15 hA rfl rfl ?_
    refine sg_icmp_gt (pc := 9) (tgt := 22) dX0_takeAway_9 (by decide) (fun c9 => ?_) (fun c9 => ?_)
    · refine sg_vret (pc := 22) dX0_takeAway_22 rfl (by omega) (by omega) ?_
      first | exact hQ _ hx2 hf2 | exact hQ _ hx ck_F0
    · refine sg_aload_n (pc := 12) (j := 0) dX0_takeAway_12 rfl rfl ?_
      refine sg_dup (pc := 13) dX0_takeAway_13 rfl ?_
      refine sg_getf (pc := 14) g dX0_takeAway_14 fk_X0_15 hA rfl rfl ?_
      refine sg_iload_n (pc := 17) (j := 1) dX0_takeAway_17 rfl rfl ?_
      first | refine sg_isubB (pc := 18) dX0_takeAway_18 (by omega) (by omega) ?_ | refine sg_isub (pc := 18) dX0_takeAway_18 ?_
      refine ck_psz (pc := 19) g dX0_takeAway_19 fk_X0_15 hx hl hA (by omega) (by omega) (fun h2 hx2 hf2 => ?_)
      refine sg_vret (pc := 22) dX0_takeAway_22 rfl (by omega) (by omega) ?_
      first | exact hQ _ hx2 hf2 | exact hQ _ hx ck_F0

set_option maxRecDepth 100000 in
theorem s_X0_narrow {w : sg_W} {Q : sg_O → sg_H → Prop} {h : sg_H} (g : sg_G w) {d : Nat} (hd : 2 ≤ d) {B a c : Nat} (hx : ck_X h B) (hl : ck_L B a c) {b e : Int} (hQ : ∀ h' : sg_H, ck_X h' B → ck_F B h h' → Q (.inl none) h') : sg_C w mi_X0_narrow d 0 0 [sg_r a, sg_i b, sg_i e] h Q := by
  refine sg_of (by decide +kernel) (Nat.le_of_ble_eq_true rfl) ?_
  obtain ⟨n, zs, n0, n1, c40, hz, hzm, hA, hN⟩ := ck_ln hx hl
  refine sg_aload_n (pc := 0) (j := 0) dX0_narrow_0 rfl rfl ?_
  refine sg_iconst (pc := 1) (z := 0) dX0_narrow_1 (by decide) ?_
  refine ck_psz (pc := 2) g dX0_narrow_2 fk_X0_15 hx hl hA (by omega) (by omega) (fun h2 hx2 hf2 => ?_)
  refine sg_iload_n (pc := 5) (j := 1) dX0_narrow_5 rfl rfl ?_
  refine sg_istore_n (pc := 6) (j := 3) dX0_narrow_6 rfl (by decide) ?_
  have loop7 : ∀ (N : Nat) (h1 : sg_H) (p : Int), ck_X h1 B → ck_F B h h1 → ((c : Int) - p).toNat < N → sg_R w mi_X0_narrow d 0 0 Q 7 [(3, sg_i p), (0, sg_r a), (1, sg_i b), (2, sg_i e)] [] h1 0 0 := by
    intro N
    induction N with
    | zero => intro h1 p hx1 hf1 hm; exact absurd hm (Nat.not_lt_zero _)
    | succ N ih =>
      intro h1 p hx1 hf1 hm
      obtain ⟨n, zs, n0, n1, c40, hz, hzm, hA, hN⟩ := ck_ln hx1 hl
      refine sg_iload_n (pc := 7) (j := 3) dX0_narrow_7 rfl rfl ?_
      refine sg_if_lt (pc := 8) (tgt := 41) dX0_narrow_8 (by decide) (fun c8 => ?_) (fun c8 => ?_)
      · refine sg_vret (pc := 41) dX0_narrow_41 rfl (by omega) (by omega) ?_
        exact hQ _ hx1 hf1
      · refine sg_iload_n (pc := 11) (j := 3) dX0_narrow_11 rfl rfl ?_
        refine sg_iload_n (pc := 12) (j := 2) dX0_narrow_12 rfl rfl ?_
        refine sg_icmp_ge (pc := 13) (tgt := 41) dX0_narrow_13 (by decide) (fun c13 => ?_) (fun c13 => ?_)
        · refine sg_vret (pc := 41) dX0_narrow_41 rfl (by omega) (by omega) ?_
          exact hQ _ hx1 hf1
        · refine sg_iload_n (pc := 16) (j := 3) dX0_narrow_16 rfl rfl ?_
          refine sg_aload_n (pc := 17) (j := 0) dX0_narrow_17 rfl rfl ?_
          refine sg_getf (pc := 18) g dX0_narrow_18 fk_X0_9 hA rfl rfl ?_
          refine sg_alenN (pc := 21) dX0_narrow_21 hN (Nat.le_of_ble_eq_true rfl) hzm (by omega) ?_
          refine sg_icmp_ge (pc := 22) (tgt := 41) dX0_narrow_22 (by decide) (fun c22 => ?_) (fun c22 => ?_)
          · refine sg_vret (pc := 41) dX0_narrow_41 rfl (by omega) (by omega) ?_
            exact hQ _ hx1 hf1
          · refine sg_aload_n (pc := 25) (j := 0) dX0_narrow_25 rfl rfl ?_
            refine sg_aload_n (pc := 26) (j := 0) dX0_narrow_26 rfl rfl ?_
            refine sg_getf (pc := 27) g dX0_narrow_27 fk_X0_9 hA rfl rfl ?_
            refine sg_iload_n (pc := 30) (j := 3) dX0_narrow_30 rfl rfl ?_
            refine sg_iald (pc := 31) dX0_narrow_31 hN rfl (by omega) (ck_at (by rw [hz]; omega)) ?_
            refine sg_cV1 (pc := 32) (d' := d - 1) (mc' := 0) (ms' := 0) g dX0_narrow_32 cb_X0_add ml_X0_23 mn_X0_add mv_X0_add hA (Nat.le_of_ble_eq_true rfl) rfl (Nat.le_of_ble_eq_true rfl) (by omega) (by omega) (by omega) ?_
            refine s_X0_add g (by omega) hx1 hl (fun h32 x32 f32 => sg_K0 ?_)
            first | refine sg_iincB (pc := 35) dX0_narrow_35 rfl (by decide) (by decide) (by omega) (by omega) ?_ | refine sg_iinc (pc := 35) dX0_narrow_35 rfl (by decide) (by decide) ?_
            refine sg_goto (pc := 38) (tgt := 7) dX0_narrow_38 (by decide) ?_
            refine sg_lsub (lv' := [(3, _), (0, _), (1, _), (2, _)]) ⟨rfl, rfl, rfl, rfl, trivial⟩ ?_
            exact ih _ _ x32 (ck_Ft hf1 f32) (by omega)
  refine sg_lsub (lv' := [(3, _), (0, _), (1, _), (2, _)]) ⟨rfl, rfl, rfl, rfl, trivial⟩ ?_
  exact loop7 _ _ _ hx2 hf2 (Nat.lt_succ_self _)

set_option maxRecDepth 100000 in
theorem s_X0_turnRound {w : sg_W} {Q : sg_O → sg_H → Prop} {h : sg_H} (g : sg_G w) {d : Nat} (hd : 3 ≤ d) {B a c : Nat} (hx : ck_X h B) (hl : ck_L B a c) (hQ : ∀ h' : sg_H, ck_X h' B → ck_F B h h' → Q (.inl none) h') : sg_C w mi_X0_turnRound d 0 0 [sg_r a] h Q := by
  refine sg_of (by decide +kernel) (Nat.le_of_ble_eq_true rfl) ?_
  obtain ⟨n, zs, n0, n1, c40, hz, hzm, hA, hN⟩ := ck_ln hx hl
  refine sg_iconst (pc := 0) (z := 0) dX0_turnRound_0 (by decide) ?_
  refine sg_istore_n (pc := 1) (j := 1) dX0_turnRound_1 rfl (by decide) ?_
  refine sg_aload_n (pc := 2) (j := 0) dX0_turnRound_2 rfl rfl ?_
  refine sg_getf (pc := 3) g dX0_turnRound_3 fk_X0_15 hA rfl rfl ?_
  refine sg_iconst (pc := 6) (z := 1) dX0_turnRound_6 (by decide) ?_
  first | refine sg_isubB (pc := 7) dX0_turnRound_7 (by omega) (by omega) ?_ | refine sg_isub (pc := 7) dX0_turnRound_7 ?_
  refine sg_istore_n (pc := 8) (j := 2) dX0_turnRound_8 rfl (by decide) ?_
  have loop9 : ∀ (N : Nat) (h1 : sg_H) (p e : Int), ck_X h1 B → ck_F B h h1 → 0 ≤ p → e ≤ 40 → (e - p + 100).toNat < N → sg_R w mi_X0_turnRound d 0 0 Q 9 [(1, sg_i p), (2, sg_i e), (0, sg_r a)] [] h1 0 0 := by
    intro N
    induction N with
    | zero => intro h1 p e hx1 hf1 hp he hm; exact absurd hm (Nat.not_lt_zero _)
    | succ N ih =>
      intro h1 p e hx1 hf1 hp he hm
      obtain ⟨n, zs, n0, n1, c40, hz, hzm, hA, hN⟩ := ck_ln hx1 hl
      refine sg_iload_n (pc := 9) (j := 1) dX0_turnRound_9 rfl rfl ?_
      refine sg_iload_n (pc := 10) (j := 2) dX0_turnRound_10 rfl rfl ?_
      refine sg_icmp_ge (pc := 11) (tgt := 45) dX0_turnRound_11 (by decide) (fun c11 => ?_) (fun c11 => ?_)
      · refine sg_vret (pc := 45) dX0_turnRound_45 rfl (by omega) (by omega) ?_
        exact hQ _ hx1 hf1
      · refine sg_aload_n (pc := 14) (j := 0) dX0_turnRound_14 rfl rfl ?_
        refine sg_iload_n (pc := 15) (j := 1) dX0_turnRound_15 rfl rfl ?_
        refine sg_cV1 (pc := 16) (d' := d - 1) (mc' := 0) (ms' := 0) g dX0_turnRound_16 cb_X0_get ml_X0_27 mn_X0_get mv_X0_get hA (Nat.le_of_ble_eq_true rfl) rfl (Nat.le_of_ble_eq_true rfl) (by omega) (by omega) (by omega) ?_
        refine s_X0_get g (by omega) hx1 hl (fun z16 => sg_K1 ?_)
        refine sg_istore_n (pc := 19) (j := 3) dX0_turnRound_19 rfl (by decide) ?_
        refine sg_aload_n (pc := 20) (j := 0) dX0_turnRound_20 rfl rfl ?_
        refine sg_iload_n (pc := 21) (j := 1) dX0_turnRound_21 rfl rfl ?_
        refine sg_aload_n (pc := 22) (j := 0) dX0_turnRound_22 rfl rfl ?_
        refine sg_iload_n (pc := 23) (j := 2) dX0_turnRound_23 rfl rfl ?_
        refine sg_cV1 (pc := 24) (d' := d - 1) (mc' := 0) (ms' := 0) g dX0_turnRound_24 cb_X0_get ml_X0_27 mn_X0_get mv_X0_get hA (Nat.le_of_ble_eq_true rfl) rfl (Nat.le_of_ble_eq_true rfl) (by omega) (by omega) (by omega) ?_
        refine s_X0_get g (by omega) hx1 hl (fun z24 => sg_K1 ?_)
        refine sg_cV2 (pc := 27) (d' := d - 1) (mc' := 0) (ms' := 0) g dX0_turnRound_27 cb_X0_set ml_X0_31 mn_X0_set mv_X0_set hA (Nat.le_of_ble_eq_true rfl) rfl (Nat.le_of_ble_eq_true rfl) (by omega) (by omega) (by omega) ?_
        refine s_X0_set g (by omega) hx1 hl (fun h27 x27 f27 => sg_K0 ?_)
        refine sg_aload_n (pc := 30) (j := 0) dX0_turnRound_30 rfl rfl ?_
        refine sg_iload_n (pc := 31) (j := 2) dX0_turnRound_31 rfl rfl ?_
        refine sg_iload_n (pc := 32) (j := 3) dX0_turnRound_32 rfl rfl ?_
        obtain ⟨n3, zs3, -, -, -, -, -, hA33, -⟩ := ck_ln x27 hl
        refine sg_cV2 (pc := 33) (d' := d - 1) (mc' := 0) (ms' := 0) g dX0_turnRound_33 cb_X0_set ml_X0_31 mn_X0_set mv_X0_set hA33 (Nat.le_of_ble_eq_true rfl) rfl (Nat.le_of_ble_eq_true rfl) (by omega) (by omega) (by omega) ?_
        refine s_X0_set g (by omega) x27 hl (fun h33 x33 f33 => sg_K0 ?_)
        first | refine sg_iincB (pc := 36) dX0_turnRound_36 rfl (by decide) (by decide) (by omega) (by omega) ?_ | refine sg_iinc (pc := 36) dX0_turnRound_36 rfl (by decide) (by decide) ?_
        first | refine sg_iincB (pc := 39) dX0_turnRound_39 rfl (by decide) (by decide) (by omega) (by omega) ?_ | refine sg_iinc (pc := 39) dX0_turnRound_39 rfl (by decide) (by decide) ?_
        refine sg_goto (pc := 42) (tgt := 9) dX0_turnRound_42 (by decide) ?_
        refine sg_lsub (lv' := [(1, _), (2, _), (0, _)]) ⟨rfl, rfl, rfl, trivial⟩ ?_
        exact ih _ _ _ x33 (ck_Ft (ck_Ft hf1 f27) f33) (by omega) (by omega) (by omega)
  refine sg_lsub (lv' := [(1, _), (2, _), (0, _)]) ⟨rfl, rfl, rfl, trivial⟩ ?_
  exact loop9 _ _ _ _ hx ck_F0 (by omega) (by omega) (Nat.lt_succ_self _)

set_option maxRecDepth 100000 in
theorem s_X0_become {w : sg_W} {Q : sg_O → sg_H → Prop} {h : sg_H} (g : sg_G w) {d : Nat} (hd : 3 ≤ d) {B a c b c2 : Nat} (hx : ck_X h B) (hl : ck_L B a c) (hl2 : ck_L B b c2) (hQ : ∀ h' : sg_H, ck_X h' B → ck_F B h h' → Q (.inl none) h') : sg_C w mi_X0_become d 0 0 [sg_r a, sg_r b] h Q := by
  refine sg_of (by decide +kernel) (Nat.le_of_ble_eq_true rfl) ?_
  obtain ⟨n, zs, n0, n1, c40, hz, hzm, hA, hN⟩ := ck_ln hx hl
  refine sg_aload_n (pc := 0) (j := 0) dX0_become_0 rfl rfl ?_
  refine sg_iconst (pc := 1) (z := 0) dX0_become_1 (by decide) ?_
  refine ck_psz (pc := 2) g dX0_become_2 fk_X0_15 hx hl hA (by omega) (by omega) (fun h2 hx2 hf2 => ?_)
  refine sg_iconst (pc := 5) (z := 0) dX0_become_5 (by decide) ?_
  refine sg_istore_n (pc := 6) (j := 2) dX0_become_6 rfl (by decide) ?_
  have loop7 : ∀ (N : Nat) (h1 : sg_H) (p : Int), ck_X h1 B → ck_F B h h1 → 0 ≤ p → (40 - p).toNat < N → sg_R w mi_X0_become d 0 0 Q 7 [(2, sg_i p), (0, sg_r a), (1, sg_r b)] [] h1 0 0 := by
    intro N
    induction N with
    | zero => intro h1 p hx1 hf1 hp hm; exact absurd hm (Nat.not_lt_zero _)
    | succ N ih =>
      intro h1 p hx1 hf1 hp hm
      obtain ⟨n, zs, n0, n1, c40, hz, hzm, hA, hN⟩ := ck_ln hx1 hl
      obtain ⟨n9, zs9, n09, n19, c409, hz9, hzm9, hA9, hN9⟩ := ck_ln hx1 hl2
      refine sg_iload_n (pc := 7) (j := 2) dX0_become_7 rfl rfl ?_
      refine sg_aload_n (pc := 8) (j := 1) dX0_become_8 rfl rfl ?_
      refine sg_getf (pc := 9) g dX0_become_9 fk_X0_15 hA9 rfl rfl ?_
      refine sg_icmp_ge (pc := 12) (tgt := 30) dX0_become_12 (by decide) (fun c12 => ?_) (fun c12 => ?_)
      · refine sg_vret (pc := 30) dX0_become_30 rfl (by omega) (by omega) ?_
        exact hQ _ hx1 hf1
      · refine sg_aload_n (pc := 15) (j := 0) dX0_become_15 rfl rfl ?_
        refine sg_aload_n (pc := 16) (j := 1) dX0_become_16 rfl rfl ?_
        refine sg_iload_n (pc := 17) (j := 2) dX0_become_17 rfl rfl ?_
        refine sg_cV1 (pc := 18) (d' := d - 1) (mc' := 0) (ms' := 0) g dX0_become_18 cb_X0_get ml_X0_27 mn_X0_get mv_X0_get hA9 (Nat.le_of_ble_eq_true rfl) rfl (Nat.le_of_ble_eq_true rfl) (by omega) (by omega) (by omega) ?_
        refine s_X0_get g (by omega) hx1 hl2 (fun z18 => sg_K1 ?_)
        refine sg_cV1 (pc := 21) (d' := d - 1) (mc' := 0) (ms' := 0) g dX0_become_21 cb_X0_add ml_X0_23 mn_X0_add mv_X0_add hA (Nat.le_of_ble_eq_true rfl) rfl (Nat.le_of_ble_eq_true rfl) (by omega) (by omega) (by omega) ?_
        refine s_X0_add g (by omega) hx1 hl (fun h21 x21 f21 => sg_K0 ?_)
        first | refine sg_iincB (pc := 24) dX0_become_24 rfl (by decide) (by decide) (by omega) (by omega) ?_ | refine sg_iinc (pc := 24) dX0_become_24 rfl (by decide) (by decide) ?_
        refine sg_goto (pc := 27) (tgt := 7) dX0_become_27 (by decide) ?_
        refine sg_lsub (lv' := [(2, _), (0, _), (1, _)]) ⟨rfl, rfl, rfl, trivial⟩ ?_
        exact ih _ _ x21 (ck_Ft hf1 f21) (by omega) (by omega)
  refine sg_lsub (lv' := [(2, _), (0, _), (1, _)]) ⟨rfl, rfl, rfl, trivial⟩ ?_
  exact loop7 _ _ _ hx2 hf2 (by omega) (Nat.lt_succ_self _)
end
section
/-! frames with the cells; the States, the Past -/
def ck_Y (h0 h : sg_H) (B : Nat) : Prop := ck_X h B ∧ ck_F B h0 h
theorem ck_Y0 {h : sg_H} {B : Nat} (hx : ck_X h B) : ck_Y h h B := ⟨hx, ck_F0⟩
theorem ck_Yt {h0 h h' : sg_H} {B : Nat} (y : ck_Y h0 h B) (x : ck_X h' B) (f : ck_F B h h') : ck_Y h0 h' B := ⟨x, ck_Ft y.2 f⟩
theorem ck_Yf {h0 h : sg_H} {B : Nat} (y : ck_Y h0 h B) : ck_F B h0 h := y.2
theorem ck_Yz {h0 h : sg_H} {B z : Nat} (y : ck_Y h0 h B) (hz : h.1 ≤ z) : ck_Y h0 (z, h.2) B := ⟨y.1, Nat.le_trans y.2.1 hz, y.2.2⟩
def ck_S (B a : Nat) : Prop := ∃ i, i < 110 ∧ a = B + i ∧ (ck i).1 = 3
def ck_sq (i : Nat) : Bool := decide (i + 14 < 110) && (ck (i + 1) == (4, 0) && (ck (i + 2) == (5, 0) && (ck (i + 3) == (1, 40) && (ck (i + 5) == (1, 40) && (ck (i + 7) == (1, 40) && (ck (i + 9) == (1, 40) && (ck (i + 11) == (1, 24) && ck (i + 13) == (1, 24))))))))
theorem ck_sx0 : ∀ i, i < 110 → (ck i).1 = 3 → ck_sq i = true := by decide +kernel
theorem ck_sx (i : Nat) (hi : i < 110) (hc : (ck i).1 = 3) : i + 14 < 110 ∧ ck (i + 1) = (4, 0) ∧ ck (i + 2) = (5, 0) ∧ ck (i + 3) = (1, 40) ∧ ck (i + 5) = (1, 40) ∧ ck (i + 7) = (1, 40) ∧ ck (i + 9) = (1, 40) ∧ ck (i + 11) = (1, 24) ∧ ck (i + 13) = (1, 24) := by
  have h := ck_sx0 i hi hc
  unfold ck_sq at h
  simp only [Bool.and_eq_true, decide_eq_true_eq, beq_iff_eq] at h
  exact h
theorem ck_sl {B a : Nat} {h : sg_H} (hx : ck_X h B) (hs : ck_S B a) : h.2 a = some (5, [sg_r (a + 1), sg_r (a + 2)]) ∧ h.2 (a + 1) = some (111, [sg_r (a + 3), sg_r (a + 5), sg_r (a + 7), sg_r (a + 9)]) ∧ h.2 (a + 2) = some (111, [sg_r (a + 11), sg_r (a + 13)]) := by
  obtain ⟨i, hi, rfl, hc⟩ := hs
  obtain ⟨k1, k2, k3, -⟩ := ck_sx i hi hc
  obtain ⟨e, e1, e2⟩ := hx i hi
  obtain ⟨f, f1, f2⟩ := hx (i + 1) (by omega)
  obtain ⟨g, g1, g2⟩ := hx (i + 2) (by omega)
  unfold ck_ok at e2 f2 g2
  rw [hc] at e2
  rw [k2] at f2
  rw [k3] at g2
  refine ⟨e1.trans (by rw [e2]), ?_, ?_⟩
  · rw [show B + i + 1 = B + (i + 1) by omega, f1, f2]
    simp only [Nat.add_assoc, Nat.reduceAdd]
  · rw [show B + i + 2 = B + (i + 2) by omega, g1, g2]
    simp only [Nat.add_assoc, Nat.reduceAdd]
theorem ck_row {B a : Nat} {p : Int} (hs : ck_S B a) (h0 : 0 ≤ p) (h1 : p < 4) : ∃ b, ([sg_r (a + 3), sg_r (a + 5), sg_r (a + 7), sg_r (a + 9)] : List sg_V)[p.toNat]? = some (sg_r b) ∧ ck_L B b 40 := by
  obtain ⟨i, hi, rfl, hc⟩ := hs
  obtain ⟨k1, k2, k3, k4, k5, k6, k7, -⟩ := ck_sx i hi hc
  rcases (show p = 0 ∨ p = 1 ∨ p = 2 ∨ p = 3 by omega) with rfl | rfl | rfl | rfl
  · exact ⟨_, rfl, i + 3, by omega, by omega, k4⟩
  · exact ⟨_, rfl, i + 5, by omega, by omega, k5⟩
  · exact ⟨_, rfl, i + 7, by omega, by omega, k6⟩
  · exact ⟨_, rfl, i + 9, by omega, by omega, k7⟩
theorem ck_trk {B a : Nat} {p : Int} (hs : ck_S B a) (h0 : 0 ≤ p) (h1 : p < 2) : ∃ b, ([sg_r (a + 11), sg_r (a + 13)] : List sg_V)[p.toNat]? = some (sg_r b) ∧ ck_L B b 24 := by
  obtain ⟨i, hi, rfl, hc⟩ := hs
  obtain ⟨k1, k2, k3, k4, k5, k6, k7, k8, k9⟩ := ck_sx i hi hc
  rcases (show p = 0 ∨ p = 1 by omega) with rfl | rfl
  · exact ⟨_, rfl, i + 11, by omega, by omega, k8⟩
  · exact ⟨_, rfl, i + 13, by omega, by omega, k9⟩
theorem ck_now {B : Nat} : ck_S B (B + 1) := ⟨1, by decide, rfl, by decide +kernel⟩
theorem ck_rev {B : Nat} : ck_L B (B + 108) 24 := ⟨108, by decide, rfl, by decide +kernel⟩
theorem ck_obj {B : Nat} {h : sg_H} (hx : ck_X h B) : ∃ z : Int, h.2 B = some (6, [sg_r (B + 1), sg_r (B + 16), sg_r (B + 108), sg_i z]) := by
  obtain ⟨e, e1, e2⟩ := hx 0 (by decide)
  obtain ⟨z, rfl⟩ : ∃ z : Int, e = (6, [sg_r (B + 1), sg_r (B + 16), sg_r (B + 108), sg_i z]) := e2
  exact ⟨z, e1⟩
theorem ck_psx {B : Nat} {h : sg_H} (hx : ck_X h B) : ∃ (z : Int) (vs : List sg_V), h.2 (B + 16) = some (4, [sg_r (B + 17), sg_i z]) ∧ h.2 (B + 17) = some (112, vs) ∧ vs.length = 6 ∧ ∀ p : Int, 0 ≤ p → p < 6 → ∃ a, vs[p.toNat]? = some (sg_r a) ∧ ck_S B a := by
  obtain ⟨e, e1, e2⟩ := hx 16 (by decide)
  obtain ⟨f, f1, f2⟩ := hx 17 (by decide)
  obtain ⟨z, rfl⟩ : ∃ z : Int, e = (4, [sg_r (B + 17), sg_i z]) := e2
  obtain ⟨vs, v1, v2, rfl⟩ : ∃ f' : List Nat, f'.length = 6 ∧ (∀ x ∈ f', x < 110 ∧ (ck x).1 = 3) ∧ f = (112, f'.map fun x => sg_r (B + x)) := f2
  refine ⟨z, _, e1, f1, by rw [List.length_map]; exact v1, fun p p0 p1 => ?_⟩
  have hp : p.toNat < vs.length := by omega
  obtain ⟨q1, q2⟩ := v2 _ (List.getElem_mem hp)
  exact ⟨B + vs[p.toNat], by simp [hp], _, q1, rfl, q2⟩
section
variable {w : sg_W} {mi : sg_M} {d mc ms : Nat} {Q : sg_O → sg_H → Prop} {pc : Nat} {lv : List (Nat × sg_V)} {st : List sg_V} {h : sg_H} {k n : Nat} {B a c : Nat} {h0 : sg_H}
/-- a State is put into the Past's row -/
theorem ck_pst {p : Int} {vs : List sg_V} (g : sg_G w) (hd : decode mi.2.1 pc = .ok (.aastore, 1)) (y : ck_Y h0 h B) (ha : h.2 (B + 17) = some (112, vs)) (hs : ck_S B a) (p0 : 0 ≤ p) (p1 : p < 6)
    (K : ∀ h' : sg_H, ck_X h' B → ck_Y h0 h' B → sg_R w mi d mc ms Q (pc + 1) lv st h' k n) : sg_R w mi d mc ms Q pc lv (sg_r a :: sg_i p :: sg_r (B + 17) :: st) h k n := by
  have hsl := (ck_sl y.1 hs).1
  obtain ⟨f, f1, f2⟩ := y.1 17 (by decide)
  obtain ⟨fs, v1, v2, rfl⟩ : ∃ f' : List Nat, f'.length = 6 ∧ (∀ x ∈ f', x < 110 ∧ (ck x).1 = 3) ∧ f = (112, f'.map fun x => sg_r (B + x)) := f2
  have hvs : vs = fs.map fun x => sg_r (B + x) := by
    have := ha.symm.trans f1
    exact congrArg Prod.snd (Option.some.inj this)
  subst hvs
  refine sg_aast g hd ha hsl (by decide) (by decide) (Or.inl ⟨by decide, _, rfl, Or.inl rfl⟩) p0 (by rw [List.length_map]; omega) ?_
  obtain ⟨i, hi, rfl, hc⟩ := hs
  have hok : ck_ok B 17 (112, (fs.map fun x => sg_r (B + x)).set p.toNat (sg_r (B + i))) := by
    refine ⟨fs.set p.toNat i, by rw [List.length_set]; exact v1, fun x hx => ?_, by rw [List.map_set]⟩
    rcases List.mem_or_eq_of_mem_set hx with h1 | h1
    · exact v2 x h1
    · rw [h1]; exact ⟨hi, hc⟩
  obtain ⟨p3, p4⟩ := ck_put y.1 (by decide) hok
  exact K _ p3 (ck_Yt y p3 p4)
theorem ck_pps {z y0 : Int} {idx : Nat} (g : sg_G w) (hd : decode mi.2.1 pc = .ok (.putfield idx, 3)) (hf : sg_fk mi.1.cls idx 4 1 false .int) (y : ck_Y h0 h B) (ha : h.2 (B + 16) = some (4, [sg_r (B + 17), sg_i y0]))
    (K : ∀ h' : sg_H, ck_X h' B → ck_Y h0 h' B → sg_R w mi d mc ms Q (pc + 3) lv st h' k n) : sg_R w mi d mc ms Q pc lv (sg_i z :: sg_r (B + 16) :: st) h k n := by
  refine sg_putf g hd hf ha sg_ft_i ?_
  obtain ⟨p3, p4⟩ := ck_put (i := 16) y.1 (by decide) (show ck_ok B 16 (4, [sg_r (B + 17), sg_i z]) from ⟨z, rfl⟩)
  exact K _ p3 (ck_Yt y p3 p4)
theorem ck_pkn {z y0 : Int} {idx : Nat} (g : sg_G w) (hd : decode mi.2.1 pc = .ok (.putfield idx, 3)) (hf : sg_fk mi.1.cls idx 6 3 false .int) (y : ck_Y h0 h B) (ha : h.2 B = some (6, [sg_r (B + 1), sg_r (B + 16), sg_r (B + 108), sg_i y0]))
    (K : ∀ h' : sg_H, ck_X h' B → ck_Y h0 h' B → sg_R w mi d mc ms Q (pc + 3) lv st h' k n) : sg_R w mi d mc ms Q pc lv (sg_i z :: sg_r B :: st) h k n := by
  refine sg_putf g hd hf ha sg_ft_i ?_
  obtain ⟨p3, p4⟩ := ck_put (i := 0) (e := (6, [sg_r (B + 1), sg_r (B + 16), sg_r (B + 108), sg_i z])) y.1 (by decide) ⟨z, rfl⟩
  exact K _ p3 (ck_Yt y p3 p4)
end
/-! GENCV: calls on the class's things -/
section
variable {w : sg_W} {mi : sg_M} {d mc ms : Nat} {Q : sg_O → sg_H → Prop} {pc : Nat} {lv : List (Nat × sg_V)} {st : List sg_V} {h : sg_H} {k n : Nat}
theorem sg_cE0 {mi' : sg_M} {d' mc' ms' idx b : Nat} (t : Nat) {q : vw_C} (g : sg_G w) (hd : decode mi.2.1 pc = .ok (.invokevirtual idx, 3)) (hc : sg_cb mi' 0) (hl : sg_ok (.methodLink mi.1.cls idx mi'.1)) (hin : sg_ok (.instanceMethod mi'.1)) (hq : vwCl[t % 200]? = some q) (hsel : sg_ok (.selects q.1 mi'.1 mi'.1)) (ht : t % 200 < 100) (hb : ∃ us, h.2 b = some (t, us)) (hr : sg_cs st ≤ 8) (hd' : d' + 1 ≤ d) (hk : k + mc' ≤ mc) (hn : n + ms' ≤ ms) (hm : sg_C w mi' d' mc' ms' (sg_r b :: []) h (sg_K w mi d mc ms Q pc lv st (k + mc') (n + ms'))) : sg_R w mi d mc ms Q pc lv (sg_r b :: st) h k n := by
  obtain ⟨us, hb⟩ := hb
  exact sg_callV (as := []) (rest := st) g hd hc hl hin hsel hq ht rfl hb rfl hr hd' hk hn hm
theorem sg_cE1 {mi' : sg_M} {d' mc' ms' idx b : Nat} (t : Nat) {q : vw_C} {a0 : sg_V} (g : sg_G w) (hd : decode mi.2.1 pc = .ok (.invokevirtual idx, 3)) (hc : sg_cb mi' 1) (hl : sg_ok (.methodLink mi.1.cls idx mi'.1)) (hin : sg_ok (.instanceMethod mi'.1)) (hq : vwCl[t % 200]? = some q) (hsel : sg_ok (.selects q.1 mi'.1 mi'.1)) (ht : t % 200 < 100) (hb : ∃ us, h.2 b = some (t, us)) (hr : sg_cs st ≤ 8) (hd' : d' + 1 ≤ d) (hk : k + mc' ≤ mc) (hn : n + ms' ≤ ms) (hm : sg_C w mi' d' mc' ms' (sg_r b :: [a0]) h (sg_K w mi d mc ms Q pc lv st (k + mc') (n + ms'))) : sg_R w mi d mc ms Q pc lv (a0 :: sg_r b :: st) h k n := by
  obtain ⟨us, hb⟩ := hb
  exact sg_callV (as := [a0]) (rest := st) g hd hc hl hin hsel hq ht rfl hb rfl hr hd' hk hn hm
theorem sg_cE2 {mi' : sg_M} {d' mc' ms' idx b : Nat} (t : Nat) {q : vw_C} {a0 a1 : sg_V} (g : sg_G w) (hd : decode mi.2.1 pc = .ok (.invokevirtual idx, 3)) (hc : sg_cb mi' 2) (hl : sg_ok (.methodLink mi.1.cls idx mi'.1)) (hin : sg_ok (.instanceMethod mi'.1)) (hq : vwCl[t % 200]? = some q) (hsel : sg_ok (.selects q.1 mi'.1 mi'.1)) (ht : t % 200 < 100) (hb : ∃ us, h.2 b = some (t, us)) (hr : sg_cs st ≤ 8) (hd' : d' + 1 ≤ d) (hk : k + mc' ≤ mc) (hn : n + ms' ≤ ms) (hm : sg_C w mi' d' mc' ms' (sg_r b :: [a0, a1]) h (sg_K w mi d mc ms Q pc lv st (k + mc') (n + ms'))) : sg_R w mi d mc ms Q pc lv (a1 :: a0 :: sg_r b :: st) h k n := by
  obtain ⟨us, hb⟩ := hb
  exact sg_callV (as := [a0, a1]) (rest := st) g hd hc hl hin hsel hq ht rfl hb rfl hr hd' hk hn hm
theorem sg_cE3 {mi' : sg_M} {d' mc' ms' idx b : Nat} (t : Nat) {q : vw_C} {a0 a1 a2 : sg_V} (g : sg_G w) (hd : decode mi.2.1 pc = .ok (.invokevirtual idx, 3)) (hc : sg_cb mi' 3) (hl : sg_ok (.methodLink mi.1.cls idx mi'.1)) (hin : sg_ok (.instanceMethod mi'.1)) (hq : vwCl[t % 200]? = some q) (hsel : sg_ok (.selects q.1 mi'.1 mi'.1)) (ht : t % 200 < 100) (hb : ∃ us, h.2 b = some (t, us)) (hr : sg_cs st ≤ 8) (hd' : d' + 1 ≤ d) (hk : k + mc' ≤ mc) (hn : n + ms' ≤ ms) (hm : sg_C w mi' d' mc' ms' (sg_r b :: [a0, a1, a2]) h (sg_K w mi d mc ms Q pc lv st (k + mc') (n + ms'))) : sg_R w mi d mc ms Q pc lv (a2 :: a1 :: a0 :: sg_r b :: st) h k n := by
  obtain ⟨us, hb⟩ := hb
  exact sg_callV (as := [a0, a1, a2]) (rest := st) g hd hc hl hin hsel hq ht rfl hb rfl hr hd' hk hn hm
theorem sg_cE4 {mi' : sg_M} {d' mc' ms' idx b : Nat} (t : Nat) {q : vw_C} {a0 a1 a2 a3 : sg_V} (g : sg_G w) (hd : decode mi.2.1 pc = .ok (.invokevirtual idx, 3)) (hc : sg_cb mi' 4) (hl : sg_ok (.methodLink mi.1.cls idx mi'.1)) (hin : sg_ok (.instanceMethod mi'.1)) (hq : vwCl[t % 200]? = some q) (hsel : sg_ok (.selects q.1 mi'.1 mi'.1)) (ht : t % 200 < 100) (hb : ∃ us, h.2 b = some (t, us)) (hr : sg_cs st ≤ 8) (hd' : d' + 1 ≤ d) (hk : k + mc' ≤ mc) (hn : n + ms' ≤ ms) (hm : sg_C w mi' d' mc' ms' (sg_r b :: [a0, a1, a2, a3]) h (sg_K w mi d mc ms Q pc lv st (k + mc') (n + ms'))) : sg_R w mi d mc ms Q pc lv (a3 :: a2 :: a1 :: a0 :: sg_r b :: st) h k n := by
  obtain ⟨us, hb⟩ := hb
  exact sg_callV (as := [a0, a1, a2, a3]) (rest := st) g hd hc hl hin hsel hq ht rfl hb rfl hr hd' hk hn hm
theorem sg_cE5 {mi' : sg_M} {d' mc' ms' idx b : Nat} (t : Nat) {q : vw_C} {a0 a1 a2 a3 a4 : sg_V} (g : sg_G w) (hd : decode mi.2.1 pc = .ok (.invokevirtual idx, 3)) (hc : sg_cb mi' 5) (hl : sg_ok (.methodLink mi.1.cls idx mi'.1)) (hin : sg_ok (.instanceMethod mi'.1)) (hq : vwCl[t % 200]? = some q) (hsel : sg_ok (.selects q.1 mi'.1 mi'.1)) (ht : t % 200 < 100) (hb : ∃ us, h.2 b = some (t, us)) (hr : sg_cs st ≤ 8) (hd' : d' + 1 ≤ d) (hk : k + mc' ≤ mc) (hn : n + ms' ≤ ms) (hm : sg_C w mi' d' mc' ms' (sg_r b :: [a0, a1, a2, a3, a4]) h (sg_K w mi d mc ms Q pc lv st (k + mc') (n + ms'))) : sg_R w mi d mc ms Q pc lv (a4 :: a3 :: a2 :: a1 :: a0 :: sg_r b :: st) h k n := by
  obtain ⟨us, hb⟩ := hb
  exact sg_callV (as := [a0, a1, a2, a3, a4]) (rest := st) g hd hc hl hin hsel hq ht rfl hb rfl hr hd' hk hn hm
theorem sg_cE6 {mi' : sg_M} {d' mc' ms' idx b : Nat} (t : Nat) {q : vw_C} {a0 a1 a2 a3 a4 a5 : sg_V} (g : sg_G w) (hd : decode mi.2.1 pc = .ok (.invokevirtual idx, 3)) (hc : sg_cb mi' 6) (hl : sg_ok (.methodLink mi.1.cls idx mi'.1)) (hin : sg_ok (.instanceMethod mi'.1)) (hq : vwCl[t % 200]? = some q) (hsel : sg_ok (.selects q.1 mi'.1 mi'.1)) (ht : t % 200 < 100) (hb : ∃ us, h.2 b = some (t, us)) (hr : sg_cs st ≤ 8) (hd' : d' + 1 ≤ d) (hk : k + mc' ≤ mc) (hn : n + ms' ≤ ms) (hm : sg_C w mi' d' mc' ms' (sg_r b :: [a0, a1, a2, a3, a4, a5]) h (sg_K w mi d mc ms Q pc lv st (k + mc') (n + ms'))) : sg_R w mi d mc ms Q pc lv (a5 :: a4 :: a3 :: a2 :: a1 :: a0 :: sg_r b :: st) h k n := by
  obtain ⟨us, hb⟩ := hb
  exact sg_callV (as := [a0, a1, a2, a3, a4, a5]) (rest := st) g hd hc hl hin hsel hq ht rfl hb rfl hr hd' hk hn hm
end
theorem ck_lc {B a c : Nat} {h : sg_H} (hx : ck_X h B) (hl : ck_L B a c) : ∃ us, h.2 a = some (3, us) := by
  obtain ⟨n, zs, -, -, -, -, -, hA, -⟩ := ck_ln hx hl
  exact ⟨_, hA⟩
theorem ck_sc {B a : Nat} {h : sg_H} (hx : ck_X h B) (hs : ck_S B a) : ∃ us, h.2 a = some (5, us) := ⟨_, (ck_sl hx hs).1⟩
theorem ck_pc {B : Nat} {h : sg_H} (hx : ck_X h B) : ∃ us, h.2 (B + 16) = some (4, us) := by
  obtain ⟨z, vs, hP, -⟩ := ck_psx hx
  exact ⟨_, hP⟩
theorem ck_oc {B : Nat} {h : sg_H} (hx : ck_X h B) : ∃ us, h.2 B = some (6, us) := by
  obtain ⟨z, hz⟩ := ck_obj hx
  exact ⟨_, hz⟩
end
section
set_option maxRecDepth 100000 in
theorem s_X2_kindsOf {w : sg_W} {Q : sg_O → sg_H → Prop} {h : sg_H} (g : sg_G w) {d : Nat} (hd : 4 ≤ d) {x : Int} (hQ : ∀ z : Int, Q (.inl (some (sg_i z))) h) : sg_C w mi_X2_kindsOf d 0 0 [sg_i x] h Q := by
  refine sg_of (by decide +kernel) (Nat.le_of_ble_eq_true rfl) ?_
  refine sg_iconst (pc := 0) (z := 0) dX2_kindsOf_0 (by decide) ?_
  refine sg_istore_n (pc := 1) (j := 1) dX2_kindsOf_1 rfl (by decide) ?_
  refine sg_iconst (pc := 2) (z := 0) dX2_kindsOf_2 (by decide) ?_
  refine sg_istore_n (pc := 3) (j := 2) dX2_kindsOf_3 rfl (by decide) ?_
  have loop4 : ∀ (N : Nat) (k s : Int), 0 ≤ k → (5 - k).toNat < N → sg_R w mi_X2_kindsOf d 0 0 Q 4 [(2, sg_i k), (1, sg_i s), (0, sg_i x)] [] h 0 0 := by
    intro N
    induction N with
    | zero => intro k s k0 hm; exact absurd hm (Nat.not_lt_zero _)
    | succ N ih =>
      intro k s k0 hm
      refine sg_iload_n (pc := 4) (j := 2) dX2_kindsOf_4 rfl rfl ?_
      refine sg_iconst (pc := 5) (z := 5) dX2_kindsOf_5 (by decide) ?_
      refine sg_icmp_ge (pc := 6) (tgt := 29) dX2_kindsOf_6 (by decide) (fun c6 => ?_) (fun c6 => ?_)
      · refine sg_iload_n (pc := 29) (j := 1) dX2_kindsOf_29 rfl rfl ?_
        refine sg_iret (pc := 30) dX2_kindsOf_30 rfl (by omega) (by omega) ?_
        exact hQ _
      · refine sg_iload_n (pc := 9) (j := 0) dX2_kindsOf_9 rfl rfl ?_
        refine sg_iload_n (pc := 10) (j := 2) dX2_kindsOf_10 rfl rfl ?_
        refine sg_cS2 (pc := 11) (d' := d - 1) (mc' := 0) (ms' := 0) g dX2_kindsOf_11 cb_X2_isOf ml_X2_25 ms_X2_isOf (Nat.le_of_ble_eq_true rfl) (by omega) (by omega) (by omega) ?_
        refine s_X2_isOf g (by omega) (fun z11 h11 b11 => sg_K1 ?_)
        refine sg_if_eq (pc := 14) (tgt := 23) dX2_kindsOf_14 (by decide) (fun c14 => ?_) (fun c14 => ?_)
        · first | refine sg_iincB (pc := 23) dX2_kindsOf_23 rfl (by decide) (by decide) (by omega) (by omega) ?_ | refine sg_iinc (pc := 23) dX2_kindsOf_23 rfl (by decide) (by decide) ?_
          refine sg_goto (pc := 26) (tgt := 4) dX2_kindsOf_26 (by decide) ?_
          refine sg_lsub (lv' := [(2, _), (1, _), (0, _)]) ⟨rfl, rfl, rfl, trivial⟩ ?_
          exact ih _ _ (by omega) (by omega)
        · refine sg_iload_n (pc := 17) (j := 1) dX2_kindsOf_17 rfl rfl ?_
          refine sg_iconst (pc := 18) (z := 1) dX2_kindsOf_18 (by decide) ?_
          refine sg_iload_n (pc := 19) (j := 2) dX2_kindsOf_19 rfl rfl ?_
          refine sg_ishl (pc := 20) dX2_kindsOf_20 ?_
          first | refine sg_iaddB (pc := 21) dX2_kindsOf_21 (by omega) (by omega) ?_ | refine sg_iadd (pc := 21) dX2_kindsOf_21 ?_
          refine sg_istore_n (pc := 22) (j := 1) dX2_kindsOf_22 rfl (by decide) ?_
          first | refine sg_iincB (pc := 23) dX2_kindsOf_23 rfl (by decide) (by decide) (by omega) (by omega) ?_ | refine sg_iinc (pc := 23) dX2_kindsOf_23 rfl (by decide) (by decide) ?_
          refine sg_goto (pc := 26) (tgt := 4) dX2_kindsOf_26 (by decide) ?_
          refine sg_lsub (lv' := [(2, _), (1, _), (0, _)]) ⟨rfl, rfl, rfl, trivial⟩ ?_
          exact ih _ _ (by omega) (by omega)
  refine sg_lsub (lv' := [(2, _), (1, _), (0, _)]) ⟨rfl, rfl, rfl, trivial⟩ ?_
  exact loop4 _ _ _ (by omega) (Nat.lt_succ_self _)

set_option maxRecDepth 100000 in
theorem s_X2_signValue {w : sg_W} {Q : sg_O → sg_H → Prop} {h : sg_H} (g : sg_G w) {d : Nat} (hd : 3 ≤ d) {x : Int} (hQ : ∀ z : Int, z = fn_val x → Q (.inl (some (sg_i z))) h) : sg_C w mi_X2_signValue d 0 0 [sg_i x] h Q := by
  refine sg_of (by decide +kernel) (Nat.le_of_ble_eq_true rfl) ?_
  refine sg_iload_n (pc := 0) (j := 0) dX2_signValue_0 rfl rfl ?_
  by_cases cs : x < 178 ∨ 190 < x
  · refine sg_tsOut (pc := 1) (tgt := 77) dX2_signValue_1 cs (by decide) ?_
    refine sg_iload_n (pc := 77) (j := 0) dX2_signValue_77 rfl rfl ?_
    refine sg_cS1 (pc := 78) (d' := d - 1) (mc' := 0) (ms' := 0) g dX2_signValue_78 cb_X2_plainValueOf ml_X2_32 ms_X2_plainValueOf (Nat.le_of_ble_eq_true rfl) (by omega) (by omega) (by omega) ?_
    refine s_X2_plainValueOf g (by omega) (fun z78 h78 => sg_K1 ?_)
    refine sg_iret (pc := 81) dX2_signValue_81 rfl (by omega) (by omega) ?_
    first | exact hQ _ (by (try simp only [fn_val] at *) <;> first | omega | ((repeat' split) <;> omega) | grind) | exact hQ _ (by simp [fn_val, fn_plain])
  · rcases (show x = 178 ∨ x = 179 ∨ x = 180 ∨ x = 181 ∨ x = 182 ∨ x = 183 ∨ x = 184 ∨ x = 185 ∨ x = 186 ∨ x = 187 ∨ x = 188 ∨ x = 189 ∨ x = 190 by omega) with rfl | rfl | rfl | rfl | rfl | rfl | rfl | rfl | rfl | rfl | rfl | rfl | rfl
    · refine sg_tsIn (pc := 1) (tgt := 68) dX2_signValue_1 (by omega) (by omega) rfl (by decide) ?_
      refine sg_iconst (pc := 68) (z := 2) dX2_signValue_68 (by decide) ?_
      refine sg_iret (pc := 69) dX2_signValue_69 rfl (by omega) (by omega) ?_
      first | exact hQ _ (by (try simp only [fn_val] at *) <;> first | omega | ((repeat' split) <;> omega) | grind) | exact hQ _ (by simp [fn_val, fn_plain])
    · refine sg_tsIn (pc := 1) (tgt := 70) dX2_signValue_1 (by omega) (by omega) rfl (by decide) ?_
      refine sg_iconst (pc := 70) (z := 3) dX2_signValue_70 (by decide) ?_
      refine sg_iret (pc := 71) dX2_signValue_71 rfl (by omega) (by omega) ?_
      first | exact hQ _ (by (try simp only [fn_val] at *) <;> first | omega | ((repeat' split) <;> omega) | grind) | exact hQ _ (by simp [fn_val, fn_plain])
    · refine sg_tsIn (pc := 1) (tgt := 77) dX2_signValue_1 (by omega) (by omega) rfl (by decide) ?_
      refine sg_iload_n (pc := 77) (j := 0) dX2_signValue_77 rfl rfl ?_
      refine sg_cS1 (pc := 78) (d' := d - 1) (mc' := 0) (ms' := 0) g dX2_signValue_78 cb_X2_plainValueOf ml_X2_32 ms_X2_plainValueOf (Nat.le_of_ble_eq_true rfl) (by omega) (by omega) (by omega) ?_
      refine s_X2_plainValueOf g (by omega) (fun z78 h78 => sg_K1 ?_)
      refine sg_iret (pc := 81) dX2_signValue_81 rfl (by omega) (by omega) ?_
      first | exact hQ _ (by (try simp only [fn_val] at *) <;> first | omega | ((repeat' split) <;> omega) | grind) | exact hQ _ (by simp [fn_val, fn_plain])
    · refine sg_tsIn (pc := 1) (tgt := 77) dX2_signValue_1 (by omega) (by omega) rfl (by decide) ?_
      refine sg_iload_n (pc := 77) (j := 0) dX2_signValue_77 rfl rfl ?_
      refine sg_cS1 (pc := 78) (d' := d - 1) (mc' := 0) (ms' := 0) g dX2_signValue_78 cb_X2_plainValueOf ml_X2_32 ms_X2_plainValueOf (Nat.le_of_ble_eq_true rfl) (by omega) (by omega) (by omega) ?_
      refine s_X2_plainValueOf g (by omega) (fun z78 h78 => sg_K1 ?_)
      refine sg_iret (pc := 81) dX2_signValue_81 rfl (by omega) (by omega) ?_
      first | exact hQ _ (by (try simp only [fn_val] at *) <;> first | omega | ((repeat' split) <;> omega) | grind) | exact hQ _ (by simp [fn_val, fn_plain])
    · refine sg_tsIn (pc := 1) (tgt := 77) dX2_signValue_1 (by omega) (by omega) rfl (by decide) ?_
      refine sg_iload_n (pc := 77) (j := 0) dX2_signValue_77 rfl rfl ?_
      refine sg_cS1 (pc := 78) (d' := d - 1) (mc' := 0) (ms' := 0) g dX2_signValue_78 cb_X2_plainValueOf ml_X2_32 ms_X2_plainValueOf (Nat.le_of_ble_eq_true rfl) (by omega) (by omega) (by omega) ?_
      refine s_X2_plainValueOf g (by omega) (fun z78 h78 => sg_K1 ?_)
      refine sg_iret (pc := 81) dX2_signValue_81 rfl (by omega) (by omega) ?_
      first | exact hQ _ (by (try simp only [fn_val] at *) <;> first | omega | ((repeat' split) <;> omega) | grind) | exact hQ _ (by simp [fn_val, fn_plain])
    · refine sg_tsIn (pc := 1) (tgt := 77) dX2_signValue_1 (by omega) (by omega) rfl (by decide) ?_
      refine sg_iload_n (pc := 77) (j := 0) dX2_signValue_77 rfl rfl ?_
      refine sg_cS1 (pc := 78) (d' := d - 1) (mc' := 0) (ms' := 0) g dX2_signValue_78 cb_X2_plainValueOf ml_X2_32 ms_X2_plainValueOf (Nat.le_of_ble_eq_true rfl) (by omega) (by omega) (by omega) ?_
      refine s_X2_plainValueOf g (by omega) (fun z78 h78 => sg_K1 ?_)
      refine sg_iret (pc := 81) dX2_signValue_81 rfl (by omega) (by omega) ?_
      first | exact hQ _ (by (try simp only [fn_val] at *) <;> first | omega | ((repeat' split) <;> omega) | grind) | exact hQ _ (by simp [fn_val, fn_plain])
    · refine sg_tsIn (pc := 1) (tgt := 77) dX2_signValue_1 (by omega) (by omega) rfl (by decide) ?_
      refine sg_iload_n (pc := 77) (j := 0) dX2_signValue_77 rfl rfl ?_
      refine sg_cS1 (pc := 78) (d' := d - 1) (mc' := 0) (ms' := 0) g dX2_signValue_78 cb_X2_plainValueOf ml_X2_32 ms_X2_plainValueOf (Nat.le_of_ble_eq_true rfl) (by omega) (by omega) (by omega) ?_
      refine s_X2_plainValueOf g (by omega) (fun z78 h78 => sg_K1 ?_)
      refine sg_iret (pc := 81) dX2_signValue_81 rfl (by omega) (by omega) ?_
      first | exact hQ _ (by (try simp only [fn_val] at *) <;> first | omega | ((repeat' split) <;> omega) | grind) | exact hQ _ (by simp [fn_val, fn_plain])
    · refine sg_tsIn (pc := 1) (tgt := 72) dX2_signValue_1 (by omega) (by omega) rfl (by decide) ?_
      refine sg_iconst (pc := 72) (z := 1) dX2_signValue_72 (by decide) ?_
      refine sg_iret (pc := 73) dX2_signValue_73 rfl (by omega) (by omega) ?_
      first | exact hQ _ (by (try simp only [fn_val] at *) <;> first | omega | ((repeat' split) <;> omega) | grind) | exact hQ _ (by simp [fn_val, fn_plain])
    · refine sg_tsIn (pc := 1) (tgt := 77) dX2_signValue_1 (by omega) (by omega) rfl (by decide) ?_
      refine sg_iload_n (pc := 77) (j := 0) dX2_signValue_77 rfl rfl ?_
      refine sg_cS1 (pc := 78) (d' := d - 1) (mc' := 0) (ms' := 0) g dX2_signValue_78 cb_X2_plainValueOf ml_X2_32 ms_X2_plainValueOf (Nat.le_of_ble_eq_true rfl) (by omega) (by omega) (by omega) ?_
      refine s_X2_plainValueOf g (by omega) (fun z78 h78 => sg_K1 ?_)
      refine sg_iret (pc := 81) dX2_signValue_81 rfl (by omega) (by omega) ?_
      first | exact hQ _ (by (try simp only [fn_val] at *) <;> first | omega | ((repeat' split) <;> omega) | grind) | exact hQ _ (by simp [fn_val, fn_plain])
    · refine sg_tsIn (pc := 1) (tgt := 77) dX2_signValue_1 (by omega) (by omega) rfl (by decide) ?_
      refine sg_iload_n (pc := 77) (j := 0) dX2_signValue_77 rfl rfl ?_
      refine sg_cS1 (pc := 78) (d' := d - 1) (mc' := 0) (ms' := 0) g dX2_signValue_78 cb_X2_plainValueOf ml_X2_32 ms_X2_plainValueOf (Nat.le_of_ble_eq_true rfl) (by omega) (by omega) (by omega) ?_
      refine s_X2_plainValueOf g (by omega) (fun z78 h78 => sg_K1 ?_)
      refine sg_iret (pc := 81) dX2_signValue_81 rfl (by omega) (by omega) ?_
      first | exact hQ _ (by (try simp only [fn_val] at *) <;> first | omega | ((repeat' split) <;> omega) | grind) | exact hQ _ (by simp [fn_val, fn_plain])
    · refine sg_tsIn (pc := 1) (tgt := 74) dX2_signValue_1 (by omega) (by omega) rfl (by decide) ?_
      refine sg_bipush (pc := 74) (z := -2) dX2_signValue_74 (by decide) ?_
      refine sg_iret (pc := 76) dX2_signValue_76 rfl (by omega) (by omega) ?_
      first | exact hQ _ (by (try simp only [fn_val] at *) <;> first | omega | ((repeat' split) <;> omega) | grind) | exact hQ _ (by simp [fn_val, fn_plain])
    · refine sg_tsIn (pc := 1) (tgt := 74) dX2_signValue_1 (by omega) (by omega) rfl (by decide) ?_
      refine sg_bipush (pc := 74) (z := -2) dX2_signValue_74 (by decide) ?_
      refine sg_iret (pc := 76) dX2_signValue_76 rfl (by omega) (by omega) ?_
      first | exact hQ _ (by (try simp only [fn_val] at *) <;> first | omega | ((repeat' split) <;> omega) | grind) | exact hQ _ (by simp [fn_val, fn_plain])
    · refine sg_tsIn (pc := 1) (tgt := 74) dX2_signValue_1 (by omega) (by omega) rfl (by decide) ?_
      refine sg_bipush (pc := 74) (z := -2) dX2_signValue_74 (by decide) ?_
      refine sg_iret (pc := 76) dX2_signValue_76 rfl (by omega) (by omega) ?_
      first | exact hQ _ (by (try simp only [fn_val] at *) <;> first | omega | ((repeat' split) <;> omega) | grind) | exact hQ _ (by simp [fn_val, fn_plain])

set_option maxRecDepth 100000 in
theorem s_X2_shifted {w : sg_W} {Q : sg_O → sg_H → Prop} {h : sg_H} (g : sg_G w) {d : Nat} (hd : 3 ≤ d) {x r m : Int} (hQ : ∀ z : Int, Q (.inl (some (sg_i z))) h) : sg_C w mi_X2_shifted d 0 0 [sg_i x, sg_i r, sg_i m] h Q := by
  refine sg_of (by decide +kernel) (Nat.le_of_ble_eq_true rfl) ?_
  refine sg_rng (j := 2) rfl (fun r2 s2 => ?_)
  refine sg_iload_n (pc := 0) (j := 1) dX2_shifted_0 rfl rfl ?_
  refine sg_cS1 (pc := 1) (d' := d - 1) (mc' := 0) (ms' := 0) g dX2_shifted_1 cb_X2_isRadix ml_X2_36 ms_X2_isRadix (Nat.le_of_ble_eq_true rfl) (by omega) (by omega) (by omega) ?_
  refine s_X2_isRadix g (by omega) (fun z1 h1 b1 => sg_K1 ?_)
  (try simp only [fn_radix] at h1)
  refine sg_if_ne (pc := 4) (tgt := 9) dX2_shifted_4 (by decide) (fun c4 => ?_) (fun c4 => ?_)
  · refine sg_iload_n (pc := 9) (j := 0) dX2_shifted_9 rfl rfl ?_
    refine sg_istore_n (pc := 10) (j := 3) dX2_shifted_10 rfl (by decide) ?_
    refine sg_iconst (pc := 11) (z := 0) dX2_shifted_11 (by decide) ?_
    refine sg_istore (pc := 12) dX2_shifted_12 (by decide) ?_
    have loop14 : ∀ (N : Nat) (k s : Int), 0 ≤ k → (m - k).toNat < N → sg_R w mi_X2_shifted d 0 0 Q 14 [(4, sg_i k), (3, sg_i s), (0, sg_i x), (1, sg_i r), (2, sg_i m)] [] h 0 0 := by
      intro N
      induction N with
      | zero => intro k s k0 hm; exact absurd hm (Nat.not_lt_zero _)
      | succ N ih =>
        intro k s k0 hm
        refine sg_iload (pc := 14) dX2_shifted_14 rfl ?_
        refine sg_iload_n (pc := 16) (j := 2) dX2_shifted_16 rfl rfl ?_
        refine sg_icmp_ge (pc := 17) (tgt := 30) dX2_shifted_17 (by decide) (fun c17 => ?_) (fun c17 => ?_)
        · refine sg_iload_n (pc := 30) (j := 3) dX2_shifted_30 rfl rfl ?_
          refine sg_iret (pc := 31) dX2_shifted_31 rfl (by omega) (by omega) ?_
          exact hQ _
        · refine sg_iload_n (pc := 20) (j := 3) dX2_shifted_20 rfl rfl ?_
          refine sg_iload_n (pc := 21) (j := 1) dX2_shifted_21 rfl rfl ?_
          first | refine sg_idivP (pc := 22) dX2_shifted_22 (by omega) (by omega) (by omega) ?_ | refine sg_idiv (pc := 22) dX2_shifted_22 (by first | omega | assumption) ?_
          refine sg_istore_n (pc := 23) (j := 3) dX2_shifted_23 rfl (by decide) ?_
          first | refine sg_iincB (pc := 24) dX2_shifted_24 rfl (by decide) (by decide) (by omega) (by omega) ?_ | refine sg_iinc (pc := 24) dX2_shifted_24 rfl (by decide) (by decide) ?_
          refine sg_goto (pc := 27) (tgt := 14) dX2_shifted_27 (by decide) ?_
          refine sg_lsub (lv' := [(4, _), (3, _), (0, _), (1, _), (2, _)]) ⟨rfl, rfl, rfl, rfl, rfl, trivial⟩ ?_
          exact ih _ _ (by omega) (by omega)
    refine sg_lsub (lv' := [(4, _), (3, _), (0, _), (1, _), (2, _)]) ⟨rfl, rfl, rfl, rfl, rfl, trivial⟩ ?_
    exact loop14 _ _ _ (by omega) (Nat.lt_succ_self _)
  · refine sg_iconst (pc := 7) (z := 0) dX2_shifted_7 (by decide) ?_
    refine sg_iret (pc := 8) dX2_shifted_8 rfl (by omega) (by omega) ?_
    exact hQ _

set_option maxRecDepth 100000 in
theorem s_X2_digitsOf {w : sg_W} {Q : sg_O → sg_H → Prop} {h : sg_H} (g : sg_G w) {d : Nat} (hd : 4 ≤ d) {x r : Int} (hQ : ∀ z : Int, 1 ≤ z → z ≤ 20 → Q (.inl (some (sg_i z))) h) : sg_C w mi_X2_digitsOf d 0 0 [sg_i x, sg_i r] h Q := by
  refine sg_of (by decide +kernel) (Nat.le_of_ble_eq_true rfl) ?_
  refine sg_iconst (pc := 0) (z := 1) dX2_digitsOf_0 (by decide) ?_
  refine sg_istore_n (pc := 1) (j := 2) dX2_digitsOf_1 rfl (by decide) ?_
  have loop2 : ∀ (N : Nat) (k : Int), 1 ≤ k → k ≤ 20 → (20 - k).toNat < N → sg_R w mi_X2_digitsOf d 0 0 Q 2 [(2, sg_i k), (0, sg_i x), (1, sg_i r)] [] h 0 0 := by
    intro N
    induction N with
    | zero => intro k k0 k1 hm; exact absurd hm (Nat.not_lt_zero _)
    | succ N ih =>
      intro k k0 k1 hm
      refine sg_iload_n (pc := 2) (j := 2) dX2_digitsOf_2 rfl rfl ?_
      refine sg_bipush (pc := 3) (z := 20) dX2_digitsOf_3 (by decide) ?_
      refine sg_icmp_ge (pc := 5) (tgt := 23) dX2_digitsOf_5 (by decide) (fun c5 => ?_) (fun c5 => ?_)
      · refine sg_iload_n (pc := 23) (j := 2) dX2_digitsOf_23 rfl rfl ?_
        refine sg_iret (pc := 24) dX2_digitsOf_24 rfl (by omega) (by omega) ?_
        exact hQ _ (by omega) (by omega)
      · refine sg_iload_n (pc := 8) (j := 0) dX2_digitsOf_8 rfl rfl ?_
        refine sg_iload_n (pc := 9) (j := 1) dX2_digitsOf_9 rfl rfl ?_
        refine sg_iload_n (pc := 10) (j := 2) dX2_digitsOf_10 rfl rfl ?_
        refine sg_cS3 (pc := 11) (d' := d - 1) (mc' := 0) (ms' := 0) g dX2_digitsOf_11 cb_X2_shifted ml_X2_39 ms_X2_shifted (Nat.le_of_ble_eq_true rfl) (by omega) (by omega) (by omega) ?_
        refine s_X2_shifted g (by omega) (fun z11 => sg_K1 ?_)
        refine sg_if_le (pc := 14) (tgt := 23) dX2_digitsOf_14 (by decide) (fun c14 => ?_) (fun c14 => ?_)
        · refine sg_iload_n (pc := 23) (j := 2) dX2_digitsOf_23 rfl rfl ?_
          refine sg_iret (pc := 24) dX2_digitsOf_24 rfl (by omega) (by omega) ?_
          exact hQ _ (by omega) (by omega)
        · first | refine sg_iincB (pc := 17) dX2_digitsOf_17 rfl (by decide) (by decide) (by omega) (by omega) ?_ | refine sg_iinc (pc := 17) dX2_digitsOf_17 rfl (by decide) (by decide) ?_
          refine sg_goto (pc := 20) (tgt := 2) dX2_digitsOf_20 (by decide) ?_
          refine sg_lsub (lv' := [(2, _), (0, _), (1, _)]) ⟨rfl, rfl, rfl, trivial⟩ ?_
          exact ih _ (by omega) (by omega) (by omega)
  refine sg_lsub (lv' := [(2, _), (0, _), (1, _)]) ⟨rfl, rfl, rfl, trivial⟩ ?_
  exact loop2 _ _ (by omega) (by omega) (Nat.lt_succ_self _)

set_option maxRecDepth 100000 in
theorem s_X2_digitNumber {w : sg_W} {Q : sg_O → sg_H → Prop} {h : sg_H} (g : sg_G w) {d : Nat} (hd : 4 ≤ d) {x r m : Int} (hQ : ∀ z : Int, Q (.inl (some (sg_i z))) h) : sg_C w mi_X2_digitNumber d 0 0 [sg_i x, sg_i r, sg_i m] h Q := by
  refine sg_of (by decide +kernel) (Nat.le_of_ble_eq_true rfl) ?_
  refine sg_iload_n (pc := 0) (j := 1) dX2_digitNumber_0 rfl rfl ?_
  refine sg_cS1 (pc := 1) (d' := d - 1) (mc' := 0) (ms' := 0) g dX2_digitNumber_1 cb_X2_isRadix ml_X2_36 ms_X2_isRadix (Nat.le_of_ble_eq_true rfl) (by omega) (by omega) (by omega) ?_
  refine s_X2_isRadix g (by omega) (fun z1 h1 b1 => sg_K1 ?_)
  (try simp only [fn_radix] at h1)
  refine sg_if_eq (pc := 4) (tgt := 18) dX2_digitNumber_4 (by decide) (fun c4 => ?_) (fun c4 => ?_)
  · refine sg_iconst (pc := 18) (z := 0) dX2_digitNumber_18 (by decide) ?_
    refine sg_iret (pc := 19) dX2_digitNumber_19 rfl (by omega) (by omega) ?_
    exact hQ _
  · refine sg_iload_n (pc := 7) (j := 0) dX2_digitNumber_7 rfl rfl ?_
    refine sg_iload_n (pc := 8) (j := 1) dX2_digitNumber_8 rfl rfl ?_
    refine sg_iload_n (pc := 9) (j := 2) dX2_digitNumber_9 rfl rfl ?_
    refine sg_cS3 (pc := 10) (d' := d - 1) (mc' := 0) (ms' := 0) g dX2_digitNumber_10 cb_X2_shifted ml_X2_39 ms_X2_shifted (Nat.le_of_ble_eq_true rfl) (by omega) (by omega) (by omega) ?_
    refine s_X2_shifted g (by omega) (fun z10 => sg_K1 ?_)
    refine sg_iload_n (pc := 13) (j := 1) dX2_digitNumber_13 rfl rfl ?_
    first | refine sg_iremP (pc := 14) dX2_digitNumber_14 (by omega) (by omega) ?_ | refine sg_irem (pc := 14) dX2_digitNumber_14 (by first | omega | assumption) ?_
    refine sg_goto (pc := 15) (tgt := 19) dX2_digitNumber_15 (by decide) ?_
    refine sg_iret (pc := 19) dX2_digitNumber_19 rfl (by omega) (by omega) ?_
    exact hQ _

set_option maxRecDepth 100000 in
theorem s_X2_firstSpelled {w : sg_W} {Q : sg_O → sg_H → Prop} {h : sg_H} (g : sg_G w) {d : Nat} (hd : 4 ≤ d) {x : Int} (hQ : ∀ z : Int, 0 ≤ z → z ≤ 122 → Q (.inl (some (sg_i z))) h) : sg_C w mi_X2_firstSpelled d 0 0 [sg_i x] h Q := by
  refine sg_of (by decide +kernel) (Nat.le_of_ble_eq_true rfl) ?_
  refine sg_iload_n (pc := 0) (j := 0) dX2_firstSpelled_0 rfl rfl ?_
  refine sg_bipush (pc := 1) (z := 16) dX2_firstSpelled_1 (by decide) ?_
  first | refine sg_idivP (pc := 3) dX2_firstSpelled_3 (by omega) (by omega) (by omega) ?_ | refine sg_idiv (pc := 3) dX2_firstSpelled_3 (by first | omega | assumption) ?_
  refine sg_bipush (pc := 4) (z := 16) dX2_firstSpelled_4 (by decide) ?_
  refine sg_cS2 (pc := 6) (d' := d - 1) (mc' := 0) (ms' := 0) g dX2_firstSpelled_6 cb_X2_digitOf ml_X2_43 ms_X2_digitOf (Nat.le_of_ble_eq_true rfl) (by omega) (by omega) (by omega) ?_
  refine s_X2_digitOf g (by omega) (fun z6 h6 => sg_K1 ?_)
  refine sg_iret (pc := 9) dX2_firstSpelled_9 rfl (by omega) (by omega) ?_
  (try simp only [fn_digit, fn_radix] at *)
  exact hQ _ (by first | omega | (subst_vars; (repeat' split) <;> omega)) (by first | omega | (subst_vars; (repeat' split) <;> omega))

set_option maxRecDepth 100000 in
theorem s_X2_secondSpelled {w : sg_W} {Q : sg_O → sg_H → Prop} {h : sg_H} (g : sg_G w) {d : Nat} (hd : 4 ≤ d) {x : Int} (hQ : ∀ z : Int, 0 ≤ z → z ≤ 122 → Q (.inl (some (sg_i z))) h) : sg_C w mi_X2_secondSpelled d 0 0 [sg_i x] h Q := by
  refine sg_of (by decide +kernel) (Nat.le_of_ble_eq_true rfl) ?_
  refine sg_iload_n (pc := 0) (j := 0) dX2_secondSpelled_0 rfl rfl ?_
  refine sg_bipush (pc := 1) (z := 16) dX2_secondSpelled_1 (by decide) ?_
  first | refine sg_iremP (pc := 3) dX2_secondSpelled_3 (by omega) (by omega) ?_ | refine sg_irem (pc := 3) dX2_secondSpelled_3 (by first | omega | assumption) ?_
  refine sg_bipush (pc := 4) (z := 16) dX2_secondSpelled_4 (by decide) ?_
  refine sg_cS2 (pc := 6) (d' := d - 1) (mc' := 0) (ms' := 0) g dX2_secondSpelled_6 cb_X2_digitOf ml_X2_43 ms_X2_digitOf (Nat.le_of_ble_eq_true rfl) (by omega) (by omega) (by omega) ?_
  refine s_X2_digitOf g (by omega) (fun z6 h6 => sg_K1 ?_)
  refine sg_iret (pc := 9) dX2_secondSpelled_9 rfl (by omega) (by omega) ?_
  (try simp only [fn_digit, fn_radix] at *)
  exact hQ _ (by first | omega | (subst_vars; (repeat' split) <;> omega)) (by first | omega | (subst_vars; (repeat' split) <;> omega))

set_option maxRecDepth 100000 in
theorem s_X2_formOf {w : sg_W} {Q : sg_O → sg_H → Prop} {h : sg_H} (g : sg_G w) {d : Nat} (hd : 4 ≤ d) {x : Int} (hQ : ∀ z : Int, 0 ≤ z → z ≤ 122 → Q (.inl (some (sg_i z))) h) : sg_C w mi_X2_formOf d 0 0 [sg_i x] h Q := by
  refine sg_of (by decide +kernel) (Nat.le_of_ble_eq_true rfl) ?_
  refine sg_iload_n (pc := 0) (j := 0) dX2_formOf_0 rfl rfl ?_
  refine sg_iconst (pc := 1) (z := 0) dX2_formOf_1 (by decide) ?_
  refine sg_cS2 (pc := 2) (d' := d - 1) (mc' := 0) (ms' := 0) g dX2_formOf_2 cb_X2_isOf ml_X2_25 ms_X2_isOf (Nat.le_of_ble_eq_true rfl) (by omega) (by omega) (by omega) ?_
  refine s_X2_isOf g (by omega) (fun z2 h2 b2 => sg_K1 ?_)
  refine sg_if_eq (pc := 5) (tgt := 11) dX2_formOf_5 (by decide) (fun c5 => ?_) (fun c5 => ?_)
  · refine sg_iload_n (pc := 11) (j := 0) dX2_formOf_11 rfl rfl ?_
    refine sg_iconst (pc := 12) (z := 4) dX2_formOf_12 (by decide) ?_
    refine sg_cS2 (pc := 13) (d' := d - 1) (mc' := 0) (ms' := 0) g dX2_formOf_13 cb_X2_isOf ml_X2_25 ms_X2_isOf (Nat.le_of_ble_eq_true rfl) (by omega) (by omega) (by omega) ?_
    refine s_X2_isOf g (by omega) (fun z13 h13 b13 => sg_K1 ?_)
    refine sg_if_eq (pc := 16) (tgt := 22) dX2_formOf_16 (by decide) (fun c16 => ?_) (fun c16 => ?_)
    · refine sg_iload_n (pc := 22) (j := 0) dX2_formOf_22 rfl rfl ?_
      refine sg_iconst (pc := 23) (z := 1) dX2_formOf_23 (by decide) ?_
      refine sg_cS2 (pc := 24) (d' := d - 1) (mc' := 0) (ms' := 0) g dX2_formOf_24 cb_X2_isOf ml_X2_25 ms_X2_isOf (Nat.le_of_ble_eq_true rfl) (by omega) (by omega) (by omega) ?_
      refine s_X2_isOf g (by omega) (fun z24 h24 b24 => sg_K1 ?_)
      refine sg_if_eq (pc := 27) (tgt := 33) dX2_formOf_27 (by decide) (fun c27 => ?_) (fun c27 => ?_)
      · refine sg_iload_n (pc := 33) (j := 0) dX2_formOf_33 rfl rfl ?_
        refine sg_iconst (pc := 34) (z := 3) dX2_formOf_34 (by decide) ?_
        refine sg_cS2 (pc := 35) (d' := d - 1) (mc' := 0) (ms' := 0) g dX2_formOf_35 cb_X2_isOf ml_X2_25 ms_X2_isOf (Nat.le_of_ble_eq_true rfl) (by omega) (by omega) (by omega) ?_
        refine s_X2_isOf g (by omega) (fun z35 h35 b35 => sg_K1 ?_)
        refine sg_if_eq (pc := 38) (tgt := 46) dX2_formOf_38 (by decide) (fun c38 => ?_) (fun c38 => ?_)
        · refine sg_bipush (pc := 46) (z := 45) dX2_formOf_46 (by decide) ?_
          refine sg_cret (pc := 48) dX2_formOf_48 rfl (by omega) (by omega) (by omega) (by omega) ?_
          exact hQ _ (by omega) (by omega)
        · refine sg_bipush (pc := 41) (z := 119) dX2_formOf_41 (by decide) ?_
          refine sg_goto (pc := 43) (tgt := 48) dX2_formOf_43 (by decide) ?_
          refine sg_cret (pc := 48) dX2_formOf_48 rfl (by omega) (by omega) (by omega) (by omega) ?_
          exact hQ _ (by omega) (by omega)
      · refine sg_bipush (pc := 30) (z := 108) dX2_formOf_30 (by decide) ?_
        refine sg_cret (pc := 32) dX2_formOf_32 rfl (by omega) (by omega) (by omega) (by omega) ?_
        exact hQ _ (by omega) (by omega)
    · refine sg_bipush (pc := 19) (z := 117) dX2_formOf_19 (by decide) ?_
      refine sg_cret (pc := 21) dX2_formOf_21 rfl (by omega) (by omega) (by omega) (by omega) ?_
      exact hQ _ (by omega) (by omega)
  · refine sg_bipush (pc := 8) (z := 100) dX2_formOf_8 (by decide) ?_
    refine sg_cret (pc := 10) dX2_formOf_10 rfl (by omega) (by omega) (by omega) (by omega) ?_
    exact hQ _ (by omega) (by omega)

set_option maxRecDepth 100000 in
theorem s_X2_isSoundSign {w : sg_W} {Q : sg_O → sg_H → Prop} {h : sg_H} (g : sg_G w) {d : Nat} (hd : 4 ≤ d) {x : Int} (hQ : ∀ z : Int, (z = 0 ∨ z = 1) → Q (.inl (some (sg_i z))) h) : sg_C w mi_X2_isSoundSign d 0 0 [sg_i x] h Q := by
  refine sg_of (by decide +kernel) (Nat.le_of_ble_eq_true rfl) ?_
  refine sg_iload_n (pc := 0) (j := 0) dX2_isSoundSign_0 rfl rfl ?_
  refine sg_iconst (pc := 1) (z := 1) dX2_isSoundSign_1 (by decide) ?_
  refine sg_cS2 (pc := 2) (d' := d - 1) (mc' := 0) (ms' := 0) g dX2_isSoundSign_2 cb_X2_isOf ml_X2_25 ms_X2_isOf (Nat.le_of_ble_eq_true rfl) (by omega) (by omega) (by omega) ?_
  refine s_X2_isOf g (by omega) (fun z2 h2 b2 => sg_K1 ?_)
  refine sg_if_ne (pc := 5) (tgt := 16) dX2_isSoundSign_5 (by decide) (fun c5 => ?_) (fun c5 => ?_)
  · refine sg_iconst (pc := 16) (z := 1) dX2_isSoundSign_16 (by decide) ?_
    refine sg_goto (pc := 17) (tgt := 21) dX2_isSoundSign_17 (by decide) ?_
    refine sg_istore_n (pc := 21) (j := 1) dX2_isSoundSign_21 rfl (by decide) ?_
    refine sg_iload_n (pc := 22) (j := 0) dX2_isSoundSign_22 rfl rfl ?_
    refine sg_iconst (pc := 23) (z := 2) dX2_isSoundSign_23 (by decide) ?_
    refine sg_cS2 (pc := 24) (d' := d - 1) (mc' := 0) (ms' := 0) g dX2_isSoundSign_24 cb_X2_isOf ml_X2_25 ms_X2_isOf (Nat.le_of_ble_eq_true rfl) (by omega) (by omega) (by omega) ?_
    refine s_X2_isOf g (by omega) (fun z24 h24 b24 => sg_K1 ?_)
    refine sg_iload_n (pc := 27) (j := 1) dX2_isSoundSign_27 rfl rfl ?_
    refine sg_icmp_eq (pc := 28) (tgt := 33) dX2_isSoundSign_28 (by decide) (fun c28 => ?_) (fun c28 => ?_)
    · refine sg_iload_n (pc := 33) (j := 0) dX2_isSoundSign_33 rfl rfl ?_
      refine sg_cS1 (pc := 34) (d' := d - 1) (mc' := 0) (ms' := 0) g dX2_isSoundSign_34 cb_X2_lowerOf ml_X2_47 ms_X2_lowerOf (Nat.le_of_ble_eq_true rfl) (by omega) (by omega) (by omega) ?_
      refine s_X2_lowerOf g (by omega) (fun z34 h34 => sg_K1 ?_)
      refine sg_istore_n (pc := 37) (j := 2) dX2_isSoundSign_37 rfl (by decide) ?_
      refine sg_iload_n (pc := 38) (j := 0) dX2_isSoundSign_38 rfl rfl ?_
      refine sg_iconst (pc := 39) (z := 4) dX2_isSoundSign_39 (by decide) ?_
      refine sg_cS2 (pc := 40) (d' := d - 1) (mc' := 0) (ms' := 0) g dX2_isSoundSign_40 cb_X2_isOf ml_X2_25 ms_X2_isOf (Nat.le_of_ble_eq_true rfl) (by omega) (by omega) (by omega) ?_
      refine s_X2_isOf g (by omega) (fun z40 h40 b40 => sg_K1 ?_)
      refine sg_if_eq (pc := 43) (tgt := 61) dX2_isSoundSign_43 (by decide) (fun c43 => ?_) (fun c43 => ?_)
      · refine sg_iload_n (pc := 61) (j := 0) dX2_isSoundSign_61 rfl rfl ?_
        refine sg_bipush (pc := 62) (z := 36) dX2_isSoundSign_62 (by decide) ?_
        refine sg_cS2 (pc := 64) (d' := d - 1) (mc' := 0) (ms' := 0) g dX2_isSoundSign_64 cb_X2_numberOf ml_X2_53 ms_X2_numberOf (Nat.le_of_ble_eq_true rfl) (by omega) (by omega) (by omega) ?_
        refine s_X2_numberOf g (by omega) (fun z64 h64 => sg_K1 ?_)
        refine sg_istore_n (pc := 67) (j := 3) dX2_isSoundSign_67 rfl (by decide) ?_
        refine sg_iload_n (pc := 68) (j := 3) dX2_isSoundSign_68 rfl rfl ?_
        refine sg_iconst (pc := 69) (z := -1) dX2_isSoundSign_69 (by decide) ?_
        refine sg_icmp_eq (pc := 70) (tgt := 89) dX2_isSoundSign_70 (by decide) (fun c70 => ?_) (fun c70 => ?_)
        · refine sg_iconst (pc := 89) (z := 1) dX2_isSoundSign_89 (by decide) ?_
          refine sg_goto (pc := 90) (tgt := 94) dX2_isSoundSign_90 (by decide) ?_
          refine sg_zret (pc := 94) dX2_isSoundSign_94 rfl (by first | exact Or.inl rfl | exact Or.inr rfl | omega | assumption) (by omega) (by omega) ?_
          exact hQ _ (by first | exact Or.inl rfl | exact Or.inr rfl | omega | assumption)
        · refine sg_iload_n (pc := 73) (j := 3) dX2_isSoundSign_73 rfl rfl ?_
          refine sg_bipush (pc := 74) (z := 36) dX2_isSoundSign_74 (by decide) ?_
          refine sg_cS2 (pc := 76) (d' := d - 1) (mc' := 0) (ms' := 0) g dX2_isSoundSign_76 cb_X2_digitOf ml_X2_43 ms_X2_digitOf (Nat.le_of_ble_eq_true rfl) (by omega) (by omega) (by omega) ?_
          refine s_X2_digitOf g (by omega) (fun z76 h76 => sg_K1 ?_)
          refine sg_cS1 (pc := 79) (d' := d - 1) (mc' := 0) (ms' := 0) g dX2_isSoundSign_79 cb_X2_upperOf ml_X2_50 ms_X2_upperOf (Nat.le_of_ble_eq_true rfl) (by omega) (by omega) (by omega) ?_
          refine s_X2_upperOf g (by omega) (fun z79 h79 => sg_K1 ?_)
          refine sg_iload_n (pc := 82) (j := 0) dX2_isSoundSign_82 rfl rfl ?_
          refine sg_cS1 (pc := 83) (d' := d - 1) (mc' := 0) (ms' := 0) g dX2_isSoundSign_83 cb_X2_upperOf ml_X2_50 ms_X2_upperOf (Nat.le_of_ble_eq_true rfl) (by omega) (by omega) (by omega) ?_
          refine s_X2_upperOf g (by omega) (fun z83 h83 => sg_K1 ?_)
          refine sg_icmp_ne (pc := 86) (tgt := 93) dX2_isSoundSign_86 (by decide) (fun c86 => ?_) (fun c86 => ?_)
          · refine sg_iconst (pc := 93) (z := 0) dX2_isSoundSign_93 (by decide) ?_
            refine sg_zret (pc := 94) dX2_isSoundSign_94 rfl (by first | exact Or.inl rfl | exact Or.inr rfl | omega | assumption) (by omega) (by omega) ?_
            exact hQ _ (by first | exact Or.inl rfl | exact Or.inr rfl | omega | assumption)
          · refine sg_iconst (pc := 89) (z := 1) dX2_isSoundSign_89 (by decide) ?_
            refine sg_goto (pc := 90) (tgt := 94) dX2_isSoundSign_90 (by decide) ?_
            refine sg_zret (pc := 94) dX2_isSoundSign_94 rfl (by first | exact Or.inl rfl | exact Or.inr rfl | omega | assumption) (by omega) (by omega) ?_
            exact hQ _ (by first | exact Or.inl rfl | exact Or.inr rfl | omega | assumption)
      · refine sg_iload_n (pc := 46) (j := 2) dX2_isSoundSign_46 rfl rfl ?_
        refine sg_iload_n (pc := 47) (j := 0) dX2_isSoundSign_47 rfl rfl ?_
        refine sg_icmp_eq (pc := 48) (tgt := 59) dX2_isSoundSign_48 (by decide) (fun c48 => ?_) (fun c48 => ?_)
        · refine sg_iconst (pc := 59) (z := 0) dX2_isSoundSign_59 (by decide) ?_
          refine sg_zret (pc := 60) dX2_isSoundSign_60 rfl (by first | exact Or.inl rfl | exact Or.inr rfl | omega | assumption) (by omega) (by omega) ?_
          exact hQ _ (by first | exact Or.inl rfl | exact Or.inr rfl | omega | assumption)
        · refine sg_iload_n (pc := 51) (j := 2) dX2_isSoundSign_51 rfl rfl ?_
          refine sg_cS1 (pc := 52) (d' := d - 1) (mc' := 0) (ms' := 0) g dX2_isSoundSign_52 cb_X2_upperOf ml_X2_50 ms_X2_upperOf (Nat.le_of_ble_eq_true rfl) (by omega) (by omega) (by omega) ?_
          refine s_X2_upperOf g (by omega) (fun z52 h52 => sg_K1 ?_)
          refine sg_iload_n (pc := 55) (j := 0) dX2_isSoundSign_55 rfl rfl ?_
          refine sg_icmp_eq (pc := 56) (tgt := 61) dX2_isSoundSign_56 (by decide) (fun c56 => ?_) (fun c56 => ?_)
          · refine sg_iload_n (pc := 61) (j := 0) dX2_isSoundSign_61 rfl rfl ?_
            refine sg_bipush (pc := 62) (z := 36) dX2_isSoundSign_62 (by decide) ?_
            refine sg_cS2 (pc := 64) (d' := d - 1) (mc' := 0) (ms' := 0) g dX2_isSoundSign_64 cb_X2_numberOf ml_X2_53 ms_X2_numberOf (Nat.le_of_ble_eq_true rfl) (by omega) (by omega) (by omega) ?_
            refine s_X2_numberOf g (by omega) (fun z64 h64 => sg_K1 ?_)
            refine sg_istore_n (pc := 67) (j := 3) dX2_isSoundSign_67 rfl (by decide) ?_
            refine sg_iload_n (pc := 68) (j := 3) dX2_isSoundSign_68 rfl rfl ?_
            refine sg_iconst (pc := 69) (z := -1) dX2_isSoundSign_69 (by decide) ?_
            refine sg_icmp_eq (pc := 70) (tgt := 89) dX2_isSoundSign_70 (by decide) (fun c70 => ?_) (fun c70 => ?_)
            · refine sg_iconst (pc := 89) (z := 1) dX2_isSoundSign_89 (by decide) ?_
              refine sg_goto (pc := 90) (tgt := 94) dX2_isSoundSign_90 (by decide) ?_
              refine sg_zret (pc := 94) dX2_isSoundSign_94 rfl (by first | exact Or.inl rfl | exact Or.inr rfl | omega | assumption) (by omega) (by omega) ?_
              exact hQ _ (by first | exact Or.inl rfl | exact Or.inr rfl | omega | assumption)
            · refine sg_iload_n (pc := 73) (j := 3) dX2_isSoundSign_73 rfl rfl ?_
              refine sg_bipush (pc := 74) (z := 36) dX2_isSoundSign_74 (by decide) ?_
              refine sg_cS2 (pc := 76) (d' := d - 1) (mc' := 0) (ms' := 0) g dX2_isSoundSign_76 cb_X2_digitOf ml_X2_43 ms_X2_digitOf (Nat.le_of_ble_eq_true rfl) (by omega) (by omega) (by omega) ?_
              refine s_X2_digitOf g (by omega) (fun z76 h76 => sg_K1 ?_)
              refine sg_cS1 (pc := 79) (d' := d - 1) (mc' := 0) (ms' := 0) g dX2_isSoundSign_79 cb_X2_upperOf ml_X2_50 ms_X2_upperOf (Nat.le_of_ble_eq_true rfl) (by omega) (by omega) (by omega) ?_
              refine s_X2_upperOf g (by omega) (fun z79 h79 => sg_K1 ?_)
              refine sg_iload_n (pc := 82) (j := 0) dX2_isSoundSign_82 rfl rfl ?_
              refine sg_cS1 (pc := 83) (d' := d - 1) (mc' := 0) (ms' := 0) g dX2_isSoundSign_83 cb_X2_upperOf ml_X2_50 ms_X2_upperOf (Nat.le_of_ble_eq_true rfl) (by omega) (by omega) (by omega) ?_
              refine s_X2_upperOf g (by omega) (fun z83 h83 => sg_K1 ?_)
              refine sg_icmp_ne (pc := 86) (tgt := 93) dX2_isSoundSign_86 (by decide) (fun c86 => ?_) (fun c86 => ?_)
              · refine sg_iconst (pc := 93) (z := 0) dX2_isSoundSign_93 (by decide) ?_
                refine sg_zret (pc := 94) dX2_isSoundSign_94 rfl (by first | exact Or.inl rfl | exact Or.inr rfl | omega | assumption) (by omega) (by omega) ?_
                exact hQ _ (by first | exact Or.inl rfl | exact Or.inr rfl | omega | assumption)
              · refine sg_iconst (pc := 89) (z := 1) dX2_isSoundSign_89 (by decide) ?_
                refine sg_goto (pc := 90) (tgt := 94) dX2_isSoundSign_90 (by decide) ?_
                refine sg_zret (pc := 94) dX2_isSoundSign_94 rfl (by first | exact Or.inl rfl | exact Or.inr rfl | omega | assumption) (by omega) (by omega) ?_
                exact hQ _ (by first | exact Or.inl rfl | exact Or.inr rfl | omega | assumption)
          · refine sg_iconst (pc := 59) (z := 0) dX2_isSoundSign_59 (by decide) ?_
            refine sg_zret (pc := 60) dX2_isSoundSign_60 rfl (by first | exact Or.inl rfl | exact Or.inr rfl | omega | assumption) (by omega) (by omega) ?_
            exact hQ _ (by first | exact Or.inl rfl | exact Or.inr rfl | omega | assumption)
    · refine sg_iconst (pc := 31) (z := 0) dX2_isSoundSign_31 (by decide) ?_
      refine sg_zret (pc := 32) dX2_isSoundSign_32 rfl (by first | exact Or.inl rfl | exact Or.inr rfl | omega | assumption) (by omega) (by omega) ?_
      exact hQ _ (by first | exact Or.inl rfl | exact Or.inr rfl | omega | assumption)
  · refine sg_iload_n (pc := 8) (j := 0) dX2_isSoundSign_8 rfl rfl ?_
    refine sg_iconst (pc := 9) (z := 0) dX2_isSoundSign_9 (by decide) ?_
    refine sg_cS2 (pc := 10) (d' := d - 1) (mc' := 0) (ms' := 0) g dX2_isSoundSign_10 cb_X2_isOf ml_X2_25 ms_X2_isOf (Nat.le_of_ble_eq_true rfl) (by omega) (by omega) (by omega) ?_
    refine s_X2_isOf g (by omega) (fun z10 h10 b10 => sg_K1 ?_)
    refine sg_if_eq (pc := 13) (tgt := 20) dX2_isSoundSign_13 (by decide) (fun c13 => ?_) (fun c13 => ?_)
    · refine sg_iconst (pc := 20) (z := 0) dX2_isSoundSign_20 (by decide) ?_
      refine sg_istore_n (pc := 21) (j := 1) dX2_isSoundSign_21 rfl (by decide) ?_
      refine sg_iload_n (pc := 22) (j := 0) dX2_isSoundSign_22 rfl rfl ?_
      refine sg_iconst (pc := 23) (z := 2) dX2_isSoundSign_23 (by decide) ?_
      refine sg_cS2 (pc := 24) (d' := d - 1) (mc' := 0) (ms' := 0) g dX2_isSoundSign_24 cb_X2_isOf ml_X2_25 ms_X2_isOf (Nat.le_of_ble_eq_true rfl) (by omega) (by omega) (by omega) ?_
      refine s_X2_isOf g (by omega) (fun z24 h24 b24 => sg_K1 ?_)
      refine sg_iload_n (pc := 27) (j := 1) dX2_isSoundSign_27 rfl rfl ?_
      refine sg_icmp_eq (pc := 28) (tgt := 33) dX2_isSoundSign_28 (by decide) (fun c28 => ?_) (fun c28 => ?_)
      · refine sg_iload_n (pc := 33) (j := 0) dX2_isSoundSign_33 rfl rfl ?_
        refine sg_cS1 (pc := 34) (d' := d - 1) (mc' := 0) (ms' := 0) g dX2_isSoundSign_34 cb_X2_lowerOf ml_X2_47 ms_X2_lowerOf (Nat.le_of_ble_eq_true rfl) (by omega) (by omega) (by omega) ?_
        refine s_X2_lowerOf g (by omega) (fun z34 h34 => sg_K1 ?_)
        refine sg_istore_n (pc := 37) (j := 2) dX2_isSoundSign_37 rfl (by decide) ?_
        refine sg_iload_n (pc := 38) (j := 0) dX2_isSoundSign_38 rfl rfl ?_
        refine sg_iconst (pc := 39) (z := 4) dX2_isSoundSign_39 (by decide) ?_
        refine sg_cS2 (pc := 40) (d' := d - 1) (mc' := 0) (ms' := 0) g dX2_isSoundSign_40 cb_X2_isOf ml_X2_25 ms_X2_isOf (Nat.le_of_ble_eq_true rfl) (by omega) (by omega) (by omega) ?_
        refine s_X2_isOf g (by omega) (fun z40 h40 b40 => sg_K1 ?_)
        refine sg_if_eq (pc := 43) (tgt := 61) dX2_isSoundSign_43 (by decide) (fun c43 => ?_) (fun c43 => ?_)
        · refine sg_iload_n (pc := 61) (j := 0) dX2_isSoundSign_61 rfl rfl ?_
          refine sg_bipush (pc := 62) (z := 36) dX2_isSoundSign_62 (by decide) ?_
          refine sg_cS2 (pc := 64) (d' := d - 1) (mc' := 0) (ms' := 0) g dX2_isSoundSign_64 cb_X2_numberOf ml_X2_53 ms_X2_numberOf (Nat.le_of_ble_eq_true rfl) (by omega) (by omega) (by omega) ?_
          refine s_X2_numberOf g (by omega) (fun z64 h64 => sg_K1 ?_)
          refine sg_istore_n (pc := 67) (j := 3) dX2_isSoundSign_67 rfl (by decide) ?_
          refine sg_iload_n (pc := 68) (j := 3) dX2_isSoundSign_68 rfl rfl ?_
          refine sg_iconst (pc := 69) (z := -1) dX2_isSoundSign_69 (by decide) ?_
          refine sg_icmp_eq (pc := 70) (tgt := 89) dX2_isSoundSign_70 (by decide) (fun c70 => ?_) (fun c70 => ?_)
          · refine sg_iconst (pc := 89) (z := 1) dX2_isSoundSign_89 (by decide) ?_
            refine sg_goto (pc := 90) (tgt := 94) dX2_isSoundSign_90 (by decide) ?_
            refine sg_zret (pc := 94) dX2_isSoundSign_94 rfl (by first | exact Or.inl rfl | exact Or.inr rfl | omega | assumption) (by omega) (by omega) ?_
            exact hQ _ (by first | exact Or.inl rfl | exact Or.inr rfl | omega | assumption)
          · refine sg_iload_n (pc := 73) (j := 3) dX2_isSoundSign_73 rfl rfl ?_
            refine sg_bipush (pc := 74) (z := 36) dX2_isSoundSign_74 (by decide) ?_
            refine sg_cS2 (pc := 76) (d' := d - 1) (mc' := 0) (ms' := 0) g dX2_isSoundSign_76 cb_X2_digitOf ml_X2_43 ms_X2_digitOf (Nat.le_of_ble_eq_true rfl) (by omega) (by omega) (by omega) ?_
            refine s_X2_digitOf g (by omega) (fun z76 h76 => sg_K1 ?_)
            refine sg_cS1 (pc := 79) (d' := d - 1) (mc' := 0) (ms' := 0) g dX2_isSoundSign_79 cb_X2_upperOf ml_X2_50 ms_X2_upperOf (Nat.le_of_ble_eq_true rfl) (by omega) (by omega) (by omega) ?_
            refine s_X2_upperOf g (by omega) (fun z79 h79 => sg_K1 ?_)
            refine sg_iload_n (pc := 82) (j := 0) dX2_isSoundSign_82 rfl rfl ?_
            refine sg_cS1 (pc := 83) (d' := d - 1) (mc' := 0) (ms' := 0) g dX2_isSoundSign_83 cb_X2_upperOf ml_X2_50 ms_X2_upperOf (Nat.le_of_ble_eq_true rfl) (by omega) (by omega) (by omega) ?_
            refine s_X2_upperOf g (by omega) (fun z83 h83 => sg_K1 ?_)
            refine sg_icmp_ne (pc := 86) (tgt := 93) dX2_isSoundSign_86 (by decide) (fun c86 => ?_) (fun c86 => ?_)
            · refine sg_iconst (pc := 93) (z := 0) dX2_isSoundSign_93 (by decide) ?_
              refine sg_zret (pc := 94) dX2_isSoundSign_94 rfl (by first | exact Or.inl rfl | exact Or.inr rfl | omega | assumption) (by omega) (by omega) ?_
              exact hQ _ (by first | exact Or.inl rfl | exact Or.inr rfl | omega | assumption)
            · refine sg_iconst (pc := 89) (z := 1) dX2_isSoundSign_89 (by decide) ?_
              refine sg_goto (pc := 90) (tgt := 94) dX2_isSoundSign_90 (by decide) ?_
              refine sg_zret (pc := 94) dX2_isSoundSign_94 rfl (by first | exact Or.inl rfl | exact Or.inr rfl | omega | assumption) (by omega) (by omega) ?_
              exact hQ _ (by first | exact Or.inl rfl | exact Or.inr rfl | omega | assumption)
        · refine sg_iload_n (pc := 46) (j := 2) dX2_isSoundSign_46 rfl rfl ?_
          refine sg_iload_n (pc := 47) (j := 0) dX2_isSoundSign_47 rfl rfl ?_
          refine sg_icmp_eq (pc := 48) (tgt := 59) dX2_isSoundSign_48 (by decide) (fun c48 => ?_) (fun c48 => ?_)
          · refine sg_iconst (pc := 59) (z := 0) dX2_isSoundSign_59 (by decide) ?_
            refine sg_zret (pc := 60) dX2_isSoundSign_60 rfl (by first | exact Or.inl rfl | exact Or.inr rfl | omega | assumption) (by omega) (by omega) ?_
            exact hQ _ (by first | exact Or.inl rfl | exact Or.inr rfl | omega | assumption)
          · refine sg_iload_n (pc := 51) (j := 2) dX2_isSoundSign_51 rfl rfl ?_
            refine sg_cS1 (pc := 52) (d' := d - 1) (mc' := 0) (ms' := 0) g dX2_isSoundSign_52 cb_X2_upperOf ml_X2_50 ms_X2_upperOf (Nat.le_of_ble_eq_true rfl) (by omega) (by omega) (by omega) ?_
            refine s_X2_upperOf g (by omega) (fun z52 h52 => sg_K1 ?_)
            refine sg_iload_n (pc := 55) (j := 0) dX2_isSoundSign_55 rfl rfl ?_
            refine sg_icmp_eq (pc := 56) (tgt := 61) dX2_isSoundSign_56 (by decide) (fun c56 => ?_) (fun c56 => ?_)
            · refine sg_iload_n (pc := 61) (j := 0) dX2_isSoundSign_61 rfl rfl ?_
              refine sg_bipush (pc := 62) (z := 36) dX2_isSoundSign_62 (by decide) ?_
              refine sg_cS2 (pc := 64) (d' := d - 1) (mc' := 0) (ms' := 0) g dX2_isSoundSign_64 cb_X2_numberOf ml_X2_53 ms_X2_numberOf (Nat.le_of_ble_eq_true rfl) (by omega) (by omega) (by omega) ?_
              refine s_X2_numberOf g (by omega) (fun z64 h64 => sg_K1 ?_)
              refine sg_istore_n (pc := 67) (j := 3) dX2_isSoundSign_67 rfl (by decide) ?_
              refine sg_iload_n (pc := 68) (j := 3) dX2_isSoundSign_68 rfl rfl ?_
              refine sg_iconst (pc := 69) (z := -1) dX2_isSoundSign_69 (by decide) ?_
              refine sg_icmp_eq (pc := 70) (tgt := 89) dX2_isSoundSign_70 (by decide) (fun c70 => ?_) (fun c70 => ?_)
              · refine sg_iconst (pc := 89) (z := 1) dX2_isSoundSign_89 (by decide) ?_
                refine sg_goto (pc := 90) (tgt := 94) dX2_isSoundSign_90 (by decide) ?_
                refine sg_zret (pc := 94) dX2_isSoundSign_94 rfl (by first | exact Or.inl rfl | exact Or.inr rfl | omega | assumption) (by omega) (by omega) ?_
                exact hQ _ (by first | exact Or.inl rfl | exact Or.inr rfl | omega | assumption)
              · refine sg_iload_n (pc := 73) (j := 3) dX2_isSoundSign_73 rfl rfl ?_
                refine sg_bipush (pc := 74) (z := 36) dX2_isSoundSign_74 (by decide) ?_
                refine sg_cS2 (pc := 76) (d' := d - 1) (mc' := 0) (ms' := 0) g dX2_isSoundSign_76 cb_X2_digitOf ml_X2_43 ms_X2_digitOf (Nat.le_of_ble_eq_true rfl) (by omega) (by omega) (by omega) ?_
                refine s_X2_digitOf g (by omega) (fun z76 h76 => sg_K1 ?_)
                refine sg_cS1 (pc := 79) (d' := d - 1) (mc' := 0) (ms' := 0) g dX2_isSoundSign_79 cb_X2_upperOf ml_X2_50 ms_X2_upperOf (Nat.le_of_ble_eq_true rfl) (by omega) (by omega) (by omega) ?_
                refine s_X2_upperOf g (by omega) (fun z79 h79 => sg_K1 ?_)
                refine sg_iload_n (pc := 82) (j := 0) dX2_isSoundSign_82 rfl rfl ?_
                refine sg_cS1 (pc := 83) (d' := d - 1) (mc' := 0) (ms' := 0) g dX2_isSoundSign_83 cb_X2_upperOf ml_X2_50 ms_X2_upperOf (Nat.le_of_ble_eq_true rfl) (by omega) (by omega) (by omega) ?_
                refine s_X2_upperOf g (by omega) (fun z83 h83 => sg_K1 ?_)
                refine sg_icmp_ne (pc := 86) (tgt := 93) dX2_isSoundSign_86 (by decide) (fun c86 => ?_) (fun c86 => ?_)
                · refine sg_iconst (pc := 93) (z := 0) dX2_isSoundSign_93 (by decide) ?_
                  refine sg_zret (pc := 94) dX2_isSoundSign_94 rfl (by first | exact Or.inl rfl | exact Or.inr rfl | omega | assumption) (by omega) (by omega) ?_
                  exact hQ _ (by first | exact Or.inl rfl | exact Or.inr rfl | omega | assumption)
                · refine sg_iconst (pc := 89) (z := 1) dX2_isSoundSign_89 (by decide) ?_
                  refine sg_goto (pc := 90) (tgt := 94) dX2_isSoundSign_90 (by decide) ?_
                  refine sg_zret (pc := 94) dX2_isSoundSign_94 rfl (by first | exact Or.inl rfl | exact Or.inr rfl | omega | assumption) (by omega) (by omega) ?_
                  exact hQ _ (by first | exact Or.inl rfl | exact Or.inr rfl | omega | assumption)
            · refine sg_iconst (pc := 59) (z := 0) dX2_isSoundSign_59 (by decide) ?_
              refine sg_zret (pc := 60) dX2_isSoundSign_60 rfl (by first | exact Or.inl rfl | exact Or.inr rfl | omega | assumption) (by omega) (by omega) ?_
              exact hQ _ (by first | exact Or.inl rfl | exact Or.inr rfl | omega | assumption)
      · refine sg_iconst (pc := 31) (z := 0) dX2_isSoundSign_31 (by decide) ?_
        refine sg_zret (pc := 32) dX2_isSoundSign_32 rfl (by first | exact Or.inl rfl | exact Or.inr rfl | omega | assumption) (by omega) (by omega) ?_
        exact hQ _ (by first | exact Or.inl rfl | exact Or.inr rfl | omega | assumption)
    · refine sg_iconst (pc := 16) (z := 1) dX2_isSoundSign_16 (by decide) ?_
      refine sg_goto (pc := 17) (tgt := 21) dX2_isSoundSign_17 (by decide) ?_
      refine sg_istore_n (pc := 21) (j := 1) dX2_isSoundSign_21 rfl (by decide) ?_
      refine sg_iload_n (pc := 22) (j := 0) dX2_isSoundSign_22 rfl rfl ?_
      refine sg_iconst (pc := 23) (z := 2) dX2_isSoundSign_23 (by decide) ?_
      refine sg_cS2 (pc := 24) (d' := d - 1) (mc' := 0) (ms' := 0) g dX2_isSoundSign_24 cb_X2_isOf ml_X2_25 ms_X2_isOf (Nat.le_of_ble_eq_true rfl) (by omega) (by omega) (by omega) ?_
      refine s_X2_isOf g (by omega) (fun z24 h24 b24 => sg_K1 ?_)
      refine sg_iload_n (pc := 27) (j := 1) dX2_isSoundSign_27 rfl rfl ?_
      refine sg_icmp_eq (pc := 28) (tgt := 33) dX2_isSoundSign_28 (by decide) (fun c28 => ?_) (fun c28 => ?_)
      · refine sg_iload_n (pc := 33) (j := 0) dX2_isSoundSign_33 rfl rfl ?_
        refine sg_cS1 (pc := 34) (d' := d - 1) (mc' := 0) (ms' := 0) g dX2_isSoundSign_34 cb_X2_lowerOf ml_X2_47 ms_X2_lowerOf (Nat.le_of_ble_eq_true rfl) (by omega) (by omega) (by omega) ?_
        refine s_X2_lowerOf g (by omega) (fun z34 h34 => sg_K1 ?_)
        refine sg_istore_n (pc := 37) (j := 2) dX2_isSoundSign_37 rfl (by decide) ?_
        refine sg_iload_n (pc := 38) (j := 0) dX2_isSoundSign_38 rfl rfl ?_
        refine sg_iconst (pc := 39) (z := 4) dX2_isSoundSign_39 (by decide) ?_
        refine sg_cS2 (pc := 40) (d' := d - 1) (mc' := 0) (ms' := 0) g dX2_isSoundSign_40 cb_X2_isOf ml_X2_25 ms_X2_isOf (Nat.le_of_ble_eq_true rfl) (by omega) (by omega) (by omega) ?_
        refine s_X2_isOf g (by omega) (fun z40 h40 b40 => sg_K1 ?_)
        refine sg_if_eq (pc := 43) (tgt := 61) dX2_isSoundSign_43 (by decide) (fun c43 => ?_) (fun c43 => ?_)
        · refine sg_iload_n (pc := 61) (j := 0) dX2_isSoundSign_61 rfl rfl ?_
          refine sg_bipush (pc := 62) (z := 36) dX2_isSoundSign_62 (by decide) ?_
          refine sg_cS2 (pc := 64) (d' := d - 1) (mc' := 0) (ms' := 0) g dX2_isSoundSign_64 cb_X2_numberOf ml_X2_53 ms_X2_numberOf (Nat.le_of_ble_eq_true rfl) (by omega) (by omega) (by omega) ?_
          refine s_X2_numberOf g (by omega) (fun z64 h64 => sg_K1 ?_)
          refine sg_istore_n (pc := 67) (j := 3) dX2_isSoundSign_67 rfl (by decide) ?_
          refine sg_iload_n (pc := 68) (j := 3) dX2_isSoundSign_68 rfl rfl ?_
          refine sg_iconst (pc := 69) (z := -1) dX2_isSoundSign_69 (by decide) ?_
          refine sg_icmp_eq (pc := 70) (tgt := 89) dX2_isSoundSign_70 (by decide) (fun c70 => ?_) (fun c70 => ?_)
          · refine sg_iconst (pc := 89) (z := 1) dX2_isSoundSign_89 (by decide) ?_
            refine sg_goto (pc := 90) (tgt := 94) dX2_isSoundSign_90 (by decide) ?_
            refine sg_zret (pc := 94) dX2_isSoundSign_94 rfl (by first | exact Or.inl rfl | exact Or.inr rfl | omega | assumption) (by omega) (by omega) ?_
            exact hQ _ (by first | exact Or.inl rfl | exact Or.inr rfl | omega | assumption)
          · refine sg_iload_n (pc := 73) (j := 3) dX2_isSoundSign_73 rfl rfl ?_
            refine sg_bipush (pc := 74) (z := 36) dX2_isSoundSign_74 (by decide) ?_
            refine sg_cS2 (pc := 76) (d' := d - 1) (mc' := 0) (ms' := 0) g dX2_isSoundSign_76 cb_X2_digitOf ml_X2_43 ms_X2_digitOf (Nat.le_of_ble_eq_true rfl) (by omega) (by omega) (by omega) ?_
            refine s_X2_digitOf g (by omega) (fun z76 h76 => sg_K1 ?_)
            refine sg_cS1 (pc := 79) (d' := d - 1) (mc' := 0) (ms' := 0) g dX2_isSoundSign_79 cb_X2_upperOf ml_X2_50 ms_X2_upperOf (Nat.le_of_ble_eq_true rfl) (by omega) (by omega) (by omega) ?_
            refine s_X2_upperOf g (by omega) (fun z79 h79 => sg_K1 ?_)
            refine sg_iload_n (pc := 82) (j := 0) dX2_isSoundSign_82 rfl rfl ?_
            refine sg_cS1 (pc := 83) (d' := d - 1) (mc' := 0) (ms' := 0) g dX2_isSoundSign_83 cb_X2_upperOf ml_X2_50 ms_X2_upperOf (Nat.le_of_ble_eq_true rfl) (by omega) (by omega) (by omega) ?_
            refine s_X2_upperOf g (by omega) (fun z83 h83 => sg_K1 ?_)
            refine sg_icmp_ne (pc := 86) (tgt := 93) dX2_isSoundSign_86 (by decide) (fun c86 => ?_) (fun c86 => ?_)
            · refine sg_iconst (pc := 93) (z := 0) dX2_isSoundSign_93 (by decide) ?_
              refine sg_zret (pc := 94) dX2_isSoundSign_94 rfl (by first | exact Or.inl rfl | exact Or.inr rfl | omega | assumption) (by omega) (by omega) ?_
              exact hQ _ (by first | exact Or.inl rfl | exact Or.inr rfl | omega | assumption)
            · refine sg_iconst (pc := 89) (z := 1) dX2_isSoundSign_89 (by decide) ?_
              refine sg_goto (pc := 90) (tgt := 94) dX2_isSoundSign_90 (by decide) ?_
              refine sg_zret (pc := 94) dX2_isSoundSign_94 rfl (by first | exact Or.inl rfl | exact Or.inr rfl | omega | assumption) (by omega) (by omega) ?_
              exact hQ _ (by first | exact Or.inl rfl | exact Or.inr rfl | omega | assumption)
        · refine sg_iload_n (pc := 46) (j := 2) dX2_isSoundSign_46 rfl rfl ?_
          refine sg_iload_n (pc := 47) (j := 0) dX2_isSoundSign_47 rfl rfl ?_
          refine sg_icmp_eq (pc := 48) (tgt := 59) dX2_isSoundSign_48 (by decide) (fun c48 => ?_) (fun c48 => ?_)
          · refine sg_iconst (pc := 59) (z := 0) dX2_isSoundSign_59 (by decide) ?_
            refine sg_zret (pc := 60) dX2_isSoundSign_60 rfl (by first | exact Or.inl rfl | exact Or.inr rfl | omega | assumption) (by omega) (by omega) ?_
            exact hQ _ (by first | exact Or.inl rfl | exact Or.inr rfl | omega | assumption)
          · refine sg_iload_n (pc := 51) (j := 2) dX2_isSoundSign_51 rfl rfl ?_
            refine sg_cS1 (pc := 52) (d' := d - 1) (mc' := 0) (ms' := 0) g dX2_isSoundSign_52 cb_X2_upperOf ml_X2_50 ms_X2_upperOf (Nat.le_of_ble_eq_true rfl) (by omega) (by omega) (by omega) ?_
            refine s_X2_upperOf g (by omega) (fun z52 h52 => sg_K1 ?_)
            refine sg_iload_n (pc := 55) (j := 0) dX2_isSoundSign_55 rfl rfl ?_
            refine sg_icmp_eq (pc := 56) (tgt := 61) dX2_isSoundSign_56 (by decide) (fun c56 => ?_) (fun c56 => ?_)
            · refine sg_iload_n (pc := 61) (j := 0) dX2_isSoundSign_61 rfl rfl ?_
              refine sg_bipush (pc := 62) (z := 36) dX2_isSoundSign_62 (by decide) ?_
              refine sg_cS2 (pc := 64) (d' := d - 1) (mc' := 0) (ms' := 0) g dX2_isSoundSign_64 cb_X2_numberOf ml_X2_53 ms_X2_numberOf (Nat.le_of_ble_eq_true rfl) (by omega) (by omega) (by omega) ?_
              refine s_X2_numberOf g (by omega) (fun z64 h64 => sg_K1 ?_)
              refine sg_istore_n (pc := 67) (j := 3) dX2_isSoundSign_67 rfl (by decide) ?_
              refine sg_iload_n (pc := 68) (j := 3) dX2_isSoundSign_68 rfl rfl ?_
              refine sg_iconst (pc := 69) (z := -1) dX2_isSoundSign_69 (by decide) ?_
              refine sg_icmp_eq (pc := 70) (tgt := 89) dX2_isSoundSign_70 (by decide) (fun c70 => ?_) (fun c70 => ?_)
              · refine sg_iconst (pc := 89) (z := 1) dX2_isSoundSign_89 (by decide) ?_
                refine sg_goto (pc := 90) (tgt := 94) dX2_isSoundSign_90 (by decide) ?_
                refine sg_zret (pc := 94) dX2_isSoundSign_94 rfl (by first | exact Or.inl rfl | exact Or.inr rfl | omega | assumption) (by omega) (by omega) ?_
                exact hQ _ (by first | exact Or.inl rfl | exact Or.inr rfl | omega | assumption)
              · refine sg_iload_n (pc := 73) (j := 3) dX2_isSoundSign_73 rfl rfl ?_
                refine sg_bipush (pc := 74) (z := 36) dX2_isSoundSign_74 (by decide) ?_
                refine sg_cS2 (pc := 76) (d' := d - 1) (mc' := 0) (ms' := 0) g dX2_isSoundSign_76 cb_X2_digitOf ml_X2_43 ms_X2_digitOf (Nat.le_of_ble_eq_true rfl) (by omega) (by omega) (by omega) ?_
                refine s_X2_digitOf g (by omega) (fun z76 h76 => sg_K1 ?_)
                refine sg_cS1 (pc := 79) (d' := d - 1) (mc' := 0) (ms' := 0) g dX2_isSoundSign_79 cb_X2_upperOf ml_X2_50 ms_X2_upperOf (Nat.le_of_ble_eq_true rfl) (by omega) (by omega) (by omega) ?_
                refine s_X2_upperOf g (by omega) (fun z79 h79 => sg_K1 ?_)
                refine sg_iload_n (pc := 82) (j := 0) dX2_isSoundSign_82 rfl rfl ?_
                refine sg_cS1 (pc := 83) (d' := d - 1) (mc' := 0) (ms' := 0) g dX2_isSoundSign_83 cb_X2_upperOf ml_X2_50 ms_X2_upperOf (Nat.le_of_ble_eq_true rfl) (by omega) (by omega) (by omega) ?_
                refine s_X2_upperOf g (by omega) (fun z83 h83 => sg_K1 ?_)
                refine sg_icmp_ne (pc := 86) (tgt := 93) dX2_isSoundSign_86 (by decide) (fun c86 => ?_) (fun c86 => ?_)
                · refine sg_iconst (pc := 93) (z := 0) dX2_isSoundSign_93 (by decide) ?_
                  refine sg_zret (pc := 94) dX2_isSoundSign_94 rfl (by first | exact Or.inl rfl | exact Or.inr rfl | omega | assumption) (by omega) (by omega) ?_
                  exact hQ _ (by first | exact Or.inl rfl | exact Or.inr rfl | omega | assumption)
                · refine sg_iconst (pc := 89) (z := 1) dX2_isSoundSign_89 (by decide) ?_
                  refine sg_goto (pc := 90) (tgt := 94) dX2_isSoundSign_90 (by decide) ?_
                  refine sg_zret (pc := 94) dX2_isSoundSign_94 rfl (by first | exact Or.inl rfl | exact Or.inr rfl | omega | assumption) (by omega) (by omega) ?_
                  exact hQ _ (by first | exact Or.inl rfl | exact Or.inr rfl | omega | assumption)
            · refine sg_iconst (pc := 59) (z := 0) dX2_isSoundSign_59 (by decide) ?_
              refine sg_zret (pc := 60) dX2_isSoundSign_60 rfl (by first | exact Or.inl rfl | exact Or.inr rfl | omega | assumption) (by omega) (by omega) ?_
              exact hQ _ (by first | exact Or.inl rfl | exact Or.inr rfl | omega | assumption)
      · refine sg_iconst (pc := 31) (z := 0) dX2_isSoundSign_31 (by decide) ?_
        refine sg_zret (pc := 32) dX2_isSoundSign_32 rfl (by first | exact Or.inl rfl | exact Or.inr rfl | omega | assumption) (by omega) (by omega) ?_
        exact hQ _ (by first | exact Or.inl rfl | exact Or.inr rfl | omega | assumption)

set_option maxRecDepth 100000 in
theorem s_X4_highOf {w : sg_W} {Q : sg_O → sg_H → Prop} {h : sg_H} (g : sg_G w) {d : Nat} (hd : 1 ≤ d) {c : Int} (hQ : ∀ z : Int, (65536 ≤ c ∧ c ≤ 1114111 → z = 55296 + (c - 65536) / 1024) → Q (.inl (some (sg_i z))) h) : sg_C w mi_X4_highOf d 0 0 [sg_i c] h Q := by
  refine sg_of (by decide +kernel) (Nat.le_of_ble_eq_true rfl) ?_
  refine sg_ldc (pc := 0) (z := 55296) g dX4_highOf_0 cn_X4_12 (by decide) ?_
  refine sg_iload_n (pc := 2) (j := 0) dX4_highOf_2 rfl rfl ?_
  refine sg_ldc (pc := 3) (z := 65536) g dX4_highOf_3 cn_X4_11 (by decide) ?_
  first | refine sg_isubB (pc := 5) dX4_highOf_5 (by omega) (by omega) ?_ | refine sg_isub (pc := 5) dX4_highOf_5 ?_
  refine sg_sipush (pc := 6) (z := 1024) dX4_highOf_6 (by decide) ?_
  first | refine sg_idivP (pc := 9) dX4_highOf_9 (by omega) (by omega) (by omega) ?_ | refine sg_idiv (pc := 9) dX4_highOf_9 (by first | omega | assumption) ?_
  first | refine sg_iaddB (pc := 10) dX4_highOf_10 (by omega) (by omega) ?_ | refine sg_iadd (pc := 10) dX4_highOf_10 ?_
  refine sg_iret (pc := 11) dX4_highOf_11 rfl (by omega) (by omega) ?_
  exact hQ _ (fun r => by first | rfl | omega | (simp (disch := omega) only [sg_w_id, Int.tdiv_eq_ediv_of_nonneg, Int.tmod_eq_emod_of_nonneg] <;> omega))

set_option maxRecDepth 100000 in
theorem s_X4_lowOf {w : sg_W} {Q : sg_O → sg_H → Prop} {h : sg_H} (g : sg_G w) {d : Nat} (hd : 1 ≤ d) {c : Int} (hQ : ∀ z : Int, (65536 ≤ c ∧ c ≤ 1114111 → z = 56320 + (c - 65536) % 1024) → Q (.inl (some (sg_i z))) h) : sg_C w mi_X4_lowOf d 0 0 [sg_i c] h Q := by
  refine sg_of (by decide +kernel) (Nat.le_of_ble_eq_true rfl) ?_
  refine sg_ldc (pc := 0) (z := 56320) g dX4_lowOf_0 cn_X4_13 (by decide) ?_
  refine sg_iload_n (pc := 2) (j := 0) dX4_lowOf_2 rfl rfl ?_
  refine sg_ldc (pc := 3) (z := 65536) g dX4_lowOf_3 cn_X4_11 (by decide) ?_
  first | refine sg_isubB (pc := 5) dX4_lowOf_5 (by omega) (by omega) ?_ | refine sg_isub (pc := 5) dX4_lowOf_5 ?_
  refine sg_sipush (pc := 6) (z := 1024) dX4_lowOf_6 (by decide) ?_
  first | refine sg_iremP (pc := 9) dX4_lowOf_9 (by omega) (by omega) ?_ | refine sg_irem (pc := 9) dX4_lowOf_9 (by first | omega | assumption) ?_
  first | refine sg_iaddB (pc := 10) dX4_lowOf_10 (by omega) (by omega) ?_ | refine sg_iadd (pc := 10) dX4_lowOf_10 ?_
  refine sg_iret (pc := 11) dX4_lowOf_11 rfl (by omega) (by omega) ?_
  exact hQ _ (fun r => by first | rfl | omega | (simp (disch := omega) only [sg_w_id, Int.tdiv_eq_ediv_of_nonneg, Int.tmod_eq_emod_of_nonneg] <;> omega))

set_option maxRecDepth 100000 in
theorem s_X4_codeOf {w : sg_W} {Q : sg_O → sg_H → Prop} {h : sg_H} (g : sg_G w) {d : Nat} (hd : 1 ≤ d) {a b : Int} (hQ : ∀ z : Int, (55296 ≤ a ∧ a < 56320 → 56320 ≤ b ∧ b < 57344 → z = 65536 + (a - 55296) * 1024 + (b - 56320)) → Q (.inl (some (sg_i z))) h) : sg_C w mi_X4_codeOf d 0 0 [sg_i a, sg_i b] h Q := by
  refine sg_of (by decide +kernel) (Nat.le_of_ble_eq_true rfl) ?_
  refine sg_ldc (pc := 0) (z := 65536) g dX4_codeOf_0 cn_X4_11 (by decide) ?_
  refine sg_iload_n (pc := 2) (j := 0) dX4_codeOf_2 rfl rfl ?_
  refine sg_ldc (pc := 3) (z := 55296) g dX4_codeOf_3 cn_X4_12 (by decide) ?_
  first | refine sg_isubB (pc := 5) dX4_codeOf_5 (by omega) (by omega) ?_ | refine sg_isub (pc := 5) dX4_codeOf_5 ?_
  refine sg_sipush (pc := 6) (z := 1024) dX4_codeOf_6 (by decide) ?_
  first | refine sg_imulB (pc := 9) dX4_codeOf_9 (by omega) (by omega) ?_ | refine sg_imul (pc := 9) dX4_codeOf_9 ?_
  first | refine sg_iaddB (pc := 10) dX4_codeOf_10 (by omega) (by omega) ?_ | refine sg_iadd (pc := 10) dX4_codeOf_10 ?_
  refine sg_iload_n (pc := 11) (j := 1) dX4_codeOf_11 rfl rfl ?_
  refine sg_ldc (pc := 12) (z := 56320) g dX4_codeOf_12 cn_X4_13 (by decide) ?_
  first | refine sg_isubB (pc := 14) dX4_codeOf_14 (by omega) (by omega) ?_ | refine sg_isub (pc := 14) dX4_codeOf_14 ?_
  first | refine sg_iaddB (pc := 15) dX4_codeOf_15 (by omega) (by omega) ?_ | refine sg_iadd (pc := 15) dX4_codeOf_15 ?_
  refine sg_iret (pc := 16) dX4_codeOf_16 rfl (by omega) (by omega) ?_
  exact hQ _ (fun r r2 => by first | rfl | omega | (simp (disch := omega) only [sg_w_id] <;> omega))

set_option maxRecDepth 100000 in
theorem s_X4_turned {w : sg_W} {Q : sg_O → sg_H → Prop} {h : sg_H} (g : sg_G w) {d : Nat} (hd : 1 ≤ d) {u : Int} (hQ : ∀ z : Int, (0 ≤ u ∧ u < 65536 → z = u % 256 * 256 + u / 256) → Q (.inl (some (sg_i z))) h) : sg_C w mi_X4_turned d 0 0 [sg_i u] h Q := by
  refine sg_of (by decide +kernel) (Nat.le_of_ble_eq_true rfl) ?_
  refine sg_iload_n (pc := 0) (j := 0) dX4_turned_0 rfl rfl ?_
  refine sg_sipush (pc := 1) (z := 256) dX4_turned_1 (by decide) ?_
  first | refine sg_iremP (pc := 4) dX4_turned_4 (by omega) (by omega) ?_ | refine sg_irem (pc := 4) dX4_turned_4 (by first | omega | assumption) ?_
  refine sg_sipush (pc := 5) (z := 256) dX4_turned_5 (by decide) ?_
  first | refine sg_imulB (pc := 8) dX4_turned_8 (by omega) (by omega) ?_ | refine sg_imul (pc := 8) dX4_turned_8 ?_
  refine sg_iload_n (pc := 9) (j := 0) dX4_turned_9 rfl rfl ?_
  refine sg_sipush (pc := 10) (z := 256) dX4_turned_10 (by decide) ?_
  first | refine sg_idivP (pc := 13) dX4_turned_13 (by omega) (by omega) (by omega) ?_ | refine sg_idiv (pc := 13) dX4_turned_13 (by first | omega | assumption) ?_
  first | refine sg_iaddB (pc := 14) dX4_turned_14 (by omega) (by omega) ?_ | refine sg_iadd (pc := 14) dX4_turned_14 ?_
  refine sg_iret (pc := 15) dX4_turned_15 rfl (by omega) (by omega) ?_
  exact hQ _ (fun r => by first | rfl | omega | (simp (disch := omega) only [sg_w_id, Int.tdiv_eq_ediv_of_nonneg, Int.tmod_eq_emod_of_nonneg] <;> omega))

set_option maxRecDepth 100000 in
theorem s_X4_isCounted {w : sg_W} {Q : sg_O → sg_H → Prop} {h : sg_H} (g : sg_G w) {d : Nat} (hd : 3 ≤ d) {c t : Int} (hQ : ∀ z : Int, (z = 0 ∨ z = 1) → Q (.inl (some (sg_i z))) h) : sg_C w mi_X4_isCounted d 0 0 [sg_i c, sg_i t] h Q := by
  refine sg_of (by decide +kernel) (Nat.le_of_ble_eq_true rfl) ?_
  refine sg_iload_n (pc := 0) (j := 1) dX4_isCounted_0 rfl rfl ?_
  by_cases cs : t < 1 ∨ 3 < t
  · refine sg_tsOut (pc := 1) (tgt := 40) dX4_isCounted_1 cs (by decide) ?_
    refine sg_iconst (pc := 40) (z := 0) dX4_isCounted_40 (by decide) ?_
    refine sg_zret (pc := 41) dX4_isCounted_41 rfl (by first | exact Or.inl rfl | exact Or.inr rfl | omega | assumption) (by omega) (by omega) ?_
    exact hQ _ (by first | exact Or.inl rfl | exact Or.inr rfl | omega | assumption)
  · rcases (show t = 1 ∨ t = 2 ∨ t = 3 by omega) with rfl | rfl | rfl
    · refine sg_tsIn (pc := 1) (tgt := 28) dX4_isCounted_1 (by omega) (by omega) rfl (by decide) ?_
      refine sg_iconst (pc := 28) (z := 1) dX4_isCounted_28 (by decide) ?_
      refine sg_zret (pc := 29) dX4_isCounted_29 rfl (by first | exact Or.inl rfl | exact Or.inr rfl | omega | assumption) (by omega) (by omega) ?_
      exact hQ _ (by first | exact Or.inl rfl | exact Or.inr rfl | omega | assumption)
    · refine sg_tsIn (pc := 1) (tgt := 30) dX4_isCounted_1 (by omega) (by omega) rfl (by decide) ?_
      refine sg_iload_n (pc := 30) (j := 0) dX4_isCounted_30 rfl rfl ?_
      refine sg_cS1 (pc := 31) (d' := d - 1) (mc' := 0) (ms' := 0) g dX4_isCounted_31 cb_X4_isWideCode ml_X4_23 ms_X4_isWideCode (Nat.le_of_ble_eq_true rfl) (by omega) (by omega) (by omega) ?_
      refine s_X4_isWideCode g (by omega) (fun z31 h31 b31 => sg_K1 ?_)
      refine sg_zret (pc := 34) dX4_isCounted_34 rfl (by first | exact Or.inl rfl | exact Or.inr rfl | omega | assumption) (by omega) (by omega) ?_
      exact hQ _ (by first | exact Or.inl rfl | exact Or.inr rfl | omega | assumption)
    · refine sg_tsIn (pc := 1) (tgt := 35) dX4_isCounted_1 (by omega) (by omega) rfl (by decide) ?_
      refine sg_iload_n (pc := 35) (j := 0) dX4_isCounted_35 rfl rfl ?_
      refine sg_cS1 (pc := 36) (d' := d - 1) (mc' := 0) (ms' := 0) g dX4_isCounted_36 cb_X4_isHalf ml_X4_65 ms_X4_isHalf (Nat.le_of_ble_eq_true rfl) (by omega) (by omega) (by omega) ?_
      refine s_X4_isHalf g (by omega) (fun z36 h36 b36 => sg_K1 ?_)
      refine sg_zret (pc := 39) dX4_isCounted_39 rfl (by first | exact Or.inl rfl | exact Or.inr rfl | omega | assumption) (by omega) (by omega) ?_
      exact hQ _ (by first | exact Or.inl rfl | exact Or.inr rfl | omega | assumption)

set_option maxRecDepth 100000 in
theorem s_X4_addCode {w : sg_W} {Q : sg_O → sg_H → Prop} {h : sg_H} (g : sg_G w) {d : Nat} (hd : 3 ≤ d) {B a c : Nat} (hx : ck_X h B) (hl : ck_L B a c) {p : Int} (hQ : ∀ h' : sg_H, ck_X h' B → ck_F B h h' → Q (.inl none) h') : sg_C w mi_X4_addCode d 0 0 [sg_r a, sg_i p] h Q := by
  refine sg_of (by decide +kernel) (Nat.le_of_ble_eq_true rfl) ?_
  have y0 := ck_Y0 hx
  refine sg_iload_n (pc := 0) (j := 1) dX4_addCode_0 rfl rfl ?_
  refine sg_cS1 (pc := 1) (d' := d - 1) (mc' := 0) (ms' := 0) g dX4_addCode_1 cb_X4_isWideCode ml_X4_23 ms_X4_isWideCode (Nat.le_of_ble_eq_true rfl) (by omega) (by omega) (by omega) ?_
  refine s_X4_isWideCode g (by omega) (fun z1 h1 b1 => sg_K1 ?_)
  refine sg_if_eq (pc := 4) (tgt := 26) dX4_addCode_4 (by decide) (fun c4 => ?_) (fun c4 => ?_)
  · refine sg_aload_n (pc := 26) (j := 0) dX4_addCode_26 rfl rfl ?_
    refine sg_iload_n (pc := 27) (j := 1) dX4_addCode_27 rfl rfl ?_
    refine sg_cE1 (pc := 28) (d' := d - 1) (mc' := 0) (ms' := 0) 3 g dX4_addCode_28 cb_X0_add ml_X4_30 mn_X0_add rfl mv_X0_add (Nat.le_of_ble_eq_true rfl) (ck_lc (by assumption) (by assumption)) (Nat.le_of_ble_eq_true rfl) (by omega) (by omega) (by omega) ?_
    refine s_X0_add g (by omega) (by assumption) (by assumption) (fun h28 x28 f28 => sg_K0 ?_)
    have y28 := ck_Yt (h0 := h) (by assumption) x28 f28
    refine sg_vret (pc := 31) dX4_addCode_31 rfl (by omega) (by omega) ?_
    exact hQ _ (by assumption) (ck_Yf (by assumption))
  · refine sg_aload_n (pc := 7) (j := 0) dX4_addCode_7 rfl rfl ?_
    refine sg_iload_n (pc := 8) (j := 1) dX4_addCode_8 rfl rfl ?_
    refine sg_cS1 (pc := 9) (d' := d - 1) (mc' := 0) (ms' := 0) g dX4_addCode_9 cb_X4_highOf ml_X4_26 ms_X4_highOf (Nat.le_of_ble_eq_true rfl) (by omega) (by omega) (by omega) ?_
    refine s_X4_highOf g (by omega) (fun z9 h9 => sg_K1 ?_)
    refine sg_cE1 (pc := 12) (d' := d - 1) (mc' := 0) (ms' := 0) 3 g dX4_addCode_12 cb_X0_add ml_X4_30 mn_X0_add rfl mv_X0_add (Nat.le_of_ble_eq_true rfl) (ck_lc (by assumption) (by assumption)) (Nat.le_of_ble_eq_true rfl) (by omega) (by omega) (by omega) ?_
    refine s_X0_add g (by omega) (by assumption) (by assumption) (fun h12 x12 f12 => sg_K0 ?_)
    have y12 := ck_Yt (h0 := h) (by assumption) x12 f12
    refine sg_aload_n (pc := 15) (j := 0) dX4_addCode_15 rfl rfl ?_
    refine sg_iload_n (pc := 16) (j := 1) dX4_addCode_16 rfl rfl ?_
    refine sg_cS1 (pc := 17) (d' := d - 1) (mc' := 0) (ms' := 0) g dX4_addCode_17 cb_X4_lowOf ml_X4_36 ms_X4_lowOf (Nat.le_of_ble_eq_true rfl) (by omega) (by omega) (by omega) ?_
    refine s_X4_lowOf g (by omega) (fun z17 h17 => sg_K1 ?_)
    refine sg_cE1 (pc := 20) (d' := d - 1) (mc' := 0) (ms' := 0) 3 g dX4_addCode_20 cb_X0_add ml_X4_30 mn_X0_add rfl mv_X0_add (Nat.le_of_ble_eq_true rfl) (ck_lc (by assumption) (by assumption)) (Nat.le_of_ble_eq_true rfl) (by omega) (by omega) (by omega) ?_
    refine s_X0_add g (by omega) (by assumption) (by assumption) (fun h20 x20 f20 => sg_K0 ?_)
    have y20 := ck_Yt (h0 := h) (by assumption) x20 f20
    refine sg_goto (pc := 23) (tgt := 31) dX4_addCode_23 (by decide) ?_
    refine sg_vret (pc := 31) dX4_addCode_31 rfl (by omega) (by omega) ?_
    exact hQ _ (by assumption) (ck_Yf (by assumption))

set_option maxRecDepth 100000 in
theorem s_X4_codeFrom {w : sg_W} {Q : sg_O → sg_H → Prop} {h : sg_H} (g : sg_G w) {d : Nat} (hd : 3 ≤ d) {B a c : Nat} (hx : ck_X h B) (hl : ck_L B a c) {p : Int} (hQ : ∀ z : Int, Q (.inl (some (sg_i z))) h) : sg_C w mi_X4_codeFrom d 0 0 [sg_r a, sg_i p] h Q := by
  refine sg_of (by decide +kernel) (Nat.le_of_ble_eq_true rfl) ?_
  obtain ⟨-, -, -, -, c40, -⟩ := ck_ln hx hl
  refine sg_aload_n (pc := 0) (j := 0) dX4_codeFrom_0 rfl rfl ?_
  refine sg_iload_n (pc := 1) (j := 1) dX4_codeFrom_1 rfl rfl ?_
  refine sg_cE1 (pc := 2) (d' := d - 1) (mc' := 0) (ms' := 0) 3 g dX4_codeFrom_2 cb_X0_get ml_X4_39 mn_X0_get rfl mv_X0_get (Nat.le_of_ble_eq_true rfl) (ck_lc (by assumption) (by assumption)) (Nat.le_of_ble_eq_true rfl) (by omega) (by omega) (by omega) ?_
  refine s_X0_get g (by omega) (by assumption) (by assumption) (fun z2 => sg_K1 ?_)
  refine sg_istore_n (pc := 5) (j := 2) dX4_codeFrom_5 rfl (by decide) ?_
  refine sg_iload_n (pc := 6) (j := 2) dX4_codeFrom_6 rfl rfl ?_
  refine sg_cS1 (pc := 7) (d' := d - 1) (mc' := 0) (ms' := 0) g dX4_codeFrom_7 cb_X4_isHigh ml_X4_15 ms_X4_isHigh (Nat.le_of_ble_eq_true rfl) (by omega) (by omega) (by omega) ?_
  refine s_X4_isHigh g (by omega) (fun z7 h7 b7 => sg_K1 ?_)
  refine sg_if_eq (pc := 10) (tgt := 38) dX4_codeFrom_10 (by decide) (fun c10 => ?_) (fun c10 => ?_)
  · refine sg_iload_n (pc := 38) (j := 2) dX4_codeFrom_38 rfl rfl ?_
    refine sg_iret (pc := 39) dX4_codeFrom_39 rfl (by omega) (by omega) ?_
    exact hQ _
  · refine sg_aload_n (pc := 13) (j := 0) dX4_codeFrom_13 rfl rfl ?_
    refine sg_iload_n (pc := 14) (j := 1) dX4_codeFrom_14 rfl rfl ?_
    refine sg_iconst (pc := 15) (z := 1) dX4_codeFrom_15 (by decide) ?_
    first | refine sg_iaddB (pc := 16) dX4_codeFrom_16 (by omega) (by omega) ?_ | refine sg_iadd (pc := 16) dX4_codeFrom_16 ?_
    refine sg_cE1 (pc := 17) (d' := d - 1) (mc' := 0) (ms' := 0) 3 g dX4_codeFrom_17 cb_X0_get ml_X4_39 mn_X0_get rfl mv_X0_get (Nat.le_of_ble_eq_true rfl) (ck_lc (by assumption) (by assumption)) (Nat.le_of_ble_eq_true rfl) (by omega) (by omega) (by omega) ?_
    refine s_X0_get g (by omega) (by assumption) (by assumption) (fun z17 => sg_K1 ?_)
    refine sg_cS1 (pc := 20) (d' := d - 1) (mc' := 0) (ms' := 0) g dX4_codeFrom_20 cb_X4_isLow ml_X4_19 ms_X4_isLow (Nat.le_of_ble_eq_true rfl) (by omega) (by omega) (by omega) ?_
    refine s_X4_isLow g (by omega) (fun z20 h20 b20 => sg_K1 ?_)
    refine sg_if_eq (pc := 23) (tgt := 38) dX4_codeFrom_23 (by decide) (fun c23 => ?_) (fun c23 => ?_)
    · refine sg_iload_n (pc := 38) (j := 2) dX4_codeFrom_38 rfl rfl ?_
      refine sg_iret (pc := 39) dX4_codeFrom_39 rfl (by omega) (by omega) ?_
      exact hQ _
    · refine sg_iload_n (pc := 26) (j := 2) dX4_codeFrom_26 rfl rfl ?_
      refine sg_aload_n (pc := 27) (j := 0) dX4_codeFrom_27 rfl rfl ?_
      refine sg_iload_n (pc := 28) (j := 1) dX4_codeFrom_28 rfl rfl ?_
      refine sg_iconst (pc := 29) (z := 1) dX4_codeFrom_29 (by decide) ?_
      first | refine sg_iaddB (pc := 30) dX4_codeFrom_30 (by omega) (by omega) ?_ | refine sg_iadd (pc := 30) dX4_codeFrom_30 ?_
      refine sg_cE1 (pc := 31) (d' := d - 1) (mc' := 0) (ms' := 0) 3 g dX4_codeFrom_31 cb_X0_get ml_X4_39 mn_X0_get rfl mv_X0_get (Nat.le_of_ble_eq_true rfl) (ck_lc (by assumption) (by assumption)) (Nat.le_of_ble_eq_true rfl) (by omega) (by omega) (by omega) ?_
      refine s_X0_get g (by omega) (by assumption) (by assumption) (fun z31 => sg_K1 ?_)
      refine sg_cS2 (pc := 34) (d' := d - 1) (mc' := 0) (ms' := 0) g dX4_codeFrom_34 cb_X4_codeOf ml_X4_42 ms_X4_codeOf (Nat.le_of_ble_eq_true rfl) (by omega) (by omega) (by omega) ?_
      refine s_X4_codeOf g (by omega) (fun z34 h34 => sg_K1 ?_)
      refine sg_iret (pc := 37) dX4_codeFrom_37 rfl (by omega) (by omega) ?_
      exact hQ _

set_option maxRecDepth 100000 in
theorem s_X4_isCodeBegin {w : sg_W} {Q : sg_O → sg_H → Prop} {h : sg_H} (g : sg_G w) {d : Nat} (hd : 3 ≤ d) {B a c : Nat} (hx : ck_X h B) (hl : ck_L B a c) {p : Int} (hQ : ∀ z : Int, (z = 0 ∨ z = 1) → Q (.inl (some (sg_i z))) h) : sg_C w mi_X4_isCodeBegin d 0 0 [sg_r a, sg_i p] h Q := by
  refine sg_of (by decide +kernel) (Nat.le_of_ble_eq_true rfl) ?_
  obtain ⟨-, -, -, -, c40, -⟩ := ck_ln hx hl
  refine sg_iload_n (pc := 0) (j := 1) dX4_isCodeBegin_0 rfl rfl ?_
  refine sg_if_eq (pc := 1) (tgt := 28) dX4_isCodeBegin_1 (by decide) (fun c1 => ?_) (fun c1 => ?_)
  · refine sg_iconst (pc := 28) (z := 1) dX4_isCodeBegin_28 (by decide) ?_
    refine sg_goto (pc := 29) (tgt := 33) dX4_isCodeBegin_29 (by decide) ?_
    refine sg_zret (pc := 33) dX4_isCodeBegin_33 rfl (by first | exact Or.inl rfl | exact Or.inr rfl | omega | assumption) (by omega) (by omega) ?_
    exact hQ _ (by first | exact Or.inl rfl | exact Or.inr rfl | omega | assumption)
  · refine sg_aload_n (pc := 4) (j := 0) dX4_isCodeBegin_4 rfl rfl ?_
    refine sg_iload_n (pc := 5) (j := 1) dX4_isCodeBegin_5 rfl rfl ?_
    refine sg_cE1 (pc := 6) (d' := d - 1) (mc' := 0) (ms' := 0) 3 g dX4_isCodeBegin_6 cb_X0_get ml_X4_39 mn_X0_get rfl mv_X0_get (Nat.le_of_ble_eq_true rfl) (ck_lc (by assumption) (by assumption)) (Nat.le_of_ble_eq_true rfl) (by omega) (by omega) (by omega) ?_
    refine s_X0_get g (by omega) (by assumption) (by assumption) (fun z6 => sg_K1 ?_)
    refine sg_cS1 (pc := 9) (d' := d - 1) (mc' := 0) (ms' := 0) g dX4_isCodeBegin_9 cb_X4_isLow ml_X4_19 ms_X4_isLow (Nat.le_of_ble_eq_true rfl) (by omega) (by omega) (by omega) ?_
    refine s_X4_isLow g (by omega) (fun z9 h9 b9 => sg_K1 ?_)
    refine sg_if_eq (pc := 12) (tgt := 28) dX4_isCodeBegin_12 (by decide) (fun c12 => ?_) (fun c12 => ?_)
    · refine sg_iconst (pc := 28) (z := 1) dX4_isCodeBegin_28 (by decide) ?_
      refine sg_goto (pc := 29) (tgt := 33) dX4_isCodeBegin_29 (by decide) ?_
      refine sg_zret (pc := 33) dX4_isCodeBegin_33 rfl (by first | exact Or.inl rfl | exact Or.inr rfl | omega | assumption) (by omega) (by omega) ?_
      exact hQ _ (by first | exact Or.inl rfl | exact Or.inr rfl | omega | assumption)
    · refine sg_aload_n (pc := 15) (j := 0) dX4_isCodeBegin_15 rfl rfl ?_
      refine sg_iload_n (pc := 16) (j := 1) dX4_isCodeBegin_16 rfl rfl ?_
      refine sg_iconst (pc := 17) (z := 1) dX4_isCodeBegin_17 (by decide) ?_
      first | refine sg_isubB (pc := 18) dX4_isCodeBegin_18 (by omega) (by omega) ?_ | refine sg_isub (pc := 18) dX4_isCodeBegin_18 ?_
      refine sg_cE1 (pc := 19) (d' := d - 1) (mc' := 0) (ms' := 0) 3 g dX4_isCodeBegin_19 cb_X0_get ml_X4_39 mn_X0_get rfl mv_X0_get (Nat.le_of_ble_eq_true rfl) (ck_lc (by assumption) (by assumption)) (Nat.le_of_ble_eq_true rfl) (by omega) (by omega) (by omega) ?_
      refine s_X0_get g (by omega) (by assumption) (by assumption) (fun z19 => sg_K1 ?_)
      refine sg_cS1 (pc := 22) (d' := d - 1) (mc' := 0) (ms' := 0) g dX4_isCodeBegin_22 cb_X4_isHigh ml_X4_15 ms_X4_isHigh (Nat.le_of_ble_eq_true rfl) (by omega) (by omega) (by omega) ?_
      refine s_X4_isHigh g (by omega) (fun z22 h22 b22 => sg_K1 ?_)
      refine sg_if_ne (pc := 25) (tgt := 32) dX4_isCodeBegin_25 (by decide) (fun c25 => ?_) (fun c25 => ?_)
      · refine sg_iconst (pc := 32) (z := 0) dX4_isCodeBegin_32 (by decide) ?_
        refine sg_zret (pc := 33) dX4_isCodeBegin_33 rfl (by first | exact Or.inl rfl | exact Or.inr rfl | omega | assumption) (by omega) (by omega) ?_
        exact hQ _ (by first | exact Or.inl rfl | exact Or.inr rfl | omega | assumption)
      · refine sg_iconst (pc := 28) (z := 1) dX4_isCodeBegin_28 (by decide) ?_
        refine sg_goto (pc := 29) (tgt := 33) dX4_isCodeBegin_29 (by decide) ?_
        refine sg_zret (pc := 33) dX4_isCodeBegin_33 rfl (by first | exact Or.inl rfl | exact Or.inr rfl | omega | assumption) (by omega) (by omega) ?_
        exact hQ _ (by first | exact Or.inl rfl | exact Or.inr rfl | omega | assumption)

set_option maxRecDepth 100000 in
theorem s_X4_codeBegin {w : sg_W} {Q : sg_O → sg_H → Prop} {h : sg_H} (g : sg_G w) {d : Nat} (hd : 4 ≤ d) {B a c : Nat} (hx : ck_X h B) (hl : ck_L B a c) {t : Int} (hQ : ∀ z : Int, Q (.inl (some (sg_i z))) h) : sg_C w mi_X4_codeBegin d 0 0 [sg_r a, sg_i t] h Q := by
  refine sg_of (by decide +kernel) (Nat.le_of_ble_eq_true rfl) ?_
  obtain ⟨-, -, -, -, c40, -⟩ := ck_ln hx hl
  refine sg_iconst (pc := 0) (z := 0) dX4_codeBegin_0 (by decide) ?_
  refine sg_istore_n (pc := 1) (j := 2) dX4_codeBegin_1 rfl (by decide) ?_
  refine sg_iconst (pc := 2) (z := 0) dX4_codeBegin_2 (by decide) ?_
  refine sg_istore_n (pc := 3) (j := 3) dX4_codeBegin_3 rfl (by decide) ?_
  have loop4 : ∀ (N : Nat) (p s : Int), 0 ≤ p → (40 - p).toNat < N → sg_R w mi_X4_codeBegin d 0 0 Q 4 [(3, sg_i p), (2, sg_i s), (0, sg_r a), (1, sg_i t)] [] h 0 0 := by
    intro N
    induction N with
    | zero => intro p s p0 hm; exact absurd hm (Nat.not_lt_zero _)
    | succ N ih =>
      intro p s p0 hm
      refine sg_iload_n (pc := 4) (j := 3) dX4_codeBegin_4 rfl rfl ?_
      refine sg_aload_n (pc := 5) (j := 0) dX4_codeBegin_5 rfl rfl ?_
      refine sg_cE0 (pc := 6) (d' := d - 1) (mc' := 0) (ms' := 0) 3 g dX4_codeBegin_6 cb_X0_size ml_X4_46 mn_X0_size rfl mv_X0_size (Nat.le_of_ble_eq_true rfl) (ck_lc (by assumption) (by assumption)) (Nat.le_of_ble_eq_true rfl) (by omega) (by omega) (by omega) ?_
      refine s_X0_size g (by omega) (by assumption) (by assumption) (fun z6 l6 u6 => sg_K1 ?_)
      refine sg_icmp_ge (pc := 9) (tgt := 36) dX4_codeBegin_9 (by decide) (fun c9 => ?_) (fun c9 => ?_)
      · refine sg_iconst (pc := 36) (z := -1) dX4_codeBegin_36 (by decide) ?_
        refine sg_iret (pc := 37) dX4_codeBegin_37 rfl (by omega) (by omega) ?_
        exact hQ _
      · refine sg_aload_n (pc := 12) (j := 0) dX4_codeBegin_12 rfl rfl ?_
        refine sg_iload_n (pc := 13) (j := 3) dX4_codeBegin_13 rfl rfl ?_
        refine sg_cS2 (pc := 14) (d' := d - 1) (mc' := 0) (ms' := 0) g dX4_codeBegin_14 cb_X4_isCodeBegin ml_X4_50 ms_X4_isCodeBegin (Nat.le_of_ble_eq_true rfl) (by omega) (by omega) (by omega) ?_
        refine s_X4_isCodeBegin g (by omega) (by assumption) (by assumption) (fun z14 b14 => sg_K1 ?_)
        refine sg_if_eq (pc := 17) (tgt := 30) dX4_codeBegin_17 (by decide) (fun c17 => ?_) (fun c17 => ?_)
        · first | refine sg_iincB (pc := 30) dX4_codeBegin_30 rfl (by decide) (by decide) (by omega) (by omega) ?_ | refine sg_iinc (pc := 30) dX4_codeBegin_30 rfl (by decide) (by decide) ?_
          refine sg_goto (pc := 33) (tgt := 4) dX4_codeBegin_33 (by decide) ?_
          refine sg_lsub (lv' := [(3, _), (2, _), (0, _), (1, _)]) ⟨rfl, rfl, rfl, rfl, trivial⟩ ?_
          exact ih _ _ (by omega) (by omega)
        · refine sg_iload_n (pc := 20) (j := 2) dX4_codeBegin_20 rfl rfl ?_
          refine sg_iload_n (pc := 21) (j := 1) dX4_codeBegin_21 rfl rfl ?_
          refine sg_icmp_ne (pc := 22) (tgt := 27) dX4_codeBegin_22 (by decide) (fun c22 => ?_) (fun c22 => ?_)
          · first | refine sg_iincB (pc := 27) dX4_codeBegin_27 rfl (by decide) (by decide) (by omega) (by omega) ?_ | refine sg_iinc (pc := 27) dX4_codeBegin_27 rfl (by decide) (by decide) ?_
            first | refine sg_iincB (pc := 30) dX4_codeBegin_30 rfl (by decide) (by decide) (by omega) (by omega) ?_ | refine sg_iinc (pc := 30) dX4_codeBegin_30 rfl (by decide) (by decide) ?_
            refine sg_goto (pc := 33) (tgt := 4) dX4_codeBegin_33 (by decide) ?_
            refine sg_lsub (lv' := [(3, _), (2, _), (0, _), (1, _)]) ⟨rfl, rfl, rfl, rfl, trivial⟩ ?_
            exact ih _ _ (by omega) (by omega)
          · refine sg_iload_n (pc := 25) (j := 3) dX4_codeBegin_25 rfl rfl ?_
            refine sg_iret (pc := 26) dX4_codeBegin_26 rfl (by omega) (by omega) ?_
            exact hQ _
  refine sg_lsub (lv' := [(3, _), (2, _), (0, _), (1, _)]) ⟨rfl, rfl, rfl, rfl, trivial⟩ ?_
  exact loop4 _ _ _ (by omega) (Nat.lt_succ_self _)

set_option maxRecDepth 100000 in
theorem s_X4_howMany {w : sg_W} {Q : sg_O → sg_H → Prop} {h : sg_H} (g : sg_G w) {d : Nat} (hd : 5 ≤ d) {B a c : Nat} (hx : ck_X h B) (hl : ck_L B a c) {t : Int} (hQ : ∀ z : Int, Q (.inl (some (sg_i z))) h) : sg_C w mi_X4_howMany d 0 0 [sg_r a, sg_i t] h Q := by
  refine sg_of (by decide +kernel) (Nat.le_of_ble_eq_true rfl) ?_
  obtain ⟨-, -, -, -, c40, -⟩ := ck_ln hx hl
  refine sg_iload_n (pc := 0) (j := 1) dX4_howMany_0 rfl rfl ?_
  refine sg_if_ne (pc := 1) (tgt := 9) dX4_howMany_1 (by decide) (fun c1 => ?_) (fun c1 => ?_)
  · refine sg_iconst (pc := 9) (z := 0) dX4_howMany_9 (by decide) ?_
    refine sg_istore_n (pc := 10) (j := 2) dX4_howMany_10 rfl (by decide) ?_
    refine sg_iconst (pc := 11) (z := 0) dX4_howMany_11 (by decide) ?_
    refine sg_istore_n (pc := 12) (j := 3) dX4_howMany_12 rfl (by decide) ?_
    have loop13 : ∀ (N : Nat) (p s : Int), 0 ≤ p → (40 - p).toNat < N → sg_R w mi_X4_howMany d 0 0 Q 13 [(3, sg_i p), (2, sg_i s), (0, sg_r a), (1, sg_i t)] [] h 0 0 := by
      intro N
      induction N with
      | zero => intro p s p0 hm; exact absurd hm (Nat.not_lt_zero _)
      | succ N ih =>
        intro p s p0 hm
        refine sg_iload_n (pc := 13) (j := 3) dX4_howMany_13 rfl rfl ?_
        refine sg_aload_n (pc := 14) (j := 0) dX4_howMany_14 rfl rfl ?_
        refine sg_cE0 (pc := 15) (d' := d - 1) (mc' := 0) (ms' := 0) 3 g dX4_howMany_15 cb_X0_size ml_X4_46 mn_X0_size rfl mv_X0_size (Nat.le_of_ble_eq_true rfl) (ck_lc (by assumption) (by assumption)) (Nat.le_of_ble_eq_true rfl) (by omega) (by omega) (by omega) ?_
        refine s_X0_size g (by omega) (by assumption) (by assumption) (fun z15 l15 u15 => sg_K1 ?_)
        refine sg_icmp_ge (pc := 18) (tgt := 50) dX4_howMany_18 (by decide) (fun c18 => ?_) (fun c18 => ?_)
        · refine sg_iload_n (pc := 50) (j := 2) dX4_howMany_50 rfl rfl ?_
          refine sg_iret (pc := 51) dX4_howMany_51 rfl (by omega) (by omega) ?_
          exact hQ _
        · refine sg_aload_n (pc := 21) (j := 0) dX4_howMany_21 rfl rfl ?_
          refine sg_iload_n (pc := 22) (j := 3) dX4_howMany_22 rfl rfl ?_
          refine sg_cS2 (pc := 23) (d' := d - 1) (mc' := 0) (ms' := 0) g dX4_howMany_23 cb_X4_isCodeBegin ml_X4_50 ms_X4_isCodeBegin (Nat.le_of_ble_eq_true rfl) (by omega) (by omega) (by omega) ?_
          refine s_X4_isCodeBegin g (by omega) (by assumption) (by assumption) (fun z23 b23 => sg_K1 ?_)
          refine sg_if_eq (pc := 26) (tgt := 44) dX4_howMany_26 (by decide) (fun c26 => ?_) (fun c26 => ?_)
          · first | refine sg_iincB (pc := 44) dX4_howMany_44 rfl (by decide) (by decide) (by omega) (by omega) ?_ | refine sg_iinc (pc := 44) dX4_howMany_44 rfl (by decide) (by decide) ?_
            refine sg_goto (pc := 47) (tgt := 13) dX4_howMany_47 (by decide) ?_
            refine sg_lsub (lv' := [(3, _), (2, _), (0, _), (1, _)]) ⟨rfl, rfl, rfl, rfl, trivial⟩ ?_
            exact ih _ _ (by omega) (by omega)
          · refine sg_aload_n (pc := 29) (j := 0) dX4_howMany_29 rfl rfl ?_
            refine sg_iload_n (pc := 30) (j := 3) dX4_howMany_30 rfl rfl ?_
            refine sg_cS2 (pc := 31) (d' := d - 1) (mc' := 0) (ms' := 0) g dX4_howMany_31 cb_X4_codeFrom ml_X4_57 ms_X4_codeFrom (Nat.le_of_ble_eq_true rfl) (by omega) (by omega) (by omega) ?_
            refine s_X4_codeFrom g (by omega) (by assumption) (by assumption) (fun z31 => sg_K1 ?_)
            refine sg_iload_n (pc := 34) (j := 1) dX4_howMany_34 rfl rfl ?_
            refine sg_cS2 (pc := 35) (d' := d - 1) (mc' := 0) (ms' := 0) g dX4_howMany_35 cb_X4_isCounted ml_X4_61 ms_X4_isCounted (Nat.le_of_ble_eq_true rfl) (by omega) (by omega) (by omega) ?_
            refine s_X4_isCounted g (by omega) (fun z35 b35 => sg_K1 ?_)
            refine sg_if_eq (pc := 38) (tgt := 44) dX4_howMany_38 (by decide) (fun c38 => ?_) (fun c38 => ?_)
            · first | refine sg_iincB (pc := 44) dX4_howMany_44 rfl (by decide) (by decide) (by omega) (by omega) ?_ | refine sg_iinc (pc := 44) dX4_howMany_44 rfl (by decide) (by decide) ?_
              refine sg_goto (pc := 47) (tgt := 13) dX4_howMany_47 (by decide) ?_
              refine sg_lsub (lv' := [(3, _), (2, _), (0, _), (1, _)]) ⟨rfl, rfl, rfl, rfl, trivial⟩ ?_
              exact ih _ _ (by omega) (by omega)
            · first | refine sg_iincB (pc := 41) dX4_howMany_41 rfl (by decide) (by decide) (by omega) (by omega) ?_ | refine sg_iinc (pc := 41) dX4_howMany_41 rfl (by decide) (by decide) ?_
              first | refine sg_iincB (pc := 44) dX4_howMany_44 rfl (by decide) (by decide) (by omega) (by omega) ?_ | refine sg_iinc (pc := 44) dX4_howMany_44 rfl (by decide) (by decide) ?_
              refine sg_goto (pc := 47) (tgt := 13) dX4_howMany_47 (by decide) ?_
              refine sg_lsub (lv' := [(3, _), (2, _), (0, _), (1, _)]) ⟨rfl, rfl, rfl, rfl, trivial⟩ ?_
              exact ih _ _ (by omega) (by omega)
    refine sg_lsub (lv' := [(3, _), (2, _), (0, _), (1, _)]) ⟨rfl, rfl, rfl, rfl, trivial⟩ ?_
    exact loop13 _ _ _ (by omega) (Nat.lt_succ_self _)
  · refine sg_aload_n (pc := 4) (j := 0) dX4_howMany_4 rfl rfl ?_
    refine sg_cE0 (pc := 5) (d' := d - 1) (mc' := 0) (ms' := 0) 3 g dX4_howMany_5 cb_X0_size ml_X4_46 mn_X0_size rfl mv_X0_size (Nat.le_of_ble_eq_true rfl) (ck_lc (by assumption) (by assumption)) (Nat.le_of_ble_eq_true rfl) (by omega) (by omega) (by omega) ?_
    refine s_X0_size g (by omega) (by assumption) (by assumption) (fun z5 l5 u5 => sg_K1 ?_)
    refine sg_iret (pc := 8) dX4_howMany_8 rfl (by omega) (by omega) ?_
    exact hQ _

set_option maxRecDepth 100000 in
theorem s_X4_standsAt {w : sg_W} {Q : sg_O → sg_H → Prop} {h : sg_H} (g : sg_G w) {d : Nat} (hd : 3 ≤ d) {B a c : Nat} (hx : ck_X h B) (hl : ck_L B a c) {p t : Int} (hQ : ∀ z : Int, (z = 0 ∨ z = 1) → Q (.inl (some (sg_i z))) h) : sg_C w mi_X4_standsAt d 0 0 [sg_r a, sg_i p, sg_i t] h Q := by
  refine sg_of (by decide +kernel) (Nat.le_of_ble_eq_true rfl) ?_
  obtain ⟨-, -, -, -, c40, -⟩ := ck_ln hx hl
  refine sg_iload_n (pc := 0) (j := 2) dX4_standsAt_0 rfl rfl ?_
  refine sg_cS1 (pc := 1) (d' := d - 1) (mc' := 0) (ms' := 0) g dX4_standsAt_1 cb_X4_isWideCode ml_X4_23 ms_X4_isWideCode (Nat.le_of_ble_eq_true rfl) (by omega) (by omega) (by omega) ?_
  refine s_X4_isWideCode g (by omega) (fun z1 h1 b1 => sg_K1 ?_)
  refine sg_if_ne (pc := 4) (tgt := 22) dX4_standsAt_4 (by decide) (fun c4 => ?_) (fun c4 => ?_)
  · refine sg_aload_n (pc := 22) (j := 0) dX4_standsAt_22 rfl rfl ?_
    refine sg_iload_n (pc := 23) (j := 1) dX4_standsAt_23 rfl rfl ?_
    refine sg_cE1 (pc := 24) (d' := d - 1) (mc' := 0) (ms' := 0) 3 g dX4_standsAt_24 cb_X0_get ml_X4_39 mn_X0_get rfl mv_X0_get (Nat.le_of_ble_eq_true rfl) (ck_lc (by assumption) (by assumption)) (Nat.le_of_ble_eq_true rfl) (by omega) (by omega) (by omega) ?_
    refine s_X0_get g (by omega) (by assumption) (by assumption) (fun z24 => sg_K1 ?_)
    refine sg_iload_n (pc := 27) (j := 2) dX4_standsAt_27 rfl rfl ?_
    refine sg_cS1 (pc := 28) (d' := d - 1) (mc' := 0) (ms' := 0) g dX4_standsAt_28 cb_X4_highOf ml_X4_26 ms_X4_highOf (Nat.le_of_ble_eq_true rfl) (by omega) (by omega) (by omega) ?_
    refine s_X4_highOf g (by omega) (fun z28 h28 => sg_K1 ?_)
    refine sg_icmp_ne (pc := 31) (tgt := 52) dX4_standsAt_31 (by decide) (fun c31 => ?_) (fun c31 => ?_)
    · refine sg_iconst (pc := 52) (z := 0) dX4_standsAt_52 (by decide) ?_
      refine sg_zret (pc := 53) dX4_standsAt_53 rfl (by first | exact Or.inl rfl | exact Or.inr rfl | omega | assumption) (by omega) (by omega) ?_
      exact hQ _ (by first | exact Or.inl rfl | exact Or.inr rfl | omega | assumption)
    · refine sg_aload_n (pc := 34) (j := 0) dX4_standsAt_34 rfl rfl ?_
      refine sg_iload_n (pc := 35) (j := 1) dX4_standsAt_35 rfl rfl ?_
      refine sg_iconst (pc := 36) (z := 1) dX4_standsAt_36 (by decide) ?_
      first | refine sg_iaddB (pc := 37) dX4_standsAt_37 (by omega) (by omega) ?_ | refine sg_iadd (pc := 37) dX4_standsAt_37 ?_
      refine sg_cE1 (pc := 38) (d' := d - 1) (mc' := 0) (ms' := 0) 3 g dX4_standsAt_38 cb_X0_get ml_X4_39 mn_X0_get rfl mv_X0_get (Nat.le_of_ble_eq_true rfl) (ck_lc (by assumption) (by assumption)) (Nat.le_of_ble_eq_true rfl) (by omega) (by omega) (by omega) ?_
      refine s_X0_get g (by omega) (by assumption) (by assumption) (fun z38 => sg_K1 ?_)
      refine sg_iload_n (pc := 41) (j := 2) dX4_standsAt_41 rfl rfl ?_
      refine sg_cS1 (pc := 42) (d' := d - 1) (mc' := 0) (ms' := 0) g dX4_standsAt_42 cb_X4_lowOf ml_X4_36 ms_X4_lowOf (Nat.le_of_ble_eq_true rfl) (by omega) (by omega) (by omega) ?_
      refine s_X4_lowOf g (by omega) (fun z42 h42 => sg_K1 ?_)
      refine sg_icmp_ne (pc := 45) (tgt := 52) dX4_standsAt_45 (by decide) (fun c45 => ?_) (fun c45 => ?_)
      · refine sg_iconst (pc := 52) (z := 0) dX4_standsAt_52 (by decide) ?_
        refine sg_zret (pc := 53) dX4_standsAt_53 rfl (by first | exact Or.inl rfl | exact Or.inr rfl | omega | assumption) (by omega) (by omega) ?_
        exact hQ _ (by first | exact Or.inl rfl | exact Or.inr rfl | omega | assumption)
      · refine sg_iconst (pc := 48) (z := 1) dX4_standsAt_48 (by decide) ?_
        refine sg_goto (pc := 49) (tgt := 53) dX4_standsAt_49 (by decide) ?_
        refine sg_zret (pc := 53) dX4_standsAt_53 rfl (by first | exact Or.inl rfl | exact Or.inr rfl | omega | assumption) (by omega) (by omega) ?_
        exact hQ _ (by first | exact Or.inl rfl | exact Or.inr rfl | omega | assumption)
  · refine sg_aload_n (pc := 7) (j := 0) dX4_standsAt_7 rfl rfl ?_
    refine sg_iload_n (pc := 8) (j := 1) dX4_standsAt_8 rfl rfl ?_
    refine sg_cE1 (pc := 9) (d' := d - 1) (mc' := 0) (ms' := 0) 3 g dX4_standsAt_9 cb_X0_get ml_X4_39 mn_X0_get rfl mv_X0_get (Nat.le_of_ble_eq_true rfl) (ck_lc (by assumption) (by assumption)) (Nat.le_of_ble_eq_true rfl) (by omega) (by omega) (by omega) ?_
    refine s_X0_get g (by omega) (by assumption) (by assumption) (fun z9 => sg_K1 ?_)
    refine sg_iload_n (pc := 12) (j := 2) dX4_standsAt_12 rfl rfl ?_
    refine sg_icmp_ne (pc := 13) (tgt := 20) dX4_standsAt_13 (by decide) (fun c13 => ?_) (fun c13 => ?_)
    · refine sg_iconst (pc := 20) (z := 0) dX4_standsAt_20 (by decide) ?_
      refine sg_zret (pc := 21) dX4_standsAt_21 rfl (by first | exact Or.inl rfl | exact Or.inr rfl | omega | assumption) (by omega) (by omega) ?_
      exact hQ _ (by first | exact Or.inl rfl | exact Or.inr rfl | omega | assumption)
    · refine sg_iconst (pc := 16) (z := 1) dX4_standsAt_16 (by decide) ?_
      refine sg_goto (pc := 17) (tgt := 21) dX4_standsAt_17 (by decide) ?_
      refine sg_zret (pc := 21) dX4_standsAt_21 rfl (by first | exact Or.inl rfl | exact Or.inr rfl | omega | assumption) (by omega) (by omega) ?_
      exact hQ _ (by first | exact Or.inl rfl | exact Or.inr rfl | omega | assumption)

set_option maxRecDepth 100000 in
theorem s_X4_areSentAgain {w : sg_W} {Q : sg_O → sg_H → Prop} {h : sg_H} (g : sg_G w) {d : Nat} (hd : 5 ≤ d) {B a c : Nat} (hx : ck_X h B) (hl : ck_L B a c) (hQ : ∀ z : Int, (z = 0 ∨ z = 1) → Q (.inl (some (sg_i z))) h) : sg_C w mi_X4_areSentAgain d 0 0 [sg_r a] h Q := by
  refine sg_of (by decide +kernel) (Nat.le_of_ble_eq_true rfl) ?_
  obtain ⟨-, -, -, -, c40, -⟩ := ck_ln hx hl
  refine sg_iconst (pc := 0) (z := 0) dX4_areSentAgain_0 (by decide) ?_
  refine sg_istore_n (pc := 1) (j := 1) dX4_areSentAgain_1 rfl (by decide) ?_
  refine sg_iconst (pc := 2) (z := 0) dX4_areSentAgain_2 (by decide) ?_
  refine sg_istore_n (pc := 3) (j := 2) dX4_areSentAgain_3 rfl (by decide) ?_
  have loop4 : ∀ (N : Nat) (p s : Int), 0 ≤ p → (40 - p).toNat < N → sg_R w mi_X4_areSentAgain d 0 0 Q 4 [(2, sg_i p), (1, sg_i s), (0, sg_r a)] [] h 0 0 := by
    intro N
    induction N with
    | zero => intro p s p0 hm; exact absurd hm (Nat.not_lt_zero _)
    | succ N ih =>
      intro p s p0 hm
      refine sg_iload_n (pc := 4) (j := 2) dX4_areSentAgain_4 rfl rfl ?_
      refine sg_aload_n (pc := 5) (j := 0) dX4_areSentAgain_5 rfl rfl ?_
      refine sg_cE0 (pc := 6) (d' := d - 1) (mc' := 0) (ms' := 0) 3 g dX4_areSentAgain_6 cb_X0_size ml_X4_46 mn_X0_size rfl mv_X0_size (Nat.le_of_ble_eq_true rfl) (ck_lc (by assumption) (by assumption)) (Nat.le_of_ble_eq_true rfl) (by omega) (by omega) (by omega) ?_
      refine s_X0_size g (by omega) (by assumption) (by assumption) (fun z6 l6 u6 => sg_K1 ?_)
      refine sg_icmp_ge (pc := 9) (tgt := 50) dX4_areSentAgain_9 (by decide) (fun c9 => ?_) (fun c9 => ?_)
      · refine sg_iload_n (pc := 50) (j := 1) dX4_areSentAgain_50 rfl rfl ?_
        refine sg_aload_n (pc := 51) (j := 0) dX4_areSentAgain_51 rfl rfl ?_
        refine sg_cE0 (pc := 52) (d' := d - 1) (mc' := 0) (ms' := 0) 3 g dX4_areSentAgain_52 cb_X0_size ml_X4_46 mn_X0_size rfl mv_X0_size (Nat.le_of_ble_eq_true rfl) (ck_lc (by assumption) (by assumption)) (Nat.le_of_ble_eq_true rfl) (by omega) (by omega) (by omega) ?_
        refine s_X0_size g (by omega) (by assumption) (by assumption) (fun z52 l52 u52 => sg_K1 ?_)
        refine sg_icmp_ne (pc := 55) (tgt := 62) dX4_areSentAgain_55 (by decide) (fun c55 => ?_) (fun c55 => ?_)
        · refine sg_iconst (pc := 62) (z := 0) dX4_areSentAgain_62 (by decide) ?_
          refine sg_zret (pc := 63) dX4_areSentAgain_63 rfl (by first | exact Or.inl rfl | exact Or.inr rfl | omega | assumption) (by omega) (by omega) ?_
          exact hQ _ (by first | exact Or.inl rfl | exact Or.inr rfl | omega | assumption)
        · refine sg_iconst (pc := 58) (z := 1) dX4_areSentAgain_58 (by decide) ?_
          refine sg_goto (pc := 59) (tgt := 63) dX4_areSentAgain_59 (by decide) ?_
          refine sg_zret (pc := 63) dX4_areSentAgain_63 rfl (by first | exact Or.inl rfl | exact Or.inr rfl | omega | assumption) (by omega) (by omega) ?_
          exact hQ _ (by first | exact Or.inl rfl | exact Or.inr rfl | omega | assumption)
      · refine sg_aload_n (pc := 12) (j := 0) dX4_areSentAgain_12 rfl rfl ?_
        refine sg_iload_n (pc := 13) (j := 2) dX4_areSentAgain_13 rfl rfl ?_
        refine sg_cS2 (pc := 14) (d' := d - 1) (mc' := 0) (ms' := 0) g dX4_areSentAgain_14 cb_X4_isCodeBegin ml_X4_50 ms_X4_isCodeBegin (Nat.le_of_ble_eq_true rfl) (by omega) (by omega) (by omega) ?_
        refine s_X4_isCodeBegin g (by omega) (by assumption) (by assumption) (fun z14 b14 => sg_K1 ?_)
        refine sg_if_eq (pc := 17) (tgt := 44) dX4_areSentAgain_17 (by decide) (fun c17 => ?_) (fun c17 => ?_)
        · first | refine sg_iincB (pc := 44) dX4_areSentAgain_44 rfl (by decide) (by decide) (by omega) (by omega) ?_ | refine sg_iinc (pc := 44) dX4_areSentAgain_44 rfl (by decide) (by decide) ?_
          refine sg_goto (pc := 47) (tgt := 4) dX4_areSentAgain_47 (by decide) ?_
          refine sg_lsub (lv' := [(2, _), (1, _), (0, _)]) ⟨rfl, rfl, rfl, trivial⟩ ?_
          exact ih _ _ (by omega) (by omega)
        · refine sg_aload_n (pc := 20) (j := 0) dX4_areSentAgain_20 rfl rfl ?_
          refine sg_iload_n (pc := 21) (j := 2) dX4_areSentAgain_21 rfl rfl ?_
          refine sg_cS2 (pc := 22) (d' := d - 1) (mc' := 0) (ms' := 0) g dX4_areSentAgain_22 cb_X4_codeFrom ml_X4_57 ms_X4_codeFrom (Nat.le_of_ble_eq_true rfl) (by omega) (by omega) (by omega) ?_
          refine s_X4_codeFrom g (by omega) (by assumption) (by assumption) (fun z22 => sg_K1 ?_)
          refine sg_istore_n (pc := 25) (j := 3) dX4_areSentAgain_25 rfl (by decide) ?_
          refine sg_aload_n (pc := 26) (j := 0) dX4_areSentAgain_26 rfl rfl ?_
          refine sg_iload_n (pc := 27) (j := 1) dX4_areSentAgain_27 rfl rfl ?_
          refine sg_iload_n (pc := 28) (j := 3) dX4_areSentAgain_28 rfl rfl ?_
          refine sg_cS3 (pc := 29) (d' := d - 1) (mc' := 0) (ms' := 0) g dX4_areSentAgain_29 cb_X4_standsAt ml_X4_68 ms_X4_standsAt (Nat.le_of_ble_eq_true rfl) (by omega) (by omega) (by omega) ?_
          refine s_X4_standsAt g (by omega) (by assumption) (by assumption) (fun z29 b29 => sg_K1 ?_)
          refine sg_if_ne (pc := 32) (tgt := 37) dX4_areSentAgain_32 (by decide) (fun c32 => ?_) (fun c32 => ?_)
          · refine sg_iload_n (pc := 37) (j := 1) dX4_areSentAgain_37 rfl rfl ?_
            refine sg_iload_n (pc := 38) (j := 3) dX4_areSentAgain_38 rfl rfl ?_
            refine sg_cS1 (pc := 39) (d' := d - 1) (mc' := 0) (ms' := 0) g dX4_areSentAgain_39 cb_X4_unitsOf ml_X4_72 ms_X4_unitsOf (Nat.le_of_ble_eq_true rfl) (by omega) (by omega) (by omega) ?_
            refine s_X4_unitsOf g (by omega) (fun z39 h39 => sg_K1 ?_)
            first | refine sg_iaddB (pc := 42) dX4_areSentAgain_42 (by omega) (by omega) ?_ | refine sg_iadd (pc := 42) dX4_areSentAgain_42 ?_
            refine sg_istore_n (pc := 43) (j := 1) dX4_areSentAgain_43 rfl (by decide) ?_
            first | refine sg_iincB (pc := 44) dX4_areSentAgain_44 rfl (by decide) (by decide) (by omega) (by omega) ?_ | refine sg_iinc (pc := 44) dX4_areSentAgain_44 rfl (by decide) (by decide) ?_
            refine sg_goto (pc := 47) (tgt := 4) dX4_areSentAgain_47 (by decide) ?_
            refine sg_lsub (lv' := [(2, _), (1, _), (0, _)]) ⟨rfl, rfl, rfl, trivial⟩ ?_
            exact ih _ _ (by omega) (by omega)
          · refine sg_iconst (pc := 35) (z := 0) dX4_areSentAgain_35 (by decide) ?_
            refine sg_zret (pc := 36) dX4_areSentAgain_36 rfl (by first | exact Or.inl rfl | exact Or.inr rfl | omega | assumption) (by omega) (by omega) ?_
            exact hQ _ (by first | exact Or.inl rfl | exact Or.inr rfl | omega | assumption)
  refine sg_lsub (lv' := [(2, _), (1, _), (0, _)]) ⟨rfl, rfl, rfl, trivial⟩ ?_
  exact loop4 _ _ _ (by omega) (Nat.lt_succ_self _)

set_option maxRecDepth 100000 in
theorem s_X4_listCodes {w : sg_W} {Q : sg_O → sg_H → Prop} {h : sg_H} (g : sg_G w) {d : Nat} (hd : 4 ≤ d) {B a c b c2 : Nat} (hx : ck_X h B) (hl : ck_L B a c) (hl2 : ck_L B b c2) (hQ : ∀ h' : sg_H, ck_X h' B → ck_F B h h' → Q (.inl none) h') : sg_C w mi_X4_listCodes d 0 0 [sg_r a, sg_r b] h Q := by
  refine sg_of (by decide +kernel) (Nat.le_of_ble_eq_true rfl) ?_
  obtain ⟨-, -, -, -, c40, -⟩ := ck_ln hx hl
  have y0 := ck_Y0 hx
  refine sg_aload_n (pc := 0) (j := 1) dX4_listCodes_0 rfl rfl ?_
  refine sg_cE0 (pc := 1) (d' := d - 1) (mc' := 0) (ms' := 0) 3 g dX4_listCodes_1 cb_X0_clear ml_X4_54 mn_X0_clear rfl mv_X0_clear (Nat.le_of_ble_eq_true rfl) (ck_lc (by assumption) (by assumption)) (Nat.le_of_ble_eq_true rfl) (by omega) (by omega) (by omega) ?_
  refine s_X0_clear g (by omega) (by assumption) (by assumption) (fun h1 x1 f1 => sg_K0 ?_)
  have y1 := ck_Yt (h0 := h) (by assumption) x1 f1
  refine sg_iconst (pc := 4) (z := 0) dX4_listCodes_4 (by decide) ?_
  refine sg_istore_n (pc := 5) (j := 2) dX4_listCodes_5 rfl (by decide) ?_
  have loop6 : ∀ (N : Nat) (h1 : sg_H) (p : Int), ck_X h1 B → ck_Y h h1 B → 0 ≤ p → (40 - p).toNat < N → sg_R w mi_X4_listCodes d 0 0 Q 6 [(2, sg_i p), (0, sg_r a), (1, sg_r b)] [] h1 0 0 := by
    intro N
    induction N with
    | zero => intro h1 p x1 y1 p0 hm; exact absurd hm (Nat.not_lt_zero _)
    | succ N ih =>
      intro h1 p x1 y1 p0 hm
      refine sg_iload_n (pc := 6) (j := 2) dX4_listCodes_6 rfl rfl ?_
      refine sg_aload_n (pc := 7) (j := 0) dX4_listCodes_7 rfl rfl ?_
      refine sg_cE0 (pc := 8) (d' := d - 1) (mc' := 0) (ms' := 0) 3 g dX4_listCodes_8 cb_X0_size ml_X4_46 mn_X0_size rfl mv_X0_size (Nat.le_of_ble_eq_true rfl) (ck_lc (by assumption) (by assumption)) (Nat.le_of_ble_eq_true rfl) (by omega) (by omega) (by omega) ?_
      refine s_X0_size g (by omega) (by assumption) (by assumption) (fun z8 l8 u8 => sg_K1 ?_)
      refine sg_icmp_ge (pc := 11) (tgt := 37) dX4_listCodes_11 (by decide) (fun c11 => ?_) (fun c11 => ?_)
      · refine sg_vret (pc := 37) dX4_listCodes_37 rfl (by omega) (by omega) ?_
        exact hQ _ (by assumption) (ck_Yf (by assumption))
      · refine sg_aload_n (pc := 14) (j := 0) dX4_listCodes_14 rfl rfl ?_
        refine sg_iload_n (pc := 15) (j := 2) dX4_listCodes_15 rfl rfl ?_
        refine sg_cS2 (pc := 16) (d' := d - 1) (mc' := 0) (ms' := 0) g dX4_listCodes_16 cb_X4_isCodeBegin ml_X4_50 ms_X4_isCodeBegin (Nat.le_of_ble_eq_true rfl) (by omega) (by omega) (by omega) ?_
        refine s_X4_isCodeBegin g (by omega) (by assumption) (by assumption) (fun z16 b16 => sg_K1 ?_)
        refine sg_if_eq (pc := 19) (tgt := 31) dX4_listCodes_19 (by decide) (fun c19 => ?_) (fun c19 => ?_)
        · first | refine sg_iincB (pc := 31) dX4_listCodes_31 rfl (by decide) (by decide) (by omega) (by omega) ?_ | refine sg_iinc (pc := 31) dX4_listCodes_31 rfl (by decide) (by decide) ?_
          refine sg_goto (pc := 34) (tgt := 6) dX4_listCodes_34 (by decide) ?_
          refine sg_lsub (lv' := [(2, _), (0, _), (1, _)]) ⟨rfl, rfl, rfl, trivial⟩ ?_
          exact ih _ _ (by assumption) (by assumption) (by omega) (by omega)
        · refine sg_aload_n (pc := 22) (j := 1) dX4_listCodes_22 rfl rfl ?_
          refine sg_aload_n (pc := 23) (j := 0) dX4_listCodes_23 rfl rfl ?_
          refine sg_iload_n (pc := 24) (j := 2) dX4_listCodes_24 rfl rfl ?_
          refine sg_cS2 (pc := 25) (d' := d - 1) (mc' := 0) (ms' := 0) g dX4_listCodes_25 cb_X4_codeFrom ml_X4_57 ms_X4_codeFrom (Nat.le_of_ble_eq_true rfl) (by omega) (by omega) (by omega) ?_
          refine s_X4_codeFrom g (by omega) (by assumption) (by assumption) (fun z25 => sg_K1 ?_)
          refine sg_cE1 (pc := 28) (d' := d - 1) (mc' := 0) (ms' := 0) 3 g dX4_listCodes_28 cb_X0_add ml_X4_30 mn_X0_add rfl mv_X0_add (Nat.le_of_ble_eq_true rfl) (ck_lc (by assumption) (by assumption)) (Nat.le_of_ble_eq_true rfl) (by omega) (by omega) (by omega) ?_
          refine s_X0_add g (by omega) (by assumption) (by assumption) (fun h28 x28 f28 => sg_K0 ?_)
          have y28 := ck_Yt (h0 := h) (by assumption) x28 f28
          first | refine sg_iincB (pc := 31) dX4_listCodes_31 rfl (by decide) (by decide) (by omega) (by omega) ?_ | refine sg_iinc (pc := 31) dX4_listCodes_31 rfl (by decide) (by decide) ?_
          refine sg_goto (pc := 34) (tgt := 6) dX4_listCodes_34 (by decide) ?_
          refine sg_lsub (lv' := [(2, _), (0, _), (1, _)]) ⟨rfl, rfl, rfl, trivial⟩ ?_
          exact ih _ _ (by assumption) (by assumption) (by omega) (by omega)
  refine sg_lsub (lv' := [(2, _), (0, _), (1, _)]) ⟨rfl, rfl, rfl, trivial⟩ ?_
  exact loop6 _ _ _ (by assumption) (by assumption) (by omega) (Nat.lt_succ_self _)

set_option maxRecDepth 100000 in
theorem s_X3_howManySigns {w : sg_W} {Q : sg_O → sg_H → Prop} {h : sg_H} (g : sg_G w) {d : Nat} (hd : 2 ≤ d) {B a : Nat} (hx : ck_X h B) (hs : ck_S B a) (hQ : ∀ z : Int, Q (.inl (some (sg_i z))) h) : sg_C w mi_X3_howManySigns d 0 0 [sg_r a] h Q := by
  refine sg_of (by decide +kernel) (Nat.le_of_ble_eq_true rfl) ?_
  obtain ⟨hS0, hS1, hS2⟩ := ck_sl hx hs
  refine sg_iconst (pc := 0) (z := 0) dX3_howManySigns_0 (by decide) ?_
  refine sg_istore_n (pc := 1) (j := 1) dX3_howManySigns_1 rfl (by decide) ?_
  refine sg_iconst (pc := 2) (z := 0) dX3_howManySigns_2 (by decide) ?_
  refine sg_istore_n (pc := 3) (j := 2) dX3_howManySigns_3 rfl (by decide) ?_
  have loop4 : ∀ (N : Nat) (p s : Int), 0 ≤ p → (4 - p).toNat < N → sg_R w mi_X3_howManySigns d 0 0 Q 4 [(2, sg_i p), (1, sg_i s), (0, sg_r a)] [] h 0 0 := by
    intro N
    induction N with
    | zero => intro p s p0 hm; exact absurd hm (Nat.not_lt_zero _)
    | succ N ih =>
      intro p s p0 hm
      refine sg_iload_n (pc := 4) (j := 2) dX3_howManySigns_4 rfl rfl ?_
      refine sg_iconst (pc := 5) (z := 4) dX3_howManySigns_5 (by decide) ?_
      refine sg_icmp_ge (pc := 6) (tgt := 27) dX3_howManySigns_6 (by decide) (fun c6 => ?_) (fun c6 => ?_)
      · refine sg_iload_n (pc := 27) (j := 1) dX3_howManySigns_27 rfl rfl ?_
        refine sg_iret (pc := 28) dX3_howManySigns_28 rfl (by omega) (by omega) ?_
        exact hQ _
      · refine sg_iload_n (pc := 9) (j := 1) dX3_howManySigns_9 rfl rfl ?_
        refine sg_aload_n (pc := 10) (j := 0) dX3_howManySigns_10 rfl rfl ?_
        refine sg_getf (pc := 11) g dX3_howManySigns_11 fk_X3_11 hS0 rfl rfl ?_
        refine sg_iload_n (pc := 14) (j := 2) dX3_howManySigns_14 rfl rfl ?_
        obtain ⟨b15, e15, l15⟩ := ck_row hs (by omega) (by omega)
        refine sg_aald (pc := 15) dX3_howManySigns_15 hS1 (by decide) (by omega) e15 ?_
        refine sg_cE0 (pc := 16) (d' := d - 1) (mc' := 0) (ms' := 0) 3 g dX3_howManySigns_16 cb_X0_size ml_X3_23 mn_X0_size rfl mv_X0_size (Nat.le_of_ble_eq_true rfl) (ck_lc (by assumption) (by assumption)) (Nat.le_of_ble_eq_true rfl) (by omega) (by omega) (by omega) ?_
        refine s_X0_size g (by omega) (by assumption) (by assumption) (fun z16 l16 u16 => sg_K1 ?_)
        first | refine sg_iaddB (pc := 19) dX3_howManySigns_19 (by omega) (by omega) ?_ | refine sg_iadd (pc := 19) dX3_howManySigns_19 ?_
        refine sg_istore_n (pc := 20) (j := 1) dX3_howManySigns_20 rfl (by decide) ?_
        first | refine sg_iincB (pc := 21) dX3_howManySigns_21 rfl (by decide) (by decide) (by omega) (by omega) ?_ | refine sg_iinc (pc := 21) dX3_howManySigns_21 rfl (by decide) (by decide) ?_
        refine sg_goto (pc := 24) (tgt := 4) dX3_howManySigns_24 (by decide) ?_
        refine sg_lsub (lv' := [(2, _), (1, _), (0, _)]) ⟨rfl, rfl, rfl, trivial⟩ ?_
        exact ih _ _ (by omega) (by omega)
  refine sg_lsub (lv' := [(2, _), (1, _), (0, _)]) ⟨rfl, rfl, rfl, trivial⟩ ?_
  exact loop4 _ _ _ (by omega) (Nat.lt_succ_self _)

set_option maxRecDepth 100000 in
theorem s_X3_howManyUnits {w : sg_W} {Q : sg_O → sg_H → Prop} {h : sg_H} (g : sg_G w) {d : Nat} (hd : 2 ≤ d) {B a : Nat} (hx : ck_X h B) (hs : ck_S B a) (hQ : ∀ z : Int, Q (.inl (some (sg_i z))) h) : sg_C w mi_X3_howManyUnits d 0 0 [sg_r a] h Q := by
  refine sg_of (by decide +kernel) (Nat.le_of_ble_eq_true rfl) ?_
  obtain ⟨hS0, hS1, hS2⟩ := ck_sl hx hs
  refine sg_iconst (pc := 0) (z := 0) dX3_howManyUnits_0 (by decide) ?_
  refine sg_istore_n (pc := 1) (j := 1) dX3_howManyUnits_1 rfl (by decide) ?_
  refine sg_iconst (pc := 2) (z := 0) dX3_howManyUnits_2 (by decide) ?_
  refine sg_istore_n (pc := 3) (j := 2) dX3_howManyUnits_3 rfl (by decide) ?_
  have loop4 : ∀ (N : Nat) (p s : Int), 0 ≤ p → (2 - p).toNat < N → sg_R w mi_X3_howManyUnits d 0 0 Q 4 [(2, sg_i p), (1, sg_i s), (0, sg_r a)] [] h 0 0 := by
    intro N
    induction N with
    | zero => intro p s p0 hm; exact absurd hm (Nat.not_lt_zero _)
    | succ N ih =>
      intro p s p0 hm
      refine sg_iload_n (pc := 4) (j := 2) dX3_howManyUnits_4 rfl rfl ?_
      refine sg_iconst (pc := 5) (z := 2) dX3_howManyUnits_5 (by decide) ?_
      refine sg_icmp_ge (pc := 6) (tgt := 27) dX3_howManyUnits_6 (by decide) (fun c6 => ?_) (fun c6 => ?_)
      · refine sg_iload_n (pc := 27) (j := 1) dX3_howManyUnits_27 rfl rfl ?_
        refine sg_iret (pc := 28) dX3_howManyUnits_28 rfl (by omega) (by omega) ?_
        exact hQ _
      · refine sg_iload_n (pc := 9) (j := 1) dX3_howManyUnits_9 rfl rfl ?_
        refine sg_aload_n (pc := 10) (j := 0) dX3_howManyUnits_10 rfl rfl ?_
        refine sg_getf (pc := 11) g dX3_howManyUnits_11 fk_X3_17 hS0 rfl rfl ?_
        refine sg_iload_n (pc := 14) (j := 2) dX3_howManyUnits_14 rfl rfl ?_
        obtain ⟨b15, e15, l15⟩ := ck_trk hs (by omega) (by omega)
        refine sg_aald (pc := 15) dX3_howManyUnits_15 hS2 (by decide) (by omega) e15 ?_
        refine sg_cE0 (pc := 16) (d' := d - 1) (mc' := 0) (ms' := 0) 3 g dX3_howManyUnits_16 cb_X0_size ml_X3_23 mn_X0_size rfl mv_X0_size (Nat.le_of_ble_eq_true rfl) (ck_lc (by assumption) (by assumption)) (Nat.le_of_ble_eq_true rfl) (by omega) (by omega) (by omega) ?_
        refine s_X0_size g (by omega) (by assumption) (by assumption) (fun z16 l16 u16 => sg_K1 ?_)
        first | refine sg_iaddB (pc := 19) dX3_howManyUnits_19 (by omega) (by omega) ?_ | refine sg_iadd (pc := 19) dX3_howManyUnits_19 ?_
        refine sg_istore_n (pc := 20) (j := 1) dX3_howManyUnits_20 rfl (by decide) ?_
        first | refine sg_iincB (pc := 21) dX3_howManyUnits_21 rfl (by decide) (by decide) (by omega) (by omega) ?_ | refine sg_iinc (pc := 21) dX3_howManyUnits_21 rfl (by decide) (by decide) ?_
        refine sg_goto (pc := 24) (tgt := 4) dX3_howManyUnits_24 (by decide) ?_
        refine sg_lsub (lv' := [(2, _), (1, _), (0, _)]) ⟨rfl, rfl, rfl, trivial⟩ ?_
        exact ih _ _ (by omega) (by omega)
  refine sg_lsub (lv' := [(2, _), (1, _), (0, _)]) ⟨rfl, rfl, rfl, trivial⟩ ?_
  exact loop4 _ _ _ (by omega) (Nat.lt_succ_self _)

set_option maxRecDepth 100000 in
theorem s_X3_become {w : sg_W} {Q : sg_O → sg_H → Prop} {h : sg_H} (g : sg_G w) {d : Nat} (hd : 4 ≤ d) {B a b : Nat} (hx : ck_X h B) (hs : ck_S B a) (hs2 : ck_S B b) (hQ : ∀ h' : sg_H, ck_X h' B → ck_F B h h' → Q (.inl none) h') : sg_C w mi_X3_become d 0 0 [sg_r a, sg_r b] h Q := by
  refine sg_of (by decide +kernel) (Nat.le_of_ble_eq_true rfl) ?_
  have y0 := ck_Y0 hx
  refine sg_iconst (pc := 0) (z := 0) dX3_become_0 (by decide) ?_
  refine sg_istore_n (pc := 1) (j := 2) dX3_become_1 rfl (by decide) ?_
  have loop2 : ∀ (N : Nat) (h1 : sg_H) (p : Int), ck_X h1 B → ck_Y h h1 B → 0 ≤ p → (4 - p).toNat < N → sg_R w mi_X3_become d 0 0 Q 2 [(2, sg_i p), (0, sg_r a), (1, sg_r b)] [] h1 0 0 := by
    intro N
    induction N with
    | zero => intro h1 p x1 y1 p0 hm; exact absurd hm (Nat.not_lt_zero _)
    | succ N ih =>
      intro h1 p x1 y1 p0 hm
      obtain ⟨hS0, hS1, hS2⟩ := ck_sl x1 hs
      obtain ⟨hT0, hT1, hT2⟩ := ck_sl x1 hs2
      refine sg_iload_n (pc := 2) (j := 2) dX3_become_2 rfl rfl ?_
      refine sg_iconst (pc := 3) (z := 4) dX3_become_3 (by decide) ?_
      refine sg_icmp_ge (pc := 4) (tgt := 28) dX3_become_4 (by decide) (fun c4 => ?_) (fun c4 => ?_)
      · refine sg_iconst (pc := 28) (z := 0) dX3_become_28 (by decide) ?_
        refine sg_istore_n (pc := 29) (j := 2) dX3_become_29 rfl (by decide) ?_
        have loop30 : ∀ (N : Nat) (h1 : sg_H) (p : Int), ck_X h1 B → ck_Y h h1 B → 0 ≤ p → (2 - p).toNat < N → sg_R w mi_X3_become d 0 0 Q 30 [(2, sg_i p), (0, sg_r a), (1, sg_r b)] [] h1 0 0 := by
          intro N
          induction N with
          | zero => intro h1 p x1 y1 p0 hm; exact absurd hm (Nat.not_lt_zero _)
          | succ N ih =>
            intro h1 p x1 y1 p0 hm
            obtain ⟨hS0, hS1, hS2⟩ := ck_sl x1 hs
            obtain ⟨hT0, hT1, hT2⟩ := ck_sl x1 hs2
            refine sg_iload_n (pc := 30) (j := 2) dX3_become_30 rfl rfl ?_
            refine sg_iconst (pc := 31) (z := 2) dX3_become_31 (by decide) ?_
            refine sg_icmp_ge (pc := 32) (tgt := 56) dX3_become_32 (by decide) (fun c32 => ?_) (fun c32 => ?_)
            · refine sg_vret (pc := 56) dX3_become_56 rfl (by omega) (by omega) ?_
              exact hQ _ (by assumption) (ck_Yf (by assumption))
            · refine sg_aload_n (pc := 35) (j := 0) dX3_become_35 rfl rfl ?_
              refine sg_getf (pc := 36) g dX3_become_36 fk_X3_17 hS0 rfl rfl ?_
              refine sg_iload_n (pc := 39) (j := 2) dX3_become_39 rfl rfl ?_
              obtain ⟨b40, e40, l40⟩ := ck_trk hs (by omega) (by omega)
              refine sg_aald (pc := 40) dX3_become_40 hS2 (by decide) (by omega) e40 ?_
              refine sg_aload_n (pc := 41) (j := 1) dX3_become_41 rfl rfl ?_
              refine sg_getf (pc := 42) g dX3_become_42 fk_X3_17 hT0 rfl rfl ?_
              refine sg_iload_n (pc := 45) (j := 2) dX3_become_45 rfl rfl ?_
              obtain ⟨b46, e46, l46⟩ := ck_trk hs2 (by omega) (by omega)
              refine sg_aald (pc := 46) dX3_become_46 hT2 (by decide) (by omega) e46 ?_
              refine sg_cE1 (pc := 47) (d' := d - 1) (mc' := 0) (ms' := 0) 3 g dX3_become_47 cb_X0_become ml_X3_27 mn_X0_become rfl mv_X0_become (Nat.le_of_ble_eq_true rfl) (ck_lc (by assumption) (by assumption)) (Nat.le_of_ble_eq_true rfl) (by omega) (by omega) (by omega) ?_
              refine s_X0_become g (by omega) (by assumption) (by assumption) (by assumption) (fun h47 x47 f47 => sg_K0 ?_)
              have y47 := ck_Yt (h0 := h) (by assumption) x47 f47
              first | refine sg_iincB (pc := 50) dX3_become_50 rfl (by decide) (by decide) (by omega) (by omega) ?_ | refine sg_iinc (pc := 50) dX3_become_50 rfl (by decide) (by decide) ?_
              refine sg_goto (pc := 53) (tgt := 30) dX3_become_53 (by decide) ?_
              refine sg_lsub (lv' := [(2, _), (0, _), (1, _)]) ⟨rfl, rfl, rfl, trivial⟩ ?_
              exact ih _ _ (by assumption) (by assumption) (by omega) (by omega)
        refine sg_lsub (lv' := [(2, _), (0, _), (1, _)]) ⟨rfl, rfl, rfl, trivial⟩ ?_
        exact loop30 _ _ _ (by assumption) (by assumption) (by omega) (Nat.lt_succ_self _)
      · refine sg_aload_n (pc := 7) (j := 0) dX3_become_7 rfl rfl ?_
        refine sg_getf (pc := 8) g dX3_become_8 fk_X3_11 hS0 rfl rfl ?_
        refine sg_iload_n (pc := 11) (j := 2) dX3_become_11 rfl rfl ?_
        obtain ⟨b12, e12, l12⟩ := ck_row hs (by omega) (by omega)
        refine sg_aald (pc := 12) dX3_become_12 hS1 (by decide) (by omega) e12 ?_
        refine sg_aload_n (pc := 13) (j := 1) dX3_become_13 rfl rfl ?_
        refine sg_getf (pc := 14) g dX3_become_14 fk_X3_11 hT0 rfl rfl ?_
        refine sg_iload_n (pc := 17) (j := 2) dX3_become_17 rfl rfl ?_
        obtain ⟨b18, e18, l18⟩ := ck_row hs2 (by omega) (by omega)
        refine sg_aald (pc := 18) dX3_become_18 hT1 (by decide) (by omega) e18 ?_
        refine sg_cE1 (pc := 19) (d' := d - 1) (mc' := 0) (ms' := 0) 3 g dX3_become_19 cb_X0_become ml_X3_27 mn_X0_become rfl mv_X0_become (Nat.le_of_ble_eq_true rfl) (ck_lc (by assumption) (by assumption)) (Nat.le_of_ble_eq_true rfl) (by omega) (by omega) (by omega) ?_
        refine s_X0_become g (by omega) (by assumption) (by assumption) (by assumption) (fun h19 x19 f19 => sg_K0 ?_)
        have y19 := ck_Yt (h0 := h) (by assumption) x19 f19
        first | refine sg_iincB (pc := 22) dX3_become_22 rfl (by decide) (by decide) (by omega) (by omega) ?_ | refine sg_iinc (pc := 22) dX3_become_22 rfl (by decide) (by decide) ?_
        refine sg_goto (pc := 25) (tgt := 2) dX3_become_25 (by decide) ?_
        refine sg_lsub (lv' := [(2, _), (0, _), (1, _)]) ⟨rfl, rfl, rfl, trivial⟩ ?_
        exact ih _ _ (by assumption) (by assumption) (by omega) (by omega)
  refine sg_lsub (lv' := [(2, _), (0, _), (1, _)]) ⟨rfl, rfl, rfl, trivial⟩ ?_
  exact loop2 _ _ _ (by assumption) (by assumption) (by omega) (Nat.lt_succ_self _)

set_option maxRecDepth 100000 in
theorem s_X1_size {w : sg_W} {Q : sg_O → sg_H → Prop} {h : sg_H} (g : sg_G w) {d : Nat} (hd : 1 ≤ d) {B : Nat} (hx : ck_X h B) (hQ : ∀ z : Int, Q (.inl (some (sg_i z))) h) : sg_C w mi_X1_size d 0 0 [sg_r (B + 16)] h Q := by
  refine sg_of (by decide +kernel) (Nat.le_of_ble_eq_true rfl) ?_
  obtain ⟨z, vs, hP, hV, hvl, hvs⟩ := ck_psx hx
  refine sg_aload_n (pc := 0) (j := 0) dX1_size_0 rfl rfl ?_
  refine sg_getf (pc := 1) g dX1_size_1 fk_X1_18 hP rfl rfl ?_
  refine sg_iret (pc := 4) dX1_size_4 rfl (by omega) (by omega) ?_
  exact hQ _

set_option maxRecDepth 100000 in
theorem s_X1_keep {w : sg_W} {Q : sg_O → sg_H → Prop} {h : sg_H} (g : sg_G w) {d : Nat} (hd : 5 ≤ d) {B a : Nat} (hx : ck_X h B) (hs : ck_S B a) (hQ : ∀ h' : sg_H, ck_X h' B → ck_F B h h' → Q (.inl none) h') : sg_C w mi_X1_keep d 0 0 [sg_r (B + 16), sg_r a] h Q := by
  refine sg_of (by decide +kernel) (Nat.le_of_ble_eq_true rfl) ?_
  have y0 := ck_Y0 hx
  obtain ⟨z, vs, hP, hV, hvl, hvs⟩ := ck_psx hx
  refine sg_aload_n (pc := 0) (j := 0) dX1_keep_0 rfl rfl ?_
  refine sg_getf (pc := 1) g dX1_keep_1 fk_X1_11 hP rfl rfl ?_
  refine sg_iconst (pc := 4) (z := 5) dX1_keep_4 (by decide) ?_
  obtain ⟨u5, e5, s5⟩ := hvs (5) (by omega) (by omega)
  refine sg_aald (pc := 5) dX1_keep_5 hV (by decide) (by omega) e5 ?_
  refine sg_astore_n (pc := 6) (j := 2) dX1_keep_6 rfl (by decide) ?_
  refine sg_iconst (pc := 7) (z := 5) dX1_keep_7 (by decide) ?_
  refine sg_istore_n (pc := 8) (j := 3) dX1_keep_8 rfl (by decide) ?_
  have loop9 : ∀ (N : Nat) (h1 : sg_H) (k : Int), ck_X h1 B → ck_Y h h1 B → 0 ≤ k → k ≤ 5 → k.toNat < N → sg_R w mi_X1_keep d 0 0 Q 9 [(3, sg_i k), (2, sg_r u5), (0, sg_r (B + 16)), (1, sg_r a)] [] h1 0 0 := by
    intro N
    induction N with
    | zero => intro h1 k x1 y1 k0 k1 hm; exact absurd hm (Nat.not_lt_zero _)
    | succ N ih =>
      intro h1 k x1 y1 k0 k1 hm
      obtain ⟨z1, vs1, hP1, hV1, hvl1, hvs1⟩ := ck_psx x1
      refine sg_iload_n (pc := 9) (j := 3) dX1_keep_9 rfl rfl ?_
      refine sg_if_le (pc := 10) (tgt := 33) dX1_keep_10 (by decide) (fun c10 => ?_) (fun c10 => ?_)
      · refine sg_aload_n (pc := 33) (j := 0) dX1_keep_33 rfl rfl ?_
        refine sg_getf (pc := 34) g dX1_keep_34 fk_X1_11 hP1 rfl rfl ?_
        refine sg_iconst (pc := 37) (z := 0) dX1_keep_37 (by decide) ?_
        refine sg_aload_n (pc := 38) (j := 2) dX1_keep_38 rfl rfl ?_
        refine ck_pst (pc := 39) g dX1_keep_39 y1 hV1 s5 (by omega) (by omega) (fun h39 x39 y39 => ?_)
        refine sg_aload_n (pc := 40) (j := 2) dX1_keep_40 rfl rfl ?_
        refine sg_aload_n (pc := 41) (j := 1) dX1_keep_41 rfl rfl ?_
        refine sg_cE1 (pc := 42) (d' := d - 1) (mc' := 0) (ms' := 0) 5 g dX1_keep_42 cb_X3_become ml_X1_22 mn_X3_become rfl mv_X3_become (Nat.le_of_ble_eq_true rfl) (ck_sc (by assumption) (by assumption)) (Nat.le_of_ble_eq_true rfl) (by omega) (by omega) (by omega) ?_
        refine s_X3_become g (by omega) (by assumption) (by assumption) (by assumption) (fun h42 x42 f42 => sg_K0 ?_)
        have y42 := ck_Yt (h0 := h) (by assumption) x42 f42
        obtain ⟨z2, vs2, hP2, hV2, hvl2, hvs2⟩ := ck_psx x42
        refine sg_aload_n (pc := 45) (j := 0) dX1_keep_45 rfl rfl ?_
        refine sg_getf (pc := 46) g dX1_keep_46 fk_X1_18 hP2 rfl rfl ?_
        refine sg_bipush (pc := 49) (z := 6) dX1_keep_49 (by decide) ?_
        refine sg_icmp_ge (pc := 51) (tgt := 64) dX1_keep_51 (by decide) (fun c51 => ?_) (fun c51 => ?_)
        · refine sg_vret (pc := 64) dX1_keep_64 rfl (by omega) (by omega) ?_
          exact hQ _ (by assumption) (ck_Yf (by assumption))
        · refine sg_aload_n (pc := 54) (j := 0) dX1_keep_54 rfl rfl ?_
          refine sg_dup (pc := 55) dX1_keep_55 rfl ?_
          refine sg_getf (pc := 56) g dX1_keep_56 fk_X1_18 hP2 rfl rfl ?_
          refine sg_iconst (pc := 59) (z := 1) dX1_keep_59 (by decide) ?_
          first | refine sg_iaddB (pc := 60) dX1_keep_60 (by omega) (by omega) ?_ | refine sg_iadd (pc := 60) dX1_keep_60 ?_
          refine ck_pps (pc := 61) g dX1_keep_61 fk_X1_18 y42 hP2 (fun h61 x61 y61 => ?_)
          refine sg_vret (pc := 64) dX1_keep_64 rfl (by omega) (by omega) ?_
          exact hQ _ (by assumption) (ck_Yf (by assumption))
      · refine sg_aload_n (pc := 13) (j := 0) dX1_keep_13 rfl rfl ?_
        refine sg_getf (pc := 14) g dX1_keep_14 fk_X1_11 hP1 rfl rfl ?_
        refine sg_iload_n (pc := 17) (j := 3) dX1_keep_17 rfl rfl ?_
        refine sg_aload_n (pc := 18) (j := 0) dX1_keep_18 rfl rfl ?_
        refine sg_getf (pc := 19) g dX1_keep_19 fk_X1_11 hP1 rfl rfl ?_
        refine sg_iload_n (pc := 22) (j := 3) dX1_keep_22 rfl rfl ?_
        refine sg_iconst (pc := 23) (z := 1) dX1_keep_23 (by decide) ?_
        first | refine sg_isubB (pc := 24) dX1_keep_24 (by omega) (by omega) ?_ | refine sg_isub (pc := 24) dX1_keep_24 ?_
        obtain ⟨u25, e25, s25⟩ := hvs1 (k - 1) (by omega) (by omega)
        refine sg_aald (pc := 25) dX1_keep_25 hV1 (by decide) (by omega) e25 ?_
        refine ck_pst (pc := 26) g dX1_keep_26 y1 hV1 s25 (by omega) (by omega) (fun h26 x26 y26 => ?_)
        first | refine sg_iincB (pc := 27) dX1_keep_27 rfl (by decide) (by decide) (by omega) (by omega) ?_ | refine sg_iinc (pc := 27) dX1_keep_27 rfl (by decide) (by decide) ?_
        refine sg_goto (pc := 30) (tgt := 9) dX1_keep_30 (by decide) ?_
        refine sg_lsub (lv' := [(3, _), (2, _), (0, _), (1, _)]) ⟨rfl, rfl, rfl, rfl, trivial⟩ ?_
        exact ih _ _ x26 y26 (by omega) (by omega) (by omega)
  refine sg_lsub (lv' := [(3, _), (2, _), (0, _), (1, _)]) ⟨rfl, rfl, rfl, rfl, trivial⟩ ?_
  exact loop9 _ _ _ hx y0 (by omega) (by omega) (Nat.lt_succ_self _)

set_option maxRecDepth 100000 in
theorem s_X1_bringBack {w : sg_W} {Q : sg_O → sg_H → Prop} {h : sg_H} (g : sg_G w) {d : Nat} (hd : 5 ≤ d) {B a : Nat} (hx : ck_X h B) (hs : ck_S B a) (hQ : ∀ h' : sg_H, ck_X h' B → ck_F B h h' → Q (.inl none) h') : sg_C w mi_X1_bringBack d 0 0 [sg_r (B + 16), sg_r a] h Q := by
  refine sg_of (by decide +kernel) (Nat.le_of_ble_eq_true rfl) ?_
  have y0 := ck_Y0 hx
  obtain ⟨z, vs, hP, hV, hvl, hvs⟩ := ck_psx hx
  refine sg_aload_n (pc := 0) (j := 0) dX1_bringBack_0 rfl rfl ?_
  refine sg_getf (pc := 1) g dX1_bringBack_1 fk_X1_18 hP rfl rfl ?_
  refine sg_if_ne (pc := 4) (tgt := 8) dX1_bringBack_4 (by decide) (fun c4 => ?_) (fun c4 => ?_)
  · refine sg_aload_n (pc := 8) (j := 0) dX1_bringBack_8 rfl rfl ?_
    refine sg_getf (pc := 9) g dX1_bringBack_9 fk_X1_11 hP rfl rfl ?_
    refine sg_iconst (pc := 12) (z := 0) dX1_bringBack_12 (by decide) ?_
    obtain ⟨u13, e13, s13⟩ := hvs (0) (by omega) (by omega)
    refine sg_aald (pc := 13) dX1_bringBack_13 hV (by decide) (by omega) e13 ?_
    refine sg_astore_n (pc := 14) (j := 2) dX1_bringBack_14 rfl (by decide) ?_
    refine sg_aload_n (pc := 15) (j := 1) dX1_bringBack_15 rfl rfl ?_
    refine sg_aload_n (pc := 16) (j := 2) dX1_bringBack_16 rfl rfl ?_
    refine sg_cE1 (pc := 17) (d' := d - 1) (mc' := 0) (ms' := 0) 5 g dX1_bringBack_17 cb_X3_become ml_X1_22 mn_X3_become rfl mv_X3_become (Nat.le_of_ble_eq_true rfl) (ck_sc (by assumption) (by assumption)) (Nat.le_of_ble_eq_true rfl) (by omega) (by omega) (by omega) ?_
    refine s_X3_become g (by omega) (by assumption) (by assumption) (by assumption) (fun h17 x17 f17 => sg_K0 ?_)
    have y17 := ck_Yt (h0 := h) (by assumption) x17 f17
    refine sg_iconst (pc := 20) (z := 0) dX1_bringBack_20 (by decide) ?_
    refine sg_istore_n (pc := 21) (j := 3) dX1_bringBack_21 rfl (by decide) ?_
    have loop22 : ∀ (N : Nat) (h1 : sg_H) (k : Int), ck_X h1 B → ck_Y h h1 B → 0 ≤ k → k ≤ 5 → (6 - k).toNat < N → sg_R w mi_X1_bringBack d 0 0 Q 22 [(3, sg_i k), (2, sg_r u13), (0, sg_r (B + 16)), (1, sg_r a)] [] h1 0 0 := by
      intro N
      induction N with
      | zero => intro h1 k x1 y1 k0 k1 hm; exact absurd hm (Nat.not_lt_zero _)
      | succ N ih =>
        intro h1 k x1 y1 k0 k1 hm
        obtain ⟨z1, vs1, hP1, hV1, hvl1, hvs1⟩ := ck_psx x1
        refine sg_iload_n (pc := 22) (j := 3) dX1_bringBack_22 rfl rfl ?_
        refine sg_iconst (pc := 23) (z := 1) dX1_bringBack_23 (by decide) ?_
        first | refine sg_iaddB (pc := 24) dX1_bringBack_24 (by omega) (by omega) ?_ | refine sg_iadd (pc := 24) dX1_bringBack_24 ?_
        refine sg_bipush (pc := 25) (z := 6) dX1_bringBack_25 (by decide) ?_
        refine sg_icmp_ge (pc := 27) (tgt := 50) dX1_bringBack_27 (by decide) (fun c27 => ?_) (fun c27 => ?_)
        · refine sg_aload_n (pc := 50) (j := 0) dX1_bringBack_50 rfl rfl ?_
          refine sg_getf (pc := 51) g dX1_bringBack_51 fk_X1_11 hP1 rfl rfl ?_
          refine sg_iconst (pc := 54) (z := 5) dX1_bringBack_54 (by decide) ?_
          refine sg_aload_n (pc := 55) (j := 2) dX1_bringBack_55 rfl rfl ?_
          refine ck_pst (pc := 56) g dX1_bringBack_56 y1 hV1 s13 (by omega) (by omega) (fun h56 x56 y56 => ?_)
          refine sg_aload_n (pc := 57) (j := 0) dX1_bringBack_57 rfl rfl ?_
          obtain ⟨z2, vs2, hP2, hV2, hvl2, hvs2⟩ := ck_psx x56
          refine sg_dup (pc := 58) dX1_bringBack_58 rfl ?_
          refine sg_getf (pc := 59) g dX1_bringBack_59 fk_X1_18 hP2 rfl rfl ?_
          refine sg_iconst (pc := 62) (z := 1) dX1_bringBack_62 (by decide) ?_
          first | refine sg_isubB (pc := 63) dX1_bringBack_63 (by omega) (by omega) ?_ | refine sg_isub (pc := 63) dX1_bringBack_63 ?_
          refine ck_pps (pc := 64) g dX1_bringBack_64 fk_X1_18 y56 hP2 (fun h64 x64 y64 => ?_)
          refine sg_vret (pc := 67) dX1_bringBack_67 rfl (by omega) (by omega) ?_
          first | exact hQ _ (by assumption) (ck_Yf (by assumption))
        · refine sg_aload_n (pc := 30) (j := 0) dX1_bringBack_30 rfl rfl ?_
          refine sg_getf (pc := 31) g dX1_bringBack_31 fk_X1_11 hP1 rfl rfl ?_
          refine sg_iload_n (pc := 34) (j := 3) dX1_bringBack_34 rfl rfl ?_
          refine sg_aload_n (pc := 35) (j := 0) dX1_bringBack_35 rfl rfl ?_
          refine sg_getf (pc := 36) g dX1_bringBack_36 fk_X1_11 hP1 rfl rfl ?_
          refine sg_iload_n (pc := 39) (j := 3) dX1_bringBack_39 rfl rfl ?_
          refine sg_iconst (pc := 40) (z := 1) dX1_bringBack_40 (by decide) ?_
          first | refine sg_iaddB (pc := 41) dX1_bringBack_41 (by omega) (by omega) ?_ | refine sg_iadd (pc := 41) dX1_bringBack_41 ?_
          obtain ⟨u42, e42, s42⟩ := hvs1 (k + 1) (by omega) (by omega)
          refine sg_aald (pc := 42) dX1_bringBack_42 hV1 (by decide) (by omega) e42 ?_
          refine ck_pst (pc := 43) g dX1_bringBack_43 y1 hV1 s42 (by omega) (by omega) (fun h43 x43 y43 => ?_)
          first | refine sg_iincB (pc := 44) dX1_bringBack_44 rfl (by decide) (by decide) (by omega) (by omega) ?_ | refine sg_iinc (pc := 44) dX1_bringBack_44 rfl (by decide) (by decide) ?_
          refine sg_goto (pc := 47) (tgt := 22) dX1_bringBack_47 (by decide) ?_
          refine sg_lsub (lv' := [(3, _), (2, _), (0, _), (1, _)]) ⟨rfl, rfl, rfl, rfl, trivial⟩ ?_
          exact ih _ _ x43 y43 (by omega) (by omega) (by omega)
    refine sg_lsub (lv' := [(3, _), (2, _), (0, _), (1, _)]) ⟨rfl, rfl, rfl, rfl, trivial⟩ ?_
    exact loop22 _ _ _ x17 y17 (by omega) (by omega) (Nat.lt_succ_self _)
  · refine sg_vret (pc := 7) dX1_bringBack_7 rfl (by omega) (by omega) ?_
    first | exact hQ _ (by assumption) (ck_Yf (by assumption))
end
