/-- a room that holds the calls; it is not the printed one -/
def rm_1 : Jvm.Room := { frames := 2048, cells := 601024, slots := 7293034, locals := 84000 }
/-! THE CLAIM OUT OF ONE WALK OF THE LAW'S BODY. Your part is whole_start (and what it stands on); all else here is the same for every law, but numbers. -/
def R_law : String := "SignkindsLaw"
def lw_P (b : Addr) (xs : List Int32) (args : Array Value) (s : State) : Prop := args = #[.ref b] ∧ s.IntsAt b xs ∧ xs.length ≤ 3072 ∧ (Jvm.Cond.and given_1 narrow_1).before args s = true
def lw_Q (_ : Array Value) (s : State) (o : Outcome) (t : State) : Prop := o = .returned (some (.int 1)) ∧ Framed s o t [] 601024 7293034
def lw_Z (below : List Frame) (a : Array Value) (s : State) : State → Prop := fun t => ∃ o, t.status = .running ∧ Ended t below o ∧ lw_Q a s o t
/-- the law's own end, with 1 on the stack, nothing written that was there before, its room as the claim has it -/
theorem lw_ret {p : Program} {l : Launch} {e : Env} {s : State} {m : MethodId} {below : List Frame} {meth : Method} {c : Code} {b : Nat} (hx : p.tables.exec = Jvm.exec) (hb : c.code = code) (hr : meth.sig.returnType = ret) (hlocks : meth.locks = false) {pc : Nat} {H : Heap} {ls : Array Slot} (hdg : decode code pc = .ok (.ireturn, 1)) : W p l e rm_1 s m #[Value.ref b] below meth c H [] 601024 7293034 (lw_Z below #[Value.ref b] s) (F0 m pc ls [.int 1]) := by
  intro T hT X
  obtain ⟨fs, hret, hrun, hended, hW, hframe⟩ := X.leave (v := some (.int 1)) (hlocks := hlocks) (fun h => by rw [hr] at h; cases h)
  have hmeth' : T.vm.method? m = some meth := X.method'
  refine ⟨T.setFrames fs, ?_, .returned (some (.int 1)), hrun, hended, rfl, ⟨_, rfl⟩, hW, hframe⟩
  jvm_step X.here [X.here.top, hx, hb, hdg, hmeth', hr, ret, narrow_b1]
  (try refine ⟨rfl, ?_⟩); (try refine ⟨rfl, ?_⟩)
  first | (intro acts; rw [hret _ acts rfl rfl rfl]) | rw [hret _ _ rfl rfl rfl]
  exact Steps.refl _
/-- what holds at the law's entry: the machine, the code, the tables' words (any of lw_tbl by 'hts w (by decide +kernel)'), the script of L ints xs at the cell b, what the Statement gives of the start (any of its parts by flat_of_before) -/
def lw_At (p : Program) (s : State) (m : MethodId) (meth : Method) (c : Code) (b L : Nat) (xs : Nat → Int32) : Prop :=
  p.tables.exec = Jvm.exec ∧ c.code = code ∧ meth.sig.returnType = ret ∧ c.maxLocals = 7 ∧ s.vm.findClass R_law = some m.cls ∧ (∀ w ∈ lw_tbl, w.before #[Value.ref b] s = true) ∧ va_X b L xs s s.heap ∧ b < s.heap.size ∧ meth.locks = false ∧ (Jvm.Cond.and given_1 narrow_1).before #[Value.ref b] s = true
theorem jh_l {A : Array Value} {s : State} {x y : Jvm.Cond} (h : (Jvm.Cond.and x y).before A s = true) : x.before A s = true := by
  rw [Cond.before_and, Bool.and_eq_true] at h
  exact h.1
theorem jh_r {A : Array Value} {s : State} {x y : Jvm.Cond} (h : (Jvm.Cond.and x y).before A s = true) : y.before A s = true := by
  rw [Cond.before_and, Bool.and_eq_true] at h
  exact h.2
theorem jh_str {own tx : String} {k : Nat} {A : Array Value} {s : State} (h : (Cond.stringRef own k tx).before A s = true) : ∃ a, vk_R own k tx a s := by
  have hcur : ∃ cur, s.vm.findClass own = some cur := by
    have h1 := h
    simp only [Cond.before, Cond.holds, Cond.value] at h1
    cases hc : s.vm.findClass own with
    | none => simp [hc] at h1
    | some cur => exact ⟨cur, rfl⟩
  obtain ⟨cur, hcur⟩ := hcur
  obtain ⟨_, _, _, a, -, -, -, -, -, hev⟩ := Cond.stringRef_spec (args := A) (first := s) (o := none) (idx := []) hcur h
  exact ⟨a, vk_R.of h hev⟩
theorem jh_ints {w : sg_W} (hK : va_K w.2.2 vwCl [] w.2.1) {a N : Nat} {zs : List Int32} {A : Nat → Prop} (hT : va_T .int a N (fun j => .int (zs.getD j 0)) A w.2.1 w.2.1.heap) (hl : zs.length = N) (hN : N < 2147483648) (ys : List Int) (hy : zs.map Int32.toInt = ys) : jh_f w a = some (300, ys.map sg_i) := by
  subst hy
  refine jh_arr hK (Or.inl rfl) rfl hT (by simp [hl]) hN (fun j v hj => ?_)
  rw [List.map_map] at hj
  have hj2 : j < zs.length := by simpa using (List.getElem?_eq_some_iff.mp hj).1
  rw [List.getElem?_map, List.getElem?_eq_getElem hj2] at hj
  cases Option.some.inj hj
  refine ⟨zs[j], ?_, rfl⟩
  rw [List.getD_eq_getElem?_getD, List.getElem?_eq_getElem hj2]
  rfl
theorem jh_end {p : Program} {l : Launch} {e : Env} {s : State} {m : MethodId} {below : List Frame} {meth : Method} {c : Code} {b : Nat} {w : sg_W} {f : JFrame} (hw : s.heap.size ≤ sg_b w) (h : W p l e (sg_rm 1050 601024 7293034) s m #[Value.ref b] below meth c s.heap [] 0 0 (vx_MQ below (sg_Qc w fun o _ => o = .inl (some (sg_i 1))) (sg_XC w fun o _ => o = .inl (some (sg_i 1))) #[Value.ref b] s 601024 7293034 (fun q => sg_b w ≤ q)) f) : W p l e rm_1 s m #[Value.ref b] below meth c s.heap [] 0 0 (lw_Z below #[Value.ref b] s) f := by
  intro T hT X
  have hroom : s.hasRoom e.platform (sg_rm 1050 601024 7293034) = true := by
    have h1 := X.room
    simp only [State.hasRoom, Bool.and_eq_true, decide_eq_true_eq] at h1 ⊢
    obtain ⟨⟨⟨⟨q1, q2, q3, q4, q5, q6⟩, q7⟩, q8⟩, q9⟩ := h1
    have r1 : rm_1.frames = 2048 := rfl
    have r2 : rm_1.cells = 601024 := rfl
    have r3 : rm_1.slots = 7293034 := rfl
    have r4 : rm_1.locals = 84000 := rfl
    rw [r1] at q2 q3
    rw [r4] at q1 q4 q5
    rw [r2] at q7
    rw [r3] at q8
    exact ⟨⟨⟨⟨q1, by show _ + 1050 ≤ _; omega, by show _ + 1050 ≤ _; omega, q4, q5, q6⟩, q7⟩, q8⟩, q9⟩
  have X' : Stand p l e (sg_rm 1050 601024 7293034) s m #[Value.ref b] below meth c T [] 0 0 := ⟨X.admits, X.cas, X.clock, X.frames, hroom, X.hears, X.method, X.code, X.here, X.tail, X.warmed, X.limits, X.bytes, X.same⟩
  obtain ⟨t, a1, o, b1, b2, b3⟩ := h T hT X'
  refine ⟨t, a1, o, b1, b2, ?_⟩
  rcases b3 with ⟨⟨v, c', h', ho, hvs, -, hQ⟩, L, hFE, hfree⟩ | ⟨q, -, E, ce, L, ⟨h', -, hQ⟩, -⟩
  · cases hQ
    obtain ⟨cv, rest, hc1, ⟨x, rfl, hx⟩, hr⟩ := sg_vs_c (show sg_vs [sg_i 1] c'.toList from hvs)
    cases sg_vs_nil hr
    have hc2 : c' = some (.int x) := by
      cases c' with
      | none => cases hc1
      | some y => cases hc1; rfl
    rw [hc2] at ho
    have hx1 : x = 1 := Int32.toInt_inj.mp hx
    rw [hx1] at ho
    obtain ⟨g1, g2, g3⟩ := hFE
    refine ⟨ho, g1, g2, ?_⟩
    obtain ⟨k1, k2, k3, k4, k5, k6⟩ := g3
    refine ⟨k1, k2, k3, k4, k5, fun a c hc => ?_⟩
    obtain ⟨c9, n1, n2, n3, n4⟩ := k6 a c hc
    refine ⟨c9, n1, n2, n3, fun i _ => n4 i fun hm => ?_⟩
    have n5 := hfree _ hm
    have n6 := (Array.getElem?_eq_some_iff.mp hc).1
    have n7 : sg_b w ≤ a := n5
    omega
  · cases hQ

