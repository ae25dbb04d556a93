/-! ===== BEGIN a private constructor of a nest mate that throws ===== -/
section VXIC
variable {p : Program} {l : Launch} {e : Env} {R : Room} {s : State} {m : MethodId} {args : Array Value} {below : List Frame} {meth : Method} {c : Code} {T : State} {locs : List Loc} {cells slots : Nat}
theorem vx_callIN (X : Stand p l e R s m args below meth c T locs cells slots) (hexec : p.tables.exec = Jvm.exec) {own : String} {index : Nat} {host : String} {y : MethodName} {bytes : ByteArray} {maxL : Nat}
    (hown : s.vm.findClass own = some m.cls) (hy1 : y.name = "<init>") (hlink : (Cond.methodLinkNest own index y host).before args s = true) (hinst : (Cond.instanceMethod y).before args s = true)
    (hcode : (Cond.code y bytes maxL none).before args s = true) (hy : y.cls ≠ "java/lang/invoke/MethodHandle" ∧ y.cls ≠ "java/lang/invoke/VarHandle")
    {W9 : Nat} {Pre : Pt → Array Value → Prop} {Post : Pt → Array Value → Option Value → Pt → Prop} {PostX : Pt → Array Value → Addr → Pt → Prop} (hK : vx_Back l R p e below s args y 3 W9 Pre Post PostX)
    {g : JFrame} (hg : g.method = m) (hsize : g.locals.size = c.maxLocals) {a : Addr} {argsL rest : List Value} (hlen : ∀ sig, parseMethodDescriptor y.desc = some sig → argsL.length = sig.parameters.length)
    (hstack : g.stack = argsL.reverse ++ .ref a :: rest) (hW : 2 * g.monitorRoom + (rest.map fun v => v.category).sum ≤ W9) (hdg : decode c.code g.pc = .ok (.invokespecial index, 3))
    (hpre : ∀ vm₁, s.WarmedH vm₁ → Pre ⟨T.setVm vm₁, locs, cells, slots⟩ (Value.ref a :: argsL).toArray) :
    (∃ (v : Option Value) (vm₁ : Vm) (B : Pt), s.WarmedH vm₁ ∧ Stand p l e R s m args below meth c B.U B.locs B.cells B.slots ∧ Post ⟨T.setVm vm₁, locs, cells, slots⟩ (Value.ref a :: argsL).toArray v B ∧
      ∀ target, Steps p.tables e below (B.U.setTop { g with pc := g.pc + 3, stack := v.toList ++ rest }) target → Steps p.tables e below (T.setTop g) target) ∨
    (∃ (q : Addr) (vm₁ : Vm) (B : Pt), s.WarmedH vm₁ ∧ Stand p l e R s m args below meth c B.U B.locs B.cells B.slots ∧ PostX ⟨T.setVm vm₁, locs, cells, slots⟩ (Value.ref a :: argsL).toArray q B ∧
      Steps p.tables e below (T.setTop g) ((B.U.setTop { g with stack := rest }).pushFrame (.throwing q))) := by
  subst hg
  have hpl : e.platform.magicAccessors = ({} : Platform).magicAccessors := by rw [X.admits.platform]
  obtain ⟨mk, methM, cM, kP, vm₁, hnamed, hmethM, hcodeM, -, hlocalsM, -, hkP, -, hW₁, hstep₁⟩ := Steps.initColdArgsNest (e := e) X.here hexec X.warmed hpl hown hy1 hy hlink hinst hcode (f := g) rfl hlen hstack hdg
  have X₁ := X.noted hW₁
  rcases hK g.method meth c ⟨T.setVm vm₁, locs, cells, slots⟩ { g with stack := rest } (.invokespecial index) mk (Value.ref a :: argsL).toArray X₁ rfl hsize hdg hW (X₁.named hnamed) (hpre vm₁ X₁.warmed) with ⟨v, B, X', hpost, hsteps⟩ | ⟨q, B, X', hpost, hsteps⟩
  · exact Or.inl ⟨v, vm₁, B, X₁.warmed, X', hpost, fun target h => hstep₁ _ fun acts => by rw [doInvoke_state]; exact hsteps.trans h⟩
  · exact Or.inr ⟨q, vm₁, B, X₁.warmed, X', hpost, hstep₁ _ fun acts => by rw [doInvoke_state]; exact hsteps⟩
end VXIC
section VXID
variable {p : Program} {l : Launch} {e : Env} {R : Room} {s : State} {m : MethodId} {args : Array Value} {below : List Frame} {meth : Method} {c : Code} {H : Heap} {locs : List Loc} {cells slots : Nat}
theorem vx_runIN {y : MethodName} {bytes cc : ByteArray} {maxL nL mc ms n index : Nat} {ws : List Cond} {rm : Room} {Pc : Array Value → State → Prop} {Qc : Array Value → State → Outcome → State → Prop} {XC : String → State → State → Prop} {free : Addr → Prop} {Ts : List Cond} {own host : String} {b : Addr} {As rest : List Value} {g : JFrame}
    (S : CallFix p m c cc nL s args Ts own) (hM : vx_Met l y ws rm Pc Qc XC mc ms free) (cw : va_CN R s args own index y host bytes maxL none ws rm mc ms n ∧ y.name = "<init>" ∧ (Cond.instanceMethod y).before args s = true) (hp : PreS s H Pc (.ref b :: As))
    (hg : g.method = m) (hn : As.length = n) (hsize : g.locals.size = nL) (hstack : g.stack = As.reverse ++ .ref b :: rest) (hW : 2 * g.monitorRoom + (rest.map fun v => v.category).sum ≤ 8) (hdg : decode cc g.pc = .ok (.invokespecial index, 3)) (hf : cells + mc ≤ R.cells ∧ slots + ms ≤ R.slots) :
    vx_Run p l e R s m args below meth c H locs cells slots mc ms g rest (Qc (Value.ref b :: As).toArray) XC free := by
  obtain ⟨⟨⟨hrc, hrs, hfr, hlo, hws, hcw⟩, hcode, hini, hy, hlen, hl⟩, hx1, hx2⟩ := cw
  have hK : vx_Back l R p e below s args y 3 8 (PreOf R mc ms Pc) (PostOf Qc mc ms free) (vx_Post XC mc ms free) := vx_back (bytes := bytes) (maxL := maxL) (ret := none) hM hp.1 hrc hrs hfr hlo hws hcw (fun a' U hW => word_at hW (Or.inl (by first | rfl | simp [Cond.onTables, Cond.keeps, Cond.steady])) hini)
  obtain ⟨hx, hb, hml, ho, -⟩ := S
  have hPc := hp.2
  intro T hT X
  rcases vx_callIN X hx (bytes := bytes) (maxL := maxL) ho hx1 hl hx2 hcode hy hK hg (hsize.trans hml.symm) (a := b) (argsL := As) (rest := rest) (fun sig h => hn.trans (hlen sig h)) hstack hW (by rw [hb]; exact hdg)
    (fun vm₁ hW₁ => ⟨hf.1, hf.2, hPc (T.setVm vm₁) hT hW₁⟩) with ⟨v, vm₁, ⟨U', l2, c2, s2⟩, hW₁, X', ⟨g', mk, t, L, e1, e2, hq, h1, hL, h2, h3⟩, st⟩ | ⟨q, vm₁, ⟨U', l2, c2, s2⟩, hW₁, X', ⟨g', mk, t, L, E, ce, e1, e2, hq, hce, hcv, hcl, h1, hL, h2, h3⟩, st⟩
  · dsimp only [Pt.U, Pt.locs, Pt.cells, Pt.slots] at X' e1 e2 h1 h2 h3 st
    subst h1; subst h2; subst h3
    exact Or.inl ⟨v, (T.setVm vm₁).calling g' mk (Value.ref b :: As).toArray, t, U', L, hT, X', hL, e1, e2, hq, st⟩
  · dsimp only [Pt.U, Pt.locs, Pt.cells, Pt.slots] at X' e1 e2 h1 h2 h3 st hcl
    subst h1; subst h2; subst h3
    exact Or.inr ⟨q, (T.setVm vm₁).calling g' mk (Value.ref b :: As).toArray, t, U', L, E, ce, hT, X', hL, e1, e2, hq, hce, hcv, vx_cls hW₁ hcl, st⟩
end VXID
/-! ===== END ===== -/
section
variable {w : sg_W} {mi : sg_M} {d mc ms : Nat} {Q : sg_O → sg_H → Prop} {pc : Nat} {lv : List (Nat × sg_V)} {st : List sg_V} {h : sg_H} {k n : Nat}
theorem sg_cIN0 {mi' : sg_M} {d' mc' ms' idx b : Nat} {host : String} (g : sg_G w) (hd : decode mi.2.1 pc = .ok (.invokespecial idx, 3)) (hc : sg_cb mi' 0) (hrt : mi'.2.2.2 = none) (hnm : mi'.1.name = "<init>") (hl : Cond.methodLinkNest mi.1.cls idx mi'.1 host ∈ lw_tbl) (hin : sg_ok (.instanceMethod mi'.1)) (hr : sg_cs st ≤ 8) (hd' : d' + 1 ≤ d) (hk : k + mc' ≤ mc) (hn : n + ms' ≤ ms)
    (hm : sg_C w mi' d' mc' ms' [sg_r b] h (sg_K w mi d mc ms Q pc lv st (k + mc') (n + ms'))) : sg_R w mi d mc ms Q pc lv (sg_r b :: st) h k n := by
  intro p e s m args below meth c H locs ls sv l hF hW hlv hL hs hR hO
  obtain ⟨rs, rfl, h2⟩ := sg_vs_r hs
  obtain ⟨h1, h3, h4, h5, h6⟩ := hc
  rw [hrt] at h1
  refine sg_after hF hW hlv hL h2 hO (vx_runIN (host := host) (bytes := mi'.2.1) (maxL := mi'.2.2.1) (own := mi.1.cls) (index := idx) (n := 0) (Ts := []) (As := []) (rest := rs) ⟨hF.1, hF.2.1, hF.2.2.1, hF.2.2.2.1, fun x hx => by cases hx⟩ (by have h7 := hm; unfold sg_C at h7; rw [hrt] at h7; exact h7)
    ⟨⟨⟨rfl, rfl, hd', by show 8 + (mi'.2.2.1 + 11) + 80 * d' ≤ 80 * d; omega, fun x hx a' U hU => ?_, List.mem_cons_self⟩, sg_wd g hW h1, sg_wd g hW h3, h4, fun sig h => ?_, sg_wdM g hW hl⟩, hnm, sg_wd g hW hin⟩
    ⟨sg_blind, fun U hU hWU => ⟨[.ref b], rfl, (show sg_vs [sg_r b] [.ref b] from ⟨rfl, trivial⟩), State.WarmedH.trans hW hWU, by rw [hU]; exact hR⟩⟩ rfl rfl hlv.1 rfl (lv_room (by rw [sg_vs_cat h2]; exact hr)) hd ⟨hk, hn⟩)
  · rw [List.mem_singleton] at hx
    subst hx
    exact sg_wd g (State.WarmedH.trans hW hU) h1
  · rw [h] at h5
    exact (Option.some.inj h5).symm
end
theorem s_X6_init {w : sg_W} {Q : sg_O → sg_H → Prop} {h : sg_H} (g : sg_G w) {d : Nat} (hd : 2 ≤ d) {O : Nat} (hQ : Q (.inl none) h) : sg_C w mi_X6_init d 0 0 [sg_r O] h Q := by
  refine sg_of pn_X6 (Nat.le_of_ble_eq_true rfl) ?_
  refine sg_aload_n (pc := 0) (j := 0) (dc_X6_init_0.1.1) rfl rfl ?_
  refine sg_objInit (pc := 1) g (dc_X6_init_0.1.2) mo_X6_1 mo_in mo_co (Nat.le_of_ble_eq_true rfl) (by omega) ?_
  refine sg_vret (pc := 4) (dc_X6_init_0.2.1) rfl (by first | exact Nat.le_of_ble_eq_true rfl | omega) (by first | exact Nat.le_of_ble_eq_true rfl | omega) ?_
  exact hQ
theorem ml_L_189 : Cond.methodLinkNest RL 189 yX6_init RL ∈ lw_tbl := List.mem_append_right _ (List.mem_of_getElem? (i := 441) (by decide +kernel))
set_option maxRecDepth 100000 in
theorem lw_begin {w : sg_W} {Q : sg_O → sg_H → Prop} {h : sg_H} (g : sg_G w) (nc : jk_C w) (hJ : jz w) {d : Nat} (hd : 30 ≤ d) {S : Nat} {xs : List Int} (hl : xs.length ≤ 3072) (hQ : ∀ h', Q (.inl (some (sg_i 1))) h') (hb : sg_b w ≤ h.1) (hf : ∀ q e, h.2 q = some e → q < h.1) (hk : md_K w h) (hS : h.2 S = some (300, xs.map sg_i)) : sg_R w mi_L_law d 601024 7293034 Q 0 [(0, sg_r S)] [] h 0 0 := by
  obtain ⟨B, eB⟩ : ∃ B, B = h.1 := ⟨_, rfl⟩
  have hSl : S < h.1 := hf _ _ hS
  refine sg_new (pc := 0) g dL_law_0 nk_L_8 (by first | exact Nat.le_of_ble_eq_true rfl | omega) (by first | exact Nat.le_of_ble_eq_true rfl | omega) ?_
  refine sg_dup (pc := 3) dL_law_3 rfl ?_
  refine sg_cI0 (pc := 4) (d' := d - 1) (mc' := 109) (ms' := 1630) g dL_law_4 cb_X5_init rfl rfl ml_L_185 mn_X5_init (Nat.le_of_ble_eq_true rfl) (by first | exact jl_d0 hd rfl | omega) (by first | exact Nat.le_of_ble_eq_true rfl | omega) (by first | exact Nat.le_of_ble_eq_true rfl | omega) ?_
  refine s_X5_init (B := h.1) g (by first | exact jl_d1 hd rfl | omega) sg_up_s (fun f1 x1 zz1 o1 => sg_K0 ?_)
  refine sg_astore_n (pc := 7) (j := 1) dL_law_7 rfl (by decide) ?_
  refine sg_new (pc := 8) g dL_law_8 nk_L_186 (by first | exact Nat.le_of_ble_eq_true rfl | omega) (by first | exact Nat.le_of_ble_eq_true rfl | omega) ?_
  try dsimp only
  refine sg_dup (pc := 11) dL_law_11 rfl ?_
  rw [← eB] at x1 zz1 o1 ⊢
  obtain ⟨h2, e2⟩ : ∃ h2 : sg_H, h2 = (B + 110 + 1, sg_up f1 (B + 110) (8, [sg_i 0, sg_n, sg_n, sg_i 0])) := ⟨_, rfl⟩
  rw [← e2]
  have x2 : ck_X h2 B := fun i hi => by
    obtain ⟨e, p1, p2⟩ := x1 i hi
    exact ⟨e, by rw [e2]; exact (sg_up_n (by omega)).trans p1, p2⟩
  have l2 : h2.1 = B + 111 := by rw [e2]
  have c2 : cf_X h2 B fa_0 := cf_X0 x2 (by
    obtain ⟨z1, z2, z3, z4⟩ := zz1
    rw [e2]
    exact ⟨fun j hj => (sg_up_n (by omega)).trans (z1 j hj), (sg_up_n (by omega)).trans z2, (sg_up_n (by omega)).trans z3, (sg_up_n (by omega)).trans z4⟩)
  have m2 : (jk_tag B h2).2 (B + 110) = some (8, [sg_i 0, sg_n, sg_n, sg_i 0]) := (if_neg (by omega)).trans (by rw [e2]; exact sg_up_s)
  have X2 : jk_X h (jk_tag B h2) := by
    refine ⟨show h.1 ≤ h2.1 by omega, fun q e he _ => ?_⟩
    have hq := hf q e he
    refine (if_neg (by omega)).trans ?_
    rw [e2]
    exact (sg_up_n (by omega)).trans ((o1 q (by omega)).trans ((sg_up_n (by omega)).trans he))
  refine st_as (fun H r => jk_tgR (B := B) r) ?_
  refine sg_cI0 (pc := 12) (d' := d - 1) (mc' := 8) (ms' := 9) g dL_law_12 cb_X7_init rfl rfl ml_L_188 mn_X7_init (Nat.le_of_ble_eq_true rfl) (by first | exact jl_d0 hd rfl | omega) (by first | exact Nat.le_of_ble_eq_true rfl | omega) (by first | exact Nat.le_of_ble_eq_true rfl | omega) ?_
  refine s_X7_init g (by first | exact jl_d1 hd rfl | omega) m2 (md_KX hk X2) (fun f3 M3 z3 a3 o3 => sg_K0 ?_)
  obtain ⟨h3, e3⟩ : ∃ h3 : sg_H, h3 = ((jk_tag B h2).1 + 8, f3) := ⟨_, rfl⟩
  rw [← e3] at M3 z3 a3 ⊢
  have l3 : h3.1 = B + 119 := by rw [e3]; show h2.1 + 8 = B + 119; omega
  have o3' : ∀ q, q ≠ B + 110 → q < B + 111 → h3.2 q = (jk_tag B h2).2 q := fun q q1 q2 => by rw [e3]; exact o3 q q1 (show q < h2.1 by omega)
  have P3 : md_P (jk_tag B h2) h3 := by
    refine ⟨show h2.1 ≤ h3.1 by omega, fun q hq e he hn => (o3' q (fun z => ?_) (show q < B + 111 by rw [← l2]; exact hq)).trans he⟩
    rw [z, m2] at he
    cases he
    exact absurd hn (by decide)
  obtain ⟨x4, X4⟩ := jk_Ma (M := B + 110) (by omega) x2 ⟨M3, P3⟩
  refine st_as (fun H r => jk_unR (by omega : sg_b w ≤ B) r) ?_
  obtain ⟨h4, e4⟩ : ∃ h4 : sg_H, h4 = jk_unt B h3 := ⟨_, rfl⟩
  rw [← e4] at x4 X4 ⊢
  have l4 : h4.1 = B + 119 := by rw [e4]; exact l3
  have S4 : h4.2 S = some (300, xs.map sg_i) := by
    rw [e4]
    refine (if_neg (by omega)).trans ((o3' S (by omega) (by omega)).trans ((if_neg (by omega)).trans ?_))
    rw [e2]
    exact (sg_up_n (by omega)).trans ((o1 S (by omega)).trans ((sg_up_n (by omega)).trans hS))
  refine sg_frs (fun hf4 => ?_)
  refine sg_astore_n (pc := 15) (j := 2) dL_law_15 rfl (by decide) ?_
  refine sg_new (pc := 16) g dL_law_16 nk_L_14 (by first | exact Nat.le_of_ble_eq_true rfl | omega) (by first | exact Nat.le_of_ble_eq_true rfl | omega) ?_
  try dsimp only
  refine sg_dup (pc := 19) dL_law_19 rfl ?_
  refine sg_cIN0 (pc := 20) (d' := d - 1) (mc' := 0) (ms' := 0) g dL_law_20 cb_X6_init rfl rfl ml_L_189 mn_X6_init (Nat.le_of_ble_eq_true rfl) (by omega) (by omega) (by omega) ?_
  refine s_X6_init g (by first | exact jl_d1 hd rfl | omega) (sg_K0 ?_)
  refine sg_astore_n (pc := 23) (j := 3) dL_law_23 rfl (by decide) ?_
  refine sg_iconst (pc := 24) (z := 0) dL_law_24 (by decide) ?_
  refine sg_istore (pc := 25) dL_law_25 (by decide) ?_
  have X5 : jk_X (jk_cut B h4) (jk_cut B (h4.1 + 1, sg_up h4.2 h4.1 (7, [sg_l 0, sg_n]))) := by
    refine ⟨Nat.le_succ _, fun q e he _ => ?_⟩
    by_cases c : B ≤ q ∧ q < B + 110
    · rw [show (jk_cut B h4).2 q = none from if_pos c] at he; cases he
    · rw [show (jk_cut B h4).2 q = h4.2 q from if_neg c] at he
      have := hf4 q e he
      exact (if_neg c).trans ((sg_up_n (by omega)).trans he)
  have XX := jk_Xt X4 X5
  have I5 : jk_I w B (B + 110) h4.1 S xs (h4.1 + 1, sg_up h4.2 h4.1 (7, [sg_l 0, sg_n])) :=
    ⟨by omega, show B + 110 ≤ h4.1 + 1 by omega, fun i hi => by
      obtain ⟨e, p1, p2⟩ := x4 i hi
      exact ⟨e, (sg_up_n (by omega)).trans p1, p2⟩, md_MX M3 XX, by omega, by omega, Nat.lt_succ_self _, show S < h4.1 + 1 by omega, ⟨0, sg_n, sg_up_s⟩, (sg_up_n (by omega)).trans S4⟩
  refine sg_lsub (lv' := [(0, sg_r S), (1, sg_r B), (2, sg_r (B + 110)), (3, sg_r h4.1), (4, sg_i (6 * ((0 : Nat) : Int)))]) ⟨rfl, rfl, rfl, rfl, rfl, trivial⟩ ?_
  have c4 : cf_X h4 B fa_0 := by
    rw [e4]
    exact cf_XF c2 (jk_Fm (M := B + 110) (by omega) x2 ⟨M3, P3⟩)
  have c5 : cf_X (h4.1 + 1, sg_up h4.2 h4.1 (7, [sg_l 0, sg_n])) B fa_0 := cf_XF c4 (fun q p1 p2 => sg_up_n (by omega))
  have J5 : jk_J w B (B + 110) h4.1 S xs (h4.1 + 1, sg_up h4.2 h4.1 (7, [sg_l 0, sg_n])) fa_0 := ⟨I5, c5, (md_abX M3 XX).trans a3, ok_0⟩
  exact lw_loop g nc hJ hd hl hQ _ _ 0 _ _ fa_0 J5 (by omega) (by omega) (Or.inl ⟨rfl, by omega, fun row hr => (md_SX M3 XX hr.1 (by omega)).trans (z3 row hr.1 (by omega))⟩) (Nat.lt_succ_self _)

