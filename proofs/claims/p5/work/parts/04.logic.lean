/-! THE JUDGEMENT over abstract values: ints and longs as whole numbers, a heap as a function from addresses to things. -/
abbrev sg_V : Type := Int ⊕ (Int ⊕ Option Nat)
abbrev sg_i (z : Int) : sg_V := .inl z
abbrev sg_l (z : Int) : sg_V := .inr (.inl z)
abbrev sg_r (a : Nat) : sg_V := .inr (.inr (some a))
abbrev sg_n : sg_V := .inr (.inr none)
def sg_v (v : sg_V) (c : Value) : Prop := match v with
  | .inl z => ∃ x : Int32, c = .int x ∧ x.toInt = z
  | .inr (.inl z) => ∃ x : Int64, c = .long x ∧ x.toInt = z
  | .inr (.inr (some a)) => c = .ref a
  | .inr (.inr none) => c = .null
def sg_c2 (v : sg_V) : Bool := match v with
  | .inr (.inl _) => true
  | _ => false
theorem sg_v_cat {v : sg_V} {c : Value} (h : sg_v v c) : (c.category == 2) = sg_c2 v := by
  match v, h with
  | .inl z, h => obtain ⟨x, rfl, -⟩ := h; rfl
  | .inr (.inl z), h => obtain ⟨x, rfl, -⟩ := h; rfl
  | .inr (.inr none), h => cases (show c = .null from h); rfl
  | .inr (.inr (some a)), h => cases (show c = .ref a from h); rfl
def sg_vs : List sg_V → List Value → Prop
  | [], [] => True
  | v :: a, c :: b => sg_v v c ∧ sg_vs a b
  | [], _ :: _ => False
  | _ :: _, [] => False
theorem sg_vs_c {v : sg_V} {a : List sg_V} {sv : List Value} (h : sg_vs (v :: a) sv) : ∃ c b, sv = c :: b ∧ sg_v v c ∧ sg_vs a b := by
  cases sv with
  | nil => simp [sg_vs] at h
  | cons c b => exact ⟨c, b, rfl, h.1, h.2⟩
theorem sg_vs_i {z : Int} {a : List sg_V} {sv : List Value} (h : sg_vs (sg_i z :: a) sv) : ∃ (x : Int32) (b : List Value), sv = .int x :: b ∧ x.toInt = z ∧ sg_vs a b := by
  obtain ⟨c, b, rfl, ⟨x, rfl, hx⟩, h2⟩ := sg_vs_c h
  exact ⟨x, b, rfl, hx, h2⟩
theorem sg_vs_l {z : Int} {a : List sg_V} {sv : List Value} (h : sg_vs (sg_l z :: a) sv) : ∃ (x : Int64) (b : List Value), sv = .long x :: b ∧ x.toInt = z ∧ sg_vs a b := by
  obtain ⟨c, b, rfl, ⟨x, rfl, hx⟩, h2⟩ := sg_vs_c h
  exact ⟨x, b, rfl, hx, h2⟩
theorem sg_vs_r {q : Nat} {a : List sg_V} {sv : List Value} (h : sg_vs (sg_r q :: a) sv) : ∃ (b : List Value), sv = .ref q :: b ∧ sg_vs a b := by
  obtain ⟨c, b, rfl, h1, h2⟩ := sg_vs_c h
  cases (show c = .ref q from h1)
  exact ⟨b, rfl, h2⟩
theorem sg_vs_n {a : List sg_V} {sv : List Value} (h : sg_vs (sg_n :: a) sv) : ∃ (b : List Value), sv = .null :: b ∧ sg_vs a b := by
  obtain ⟨c, b, rfl, h1, h2⟩ := sg_vs_c h
  cases (show c = .null from h1)
  exact ⟨b, rfl, h2⟩
theorem sg_vs_nil {sv : List Value} (h : sg_vs [] sv) : sv = [] := by
  cases sv with
  | nil => rfl
  | cons c b => simp [sg_vs] at h
theorem sg_vs_app : ∀ {a b : List sg_V} {sv : List Value}, sg_vs (a ++ b) sv → ∃ x y, sv = x ++ y ∧ sg_vs a x ∧ sg_vs b y
  | [], b, sv, h => ⟨[], sv, rfl, trivial, h⟩
  | v :: a, b, sv, h => by
    obtain ⟨c, sv', rfl, h1, h2⟩ := sg_vs_c (a := a ++ b) h
    obtain ⟨x, y, rfl, h3, h4⟩ := sg_vs_app h2
    exact ⟨c :: x, y, rfl, ⟨h1, h3⟩, h4⟩
theorem sg_vs_join : ∀ {a b : List sg_V} {x y : List Value}, sg_vs a x → sg_vs b y → sg_vs (a ++ b) (x ++ y)
  | [], _, x, _, h, h2 => by rw [sg_vs_nil h]; exact h2
  | v :: a, b, x, y, h, h2 => by
    obtain ⟨c, x', rfl, h1, h3⟩ := sg_vs_c h
    exact ⟨h1, sg_vs_join h3 h2⟩
theorem sg_vs_len : ∀ {a : List sg_V} {x : List Value}, sg_vs a x → x.length = a.length
  | [], x, h => by rw [sg_vs_nil h]; rfl
  | v :: a, x, h => by
    obtain ⟨c, x', rfl, h1, h3⟩ := sg_vs_c h
    simp [sg_vs_len h3]
theorem sg_vs_rev : ∀ {a : List sg_V} {x : List Value}, sg_vs a x → sg_vs a.reverse x.reverse
  | [], x, h => by rw [sg_vs_nil h]; exact trivial
  | v :: a, x, h => by
    obtain ⟨c, x', rfl, h1, h3⟩ := sg_vs_c h
    rw [List.reverse_cons, List.reverse_cons]
    exact sg_vs_join (sg_vs_rev h3) ⟨h1, trivial⟩
def sg_cs : List sg_V → Nat
  | [] => 0
  | v :: a => (bif sg_c2 v then 2 else 1) + sg_cs a
theorem sg_vs_cat : ∀ {a : List sg_V} {x : List Value}, sg_vs a x → (x.map fun v => v.category).sum = sg_cs a
  | [], x, h => by rw [sg_vs_nil h]; rfl
  | v :: a, x, h => by
    obtain ⟨c, x', rfl, h1, h3⟩ := sg_vs_c h
    have hc := sg_v_cat h1
    have h4 := sg_vs_cat h3
    rw [List.map_cons, List.sum_cons, h4]
    show c.category + sg_cs a = (bif sg_c2 v then 2 else 1) + sg_cs a
    rw [← hc]
    rcases lv_cat c with h | h <;> rw [h] <;> rfl
/-! locals -/
def sg_L : List (Nat × sg_V) → List (Nat × Value) → Prop
  | [], [] => True
  | q :: a, r :: b => q.1 = r.1 ∧ sg_v q.2 r.2 ∧ sg_L a b
  | [], _ :: _ => False
  | _ :: _, [] => False
def sg_lk : List (Nat × sg_V) → Nat → Option sg_V
  | [], _ => none
  | q :: a, i => bif Nat.beq q.1 i then some q.2 else sg_lk a i
theorem sg_lk_at : ∀ {lv : List (Nat × sg_V)} {i : Nat} {v : sg_V} {l : List (Nat × Value)}, sg_lk lv i = some v → sg_L lv l → ∃ c, (i, c) ∈ l ∧ sg_v v c
  | [], i, v, l, h, _ => by simp [sg_lk] at h
  | q :: a, i, v, [], _, hL => by simp [sg_L] at hL
  | q :: a, i, v, r :: b, h, hL => by
    obtain ⟨h1, h2, h3⟩ := hL
    unfold sg_lk at h
    cases hq : Nat.beq q.1 i with
    | true =>
      rw [hq] at h
      have h4 := Nat.eq_of_beq_eq_true hq
      have h5 : q.2 = v := Option.some.inj h
      subst h5
      refine ⟨r.2, ?_, h2⟩
      rw [← h4, h1]
      exact List.mem_cons_self
    | false =>
      rw [hq] at h
      obtain ⟨c, h4, h5⟩ := sg_lk_at (show sg_lk a i = some v from h) h3
      exact ⟨c, List.mem_cons_of_mem _ h4, h5⟩
theorem sg_L_filter {f : Nat × sg_V → Bool} {g : Nat × Value → Bool} (hfg : ∀ q r, q.1 = r.1 → sg_v q.2 r.2 → f q = g r) : ∀ {lv : List (Nat × sg_V)} {l : List (Nat × Value)}, sg_L lv l → sg_L (lv.filter f) (l.filter g)
  | [], [], _ => trivial
  | [], _ :: _, h => by simp [sg_L] at h
  | _ :: _, [], h => by simp [sg_L] at h
  | q :: a, r :: b, h => by
    obtain ⟨h1, h2, h3⟩ := h
    have h4 := sg_L_filter hfg h3
    rw [List.filter_cons, List.filter_cons, hfg q r h1 h2]
    split
    · exact ⟨h1, h2, h4⟩
    · exact h4
def sg_st (i : Nat) (v : sg_V) (lv : List (Nat × sg_V)) : List (Nat × sg_V) := (i, v) :: lv.filter (fun q => !(q.1 == i) && !(q.1 + 1 == i && sg_c2 q.2))
def sg_st2 (i : Nat) (v : sg_V) (lv : List (Nat × sg_V)) : List (Nat × sg_V) := (i, v) :: lv.filter (fun q => !(q.1 == i) && (!(q.1 == i + 1) && !(q.1 + 1 == i && sg_c2 q.2)))
theorem sg_L_st {i : Nat} {v : sg_V} {c : Value} {lv : List (Nat × sg_V)} {l : List (Nat × Value)} (hL : sg_L lv l) (h : sg_v v c) : sg_L (sg_st i v lv) ((i, c) :: l.filter (fun q => !(q.1 == i) && !(q.1 + 1 == i && q.2.category == 2))) :=
  ⟨rfl, h, sg_L_filter (fun q r h1 h2 => by rw [h1, sg_v_cat h2]) hL⟩
theorem sg_L_st2 {i : Nat} {v : sg_V} {c : Value} {lv : List (Nat × sg_V)} {l : List (Nat × Value)} (hL : sg_L lv l) (h : sg_v v c) : sg_L (sg_st2 i v lv) ((i, c) :: l.filter (fun q => !(q.1 == i) && (!(q.1 == i + 1) && !(q.1 + 1 == i && q.2.category == 2)))) :=
  ⟨rfl, h, sg_L_filter (fun q r h1 h2 => by rw [h1, sg_v_cat h2]) hL⟩
def sg_ar : Nat → List sg_V → List (Nat × sg_V)
  | _, [] => []
  | i, v :: vs => (i, v) :: sg_ar (bif sg_c2 v then i + 2 else i + 1) vs
theorem sg_L_ar : ∀ {vs : List sg_V} {cs : List Value} (i : Nat), sg_vs vs cs → sg_L (sg_ar i vs) (lv_args i cs)
  | [], cs, i, h => by rw [sg_vs_nil h]; trivial
  | v :: vs, cs, i, h => by
    obtain ⟨c, b, rfl, h1, h2⟩ := sg_vs_c h
    refine ⟨rfl, h1, ?_⟩
    have hc := sg_v_cat h1
    have h3 := sg_L_ar (bif sg_c2 v then i + 2 else i + 1) h2
    have h4 : (if c.category = 2 then i + 2 else i + 1) = (bif sg_c2 v then i + 2 else i + 1) := by
      rw [← hc]
      rcases lv_cat c with h | h <;> rw [h] <;> rfl
    show sg_L (sg_ar (bif sg_c2 v then i + 2 else i + 1) vs) (lv_args (if c.category = 2 then i + 2 else i + 1) b)
    rw [h4]
    exact h3
theorem sg_sl_len : ∀ {vs : List sg_V} {cs : List Value}, sg_vs vs cs → (lg_sl cs).length = sg_cs vs
  | [], cs, h => by rw [sg_vs_nil h]; rfl
  | v :: vs, cs, h => by
    obtain ⟨c, b, rfl, h1, h2⟩ := sg_vs_c h
    have hc := sg_v_cat h1
    have h3 := sg_sl_len h2
    have h4 : (lg_sl (c :: b)).length = (if c.category = 2 then 2 else 1) + (lg_sl b).length := by
      simp only [lg_sl, List.flatMap_cons, List.length_append]
      split <;> rfl
    rw [h4, h3]
    show (if c.category = 2 then 2 else 1) + sg_cs vs = (bif sg_c2 v then 2 else 1) + sg_cs vs
    rw [← hc]
    rcases lv_cat c with h | h <;> rw [h] <;> rfl
/-! numbers -/
def sg_w (z : Int) : Int := z.bmod 4294967296
def sg_W64 (z : Int) : Int := z.bmod 18446744073709551616
theorem sg_w_id {z : Int} (h1 : -2147483648 ≤ z) (h2 : z ≤ 2147483647) : sg_w z = z := by
  unfold sg_w
  rw [Int.bmod_eq_of_le] <;> omega
theorem sg_toInt_range (x : Int32) : -2147483648 ≤ x.toInt ∧ x.toInt ≤ 2147483647 := ⟨Int32.le_toInt x, Int32.toInt_le x⟩
theorem sg_clamp (x : Int32) : x.toNatClampNeg = x.toInt.toNat := rfl
/-! things: a number of a kind and what it holds. Kinds 0 .. 99: objects of vwCl; 100 ..: arrays; and 200 more for what was there before the start, which nobody writes. -/
abbrev sg_E : Type := Nat × List sg_V
abbrev sg_H : Type := Nat × (Nat → Option sg_E)
abbrev sg_W : Type := Launch × State × va_G
abbrev sg_M : Type := MethodName × ByteArray × Nat × Option FieldType
abbrev sg_O : Type := Option sg_V ⊕ String
abbrev sg_b (w : sg_W) : Nat := w.2.1.heap.size
def sg_up (f : Nat → Option sg_E) (a : Nat) (e : sg_E) : Nat → Option sg_E := fun q => if q = a then some e else f q
theorem sg_up_s {f : Nat → Option sg_E} {a : Nat} {e : sg_E} : sg_up f a e a = some e := if_pos rfl
theorem sg_up_n {f : Nat → Option sg_E} {a q : Nat} {e : sg_E} (h : q ≠ a) : sg_up f a e q = f q := if_neg h
def sg_ty (t : Nat) : FieldType := match t with
  | 100 => .int
  | 101 => .boolean
  | 102 => .byte
  | 110 => .array .int
  | 111 => .object "Signkinds$Line"
  | 112 => .object "Signkinds$State"
  | _ => .object "java/lang/Object"
def sg_cn (ty : FieldType) : String := match ty with
  | .object C => C
  | t => t.toString
def sg_ak (s : State) (ty : FieldType) (cA : ClassId) : Prop := s.vm.findClass ("[" ++ ty.toString) = some cA ∧ ∃ (k : Class) (comp : ClassId), s.vm.classes[cA]? = some k ∧ k.kind = .array comp ty ∧ (ty.isReference = true → s.vm.findClass (sg_cn ty) = some comp)
theorem sg_ak_moved {u U : State} (hvm : u.vm.Alike U.vm) {ty : FieldType} {cA : ClassId} (h : sg_ak u ty cA) : sg_ak U ty cA := by
  obtain ⟨h1, k, comp, h2, h3, h4⟩ := h
  obtain ⟨k', hk', he⟩ := hvm.2.2 _ _ h2
  exact ⟨by rw [hvm.findClass]; exact h1, k', comp, hk', by rw [he]; exact h3, fun h => by rw [hvm.findClass]; exact h4 h⟩
/-- arrays from before the start, whose class is not known by its name -/
def sg_wk (t : Nat) : Bool := !(Nat.blt t 200 || Nat.beq t 500)
theorem sg_wk_lt {t : Nat} (h : t < 200) : sg_wk t = false := by
  unfold sg_wk
  rw [show Nat.blt t 200 = true from Nat.ble_eq_true_of_le h]
  rfl
/-- what is known of a cell's own mark, and of its size -/
def sg_vm (t : Nat) (c : Cell) : Prop := (sg_wk t = false → c.vm = .none) ∧ c.vm.isStatics = false ∧ c.vm ≠ .unknown
theorem sg_vm_of {t : Nat} {c : Cell} (h : c.vm = .none) : sg_vm t c := ⟨fun _ => h, by rw [h]; rfl, by rw [h]; exact fun q => by cases q⟩
def sg_sz (t n : Nat) (c : Cell) : Prop := (sg_wk t = false → c.slots.size = n) ∧ n ≤ c.slots.size ∧ c.slots.size.toInt32 = Int32.ofNat n
theorem sg_sz_of {t n : Nat} {c : Cell} (h : c.slots.size = n) : sg_sz t n c := ⟨fun _ => h, Nat.le_of_eq h.symm, by rw [h]⟩
def sg_aw (s : State) (t : Nat) (ty : FieldType) (cA : ClassId) : Prop := (∃ (k : Class) (comp : ClassId), s.vm.classes[cA]? = some k ∧ k.kind = .array comp ty) ∧ (sg_wk t = false → sg_ak s ty cA)
theorem sg_aw_of {s : State} {t : Nat} {ty : FieldType} {cA : ClassId} (h : sg_ak s ty cA) : sg_aw s t ty cA := ⟨h.2.elim fun k x => x.elim fun c y => ⟨k, c, y.1, y.2.1⟩, fun _ => h⟩
theorem sg_aw_moved {u U : State} (hvm : u.vm.Alike U.vm) {t : Nat} {ty : FieldType} {cA : ClassId} (h : sg_aw u t ty cA) : sg_aw U t ty cA := by
  obtain ⟨⟨k, comp, h2, h3⟩, h4⟩ := h
  obtain ⟨k', hk', he⟩ := hvm.2.2 _ _ h2
  exact ⟨⟨k', comp, hk', by rw [he]; exact h3⟩, fun z => sg_ak_moved hvm (h4 z)⟩
theorem sg_aw_arr {s : State} {t : Nat} {ty : FieldType} {cell : Cell} {u : Nat} (h : sg_aw s t ty cell.cls) (hv : sg_vm u cell) : s.isArrayOf cell ty := by
  obtain ⟨k, comp, h2, h3⟩ := h.1
  exact ⟨fun q hq => by (have h4 := hv.2.1; rw [hq] at h4; cases h4), k, h2, comp, h3⟩
def sg_ix (D : va_G) (t k : Nat) : Nat := if t < 100 then D.2 t k else k
def sg_at (w : sg_W) (e : sg_E) (cell : Cell) : Prop :=
  sg_vm e.1 cell ∧ (∀ k v, e.2[k]? = some v → ∃ c, cell.slots[sg_ix w.2.2 (e.1 % 200) k]? = some c ∧ sg_v v c) ∧
  (if e.1 % 200 < 100 then cell.cls = w.2.2.1 (e.1 % 200) ∧ ∃ q, vwCl[e.1 % 200]? = some q ∧ (sg_wk e.1 = false → e.2.length = q.2.2)
   else sg_sz e.1 e.2.length cell ∧ sg_aw w.2.1 e.1 (sg_ty (e.1 % 200)) cell.cls)
def sg_rel (w : sg_W) (h : sg_H) (H : Heap) : Prop := H.size = h.1 ∧ sg_b w ≤ H.size ∧ (∀ q, q < sg_b w → H[q]? = w.2.1.heap[q]?) ∧
  ∀ a e, h.2 a = some e → (e.1 < 200 → sg_b w ≤ a) ∧ ∃ cell, H[a]? = some cell ∧ sg_at w e cell
theorem sg_rel_put {w : sg_W} {h : sg_H} {H H' : Heap} {a : Nat} {e : sg_E} {cell : Cell} (hR : sg_rel w h H) (ha : sg_b w ≤ a) (h1 : H'[a]? = some cell) (h2 : H'.size = H.size) (h3 : ∀ q, q ≠ a → H'[q]? = H[q]?) (hc : sg_at w e cell) : sg_rel w (h.1, sg_up h.2 a e) H' := by
  obtain ⟨r1, r2, r3, r4⟩ := hR
  refine ⟨h2.trans r1, by rw [h2]; exact r2, fun q hq => by rw [h3 q (by omega)]; exact r3 q hq, fun q e' hq => ?_⟩
  by_cases c : q = a
  · subst c
    have : e = e' := Option.some.inj (sg_up_s.symm.trans hq)
    subst this
    exact ⟨fun _ => ha, cell, h1, hc⟩
  · obtain ⟨r5, c2, r6, r7⟩ := r4 q e' ((sg_up_n c).symm.trans hq)
    exact ⟨r5, c2, by rw [h3 q c]; exact r6, r7⟩
theorem sg_rel_new {w : sg_W} {h : sg_H} {H H' : Heap} {e : sg_E} {cell : Cell} (hR : sg_rel w h H) (h1 : H'[H.size]? = some cell) (h2 : H'.size = H.size + 1) (h3 : ∀ q, q < H.size → H'[q]? = H[q]?) (hc : sg_at w e cell) : sg_rel w (h.1 + 1, sg_up h.2 h.1 e) H' := by
  obtain ⟨r1, r2, r3, r4⟩ := hR
  refine ⟨by rw [h2, r1], by omega, fun q hq => by rw [h3 q (by omega)]; exact r3 q hq, fun q e' hq => ?_⟩
  by_cases c : q = h.1
  · subst c
    have : e = e' := Option.some.inj (sg_up_s.symm.trans hq)
    subst this
    exact ⟨fun _ => by omega, cell, by rw [← r1]; exact h1, hc⟩
  · obtain ⟨r5, c2, r6, r7⟩ := r4 q e' ((sg_up_n c).symm.trans hq)
    exact ⟨r5, c2, by rw [h3 q (Array.getElem?_eq_some_iff.mp r6).1]; exact r6, r7⟩
/-- a cell that no thing tells of -/
theorem sg_rel_more {w : sg_W} {h : sg_H} {H H' : Heap} (hR : sg_rel w h H) (h2 : H.size ≤ H'.size) (h3 : ∀ q, q < H.size → H'[q]? = H[q]?) : sg_rel w (H'.size, h.2) H' := by
  obtain ⟨r1, r2, r3, r4⟩ := hR
  refine ⟨rfl, by omega, fun q hq => by rw [h3 q (by omega)]; exact r3 q hq, fun q e' hq => ?_⟩
  obtain ⟨r5, c2, r6, r7⟩ := r4 q e' hq
  exact ⟨r5, c2, by rw [h3 q (Array.getElem?_eq_some_iff.mp r6).1]; exact r6, r7⟩
/-- a word of the tables that stays -/
def sg_ok (x : Cond) : Prop := x ∈ lw_tbl ∧ goodWord x = true
theorem sg_okt {x : Cond} (i : Nat) (h : tables_1[i]? = some x ∧ goodWord x = true) : sg_ok x := ⟨List.mem_append_right _ (List.mem_of_getElem? h.1), h.2⟩
theorem sg_oks {x : Cond} (i : Nat) (h : (k2_sels lw_privs)[i]? = some x ∧ goodWord x = true) : sg_ok x := ⟨List.mem_append_left _ (List.mem_of_getElem? h.1), h.2⟩
/-- what holds of the start, all through -/
def sg_G (w : sg_W) : Prop := ((∀ x ∈ lw_tbl, x.before #[] w.2.1 = true) ∧ ∀ own is tx, Cond.stringRef own is tx ∈ lw_tbl → ∃ a, vk_R own is tx a w.2.1) ∧ va_K w.2.2 vwCl [] w.2.1 ∧ w.1.stackTraces = false ∧
  vx_Zq Bundle.tN "UNASSIGNED_STACK" Bundle.steD (fun q => sg_b w ≤ q) w.2.1 w.2.1.heap ∧ vx_Zq Bundle.tN "SUPPRESSED_SENTINEL" Bundle.listD (fun q => sg_b w ≤ q) w.2.1 w.2.1.heap
theorem sg_wd {w : sg_W} {s : State} {args : Array Value} {x : Cond} (g : sg_G w) (hW : w.2.1.WarmedH s.vm) (hx : sg_ok x) : x.before args s = true := word_at hW (good_of_word hx.2) (g.1.1 x hx.1)
def sg_rm (d mc ms : Nat) : Room := { frames := d, cells := mc, slots := ms, locals := 80 * d }
def sg_Qc (w : sg_W) (Q : sg_O → sg_H → Prop) : Array Value → State → Outcome → State → Prop := fun _ _ o t =>
  ∃ (v : Option sg_V) (c : Option Value) (h : sg_H), o = .returned c ∧ sg_vs v.toList c.toList ∧ sg_rel w h t.heap ∧ Q (.inl v) h
def sg_XC (w : sg_W) (Q : sg_O → sg_H → Prop) : String → State → State → Prop := fun E _ t => ∃ h : sg_H, sg_rel w h t.heap ∧ Q (.inr E) h
def sg_Pc (w : sg_W) (as : List sg_V) (h : sg_H) : Array Value → State → Prop := fun av U => ∃ cs : List Value, av = cs.toArray ∧ sg_vs as cs ∧ w.2.1.WarmedH U.vm ∧ sg_rel w h U.heap
/-- THE CONTRACT of one call: method mi with the arguments as in the heap h, at most d frames, mc cells, ms slots, ends in Q -/
def sg_C (w : sg_W) (mi : sg_M) (d mc ms : Nat) (as : List sg_V) (h : sg_H) (Q : sg_O → sg_H → Prop) : Prop :=
  vx_Met w.1 mi.1 [.code mi.1 mi.2.1 mi.2.2.1 mi.2.2.2] (sg_rm d mc ms) (sg_Pc w as h) (sg_Qc w Q) (sg_XC w Q) mc ms (fun q => sg_b w ≤ q)
/-- not the law itself: of the law's own body neither table nor name is known, and nothing is thrown there -/
def sg_nl (mi : sg_M) : Bool := mi.1.name != "law"
def sg_F (w : sg_W) (mi : sg_M) (p : Program) (s : State) (m : MethodId) (meth : Method) (c : Code) : Prop :=
  p.tables.exec = Jvm.exec ∧ c.code = mi.2.1 ∧ c.maxLocals = mi.2.2.1 ∧ s.vm.findClass mi.1.cls = some m.cls ∧ meth.sig.returnType = mi.2.2.2 ∧ meth.locks = false ∧ (sg_nl mi = true → ∀ x ∈ c.exceptionTable.toList, False) ∧ (sg_nl mi = true → meth.name = mi.1.name) ∧ sg_b w ≤ s.heap.size ∧ ∀ q, q < sg_b w → s.heap[q]? = w.2.1.heap[q]?
/-- THE RUN of a method from pc on -/
def sg_R (w : sg_W) (mi : sg_M) (d mc ms : Nat) (Q : sg_O → sg_H → Prop) (pc : Nat) (lv : List (Nat × sg_V)) (st : List sg_V) (h : sg_H) (k n : Nat) : Prop :=
  ∀ (p : Program) (e : Env) (s : State) (m : MethodId) (args : Array Value) (below : List Frame) (meth : Method) (c : Code) (H : Heap) (locs : List Loc) (ls : Array Slot) (sv : List Value) (l : List (Nat × Value)),
    sg_F w mi p s m meth c → w.2.1.WarmedH s.vm → lv_has ls mi.2.2.1 l → sg_L lv l → sg_vs st sv → sg_rel w h H → ((∀ q ∈ locs, sg_b w ≤ q.base) ∧ s.heap.size ≤ H.size) →
    W p w.1 e (sg_rm d mc ms) s m args below meth c H locs k n (vx_MQ below (sg_Qc w Q) (sg_XC w Q) args s mc ms (fun q => sg_b w ≤ q)) (F0 m pc ls sv)
section
variable {w : sg_W} {mi : sg_M} {d mc ms : Nat} {Q : sg_O → sg_H → Prop} {pc : Nat} {lv : List (Nat × sg_V)} {st : List sg_V} {h : sg_H} {k n : Nat}
/-- a method's contract out of its run -/
theorem sg_of {as : List sg_V} (hy : plainName mi.1.cls = true) (hn : sg_cs as ≤ mi.2.2.1) (K : sg_R w mi d mc ms Q 0 (sg_ar 0 as) [] h 0 0) : sg_C w mi d mc ms as h Q := by
  refine vx_ofW (cc := mi.2.1) (maxL := mi.2.2.1) (ret := mi.2.2.2) hy rfl ?_
  intro p e s m args below meth c s₁ B hml ht hv
  obtain ⟨cs, rfl, hcs, hW, hR⟩ := hv
  have hl := lv_entry cs (n := mi.2.2.1) (by rw [sg_sl_len hcs]; exact hn)
  rw [lg_entry_eq]
  exact K p e s m cs.toArray below meth c s.heap [] _ [] _ ⟨B.exec, B.bytes, hml, findClass_of_methodNamed B.named, B.returns, B.notSynchronized, fun _ => ht, fun _ => (name_of_methodNamed B.named B.method).1, hR.2.1, hR.2.2.1⟩ hW hl (sg_L_ar 0 hcs) trivial hR ⟨fun q hq => (nomatch hq), Nat.le_refl _⟩
theorem sg_widen {k' n' : Nat} (h1 : k ≤ k') (h2 : n ≤ n') (K : sg_R w mi d mc ms Q pc lv st h k' n') : sg_R w mi d mc ms Q pc lv st h k n := by
  intro p e s m args below meth c H locs ls sv l hF hW hlv hL hs hR hO
  exact W.widen h1 h2 (K p e s m args below meth c H locs ls sv l hF hW hlv hL hs hR hO)
/-! the ends -/
theorem sg_iret {z : Int} (hd : decode mi.2.1 pc = .ok (.ireturn, 1)) (hr : mi.2.2.2 = some .int) (hk : k ≤ mc) (hn : n ≤ ms) (K : Q (.inl (some (sg_i z))) h) : sg_R w mi d mc ms Q pc lv [sg_i z] h k n := by
  intro p e s m args below meth c H locs ls sv l hF hW hlv hL hs hR hO
  obtain ⟨x, b, rfl, hx, hb⟩ := sg_vs_i hs
  rw [sg_vs_nil hb]
  refine W.widen hk hn (vx_ret (W.iret hF.1 hF.2.1 (hF.2.2.2.2.1.trans hr) (fun t ht _ => ⟨some (sg_i z), some (.int x), h, rfl, ⟨⟨x, rfl, hx⟩, trivial⟩, by rw [ht]; exact hR, K⟩) hO.1 hd hF.2.2.2.2.2.1))
theorem sg_zret {z : Int} (hd : decode mi.2.1 pc = .ok (.ireturn, 1)) (hr : mi.2.2.2 = some .boolean) (hz : z = 0 ∨ z = 1) (hk : k ≤ mc) (hn : n ≤ ms) (K : Q (.inl (some (sg_i z))) h) : sg_R w mi d mc ms Q pc lv [sg_i z] h k n := by
  intro p e s m args below meth c H locs ls sv l hF hW hlv hL hs hR hO
  obtain ⟨x, b, rfl, hx, hb⟩ := sg_vs_i hs
  rw [sg_vs_nil hb]
  have hx2 : narrow .boolean (.int x) = .int x := by
    rcases hz with rfl | rfl
    · rw [show x = 0 from Int32.toInt_inj.mp hx]; rfl
    · rw [show x = 1 from Int32.toInt_inj.mp hx]; rfl
  refine W.widen hk hn (vx_ret (W.zret hF.1 hF.2.1 (hF.2.2.2.2.1.trans hr) hx2 (fun t ht _ => ⟨some (sg_i z), some (.int x), h, rfl, ⟨⟨x, rfl, hx⟩, trivial⟩, by rw [ht]; exact hR, K⟩) hO.1 hd hF.2.2.2.2.2.1))
theorem sg_lret {z : Int} (hd : decode mi.2.1 pc = .ok (.lreturn, 1)) (hr : mi.2.2.2 = some .long) (hk : k ≤ mc) (hn : n ≤ ms) (K : Q (.inl (some (sg_l z))) h) : sg_R w mi d mc ms Q pc lv [sg_l z] h k n := by
  intro p e s m args below meth c H locs ls sv l hF hW hlv hL hs hR hO
  obtain ⟨x, b, rfl, hx, hb⟩ := sg_vs_l hs
  rw [sg_vs_nil hb]
  refine W.widen hk hn (vx_ret (W.lret hF.1 hF.2.1 (hF.2.2.2.2.1.trans hr) (fun t ht _ => ⟨some (sg_l z), some (.long x), h, rfl, ⟨⟨x, rfl, hx⟩, trivial⟩, by rw [ht]; exact hR, K⟩) hO.1 hd hF.2.2.2.2.2.1))
theorem sg_vret (hd : decode mi.2.1 pc = .ok (.return_, 1)) (hr : mi.2.2.2 = none) (hk : k ≤ mc) (hn : n ≤ ms) (K : Q (.inl none) h) : sg_R w mi d mc ms Q pc lv [] h k n := by
  intro p e s m args below meth c H locs ls sv l hF hW hlv hL hs hR hO
  rw [sg_vs_nil hs]
  refine W.widen hk hn (vx_ret (W.vret hF.1 hF.2.1 (hF.2.2.2.2.1.trans hr) (fun t ht _ => ⟨none, none, h, rfl, trivial, by rw [ht]; exact hR, K⟩) hO.1 hd hF.2.2.2.2.2.1))
theorem sg_aret {a : Nat} {rt : FieldType} (hd : decode mi.2.1 pc = .ok (.areturn, 1)) (hr : mi.2.2.2 = some rt) (hrt : (∃ n, rt = .object n) ∨ ∃ t, rt = .array t) (hk : k ≤ mc) (hn : n ≤ ms) (K : Q (.inl (some (sg_r a))) h) : sg_R w mi d mc ms Q pc lv [sg_r a] h k n := by
  intro p e s m args below meth c H locs ls sv l hF hW hlv hL hs hR hO
  obtain ⟨b, rfl, hb⟩ := sg_vs_r hs
  rw [sg_vs_nil hb]
  refine W.widen hk hn (vx_ret (W.aret hF.1 hF.2.1 (hF.2.2.2.2.1.trans hr) hrt (Or.inr ⟨a, rfl⟩) (fun t ht _ => ⟨some (sg_r a), some (.ref a), h, rfl, ⟨rfl, trivial⟩, by rw [ht]; exact hR, K⟩) hO.1 hd hF.2.2.2.2.2.1))
end

