section
variable {w : sg_W} {mi : sg_M} {d mc ms : Nat} {Q : sg_O → sg_H → Prop} {pc : Nat} {lv : List (Nat × sg_V)} {st : List sg_V} {h : sg_H} {k n : Nat}
theorem sg_iaddB {a b : Int} (hd : decode mi.2.1 pc = .ok (.iadd, 1)) (h1 : -2147483648 ≤ a + b) (h2 : a + b ≤ 2147483647) (K : sg_R w mi d mc ms Q (pc + 1) lv (sg_i (a + b) :: st) h k n) : sg_R w mi d mc ms Q pc lv (sg_i b :: sg_i a :: st) h k n := sg_iadd hd (by rw [sg_w_id h1 h2]; exact K)
theorem sg_isubB {a b : Int} (hd : decode mi.2.1 pc = .ok (.isub, 1)) (h1 : -2147483648 ≤ a - b) (h2 : a - b ≤ 2147483647) (K : sg_R w mi d mc ms Q (pc + 1) lv (sg_i (a - b) :: st) h k n) : sg_R w mi d mc ms Q pc lv (sg_i b :: sg_i a :: st) h k n := sg_isub hd (by rw [sg_w_id h1 h2]; exact K)
theorem sg_imulB {a b : Int} (hd : decode mi.2.1 pc = .ok (.imul, 1)) (h1 : -2147483648 ≤ a * b) (h2 : a * b ≤ 2147483647) (K : sg_R w mi d mc ms Q (pc + 1) lv (sg_i (a * b) :: st) h k n) : sg_R w mi d mc ms Q pc lv (sg_i b :: sg_i a :: st) h k n := sg_imul hd (by rw [sg_w_id h1 h2]; exact K)
theorem sg_iincB {j : Nat} {z a : Int} (hd : decode mi.2.1 pc = .ok (.iinc j a, 3)) (hl : sg_lk lv j = some (sg_i z)) (ha : (Int32.ofInt a).toInt = a) (hn : j < mi.2.2.1) (h1 : -2147483648 ≤ z + a) (h2 : z + a ≤ 2147483647) (K : sg_R w mi d mc ms Q (pc + 3) (sg_st j (sg_i (z + a)) lv) st h k n) : sg_R w mi d mc ms Q pc lv st h k n := sg_iinc hd hl ha hn (by rw [sg_w_id h1 h2]; exact K)
theorem sg_K1 {v : sg_V} (K : sg_R w mi d mc ms Q (pc + 3) lv (v :: st) h k n) : sg_K w mi d mc ms Q pc lv st k n (.inl (some v)) h := K
theorem sg_K0 (K : sg_R w mi d mc ms Q (pc + 3) lv st h k n) : sg_K w mi d mc ms Q pc lv st k n (.inl none) h := K
theorem sg_KX {E : String} (hk : k ≤ mc) (hn : n ≤ ms) (K : Q (.inr E) h) (hnl : sg_nl mi = true := by decide +kernel) : sg_K w mi d mc ms Q pc lv st k n (.inr E) h := ⟨hnl, hk, hn, K⟩
theorem sg_cV0 {mi' : sg_M} {d' mc' ms' idx t b : Nat} {us : List sg_V} {q : vw_C} (g : sg_G w) (hd : decode mi.2.1 pc = .ok (.invokevirtual idx, 3)) (hc : sg_cb mi' 0) (hl : sg_ok (.methodLink mi.1.cls idx mi'.1)) (hin : sg_ok (.instanceMethod mi'.1)) (hsel : sg_ok (.selects q.1 mi'.1 mi'.1)) (hb : h.2 b = some (t, us)) (ht : t % 200 < 100) (hq : vwCl[t % 200]? = some q) (hr : sg_cs st ≤ 8) (hd' : d' + 1 ≤ d) (hk : k + mc' ≤ mc) (hn : n + ms' ≤ ms) (hm : sg_C w mi' d' mc' ms' (sg_r b :: []) h (sg_K w mi d mc ms Q pc lv st (k + mc') (n + ms'))) : sg_R w mi d mc ms Q pc lv (sg_r b :: st) h k n := sg_callV (as := []) (rest := st) g hd hc hl hin hsel hq ht rfl hb rfl hr hd' hk hn hm
theorem sg_cI0 {mi' : sg_M} {d' mc' ms' idx b : Nat} (g : sg_G w) (hd : decode mi.2.1 pc = .ok (.invokespecial idx, 3)) (hc : sg_cb mi' 0) (hrt : mi'.2.2.2 = none) (hnm : mi'.1.name = "<init>") (hl : sg_ok (.methodLink mi.1.cls idx mi'.1)) (hin : sg_ok (.instanceMethod mi'.1)) (hr : sg_cs st ≤ 8) (hd' : d' + 1 ≤ d) (hk : k + mc' ≤ mc) (hn : n + ms' ≤ ms) (hm : sg_C w mi' d' mc' ms' (sg_r b :: []) h (sg_K w mi d mc ms Q pc lv st (k + mc') (n + ms'))) : sg_R w mi d mc ms Q pc lv (sg_r b :: st) h k n := sg_callI (as := []) (rest := st) g hd hc hrt hnm hl hin rfl rfl hr hd' hk hn hm
theorem sg_cS1 {mi' : sg_M} {d' mc' ms' idx : Nat} {a0 : sg_V} (g : sg_G w) (hd : decode mi.2.1 pc = .ok (.invokestatic idx, 3)) (hc : sg_cb mi' 1) (hl : sg_ok (.methodLink mi.1.cls idx mi'.1)) (hsta : sg_ok (.static mi'.1)) (hr : sg_cs st ≤ 8) (hd' : d' + 1 ≤ d) (hk : k + mc' ≤ mc) (hn : n + ms' ≤ ms) (hm : sg_C w mi' d' mc' ms' [a0] h (sg_K w mi d mc ms Q pc lv st (k + mc') (n + ms'))) : sg_R w mi d mc ms Q pc lv (a0 :: st) h k n := sg_callS (as := [a0]) (rest := st) g hd hc hl hsta rfl rfl hr hd' hk hn hm
theorem sg_cV1 {mi' : sg_M} {d' mc' ms' idx t b : Nat} {us : List sg_V} {q : vw_C} {a0 : sg_V} (g : sg_G w) (hd : decode mi.2.1 pc = .ok (.invokevirtual idx, 3)) (hc : sg_cb mi' 1) (hl : sg_ok (.methodLink mi.1.cls idx mi'.1)) (hin : sg_ok (.instanceMethod mi'.1)) (hsel : sg_ok (.selects q.1 mi'.1 mi'.1)) (hb : h.2 b = some (t, us)) (ht : t % 200 < 100) (hq : vwCl[t % 200]? = some q) (hr : sg_cs st ≤ 8) (hd' : d' + 1 ≤ d) (hk : k + mc' ≤ mc) (hn : n + ms' ≤ ms) (hm : sg_C w mi' d' mc' ms' (sg_r b :: [a0]) h (sg_K w mi d mc ms Q pc lv st (k + mc') (n + ms'))) : sg_R w mi d mc ms Q pc lv (a0 :: sg_r b :: st) h k n := sg_callV (as := [a0]) (rest := st) g hd hc hl hin hsel hq ht rfl hb rfl hr hd' hk hn hm
theorem sg_cI1 {mi' : sg_M} {d' mc' ms' idx b : Nat} {a0 : sg_V} (g : sg_G w) (hd : decode mi.2.1 pc = .ok (.invokespecial idx, 3)) (hc : sg_cb mi' 1) (hrt : mi'.2.2.2 = none) (hnm : mi'.1.name = "<init>") (hl : sg_ok (.methodLink mi.1.cls idx mi'.1)) (hin : sg_ok (.instanceMethod mi'.1)) (hr : sg_cs st ≤ 8) (hd' : d' + 1 ≤ d) (hk : k + mc' ≤ mc) (hn : n + ms' ≤ ms) (hm : sg_C w mi' d' mc' ms' (sg_r b :: [a0]) h (sg_K w mi d mc ms Q pc lv st (k + mc') (n + ms'))) : sg_R w mi d mc ms Q pc lv (a0 :: sg_r b :: st) h k n := sg_callI (as := [a0]) (rest := st) g hd hc hrt hnm hl hin rfl rfl hr hd' hk hn hm
theorem sg_cS2 {mi' : sg_M} {d' mc' ms' idx : Nat} {a0 a1 : sg_V} (g : sg_G w) (hd : decode mi.2.1 pc = .ok (.invokestatic idx, 3)) (hc : sg_cb mi' 2) (hl : sg_ok (.methodLink mi.1.cls idx mi'.1)) (hsta : sg_ok (.static mi'.1)) (hr : sg_cs st ≤ 8) (hd' : d' + 1 ≤ d) (hk : k + mc' ≤ mc) (hn : n + ms' ≤ ms) (hm : sg_C w mi' d' mc' ms' [a0, a1] h (sg_K w mi d mc ms Q pc lv st (k + mc') (n + ms'))) : sg_R w mi d mc ms Q pc lv (a1 :: a0 :: st) h k n := sg_callS (as := [a0, a1]) (rest := st) g hd hc hl hsta rfl rfl hr hd' hk hn hm
theorem sg_cV2 {mi' : sg_M} {d' mc' ms' idx t b : Nat} {us : List sg_V} {q : vw_C} {a0 a1 : sg_V} (g : sg_G w) (hd : decode mi.2.1 pc = .ok (.invokevirtual idx, 3)) (hc : sg_cb mi' 2) (hl : sg_ok (.methodLink mi.1.cls idx mi'.1)) (hin : sg_ok (.instanceMethod mi'.1)) (hsel : sg_ok (.selects q.1 mi'.1 mi'.1)) (hb : h.2 b = some (t, us)) (ht : t % 200 < 100) (hq : vwCl[t % 200]? = some q) (hr : sg_cs st ≤ 8) (hd' : d' + 1 ≤ d) (hk : k + mc' ≤ mc) (hn : n + ms' ≤ ms) (hm : sg_C w mi' d' mc' ms' (sg_r b :: [a0, a1]) h (sg_K w mi d mc ms Q pc lv st (k + mc') (n + ms'))) : sg_R w mi d mc ms Q pc lv (a1 :: a0 :: sg_r b :: st) h k n := sg_callV (as := [a0, a1]) (rest := st) g hd hc hl hin hsel hq ht rfl hb rfl hr hd' hk hn hm
theorem sg_cI2 {mi' : sg_M} {d' mc' ms' idx b : Nat} {a0 a1 : sg_V} (g : sg_G w) (hd : decode mi.2.1 pc = .ok (.invokespecial idx, 3)) (hc : sg_cb mi' 2) (hrt : mi'.2.2.2 = none) (hnm : mi'.1.name = "<init>") (hl : sg_ok (.methodLink mi.1.cls idx mi'.1)) (hin : sg_ok (.instanceMethod mi'.1)) (hr : sg_cs st ≤ 8) (hd' : d' + 1 ≤ d) (hk : k + mc' ≤ mc) (hn : n + ms' ≤ ms) (hm : sg_C w mi' d' mc' ms' (sg_r b :: [a0, a1]) h (sg_K w mi d mc ms Q pc lv st (k + mc') (n + ms'))) : sg_R w mi d mc ms Q pc lv (a1 :: a0 :: sg_r b :: st) h k n := sg_callI (as := [a0, a1]) (rest := st) g hd hc hrt hnm hl hin rfl rfl hr hd' hk hn hm
theorem sg_cS3 {mi' : sg_M} {d' mc' ms' idx : Nat} {a0 a1 a2 : sg_V} (g : sg_G w) (hd : decode mi.2.1 pc = .ok (.invokestatic idx, 3)) (hc : sg_cb mi' 3) (hl : sg_ok (.methodLink mi.1.cls idx mi'.1)) (hsta : sg_ok (.static mi'.1)) (hr : sg_cs st ≤ 8) (hd' : d' + 1 ≤ d) (hk : k + mc' ≤ mc) (hn : n + ms' ≤ ms) (hm : sg_C w mi' d' mc' ms' [a0, a1, a2] h (sg_K w mi d mc ms Q pc lv st (k + mc') (n + ms'))) : sg_R w mi d mc ms Q pc lv (a2 :: a1 :: a0 :: st) h k n := sg_callS (as := [a0, a1, a2]) (rest := st) g hd hc hl hsta rfl rfl hr hd' hk hn hm
theorem sg_cV3 {mi' : sg_M} {d' mc' ms' idx t b : Nat} {us : List sg_V} {q : vw_C} {a0 a1 a2 : sg_V} (g : sg_G w) (hd : decode mi.2.1 pc = .ok (.invokevirtual idx, 3)) (hc : sg_cb mi' 3) (hl : sg_ok (.methodLink mi.1.cls idx mi'.1)) (hin : sg_ok (.instanceMethod mi'.1)) (hsel : sg_ok (.selects q.1 mi'.1 mi'.1)) (hb : h.2 b = some (t, us)) (ht : t % 200 < 100) (hq : vwCl[t % 200]? = some q) (hr : sg_cs st ≤ 8) (hd' : d' + 1 ≤ d) (hk : k + mc' ≤ mc) (hn : n + ms' ≤ ms) (hm : sg_C w mi' d' mc' ms' (sg_r b :: [a0, a1, a2]) h (sg_K w mi d mc ms Q pc lv st (k + mc') (n + ms'))) : sg_R w mi d mc ms Q pc lv (a2 :: a1 :: a0 :: sg_r b :: st) h k n := sg_callV (as := [a0, a1, a2]) (rest := st) g hd hc hl hin hsel hq ht rfl hb rfl hr hd' hk hn hm
end
def sg_sb (lv : List (Nat × sg_V)) : List (Nat × sg_V) → Prop
  | [] => True
  | q :: r => sg_lk lv q.1 = some q.2 ∧ sg_sb lv r
theorem sg_sb_in {lv : List (Nat × sg_V)} : ∀ {lv' : List (Nat × sg_V)}, sg_sb lv lv' → ∀ q ∈ lv', sg_lk lv q.1 = some q.2
  | [], _, q, hq => (nomatch hq)
  | x :: r, hs, q, hq => (List.mem_cons.mp hq).elim (fun e => e ▸ hs.1) (fun hq => sg_sb_in hs.2 q hq)
theorem sg_lsub {w : sg_W} {mi : sg_M} {d mc ms : Nat} {Q : sg_O → sg_H → Prop} {pc : Nat} {lv lv' : List (Nat × sg_V)} {st : List sg_V} {h : sg_H} {k n : Nat} (hs : sg_sb lv lv') (K : sg_R w mi d mc ms Q pc lv' st h k n) : sg_R w mi d mc ms Q pc lv st h k n := by
  intro p e s m args below meth c H locs ls sv l hF hW hlv hL hsv hR hO
  have key : ∀ lv2 : List (Nat × sg_V), (∀ q ∈ lv2, sg_lk lv q.1 = some q.2) → ∃ l2, (∀ r ∈ l2, r ∈ l) ∧ sg_L lv2 l2 := by
    intro lv2
    induction lv2 with
    | nil => intro _; exact ⟨[], fun _ h => (nomatch h), trivial⟩
    | cons q a ih =>
      intro hq
      obtain ⟨c9, h1, h2⟩ := sg_lk_at (hq q List.mem_cons_self) hL
      obtain ⟨l2, h3, h4⟩ := ih (fun x hx => hq x (List.mem_cons_of_mem _ hx))
      exact ⟨(q.1, c9) :: l2, fun r hr => (List.mem_cons.mp hr).elim (fun z => z ▸ h1) (h3 r), rfl, h2, h4⟩
  obtain ⟨l2, h3, h4⟩ := key lv' (sg_sb_in hs)
  exact K p e s m args below meth c H locs ls sv l2 hF hW ⟨hlv.1, hlv.2.1, fun q hq => hlv.2.2 q (h3 q hq)⟩ h4 hsv hR hO
/-! decode rows by the chunk -/
def dkn : List (Nat × Jvm.ClassFile.Instr × Nat) → Nat → Option (Nat × Jvm.ClassFile.Instr × Nat)
  | [], _ => none
  | x :: _, 0 => some x
  | _ :: t, k + 1 => dkn t k
def dka (c : ByteArray) (T : List (Nat × Jvm.ClassFile.Instr × Nat)) : Bool := T.all (fun q => decide (decode c q.1 = .ok (q.2.1, q.2.2)))
theorem dkn_m : ∀ (T : List (Nat × Jvm.ClassFile.Instr × Nat)) (k : Nat) (x : Nat × Jvm.ClassFile.Instr × Nat), dkn T k = some x → x ∈ T
  | [], _, _, h => by simp [dkn] at h
  | y :: t, 0, x, h => by
    have e : y = x := by simpa [dkn] using h
    simp [e]
  | y :: t, k + 1, x, h => List.mem_cons_of_mem _ (dkn_m t k x h)
theorem dk_at {c : ByteArray} {T : List (Nat × Jvm.ClassFile.Instr × Nat)} (h : dka c T = true) (k : Nat) {p n : Nat} {r : Jvm.ClassFile.Instr} (e : dkn T k = some (p, r, n)) : decode c p = .ok (r, n) := by
  have h1 := List.all_eq_true.mp h (p, r, n) (dkn_m T k _ e)
  exact of_decide_eq_true h1

