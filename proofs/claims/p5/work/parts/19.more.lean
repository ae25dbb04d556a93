section
variable {w : sg_W} {mi : sg_M} {d mc ms : Nat} {Q : sg_O → sg_H → Prop} {pc : Nat} {lv : List (Nat × sg_V)} {st : List sg_V} {h : sg_H} {k n : Nat}
theorem sg_idivP {a b : Int} (hd : decode mi.2.1 pc = .ok (.idiv, 1)) (h0 : 0 ≤ a) (h1 : a ≤ 2147483647) (hb : 0 < b) (K : sg_R w mi d mc ms Q (pc + 1) lv (sg_i (a / b) :: st) h k n) : sg_R w mi d mc ms Q pc lv (sg_i b :: sg_i a :: st) h k n := by
  refine sg_idiv hd (by omega) ?_
  have h2 : 0 ≤ a / b := Int.ediv_nonneg h0 (by omega)
  have h3 : a / b ≤ a := Int.ediv_le_self b h0
  rw [Int.tdiv_eq_ediv_of_nonneg h0, sg_w_id (by omega) (by omega)]
  exact K
theorem sg_iremP {a b : Int} (hd : decode mi.2.1 pc = .ok (.irem, 1)) (h0 : 0 ≤ a) (hb : 0 < b) (K : sg_R w mi d mc ms Q (pc + 1) lv (sg_i (a % b) :: st) h k n) : sg_R w mi d mc ms Q pc lv (sg_i b :: sg_i a :: st) h k n := by
  refine sg_irem hd (by omega) ?_
  rw [Int.tmod_eq_emod_of_nonneg h0]
  exact K
theorem sg_narC {x : Int32} (h0 : 0 ≤ x.toInt) (h1 : x.toInt < 65536) : narrow .char (.int x) = .int x := by
  have e : x = nI x.toInt.toNat := Int32.toInt_inj.mp (by rw [nI_toInt (by omega)]; omega)
  rw [e]
  exact (pk_charN (by omega)).1
theorem sg_cret {z : Int} (hd : decode mi.2.1 pc = .ok (.ireturn, 1)) (hr : mi.2.2.2 = some .char) (h0 : 0 ≤ z) (h1 : z < 65536) (hk : k ≤ mc) (hn : n ≤ ms) (K : Q (.inl (some (sg_i z))) h) : sg_R w mi d mc ms Q pc lv [sg_i z] h k n := by
  intro p e s m args below meth c H locs ls sv l hF hW hlv hL hs hR hO
  obtain ⟨x, b, rfl, hx, hb⟩ := sg_vs_i hs
  rw [sg_vs_nil hb]
  refine W.widen hk hn (vx_ret (W.zret hF.1 hF.2.1 (hF.2.2.2.2.1.trans hr) (sg_narC (by omega) (by omega)) (fun t ht _ => ⟨some (sg_i z), some (.int x), h, rfl, ⟨⟨x, rfl, hx⟩, trivial⟩, by rw [ht]; exact hR, K⟩) hO.1 hd hF.2.2.2.2.2.1))
theorem sg_bret {z : Int} (hd : decode mi.2.1 pc = .ok (.ireturn, 1)) (hr : mi.2.2.2 = some .byte) (h0 : z = 0) (hk : k ≤ mc) (hn : n ≤ ms) (K : Q (.inl (some (sg_i z))) h) : sg_R w mi d mc ms Q pc lv [sg_i z] h k n := by
  intro p e s m args below meth c H locs ls sv l hF hW hlv hL hs hR hO
  obtain ⟨x, b, rfl, hx, hb⟩ := sg_vs_i hs
  rw [sg_vs_nil hb]
  subst h0
  have hx0 : x = 0 := Int32.toInt_inj.mp hx
  subst hx0
  refine W.widen hk hn (vx_ret (W.zret hF.1 hF.2.1 (hF.2.2.2.2.1.trans hr) rfl (fun t ht _ => ⟨some (sg_i 0), some (.int 0), h, rfl, ⟨⟨0, rfl, hx⟩, trivial⟩, by rw [ht]; exact hR, K⟩) hO.1 hd hF.2.2.2.2.2.1))
end
section
variable {w : sg_W} {mi : sg_M} {d mc ms : Nat} {Q : sg_O → sg_H → Prop} {pc : Nat} {lv : List (Nat × sg_V)} {st : List sg_V} {h : sg_H} {k n : Nat}
theorem sg_lcmp {a b : Int} (hd : decode mi.2.1 pc = .ok (.lcmp, 1)) (K : ∀ z : Int, (z = 0 ↔ a = b) → sg_R w mi d mc ms Q (pc + 1) lv (sg_i z :: st) h k n) : sg_R w mi d mc ms Q pc lv (sg_l b :: sg_l a :: st) h k n := by
  intro p e s m args below meth c H locs ls sv l hF hW hlv hL hs hR hO
  obtain ⟨y, t1, rfl, hy, h1⟩ := sg_vs_l hs
  obtain ⟨x, t2, rfl, hx, h2⟩ := sg_vs_l h1
  refine W.lcmp hF.1 hF.2.1 hd ?_
  refine K (lg_cmp x y).toInt ?_ p e s m args below meth c H locs ls _ l hF hW hlv hL ⟨⟨_, rfl, rfl⟩, h2⟩ hR hO
  rw [← hx, ← hy, Int64.toInt_inj, ← lg_cmp_eq]
  constructor
  · intro q
    exact Int32.toInt_inj.mp q
  · intro q
    rw [q]
    rfl
end
/-- what is said, kept from arithmetic's eyes -/
def jk_P (p : Prop) : Prop := p
theorem jl_m1 {E p : Int} {N : Nat} (h : (E - p).toNat < N + 1) (hp : p < E) : (E - (p + 1)).toNat < N := by omega
theorem jl_m2 {p : Int} {N : Nat} (h : (p + 1).toNat < N + 1) (hp : 0 ≤ p) : (p + -1 + 1).toNat < N := by omega
theorem jl_d0 {d m : Nat} (hd : m ≤ d) (h : Nat.ble 1 m = true) : d - 1 + 1 ≤ d := by
  have := Nat.le_of_ble_eq_true h
  omega
theorem jl_d1 {d m n : Nat} (hd : m ≤ d) (h : Nat.ble (n + 1) m = true) : n ≤ d - 1 := by
  have := Nat.le_of_ble_eq_true h
  omega
theorem pn_J0 : plainName RJ0 = true := by decide +kernel
theorem pn_J1 : plainName RJ1 = true := by decide +kernel
theorem pn_J15 : plainName RJ15 = true := by decide +kernel
theorem pn_J3 : plainName RJ3 = true := by decide +kernel
theorem pn_J4 : plainName RJ4 = true := by decide +kernel
theorem pn_J5 : plainName RJ5 = true := by decide +kernel
theorem pn_J7 : plainName RJ7 = true := by decide +kernel
theorem pn_J8 : plainName RJ8 = true := by decide +kernel
theorem pn_Jx4a65c : plainName RJx4a65c = true := by decide +kernel
theorem pn_Jxa1e45 : plainName RJxa1e45 = true := by decide +kernel
theorem pn_Jxc12de : plainName RJxc12de = true := by decide +kernel
theorem pn_L : plainName RL = true := by decide +kernel
theorem pn_X0 : plainName RX0 = true := by decide +kernel
theorem pn_X1 : plainName RX1 = true := by decide +kernel
theorem pn_X2 : plainName RX2 = true := by decide +kernel
theorem pn_X3 : plainName RX3 = true := by decide +kernel
theorem pn_X4 : plainName RX4 = true := by decide +kernel
theorem pn_X5 : plainName RX5 = true := by decide +kernel
theorem pn_X6 : plainName RX6 = true := by decide +kernel
theorem pn_X7 : plainName RX7 = true := by decide +kernel

