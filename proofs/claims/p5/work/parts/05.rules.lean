def sg_and (a b : Int) : Int := (Int32.ofInt a &&& Int32.ofInt b).toInt
def sg_or (a b : Int) : Int := (Int32.ofInt a ||| Int32.ofInt b).toInt
def sg_shl (a b : Int) : Int := (Int32.ofInt a <<< (Int32.ofInt b &&& 31)).toInt
def sg_shr (a b : Int) : Int := (Int32.ofInt a >>> (Int32.ofInt b &&& 31)).toInt
def sg_chr (a : Int) : Int := ((Int32.ofInt a).toUInt32 % 65536).toInt32.toInt
def sg_byt (a : Int) : Int := (Int32.ofInt a).toInt8.toInt32.toInt
theorem sg_and_of (x y : Int32) : (x &&& y).toInt = sg_and x.toInt y.toInt := by unfold sg_and; rw [Int32.ofInt_toInt, Int32.ofInt_toInt]
theorem sg_or_of (x y : Int32) : (x ||| y).toInt = sg_or x.toInt y.toInt := by unfold sg_or; rw [Int32.ofInt_toInt, Int32.ofInt_toInt]
theorem sg_shl_of (x y : Int32) : (x <<< (y &&& 31)).toInt = sg_shl x.toInt y.toInt := by unfold sg_shl; rw [Int32.ofInt_toInt, Int32.ofInt_toInt]
theorem sg_shr_of (x y : Int32) : (x >>> (y &&& 31)).toInt = sg_shr x.toInt y.toInt := by unfold sg_shr; rw [Int32.ofInt_toInt, Int32.ofInt_toInt]
theorem sg_chr_of (x : Int32) : (x.toUInt32 % 65536).toInt32.toInt = sg_chr x.toInt := by unfold sg_chr; rw [Int32.ofInt_toInt]
theorem sg_byt_of (x : Int32) : x.toInt8.toInt32.toInt = sg_byt x.toInt := by unfold sg_byt; rw [Int32.ofInt_toInt]
theorem sg_irem0 (x y : Int32) : (x - x / y * y).toInt = x.toInt.tmod y.toInt := by
  have h1 := Int32.toInt_mod x y
  have h2 := sg_toInt_range (x % y)
  rw [h1] at h2
  rw [Int32.toInt_sub, Int32.toInt_mul, Int32.toInt_div, Int.sub_bmod_bmod, ← Int.sub_bmod_bmod, Int.bmod_mul_bmod, Int.sub_bmod_bmod]
  rw [Int.mul_comm, ← Int.tmod_def]
  exact sg_w_id h2.1 h2.2
theorem sg_lrem0 (x y : Int64) : (x - x / y * y).toInt = x.toInt.tmod y.toInt := by
  have h1 := Int64.toInt_mod x y
  have h2 := Int64.le_toInt (x % y)
  have h3 := Int64.toInt_le (x % y)
  rw [h1] at h2 h3
  rw [Int64.toInt_sub, Int64.toInt_mul, Int64.toInt_div, Int.sub_bmod_bmod, ← Int.sub_bmod_bmod, Int.bmod_mul_bmod, Int.sub_bmod_bmod]
  rw [Int.mul_comm, ← Int.tmod_def]
  have h4 : Int64.maxValue.toInt = 9223372036854775807 := by decide
  have h5 : Int64.minValue.toInt = -9223372036854775808 := by decide
  rw [Int.bmod_eq_of_le] <;> omega
theorem sg_ceq {x y : Int32} {a b : Int} (hx : x.toInt = a) (hy : y.toInt = b) : x = y ↔ a = b := by rw [← hx, ← hy]; exact Int32.toInt_inj.symm
theorem sg_clt {x y : Int32} {a b : Int} (hx : x.toInt = a) (hy : y.toInt = b) : x < y ↔ a < b := by rw [← hx, ← hy]; exact Int32.lt_iff_toInt_lt
theorem sg_cge {x y : Int32} {a b : Int} (hx : x.toInt = a) (hy : y.toInt = b) : y ≤ x ↔ b ≤ a := by rw [← hx, ← hy]; exact Int32.le_iff_toInt_le
theorem sg_cgt {x y : Int32} {a b : Int} (hx : x.toInt = a) (hy : y.toInt = b) : y < x ↔ b < a := by rw [← hx, ← hy]; exact Int32.lt_iff_toInt_lt
theorem sg_cle {x y : Int32} {a b : Int} (hx : x.toInt = a) (hy : y.toInt = b) : x ≤ y ↔ a ≤ b := by rw [← hx, ← hy]; exact Int32.le_iff_toInt_le
theorem sg_cat1 {v : sg_V} {c : Value} (h : sg_v v c) (hv : sg_c2 v = false) : c.category = 1 := by
  have h1 := sg_v_cat h
  rw [hv] at h1
  rcases lv_cat c with h2 | h2
  · exact h2
  · rw [h2] at h1; cases h1
section
variable {w : sg_W} {mi : sg_M} {d mc ms : Nat} {Q : sg_O → sg_H → Prop} {pc : Nat} {lv : List (Nat × sg_V)} {st : List sg_V} {h : sg_H} {k n : Nat}
theorem sg_iload_n {i : Fin 4} {j : Nat} {z : Int} (hd : decode mi.2.1 pc = .ok (.iload_n i, 1)) (hj : (i : Nat) = j) (hl : sg_lk lv j = some (sg_i z)) (K : sg_R w mi d mc ms Q (pc + 1) lv (sg_i z :: st) h k n) : sg_R w mi d mc ms Q pc lv st h k n := by
  intro p e s m args below meth c H locs ls sv l hF hW hlv hL hs hR hO
  obtain ⟨cv, hm, x, rfl, hx⟩ := sg_lk_at hl hL
  refine lv_iload_n hF.1 hF.2.1 hd hj (hlv.2.2 _ hm) ?_
  exact K p e s m args below meth c H locs ls _ l hF hW hlv hL ⟨⟨x, rfl, hx⟩, hs⟩ hR hO

theorem sg_iload {j : Nat} {z : Int} (hd : decode mi.2.1 pc = .ok (.iload j, 2)) (hl : sg_lk lv j = some (sg_i z)) (K : sg_R w mi d mc ms Q (pc + 2) lv (sg_i z :: st) h k n) : sg_R w mi d mc ms Q pc lv st h k n := by
  intro p e s m args below meth c H locs ls sv l hF hW hlv hL hs hR hO
  obtain ⟨cv, hm, x, rfl, hx⟩ := sg_lk_at hl hL
  refine lv_iload hF.1 hF.2.1 hd (hlv.2.2 _ hm) ?_
  exact K p e s m args below meth c H locs ls _ l hF hW hlv hL ⟨⟨x, rfl, hx⟩, hs⟩ hR hO

theorem sg_lload_n {i : Fin 4} {j : Nat} {z : Int} (hd : decode mi.2.1 pc = .ok (.lload_n i, 1)) (hj : (i : Nat) = j) (hl : sg_lk lv j = some (sg_l z)) (K : sg_R w mi d mc ms Q (pc + 1) lv (sg_l z :: st) h k n) : sg_R w mi d mc ms Q pc lv st h k n := by
  intro p e s m args below meth c H locs ls sv l hF hW hlv hL hs hR hO
  obtain ⟨cv, hm, x, rfl, hx⟩ := sg_lk_at hl hL
  refine lv_lload_n hF.1 hF.2.1 hd hj (hlv.2.2 _ hm) ?_
  exact K p e s m args below meth c H locs ls _ l hF hW hlv hL ⟨⟨x, rfl, hx⟩, hs⟩ hR hO

theorem sg_lload {j : Nat} {z : Int} (hd : decode mi.2.1 pc = .ok (.lload j, 2)) (hl : sg_lk lv j = some (sg_l z)) (K : sg_R w mi d mc ms Q (pc + 2) lv (sg_l z :: st) h k n) : sg_R w mi d mc ms Q pc lv st h k n := by
  intro p e s m args below meth c H locs ls sv l hF hW hlv hL hs hR hO
  obtain ⟨cv, hm, x, rfl, hx⟩ := sg_lk_at hl hL
  refine lv_lload hF.1 hF.2.1 hd (hlv.2.2 _ hm) ?_
  exact K p e s m args below meth c H locs ls _ l hF hW hlv hL ⟨⟨x, rfl, hx⟩, hs⟩ hR hO

theorem sg_aload_n {i : Fin 4} {j a : Nat} (hd : decode mi.2.1 pc = .ok (.aload_n i, 1)) (hj : (i : Nat) = j) (hl : sg_lk lv j = some (sg_r a)) (K : sg_R w mi d mc ms Q (pc + 1) lv (sg_r a :: st) h k n) : sg_R w mi d mc ms Q pc lv st h k n := by
  intro p e s m args below meth c H locs ls sv l hF hW hlv hL hs hR hO
  obtain ⟨cv, hm, hx⟩ := sg_lk_at hl hL
  cases (show cv = .ref a from hx)
  refine lv_aload_n hF.1 hF.2.1 hd hj (hlv.2.2 _ hm) ?_
  exact K p e s m args below meth c H locs ls _ l hF hW hlv hL ⟨rfl, hs⟩ hR hO

theorem sg_aload {j a : Nat} (hd : decode mi.2.1 pc = .ok (.aload j, 2)) (hl : sg_lk lv j = some (sg_r a)) (K : sg_R w mi d mc ms Q (pc + 2) lv (sg_r a :: st) h k n) : sg_R w mi d mc ms Q pc lv st h k n := by
  intro p e s m args below meth c H locs ls sv l hF hW hlv hL hs hR hO
  obtain ⟨cv, hm, hx⟩ := sg_lk_at hl hL
  cases (show cv = .ref a from hx)
  refine lv_aload hF.1 hF.2.1 hd (hlv.2.2 _ hm) ?_
  exact K p e s m args below meth c H locs ls _ l hF hW hlv hL ⟨rfl, hs⟩ hR hO

theorem sg_istore_n {i : Fin 4} {j : Nat} {z : Int} (hd : decode mi.2.1 pc = .ok (.istore_n i, 1)) (hj : (i : Nat) = j) (hn : j < mi.2.2.1) (K : sg_R w mi d mc ms Q (pc + 1) (sg_st j (sg_i z) lv) st h k n) : sg_R w mi d mc ms Q pc lv (sg_i z :: st) h k n := by
  intro p e s m args below meth c H locs ls sv l hF hW hlv hL hs hR hO
  obtain ⟨x, b, rfl, hx, hb⟩ := sg_vs_i hs
  refine lv_istore_n hF.1 hF.2.1 hd hj hlv hn rfl (fun ls' hl' => ?_)
  exact K p e s m args below meth c H locs ls' _ _ hF hW hl' (sg_L_st (v := sg_i z) hL ⟨x, rfl, hx⟩) hb hR hO

theorem sg_istore {j : Nat} {z : Int} (hd : decode mi.2.1 pc = .ok (.istore j, 2)) (hn : j < mi.2.2.1) (K : sg_R w mi d mc ms Q (pc + 2) (sg_st j (sg_i z) lv) st h k n) : sg_R w mi d mc ms Q pc lv (sg_i z :: st) h k n := by
  intro p e s m args below meth c H locs ls sv l hF hW hlv hL hs hR hO
  obtain ⟨x, b, rfl, hx, hb⟩ := sg_vs_i hs
  refine lv_istore hF.1 hF.2.1 hd hlv hn rfl (fun ls' hl' => ?_)
  exact K p e s m args below meth c H locs ls' _ _ hF hW hl' (sg_L_st (v := sg_i z) hL ⟨x, rfl, hx⟩) hb hR hO

theorem sg_astore_n {i : Fin 4} {j : Nat} {z : Nat} (hd : decode mi.2.1 pc = .ok (.astore_n i, 1)) (hj : (i : Nat) = j) (hn : j < mi.2.2.1) (K : sg_R w mi d mc ms Q (pc + 1) (sg_st j (sg_r z) lv) st h k n) : sg_R w mi d mc ms Q pc lv (sg_r z :: st) h k n := by
  intro p e s m args below meth c H locs ls sv l hF hW hlv hL hs hR hO
  obtain ⟨b, rfl, hb⟩ := sg_vs_r hs
  refine lv_astore_n hF.1 hF.2.1 hd hj hlv hn rfl (fun ls' hl' => ?_)
  exact K p e s m args below meth c H locs ls' _ _ hF hW hl' (sg_L_st (v := sg_r z) hL rfl) hb hR hO

theorem sg_astore {j : Nat} {z : Nat} (hd : decode mi.2.1 pc = .ok (.astore j, 2)) (hn : j < mi.2.2.1) (K : sg_R w mi d mc ms Q (pc + 2) (sg_st j (sg_r z) lv) st h k n) : sg_R w mi d mc ms Q pc lv (sg_r z :: st) h k n := by
  intro p e s m args below meth c H locs ls sv l hF hW hlv hL hs hR hO
  obtain ⟨b, rfl, hb⟩ := sg_vs_r hs
  refine lv_astore hF.1 hF.2.1 hd hlv hn rfl (fun ls' hl' => ?_)
  exact K p e s m args below meth c H locs ls' _ _ hF hW hl' (sg_L_st (v := sg_r z) hL rfl) hb hR hO

theorem sg_lstore_n {i : Fin 4} {j : Nat} {z : Int} (hd : decode mi.2.1 pc = .ok (.lstore_n i, 1)) (hj : (i : Nat) = j) (hn : j + 1 < mi.2.2.1) (K : sg_R w mi d mc ms Q (pc + 1) (sg_st2 j (sg_l z) lv) st h k n) : sg_R w mi d mc ms Q pc lv (sg_l z :: st) h k n := by
  intro p e s m args below meth c H locs ls sv l hF hW hlv hL hs hR hO
  obtain ⟨x, b, rfl, hx, hb⟩ := sg_vs_l hs
  refine lv_lstore_n hF.1 hF.2.1 hd hj hlv hn rfl (fun ls' hl' => ?_)
  exact K p e s m args below meth c H locs ls' _ _ hF hW hl' (sg_L_st2 (v := sg_l z) hL ⟨x, rfl, hx⟩) hb hR hO

theorem sg_lstore {j : Nat} {z : Int} (hd : decode mi.2.1 pc = .ok (.lstore j, 2)) (hn : j + 1 < mi.2.2.1) (K : sg_R w mi d mc ms Q (pc + 2) (sg_st2 j (sg_l z) lv) st h k n) : sg_R w mi d mc ms Q pc lv (sg_l z :: st) h k n := by
  intro p e s m args below meth c H locs ls sv l hF hW hlv hL hs hR hO
  obtain ⟨x, b, rfl, hx, hb⟩ := sg_vs_l hs
  refine lv_lstore hF.1 hF.2.1 hd hlv hn rfl (fun ls' hl' => ?_)
  exact K p e s m args below meth c H locs ls' _ _ hF hW hl' (sg_L_st2 (v := sg_l z) hL ⟨x, rfl, hx⟩) hb hR hO

theorem sg_iinc {j : Nat} {z a : Int} (hd : decode mi.2.1 pc = .ok (.iinc j a, 3)) (hl : sg_lk lv j = some (sg_i z)) (ha : (Int32.ofInt a).toInt = a) (hn : j < mi.2.2.1) (K : sg_R w mi d mc ms Q (pc + 3) (sg_st j (sg_i (sg_w (z + a))) lv) st h k n) : sg_R w mi d mc ms Q pc lv st h k n := by
  intro p e s m args below meth c H locs ls sv l hF hW hlv hL hs hR hO
  obtain ⟨cv, hm, x, rfl, hx⟩ := sg_lk_at hl hL
  obtain ⟨q, hq⟩ := List.getElem?_of_mem hm
  refine lv_iinc hF.1 hF.2.1 hd hlv hq rfl hn rfl (fun ls' hl' => ?_)
  exact K p e s m args below meth c H locs ls' _ _ hF hW hl' (sg_L_st (v := sg_i (sg_w (z + a))) hL ⟨_, rfl, by rw [Int32.toInt_add, hx, ha]; rfl⟩) hs hR hO

theorem sg_iconst {a : Int} {z : Int} (hd : decode mi.2.1 pc = .ok (.iconst a, 1)) (hz : (Int32.ofInt a).toInt = z) (K : sg_R w mi d mc ms Q (pc + 1) lv (sg_i z :: st) h k n) : sg_R w mi d mc ms Q pc lv st h k n := by
  intro p e s m args below meth c H locs ls sv l hF hW hlv hL hs hR hO
  refine lv_iconst hF.1 hF.2.1 hd rfl ?_
  exact K p e s m args below meth c H locs ls _ l hF hW hlv hL ⟨⟨_, rfl, hz⟩, hs⟩ hR hO

theorem sg_bipush {a : Int} {z : Int} (hd : decode mi.2.1 pc = .ok (.bipush a, 2)) (hz : ((Int8.ofInt a).toInt32).toInt = z) (K : sg_R w mi d mc ms Q (pc + 2) lv (sg_i z :: st) h k n) : sg_R w mi d mc ms Q pc lv st h k n := by
  intro p e s m args below meth c H locs ls sv l hF hW hlv hL hs hR hO
  refine lv_bipush hF.1 hF.2.1 hd rfl ?_
  exact K p e s m args below meth c H locs ls _ l hF hW hlv hL ⟨⟨_, rfl, hz⟩, hs⟩ hR hO

theorem sg_sipush {a : Int} {z : Int} (hd : decode mi.2.1 pc = .ok (.sipush a, 3)) (hz : ((Int16.ofInt a).toInt32).toInt = z) (K : sg_R w mi d mc ms Q (pc + 3) lv (sg_i z :: st) h k n) : sg_R w mi d mc ms Q pc lv st h k n := by
  intro p e s m args below meth c H locs ls sv l hF hW hlv hL hs hR hO
  refine lv_sipush hF.1 hF.2.1 hd rfl ?_
  exact K p e s m args below meth c H locs ls _ l hF hW hlv hL ⟨⟨_, rfl, hz⟩, hs⟩ hR hO

theorem sg_lconst {a : Fin 2} {z : Int} (hd : decode mi.2.1 pc = .ok (.lconst a, 1)) (hz : (Int64.ofNat (a : Nat)).toInt = z) (K : sg_R w mi d mc ms Q (pc + 1) lv (sg_l z :: st) h k n) : sg_R w mi d mc ms Q pc lv st h k n := by
  intro p e s m args below meth c H locs ls sv l hF hW hlv hL hs hR hO
  refine lv_lconst hF.1 hF.2.1 hd rfl ?_
  exact K p e s m args below meth c H locs ls _ l hF hW hlv hL ⟨⟨_, rfl, hz⟩, hs⟩ hR hO

theorem sg_ldc {idx : Nat} {v : Int32} {z : Int} (g : sg_G w) (hd : decode mi.2.1 pc = .ok (.ldc idx, 2)) (hc : sg_ok (.constant mi.1.cls idx v)) (hz : v.toInt = z) (K : sg_R w mi d mc ms Q (pc + 2) lv (sg_i z :: st) h k n) : sg_R w mi d mc ms Q pc lv st h k n := by
  intro p e s m args below meth c H locs ls sv l hF hW hlv hL hs hR hO
  refine lv_ldc hF.1 hF.2.1 hF.2.2.2.1 (sg_wd g hW hc) hd ?_
  exact K p e s m args below meth c H locs ls _ l hF hW hlv hL ⟨⟨_, rfl, hz⟩, hs⟩ hR hO

theorem sg_ldc2 {idx : Nat} {v : Int64} {z : Int} (g : sg_G w) (hd : decode mi.2.1 pc = .ok (.ldc2_w idx, 3)) (hc : sg_ok (.constantLong mi.1.cls idx v)) (hz : v.toInt = z) (K : sg_R w mi d mc ms Q (pc + 3) lv (sg_l z :: st) h k n) : sg_R w mi d mc ms Q pc lv st h k n := by
  intro p e s m args below meth c H locs ls sv l hF hW hlv hL hs hR hO
  refine lv_ldc2 hF.1 hF.2.1 hF.2.2.2.1 (sg_wd g hW hc) hd ?_
  exact K p e s m args below meth c H locs ls _ l hF hW hlv hL ⟨⟨_, rfl, hz⟩, hs⟩ hR hO

theorem sg_iadd {a b : Int} (hd : decode mi.2.1 pc = .ok (.iadd, 1))  (K : sg_R w mi d mc ms Q (pc + 1) lv (sg_i (sg_w (a + b)) :: st) h k n) : sg_R w mi d mc ms Q pc lv (sg_i b :: sg_i a :: st) h k n := by
  intro p e s m args below meth c H locs ls sv l hF hW hlv hL hs hR hO
  obtain ⟨y, t1, rfl, hy, h1⟩ := sg_vs_i hs
  obtain ⟨x, t2, rfl, hx, h2⟩ := sg_vs_i h1
  refine lv_iadd hF.1 hF.2.1 hd  ?_
  exact K p e s m args below meth c H locs ls _ l hF hW hlv hL ⟨⟨_, rfl, by rw [Int32.toInt_add, hx, hy]; rfl⟩, h2⟩ hR hO

theorem sg_isub {a b : Int} (hd : decode mi.2.1 pc = .ok (.isub, 1))  (K : sg_R w mi d mc ms Q (pc + 1) lv (sg_i (sg_w (a - b)) :: st) h k n) : sg_R w mi d mc ms Q pc lv (sg_i b :: sg_i a :: st) h k n := by
  intro p e s m args below meth c H locs ls sv l hF hW hlv hL hs hR hO
  obtain ⟨y, t1, rfl, hy, h1⟩ := sg_vs_i hs
  obtain ⟨x, t2, rfl, hx, h2⟩ := sg_vs_i h1
  refine lv_isub hF.1 hF.2.1 hd  ?_
  exact K p e s m args below meth c H locs ls _ l hF hW hlv hL ⟨⟨_, rfl, by rw [Int32.toInt_sub, hx, hy]; rfl⟩, h2⟩ hR hO

theorem sg_imul {a b : Int} (hd : decode mi.2.1 pc = .ok (.imul, 1))  (K : sg_R w mi d mc ms Q (pc + 1) lv (sg_i (sg_w (a * b)) :: st) h k n) : sg_R w mi d mc ms Q pc lv (sg_i b :: sg_i a :: st) h k n := by
  intro p e s m args below meth c H locs ls sv l hF hW hlv hL hs hR hO
  obtain ⟨y, t1, rfl, hy, h1⟩ := sg_vs_i hs
  obtain ⟨x, t2, rfl, hx, h2⟩ := sg_vs_i h1
  refine lv_imul hF.1 hF.2.1 hd  ?_
  exact K p e s m args below meth c H locs ls _ l hF hW hlv hL ⟨⟨_, rfl, by rw [Int32.toInt_mul, hx, hy]; rfl⟩, h2⟩ hR hO

theorem sg_idiv {a b : Int} (hd : decode mi.2.1 pc = .ok (.idiv, 1)) (hb : b ≠ 0) (K : sg_R w mi d mc ms Q (pc + 1) lv (sg_i (sg_w (a.tdiv b)) :: st) h k n) : sg_R w mi d mc ms Q pc lv (sg_i b :: sg_i a :: st) h k n := by
  intro p e s m args below meth c H locs ls sv l hF hW hlv hL hs hR hO
  obtain ⟨y, t1, rfl, hy, h1⟩ := sg_vs_i hs
  obtain ⟨x, t2, rfl, hx, h2⟩ := sg_vs_i h1
  refine lv_idiv hF.1 hF.2.1 hd (fun z => hb (by rw [← hy, z]; rfl)) ?_
  exact K p e s m args below meth c H locs ls _ l hF hW hlv hL ⟨⟨_, rfl, by rw [Int32.toInt_div, hx, hy]; rfl⟩, h2⟩ hR hO

theorem sg_irem {a b : Int} (hd : decode mi.2.1 pc = .ok (.irem, 1)) (hb : b ≠ 0) (K : sg_R w mi d mc ms Q (pc + 1) lv (sg_i (a.tmod b) :: st) h k n) : sg_R w mi d mc ms Q pc lv (sg_i b :: sg_i a :: st) h k n := by
  intro p e s m args below meth c H locs ls sv l hF hW hlv hL hs hR hO
  obtain ⟨y, t1, rfl, hy, h1⟩ := sg_vs_i hs
  obtain ⟨x, t2, rfl, hx, h2⟩ := sg_vs_i h1
  refine lv_irem hF.1 hF.2.1 hd (fun z => hb (by rw [← hy, z]; rfl)) ?_
  exact K p e s m args below meth c H locs ls _ l hF hW hlv hL ⟨⟨_, rfl, by rw [sg_irem0, hx, hy]⟩, h2⟩ hR hO

theorem sg_iand {a b : Int} (hd : decode mi.2.1 pc = .ok (.iand, 1))  (K : sg_R w mi d mc ms Q (pc + 1) lv (sg_i (sg_and a b) :: st) h k n) : sg_R w mi d mc ms Q pc lv (sg_i b :: sg_i a :: st) h k n := by
  intro p e s m args below meth c H locs ls sv l hF hW hlv hL hs hR hO
  obtain ⟨y, t1, rfl, hy, h1⟩ := sg_vs_i hs
  obtain ⟨x, t2, rfl, hx, h2⟩ := sg_vs_i h1
  refine lv_iand hF.1 hF.2.1 hd  ?_
  exact K p e s m args below meth c H locs ls _ l hF hW hlv hL ⟨⟨_, rfl, by rw [← hx, ← hy]; exact sg_and_of x y⟩, h2⟩ hR hO

theorem sg_ior {a b : Int} (hd : decode mi.2.1 pc = .ok (.ior, 1))  (K : sg_R w mi d mc ms Q (pc + 1) lv (sg_i (sg_or a b) :: st) h k n) : sg_R w mi d mc ms Q pc lv (sg_i b :: sg_i a :: st) h k n := by
  intro p e s m args below meth c H locs ls sv l hF hW hlv hL hs hR hO
  obtain ⟨y, t1, rfl, hy, h1⟩ := sg_vs_i hs
  obtain ⟨x, t2, rfl, hx, h2⟩ := sg_vs_i h1
  refine lv_ior hF.1 hF.2.1 hd  ?_
  exact K p e s m args below meth c H locs ls _ l hF hW hlv hL ⟨⟨_, rfl, by rw [← hx, ← hy]; exact sg_or_of x y⟩, h2⟩ hR hO

theorem sg_ishl {a b : Int} (hd : decode mi.2.1 pc = .ok (.ishl, 1))  (K : sg_R w mi d mc ms Q (pc + 1) lv (sg_i (sg_shl a b) :: st) h k n) : sg_R w mi d mc ms Q pc lv (sg_i b :: sg_i a :: st) h k n := by
  intro p e s m args below meth c H locs ls sv l hF hW hlv hL hs hR hO
  obtain ⟨y, t1, rfl, hy, h1⟩ := sg_vs_i hs
  obtain ⟨x, t2, rfl, hx, h2⟩ := sg_vs_i h1
  refine lv_ishl hF.1 hF.2.1 hd  ?_
  exact K p e s m args below meth c H locs ls _ l hF hW hlv hL ⟨⟨_, rfl, by rw [← hx, ← hy]; exact sg_shl_of x y⟩, h2⟩ hR hO

theorem sg_ishr {a b : Int} (hd : decode mi.2.1 pc = .ok (.ishr, 1))  (K : sg_R w mi d mc ms Q (pc + 1) lv (sg_i (sg_shr a b) :: st) h k n) : sg_R w mi d mc ms Q pc lv (sg_i b :: sg_i a :: st) h k n := by
  intro p e s m args below meth c H locs ls sv l hF hW hlv hL hs hR hO
  obtain ⟨y, t1, rfl, hy, h1⟩ := sg_vs_i hs
  obtain ⟨x, t2, rfl, hx, h2⟩ := sg_vs_i h1
  refine lv_ishr hF.1 hF.2.1 hd  ?_
  exact K p e s m args below meth c H locs ls _ l hF hW hlv hL ⟨⟨_, rfl, by rw [← hx, ← hy]; exact sg_shr_of x y⟩, h2⟩ hR hO

theorem sg_ladd {a b : Int} (hd : decode mi.2.1 pc = .ok (.ladd, 1))  (K : sg_R w mi d mc ms Q (pc + 1) lv (sg_l (sg_W64 (a + b)) :: st) h k n) : sg_R w mi d mc ms Q pc lv (sg_l b :: sg_l a :: st) h k n := by
  intro p e s m args below meth c H locs ls sv l hF hW hlv hL hs hR hO
  obtain ⟨y, t1, rfl, hy, h1⟩ := sg_vs_l hs
  obtain ⟨x, t2, rfl, hx, h2⟩ := sg_vs_l h1
  refine lv_ladd hF.1 hF.2.1 hd  ?_
  exact K p e s m args below meth c H locs ls _ l hF hW hlv hL ⟨⟨_, rfl, by rw [Int64.toInt_add, hx, hy]; rfl⟩, h2⟩ hR hO

theorem sg_lmul {a b : Int} (hd : decode mi.2.1 pc = .ok (.lmul, 1))  (K : sg_R w mi d mc ms Q (pc + 1) lv (sg_l (sg_W64 (a * b)) :: st) h k n) : sg_R w mi d mc ms Q pc lv (sg_l b :: sg_l a :: st) h k n := by
  intro p e s m args below meth c H locs ls sv l hF hW hlv hL hs hR hO
  obtain ⟨y, t1, rfl, hy, h1⟩ := sg_vs_l hs
  obtain ⟨x, t2, rfl, hx, h2⟩ := sg_vs_l h1
  refine lv_lmul hF.1 hF.2.1 hd  ?_
  exact K p e s m args below meth c H locs ls _ l hF hW hlv hL ⟨⟨_, rfl, by rw [Int64.toInt_mul, hx, hy]; rfl⟩, h2⟩ hR hO

theorem sg_lrem {a b : Int} (hd : decode mi.2.1 pc = .ok (.lrem, 1)) (hb : b ≠ 0) (K : sg_R w mi d mc ms Q (pc + 1) lv (sg_l (a.tmod b) :: st) h k n) : sg_R w mi d mc ms Q pc lv (sg_l b :: sg_l a :: st) h k n := by
  intro p e s m args below meth c H locs ls sv l hF hW hlv hL hs hR hO
  obtain ⟨y, t1, rfl, hy, h1⟩ := sg_vs_l hs
  obtain ⟨x, t2, rfl, hx, h2⟩ := sg_vs_l h1
  refine lv_lrem hF.1 hF.2.1 hd (fun z => hb (by rw [← hy, z]; rfl)) ?_
  exact K p e s m args below meth c H locs ls _ l hF hW hlv hL ⟨⟨_, rfl, by rw [sg_lrem0, hx, hy]⟩, h2⟩ hR hO

theorem sg_i2l {a : Int} (hd : decode mi.2.1 pc = .ok (.i2l, 1)) (K : sg_R w mi d mc ms Q (pc + 1) lv (sg_l a :: st) h k n) : sg_R w mi d mc ms Q pc lv (sg_i a :: st) h k n := by
  intro p e s m args below meth c H locs ls sv l hF hW hlv hL hs hR hO
  obtain ⟨x, t1, rfl, hx, h1⟩ := sg_vs_i hs
  refine lv_i2l hF.1 hF.2.1 hd rfl ?_
  exact K p e s m args below meth c H locs ls _ l hF hW hlv hL ⟨⟨_, rfl, by rw [Int32.toInt_toInt64, hx]⟩, h1⟩ hR hO

theorem sg_l2i {a : Int} (hd : decode mi.2.1 pc = .ok (.l2i, 1)) (K : sg_R w mi d mc ms Q (pc + 1) lv (sg_i (sg_w a) :: st) h k n) : sg_R w mi d mc ms Q pc lv (sg_l a :: st) h k n := by
  intro p e s m args below meth c H locs ls sv l hF hW hlv hL hs hR hO
  obtain ⟨x, t1, rfl, hx, h1⟩ := sg_vs_l hs
  refine lv_l2i hF.1 hF.2.1 hd rfl ?_
  exact K p e s m args below meth c H locs ls _ l hF hW hlv hL ⟨⟨_, rfl, by rw [Int64.toInt_toInt32, hx]; rfl⟩, h1⟩ hR hO

theorem sg_i2c {a : Int} (hd : decode mi.2.1 pc = .ok (.i2c, 1)) (K : sg_R w mi d mc ms Q (pc + 1) lv (sg_i (sg_chr a) :: st) h k n) : sg_R w mi d mc ms Q pc lv (sg_i a :: st) h k n := by
  intro p e s m args below meth c H locs ls sv l hF hW hlv hL hs hR hO
  obtain ⟨x, t1, rfl, hx, h1⟩ := sg_vs_i hs
  refine lv_i2c hF.1 hF.2.1 hd rfl ?_
  exact K p e s m args below meth c H locs ls _ l hF hW hlv hL ⟨⟨_, rfl, by rw [← hx]; exact sg_chr_of x⟩, h1⟩ hR hO

theorem sg_i2b {a : Int} (hd : decode mi.2.1 pc = .ok (.i2b, 1)) (K : sg_R w mi d mc ms Q (pc + 1) lv (sg_i (sg_byt a) :: st) h k n) : sg_R w mi d mc ms Q pc lv (sg_i a :: st) h k n := by
  intro p e s m args below meth c H locs ls sv l hF hW hlv hL hs hR hO
  obtain ⟨x, t1, rfl, hx, h1⟩ := sg_vs_i hs
  refine lv_i2b hF.1 hF.2.1 hd rfl ?_
  exact K p e s m args below meth c H locs ls _ l hF hW hlv hL ⟨⟨_, rfl, by rw [← hx]; exact sg_byt_of x⟩, h1⟩ hR hO

theorem sg_if_eq {a : Int} {off : Int} {tgt : Nat} (hd : decode mi.2.1 pc = .ok (.ifCond .eq off, 3)) (ht : (pc : Int) + off = (tgt : Int)) (kt : a = 0 → sg_R w mi d mc ms Q tgt lv st h k n) (kf : ¬ a = 0 → sg_R w mi d mc ms Q (pc + 3) lv st h k n) : sg_R w mi d mc ms Q pc lv (sg_i a :: st) h k n := by
  intro p e s m args below meth c H locs ls sv l hF hW hlv hL hs hR hO
  obtain ⟨x, t1, rfl, hx, h1⟩ := sg_vs_i hs
  have e0 := sg_ceq hx (show (0 : Int32).toInt = 0 from rfl)
  exact lv_if_eq hF.1 hF.2.1 hd ht (fun z => kt (e0.mp z) p e s m args below meth c H locs ls _ l hF hW hlv hL h1 hR hO) (fun z => kf (fun y => z (e0.mpr y)) p e s m args below meth c H locs ls _ l hF hW hlv hL h1 hR hO)

theorem sg_icmp_eq {a b : Int} {off : Int} {tgt : Nat} (hd : decode mi.2.1 pc = .ok (.if_icmp .eq off, 3)) (ht : (pc : Int) + off = (tgt : Int)) (kt : a = b → sg_R w mi d mc ms Q tgt lv st h k n) (kf : ¬ a = b → sg_R w mi d mc ms Q (pc + 3) lv st h k n) : sg_R w mi d mc ms Q pc lv (sg_i b :: sg_i a :: st) h k n := by
  intro p e s m args below meth c H locs ls sv l hF hW hlv hL hs hR hO
  obtain ⟨y, t1, rfl, hy, h1⟩ := sg_vs_i hs
  obtain ⟨x, t2, rfl, hx, h2⟩ := sg_vs_i h1
  have e0 := sg_ceq hx hy
  exact lv_icmp_eq hF.1 hF.2.1 hd ht (fun z => kt (e0.mp z) p e s m args below meth c H locs ls _ l hF hW hlv hL h2 hR hO) (fun z => kf (fun y => z (e0.mpr y)) p e s m args below meth c H locs ls _ l hF hW hlv hL h2 hR hO)

theorem sg_if_ne {a : Int} {off : Int} {tgt : Nat} (hd : decode mi.2.1 pc = .ok (.ifCond .ne off, 3)) (ht : (pc : Int) + off = (tgt : Int)) (kt : a ≠ 0 → sg_R w mi d mc ms Q tgt lv st h k n) (kf : a = 0 → sg_R w mi d mc ms Q (pc + 3) lv st h k n) : sg_R w mi d mc ms Q pc lv (sg_i a :: st) h k n := by
  intro p e s m args below meth c H locs ls sv l hF hW hlv hL hs hR hO
  obtain ⟨x, t1, rfl, hx, h1⟩ := sg_vs_i hs
  have e0 := sg_ceq hx (show (0 : Int32).toInt = 0 from rfl)
  exact lv_if_ne hF.1 hF.2.1 hd ht (fun z => kt (fun y => z (e0.mpr y)) p e s m args below meth c H locs ls _ l hF hW hlv hL h1 hR hO) (fun z => kf (e0.mp z) p e s m args below meth c H locs ls _ l hF hW hlv hL h1 hR hO)

theorem sg_icmp_ne {a b : Int} {off : Int} {tgt : Nat} (hd : decode mi.2.1 pc = .ok (.if_icmp .ne off, 3)) (ht : (pc : Int) + off = (tgt : Int)) (kt : a ≠ b → sg_R w mi d mc ms Q tgt lv st h k n) (kf : a = b → sg_R w mi d mc ms Q (pc + 3) lv st h k n) : sg_R w mi d mc ms Q pc lv (sg_i b :: sg_i a :: st) h k n := by
  intro p e s m args below meth c H locs ls sv l hF hW hlv hL hs hR hO
  obtain ⟨y, t1, rfl, hy, h1⟩ := sg_vs_i hs
  obtain ⟨x, t2, rfl, hx, h2⟩ := sg_vs_i h1
  have e0 := sg_ceq hx hy
  exact lv_icmp_ne hF.1 hF.2.1 hd ht (fun z => kt (fun y => z (e0.mpr y)) p e s m args below meth c H locs ls _ l hF hW hlv hL h2 hR hO) (fun z => kf (e0.mp z) p e s m args below meth c H locs ls _ l hF hW hlv hL h2 hR hO)

theorem sg_if_lt {a : Int} {off : Int} {tgt : Nat} (hd : decode mi.2.1 pc = .ok (.ifCond .lt off, 3)) (ht : (pc : Int) + off = (tgt : Int)) (kt : a < 0 → sg_R w mi d mc ms Q tgt lv st h k n) (kf : ¬ a < 0 → sg_R w mi d mc ms Q (pc + 3) lv st h k n) : sg_R w mi d mc ms Q pc lv (sg_i a :: st) h k n := by
  intro p e s m args below meth c H locs ls sv l hF hW hlv hL hs hR hO
  obtain ⟨x, t1, rfl, hx, h1⟩ := sg_vs_i hs
  have e0 := sg_clt hx (show (0 : Int32).toInt = 0 from rfl)
  exact lv_if_lt hF.1 hF.2.1 hd ht (fun z => kt (e0.mp z) p e s m args below meth c H locs ls _ l hF hW hlv hL h1 hR hO) (fun z => kf (fun y => z (e0.mpr y)) p e s m args below meth c H locs ls _ l hF hW hlv hL h1 hR hO)

theorem sg_icmp_lt {a b : Int} {off : Int} {tgt : Nat} (hd : decode mi.2.1 pc = .ok (.if_icmp .lt off, 3)) (ht : (pc : Int) + off = (tgt : Int)) (kt : a < b → sg_R w mi d mc ms Q tgt lv st h k n) (kf : ¬ a < b → sg_R w mi d mc ms Q (pc + 3) lv st h k n) : sg_R w mi d mc ms Q pc lv (sg_i b :: sg_i a :: st) h k n := by
  intro p e s m args below meth c H locs ls sv l hF hW hlv hL hs hR hO
  obtain ⟨y, t1, rfl, hy, h1⟩ := sg_vs_i hs
  obtain ⟨x, t2, rfl, hx, h2⟩ := sg_vs_i h1
  have e0 := sg_clt hx hy
  exact lv_icmp_lt hF.1 hF.2.1 hd ht (fun z => kt (e0.mp z) p e s m args below meth c H locs ls _ l hF hW hlv hL h2 hR hO) (fun z => kf (fun y => z (e0.mpr y)) p e s m args below meth c H locs ls _ l hF hW hlv hL h2 hR hO)

theorem sg_if_ge {a : Int} {off : Int} {tgt : Nat} (hd : decode mi.2.1 pc = .ok (.ifCond .ge off, 3)) (ht : (pc : Int) + off = (tgt : Int)) (kt : 0 ≤ a → sg_R w mi d mc ms Q tgt lv st h k n) (kf : ¬ 0 ≤ a → sg_R w mi d mc ms Q (pc + 3) lv st h k n) : sg_R w mi d mc ms Q pc lv (sg_i a :: st) h k n := by
  intro p e s m args below meth c H locs ls sv l hF hW hlv hL hs hR hO
  obtain ⟨x, t1, rfl, hx, h1⟩ := sg_vs_i hs
  have e0 := sg_cge hx (show (0 : Int32).toInt = 0 from rfl)
  exact lv_if_ge hF.1 hF.2.1 hd ht (fun z => kt (e0.mp z) p e s m args below meth c H locs ls _ l hF hW hlv hL h1 hR hO) (fun z => kf (fun y => z (e0.mpr y)) p e s m args below meth c H locs ls _ l hF hW hlv hL h1 hR hO)

theorem sg_icmp_ge {a b : Int} {off : Int} {tgt : Nat} (hd : decode mi.2.1 pc = .ok (.if_icmp .ge off, 3)) (ht : (pc : Int) + off = (tgt : Int)) (kt : b ≤ a → sg_R w mi d mc ms Q tgt lv st h k n) (kf : ¬ b ≤ a → sg_R w mi d mc ms Q (pc + 3) lv st h k n) : sg_R w mi d mc ms Q pc lv (sg_i b :: sg_i a :: st) h k n := by
  intro p e s m args below meth c H locs ls sv l hF hW hlv hL hs hR hO
  obtain ⟨y, t1, rfl, hy, h1⟩ := sg_vs_i hs
  obtain ⟨x, t2, rfl, hx, h2⟩ := sg_vs_i h1
  have e0 := sg_cge hx hy
  exact lv_icmp_ge hF.1 hF.2.1 hd ht (fun z => kt (e0.mp z) p e s m args below meth c H locs ls _ l hF hW hlv hL h2 hR hO) (fun z => kf (fun y => z (e0.mpr y)) p e s m args below meth c H locs ls _ l hF hW hlv hL h2 hR hO)

theorem sg_if_gt {a : Int} {off : Int} {tgt : Nat} (hd : decode mi.2.1 pc = .ok (.ifCond .gt off, 3)) (ht : (pc : Int) + off = (tgt : Int)) (kt : 0 < a → sg_R w mi d mc ms Q tgt lv st h k n) (kf : ¬ 0 < a → sg_R w mi d mc ms Q (pc + 3) lv st h k n) : sg_R w mi d mc ms Q pc lv (sg_i a :: st) h k n := by
  intro p e s m args below meth c H locs ls sv l hF hW hlv hL hs hR hO
  obtain ⟨x, t1, rfl, hx, h1⟩ := sg_vs_i hs
  have e0 := sg_cgt hx (show (0 : Int32).toInt = 0 from rfl)
  exact lv_if_gt hF.1 hF.2.1 hd ht (fun z => kt (e0.mp z) p e s m args below meth c H locs ls _ l hF hW hlv hL h1 hR hO) (fun z => kf (fun y => z (e0.mpr y)) p e s m args below meth c H locs ls _ l hF hW hlv hL h1 hR hO)

theorem sg_icmp_gt {a b : Int} {off : Int} {tgt : Nat} (hd : decode mi.2.1 pc = .ok (.if_icmp .gt off, 3)) (ht : (pc : Int) + off = (tgt : Int)) (kt : b < a → sg_R w mi d mc ms Q tgt lv st h k n) (kf : ¬ b < a → sg_R w mi d mc ms Q (pc + 3) lv st h k n) : sg_R w mi d mc ms Q pc lv (sg_i b :: sg_i a :: st) h k n := by
  intro p e s m args below meth c H locs ls sv l hF hW hlv hL hs hR hO
  obtain ⟨y, t1, rfl, hy, h1⟩ := sg_vs_i hs
  obtain ⟨x, t2, rfl, hx, h2⟩ := sg_vs_i h1
  have e0 := sg_cgt hx hy
  exact lv_icmp_gt hF.1 hF.2.1 hd ht (fun z => kt (e0.mp z) p e s m args below meth c H locs ls _ l hF hW hlv hL h2 hR hO) (fun z => kf (fun y => z (e0.mpr y)) p e s m args below meth c H locs ls _ l hF hW hlv hL h2 hR hO)

theorem sg_if_le {a : Int} {off : Int} {tgt : Nat} (hd : decode mi.2.1 pc = .ok (.ifCond .le off, 3)) (ht : (pc : Int) + off = (tgt : Int)) (kt : a ≤ 0 → sg_R w mi d mc ms Q tgt lv st h k n) (kf : ¬ a ≤ 0 → sg_R w mi d mc ms Q (pc + 3) lv st h k n) : sg_R w mi d mc ms Q pc lv (sg_i a :: st) h k n := by
  intro p e s m args below meth c H locs ls sv l hF hW hlv hL hs hR hO
  obtain ⟨x, t1, rfl, hx, h1⟩ := sg_vs_i hs
  have e0 := sg_cle hx (show (0 : Int32).toInt = 0 from rfl)
  exact lv_if_le hF.1 hF.2.1 hd ht (fun z => kt (e0.mp z) p e s m args below meth c H locs ls _ l hF hW hlv hL h1 hR hO) (fun z => kf (fun y => z (e0.mpr y)) p e s m args below meth c H locs ls _ l hF hW hlv hL h1 hR hO)

theorem sg_icmp_le {a b : Int} {off : Int} {tgt : Nat} (hd : decode mi.2.1 pc = .ok (.if_icmp .le off, 3)) (ht : (pc : Int) + off = (tgt : Int)) (kt : a ≤ b → sg_R w mi d mc ms Q tgt lv st h k n) (kf : ¬ a ≤ b → sg_R w mi d mc ms Q (pc + 3) lv st h k n) : sg_R w mi d mc ms Q pc lv (sg_i b :: sg_i a :: st) h k n := by
  intro p e s m args below meth c H locs ls sv l hF hW hlv hL hs hR hO
  obtain ⟨y, t1, rfl, hy, h1⟩ := sg_vs_i hs
  obtain ⟨x, t2, rfl, hx, h2⟩ := sg_vs_i h1
  have e0 := sg_cle hx hy
  exact lv_icmp_le hF.1 hF.2.1 hd ht (fun z => kt (e0.mp z) p e s m args below meth c H locs ls _ l hF hW hlv hL h2 hR hO) (fun z => kf (fun y => z (e0.mpr y)) p e s m args below meth c H locs ls _ l hF hW hlv hL h2 hR hO)

theorem sg_goto {off : Int} {tgt : Nat} (hd : decode mi.2.1 pc = .ok (.goto off, 3)) (ht : (pc : Int) + off = (tgt : Int)) (K : sg_R w mi d mc ms Q tgt lv st h k n) : sg_R w mi d mc ms Q pc lv st h k n := by
  intro p e s m args below meth c H locs ls sv l hF hW hlv hL hs hR hO
  refine lv_goto hF.1 hF.2.1 hd ht ?_
  exact K p e s m args below meth c H locs ls _ l hF hW hlv hL hs hR hO

theorem sg_dup {v : sg_V} (hd : decode mi.2.1 pc = .ok (.dup, 1)) (hv : sg_c2 v = false) (K : sg_R w mi d mc ms Q (pc + 1) lv (v :: v :: st) h k n) : sg_R w mi d mc ms Q pc lv (v :: st) h k n := by
  intro p e s m args below meth c H locs ls sv l hF hW hlv hL hs hR hO
  obtain ⟨x, t1, rfl, hx, h1⟩ := sg_vs_c hs
  refine lv_dup hF.1 hF.2.1 hd (sg_cat1 hx hv) ?_
  exact K p e s m args below meth c H locs ls _ l hF hW hlv hL ⟨hx, hx, h1⟩ hR hO

theorem sg_pop {v : sg_V} (hd : decode mi.2.1 pc = .ok (.pop, 1)) (hv : sg_c2 v = false) (K : sg_R w mi d mc ms Q (pc + 1) lv st h k n) : sg_R w mi d mc ms Q pc lv (v :: st) h k n := by
  intro p e s m args below meth c H locs ls sv l hF hW hlv hL hs hR hO
  obtain ⟨x, t1, rfl, hx, h1⟩ := sg_vs_c hs
  refine lv_pop hF.1 hF.2.1 hd (sg_cat1 hx hv) ?_
  exact K p e s m args below meth c H locs ls _ l hF hW hlv hL h1 hR hO

theorem sg_pop2 {z : Int} (hd : decode mi.2.1 pc = .ok (.pop2, 1)) (K : sg_R w mi d mc ms Q (pc + 1) lv st h k n) : sg_R w mi d mc ms Q pc lv (sg_l z :: st) h k n := by
  intro p e s m args below meth c H locs ls sv l hF hW hlv hL hs hR hO
  obtain ⟨x, t1, rfl, hx, h1⟩ := sg_vs_l hs
  refine lv_pop2_2 hF.1 hF.2.1 hd rfl ?_
  exact K p e s m args below meth c H locs ls _ l hF hW hlv hL h1 hR hO

theorem sg_dup_x1 {v u : sg_V} (hd : decode mi.2.1 pc = .ok (.dup_x1, 1)) (hv : sg_c2 v = false) (hu : sg_c2 u = false) (K : sg_R w mi d mc ms Q (pc + 1) lv (v :: u :: v :: st) h k n) : sg_R w mi d mc ms Q pc lv (v :: u :: st) h k n := by
  intro p e s m args below meth c H locs ls sv l hF hW hlv hL hs hR hO
  obtain ⟨x, t1, rfl, hx, h1⟩ := sg_vs_c hs
  obtain ⟨y, t2, rfl, hy, h2⟩ := sg_vs_c h1
  refine lv_dup_x1 hF.1 hF.2.1 hd (sg_cat1 hx hv) (sg_cat1 hy hu) ?_
  exact K p e s m args below meth c H locs ls _ l hF hW hlv hL ⟨hx, hy, hx, h2⟩ hR hO

theorem sg_dup2 {v u : sg_V} (hd : decode mi.2.1 pc = .ok (.dup2, 1)) (hv : sg_c2 v = false) (hu : sg_c2 u = false) (K : sg_R w mi d mc ms Q (pc + 1) lv (v :: u :: v :: u :: st) h k n) : sg_R w mi d mc ms Q pc lv (v :: u :: st) h k n := by
  intro p e s m args below meth c H locs ls sv l hF hW hlv hL hs hR hO
  obtain ⟨x, t1, rfl, hx, h1⟩ := sg_vs_c hs
  obtain ⟨y, t2, rfl, hy, h2⟩ := sg_vs_c h1
  refine lv_dup2_11 hF.1 hF.2.1 hd (sg_cat1 hx hv) (sg_cat1 hy hu) ?_
  exact K p e s m args below meth c H locs ls _ l hF hW hlv hL ⟨hx, hy, hx, hy, h2⟩ hR hO

theorem sg_tsIn {a dflt lo hi off : Int} {offs : Array Int} {len tgt : Nat} (hd : decode mi.2.1 pc = .ok (.tableswitch dflt lo hi offs, len)) (h1 : lo ≤ a) (h2 : a ≤ hi) (ho : offs[(a - lo).toNat]? = some off) (ht : (pc : Int) + off = (tgt : Int)) (K : sg_R w mi d mc ms Q tgt lv st h k n) : sg_R w mi d mc ms Q pc lv (sg_i a :: st) h k n := by
  intro p e s m args below meth c H locs ls sv l hF hW hlv hL hs hR hO
  obtain ⟨x, t1, rfl, hx, h3⟩ := sg_vs_i hs
  subst hx
  refine lv_tableIn hF.1 hF.2.1 hd (by omega) (by omega) ho ht ?_
  exact K p e s m args below meth c H locs ls _ l hF hW hlv hL h3 hR hO

theorem sg_tsOut {a dflt lo hi : Int} {offs : Array Int} {len tgt : Nat} (hd : decode mi.2.1 pc = .ok (.tableswitch dflt lo hi offs, len)) (h1 : a < lo ∨ hi < a) (ht : (pc : Int) + dflt = (tgt : Int)) (K : sg_R w mi d mc ms Q tgt lv st h k n) : sg_R w mi d mc ms Q pc lv (sg_i a :: st) h k n := by
  intro p e s m args below meth c H locs ls sv l hF hW hlv hL hs hR hO
  obtain ⟨x, t1, rfl, hx, h3⟩ := sg_vs_i hs
  subst hx
  refine lv_tableOut hF.1 hF.2.1 hd h1 ht ?_
  exact K p e s m args below meth c H locs ls _ l hF hW hlv hL h3 hR hO

theorem sg_null (hd : decode mi.2.1 pc = .ok (.aconst_null, 1)) (K : sg_R w mi d mc ms Q (pc + 1) lv (sg_n :: st) h k n) : sg_R w mi d mc ms Q pc lv st h k n := by
  intro p e s m args below meth c H locs ls sv l hF hW hlv hL hs hR hO
  refine lv_null hF.1 hF.2.1 hd ?_
  exact K p e s m args below meth c H locs ls _ l hF hW hlv hL ⟨rfl, hs⟩ hR hO

end

