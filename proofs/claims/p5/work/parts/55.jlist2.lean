theorem sg_el_up {h : sg_H} {n a t k : Nat} {vs vs' : List sg_V} {v : sg_V} (ha : h.2 a = some (t, vs)) (x : sg_el h k v) : sg_el (n, sg_up h.2 a (t, vs')) k v := by
  rcases x with x | ⟨x, y | ⟨q, u, us, y, z, e⟩⟩
  · exact Or.inl x
  · exact Or.inr ⟨x, Or.inl y⟩
  · by_cases c : q = a
    · subst c
      rw [ha] at z
      cases z
      exact Or.inr ⟨x, Or.inr ⟨q, t, vs', y, sg_up_s, e⟩⟩
    · exact Or.inr ⟨x, Or.inr ⟨q, u, us, y, (sg_up_n c).trans z, e⟩⟩
theorem sg_rmv {xs : List sg_V} {i s : Int} (h0 : 0 ≤ i) (h1 : s < (xs.length : Int)) (h2 : i ≤ s) : ((sg_cp xs xs (i + 1).toNat i.toNat (s - i).toNat).set s.toNat sg_n).length = xs.length ∧ ∀ j : Nat, (j : Int) < s → ((sg_cp xs xs (i + 1).toNat i.toNat (s - i).toNat).set s.toNat sg_n)[j]? = xs[if (j : Int) < i then j else j + 1]? := by
  refine ⟨by rw [List.length_set]; exact sg_cp_len, fun j hj => ?_⟩
  rw [List.getElem?_set_ne (by omega), sg_cp_at (by omega)]
  by_cases c : (j : Int) < i
  · rw [if_neg (by omega), if_pos c, List.getD_eq_getElem?_getD, List.getElem?_eq_getElem (by omega)]
    rfl
  · rw [if_pos (by omega), if_neg c, show (i + 1).toNat + (j - i.toNat) = j + 1 by omega, List.getD_eq_getElem?_getD, List.getElem?_eq_getElem (by omega)]
    rfl
theorem sg_rmv1 {xs : List sg_V} {s : Int} (h0 : 0 ≤ s) : (xs.set s.toNat sg_n).length = xs.length ∧ ∀ j : Nat, (j : Int) < s → (xs.set s.toNat sg_n)[j]? = xs[j]? :=
  ⟨by rw [List.length_set], fun j hj => List.getElem?_set_ne (by omega)⟩
set_option maxRecDepth 100000 in
theorem s_grD {w : sg_W} {Q : sg_O → sg_H → Prop} {h : sg_H} (g : sg_G w) {d : Nat} (hd : 2 ≤ d) {b E : Nat} {m sz : Int} (hb : h.2 b = some (2, [sg_i m, sg_r E, sg_i sz])) (hE : h.2 E = some (313, [])) (hZ : va_Z "java/util/ArrayList" "DEFAULTCAPACITY_EMPTY_ELEMENTDATA" "[Ljava/lang/Object;" (.ref E) (fun q => sg_b w ≤ q) w.2.1 w.2.1.heap) {z : Int} (z0 : 0 ≤ z) (z1 : z ≤ 10) (hQ : Q (.inl (some (sg_r h.1))) (h.1 + 1, sg_up (sg_up h.2 h.1 (113, List.replicate 10 sg_n)) b (2, [sg_i m, sg_r h.1, sg_i sz]))) : sg_C w mi_Jx4a65c_grow_92f84 d 1 10 [sg_r b, sg_i z] h Q := by
  refine sg_of pn_Jx4a65c (Nat.le_of_ble_eq_true rfl) ?_
  refine sg_frs (fun hf => ?_)
  have hbl := hf _ _ hb
  refine sg_aload_n (pc := 0) (j := 0) (dc_Jx4a65c_grow_92f84_0.1.1.1.1) rfl rfl ?_
  refine sg_getf (pc := 1) g (dc_Jx4a65c_grow_92f84_0.1.1.1.2) fk_Jx4a65c_9 hb rfl rfl ?_
  refine sg_alenN (N := 0) (pc := 4) (dc_Jx4a65c_grow_92f84_0.1.1.2.1) hE (by decide) rfl (by omega) ?_
  refine sg_istore_n (pc := 5) (j := 2) (dc_Jx4a65c_grow_92f84_0.1.1.2.2) rfl (by decide) ?_
  refine sg_iload_n (pc := 6) (j := 2) (dc_Jx4a65c_grow_92f84_0.1.2.1.1) rfl rfl ?_
  refine sg_if_gt (pc := 7) (tgt := 20) (dc_Jx4a65c_grow_92f84_0.1.2.1.2) (by decide) (fun cu => absurd cu (by omega)) (fun cu => ?_)
  refine sg_aload_n (pc := 10) (j := 0) (dc_Jx4a65c_grow_92f84_0.1.2.2.1) rfl rfl ?_
  refine sg_getf (pc := 11) g (dc_Jx4a65c_grow_92f84_0.1.2.2.2) fk_Jx4a65c_9 hb rfl rfl ?_
  refine sg_gets (v := sg_r E) (pc := 14) g (dc_Jx4a65c_grow_92f84_0.2.1.1.1) hZ rfl kl_Jx4a65c_39 ?_
  refine sg_acmp_eq (pc := 17) (tgt := 45) (dc_Jx4a65c_grow_92f84_0.2.1.1.2) (by decide) (fun c17 => ?_) (fun c17 => ?_)
  · refine sg_aload_n (pc := 45) (j := 0) (dc_Jx4a65c_grow_92f84_26.2.1.2.2) rfl rfl ?_
    refine sg_bipush (pc := 46) (z := 10) (dc_Jx4a65c_grow_92f84_26.2.2.1.1) (by decide) ?_
    refine sg_iload_n (pc := 48) (j := 1) (dc_Jx4a65c_grow_92f84_26.2.2.1.2) rfl rfl ?_
    refine sg_mmax (pc := 49) g (dc_Jx4a65c_grow_92f84_26.2.2.2.1) mx_Jx4a65c_79 mx_st mx_in mx_co (Nat.le_of_ble_eq_true rfl) (by omega) (by omega) (by omega) (fun z49 e49 => ?_)
    refine sg_anew (t := 113) (N := 10) (pc := 52) g (dc_Jx4a65c_grow_92f84_26.2.2.2.2) cl_Jx4a65c_7 av_113 rfl (by decide) (by decide) (by omega) (by omega) (by omega) (by omega) ?_
    try dsimp only
    refine sg_dup_x1 (pc := 55) (dc_Jx4a65c_grow_92f84_55.1.1) rfl rfl ?_
    refine sg_putf (pc := 56) g (dc_Jx4a65c_grow_92f84_55.1.2) fk_Jx4a65c_9 (by first | assumption | (repeat (first | with_reducible exact sg_up_s | with_reducible refine (sg_up_n (by omega)).trans ?_)) <;> assumption) sg_ft_a ?_
    try dsimp only
    refine sg_aret (pc := 59) (dc_Jx4a65c_grow_92f84_55.2.1) rfl (by first | exact Or.inl ⟨_, rfl⟩ | exact Or.inr ⟨_, rfl⟩) (by first | exact Nat.le_of_ble_eq_true rfl | omega) (by first | exact Nat.le_of_ble_eq_true rfl | omega) ?_
    exact hQ
  · exact absurd rfl c17

set_option maxRecDepth 100000 in
theorem s_grD0 {w : sg_W} {Q : sg_O → sg_H → Prop} {h : sg_H} (g : sg_G w) {d : Nat} (hd : 3 ≤ d) {b E : Nat} {m sz : Int} (hb : h.2 b = some (2, [sg_i m, sg_r E, sg_i sz])) (hE : h.2 E = some (313, [])) (hZ : va_Z "java/util/ArrayList" "DEFAULTCAPACITY_EMPTY_ELEMENTDATA" "[Ljava/lang/Object;" (.ref E) (fun q => sg_b w ≤ q) w.2.1 w.2.1.heap) (z0 : 0 ≤ sz) (z1 : sz ≤ 9) (hQ : Q (.inl (some (sg_r h.1))) (h.1 + 1, sg_up (sg_up h.2 h.1 (113, List.replicate 10 sg_n)) b (2, [sg_i m, sg_r h.1, sg_i sz]))) : sg_C w mi_Jx4a65c_grow_d5877 d 1 10 [sg_r b] h Q := by
  refine sg_of pn_Jx4a65c (Nat.le_of_ble_eq_true rfl) ?_
  refine sg_aload_n (pc := 0) (j := 0) (dc_Jx4a65c_grow_d5877_0.1.1.1) rfl rfl ?_
  refine sg_aload_n (pc := 1) (j := 0) (dc_Jx4a65c_grow_d5877_0.1.1.2) rfl rfl ?_
  refine sg_getf (pc := 2) g (dc_Jx4a65c_grow_d5877_0.1.2.1) fk_Jx4a65c_48 hb rfl rfl ?_
  refine sg_iconst (pc := 5) (z := 1) (dc_Jx4a65c_grow_d5877_0.1.2.2) (by decide) ?_
  first | refine sg_iaddB (pc := 6) (dc_Jx4a65c_grow_d5877_0.2.1.1) (by omega) (by omega) ?_ | refine sg_iadd (pc := 6) (dc_Jx4a65c_grow_d5877_0.2.1.1) ?_
  refine sg_cV1 (pc := 7) (d' := d - 1) (mc' := 1) (ms' := 10) g (dc_Jx4a65c_grow_d5877_0.2.1.2) cb_Jx4a65c_grow_92f84 ml_Jx4a65c_69 mn_Jx4a65c_grow_92f84 mv_Jx4a65c_grow_92f84 hb (Nat.le_of_ble_eq_true rfl) rfl (Nat.le_of_ble_eq_true rfl) (by first | exact jl_d0 hd rfl | omega) (by first | exact Nat.le_of_ble_eq_true rfl | omega) (by first | exact Nat.le_of_ble_eq_true rfl | omega) ?_
  refine s_grD g (by first | exact jl_d1 hd rfl | omega) hb hE hZ (by omega) (by omega) ?_
  refine sg_K1 ?_
  try dsimp only
  refine sg_aret (pc := 10) (dc_Jx4a65c_grow_d5877_0.2.2.1) rfl (by first | exact Or.inl ⟨_, rfl⟩ | exact Or.inr ⟨_, rfl⟩) (by first | exact Nat.le_of_ble_eq_true rfl | omega) (by first | exact Nat.le_of_ble_eq_true rfl | omega) ?_
  exact hQ

set_option maxRecDepth 100000 in
theorem s_grN {w : sg_W} {Q : sg_O → sg_H → Prop} {h : sg_H} (g : sg_G w) {d : Nat} (hd : 5 ≤ d) {qm : Nat} (hM : va_Mi "[Ljava/lang/Object;" qm w.2.1) {b E : Nat} {m sz : Int} (hb : h.2 b = some (2, [sg_i m, sg_r E, sg_i sz])) {xs : List sg_V} (hE : h.2 E = some (113, xs)) (l2 : 2 ≤ xs.length) (l3 : xs.length ≤ 200) (hel : ∀ i : Nat, i < xs.length → sg_el h 113 (xs.getD i sg_n)) {z : Int} (z1 : z = (xs.length : Int) + 1) (hQ : Q (.inl (some (sg_r h.1))) (h.1 + 1, sg_up (sg_up (sg_up h.2 h.1 (113, List.replicate (xs.length + xs.length / 2) sg_n)) h.1 (113, (sg_cp xs (List.replicate (xs.length + xs.length / 2) sg_n) 0 0 (min xs.length (xs.length + xs.length / 2))))) b (2, [sg_i m, sg_r h.1, sg_i sz]))) : sg_C w mi_Jx4a65c_grow_92f84 d 1 (xs.length + xs.length / 2) [sg_r b, sg_i z] h Q := by
  refine sg_of pn_Jx4a65c (Nat.le_of_ble_eq_true rfl) ?_
  refine sg_frs (fun hf => ?_)
  have hbl := hf _ _ hb
  refine sg_aload_n (pc := 0) (j := 0) (dc_Jx4a65c_grow_92f84_0.1.1.1.1) rfl rfl ?_
  refine sg_getf (pc := 1) g (dc_Jx4a65c_grow_92f84_0.1.1.1.2) fk_Jx4a65c_9 hb rfl rfl ?_
  refine sg_alen (pc := 4) (dc_Jx4a65c_grow_92f84_0.1.1.2.1) hE (Nat.le_of_ble_eq_true rfl) (by omega) ?_
  refine sg_istore_n (pc := 5) (j := 2) (dc_Jx4a65c_grow_92f84_0.1.1.2.2) rfl (by decide) ?_
  refine sg_iload_n (pc := 6) (j := 2) (dc_Jx4a65c_grow_92f84_0.1.2.1.1) rfl rfl ?_
  refine sg_if_gt (pc := 7) (tgt := 20) (dc_Jx4a65c_grow_92f84_0.1.2.1.2) (by decide) (fun cu => ?_) (fun cu => absurd cu (by omega))
  refine sg_iload_n (pc := 20) (j := 2) (dc_Jx4a65c_grow_92f84_0.2.1.2.1) rfl rfl ?_
  refine sg_iload_n (pc := 21) (j := 1) (dc_Jx4a65c_grow_92f84_0.2.1.2.2) rfl rfl ?_
  refine sg_iload_n (pc := 22) (j := 2) (dc_Jx4a65c_grow_92f84_0.2.2.1.1) rfl rfl ?_
  first | refine sg_isubB (pc := 23) (dc_Jx4a65c_grow_92f84_0.2.2.1.2) (by omega) (by omega) ?_ | refine sg_isub (pc := 23) (dc_Jx4a65c_grow_92f84_0.2.2.1.2) ?_
  refine sg_iload_n (pc := 24) (j := 2) (dc_Jx4a65c_grow_92f84_0.2.2.2.1) rfl rfl ?_
  refine sg_iconst (pc := 25) (z := 1) (dc_Jx4a65c_grow_92f84_0.2.2.2.2) (by decide) ?_
  first | refine sg_ishr0 (pc := 26) (dc_Jx4a65c_grow_92f84_26.1.1.1.1) (by omega) (by omega) ?_ | refine sg_ishr1 (pc := 26) (dc_Jx4a65c_grow_92f84_26.1.1.1.1) (by omega) (by omega) ?_ | refine sg_ishr (pc := 26) (dc_Jx4a65c_grow_92f84_26.1.1.1.1) ?_
  refine sg_cS3 (pc := 27) (d' := d - 1) (mc' := 0) (ms' := 0) g (dc_Jx4a65c_grow_92f84_26.1.1.1.2) cb_J8_newLength_cabcc ml_Jx4a65c_73 ms_J8_newLength_cabcc (Nat.le_of_ble_eq_true rfl) (by first | exact jl_d0 hd rfl | omega) (by first | exact Nat.le_of_ble_eq_true rfl | omega) (by first | exact Nat.le_of_ble_eq_true rfl | omega) ?_
  refine s_J8_newLength_cabcc g (by first | exact jl_d1 hd rfl | omega) (by omega) (fun z27 e27 => sg_K1 ?_)
  refine sg_istore_n (pc := 30) (j := 3) (dc_Jx4a65c_grow_92f84_26.1.1.2.1) rfl (by decide) ?_
  refine sg_aload_n (pc := 31) (j := 0) (dc_Jx4a65c_grow_92f84_26.1.1.2.2) rfl rfl ?_
  refine sg_aload_n (pc := 32) (j := 0) (dc_Jx4a65c_grow_92f84_26.1.2.1.1) rfl rfl ?_
  refine sg_getf (pc := 33) g (dc_Jx4a65c_grow_92f84_26.1.2.1.2) fk_Jx4a65c_9 hb rfl rfl ?_
  refine sg_iload_n (pc := 36) (j := 3) (dc_Jx4a65c_grow_92f84_26.1.2.2.1) rfl rfl ?_
  refine sg_cS2 (pc := 37) (d' := d - 1) (mc' := 1) (ms' := (xs.length + xs.length / 2)) g (dc_Jx4a65c_grow_92f84_26.1.2.2.2) cb_J7_copyOf_1904c ml_Jx4a65c_66 ms_J7_copyOf_1904c (Nat.le_of_ble_eq_true rfl) (by first | exact jl_d0 hd rfl | omega) (by first | exact Nat.le_of_ble_eq_true rfl | omega) (by first | exact Nat.le_of_ble_eq_true rfl | omega) ?_
  refine s_cp1 (N := (xs.length + xs.length / 2)) g (by first | exact jl_d1 hd rfl | omega) hM hE (hf _ _ hE) (fun y e he => Nat.ne_of_lt (hf y e he)) hel (by omega) (by omega) (by omega) ?_
  refine sg_K1 ?_
  try dsimp only
  refine sg_dup_x1 (pc := 40) (dc_Jx4a65c_grow_92f84_26.2.1.1.1) rfl rfl ?_
  refine sg_putf (pc := 41) g (dc_Jx4a65c_grow_92f84_26.2.1.1.2) fk_Jx4a65c_9 (by first | assumption | (repeat (first | with_reducible exact sg_up_s | with_reducible refine (sg_up_n (by omega)).trans ?_)) <;> assumption) sg_ft_a ?_
  try dsimp only
  refine sg_aret (pc := 44) (dc_Jx4a65c_grow_92f84_26.2.1.2.1) rfl (by first | exact Or.inl ⟨_, rfl⟩ | exact Or.inr ⟨_, rfl⟩) (by first | exact Nat.le_of_ble_eq_true rfl | omega) (by first | exact Nat.le_of_ble_eq_true rfl | omega) ?_
  exact hQ

set_option maxRecDepth 100000 in
theorem s_grN0 {w : sg_W} {Q : sg_O → sg_H → Prop} {h : sg_H} (g : sg_G w) {d : Nat} (hd : 6 ≤ d) {qm : Nat} (hM : va_Mi "[Ljava/lang/Object;" qm w.2.1) {b E : Nat} {m sz : Int} (hb : h.2 b = some (2, [sg_i m, sg_r E, sg_i sz])) {xs : List sg_V} (hE : h.2 E = some (113, xs)) (l2 : 2 ≤ xs.length) (l3 : xs.length ≤ 200) (hel : ∀ i : Nat, i < xs.length → sg_el h 113 (xs.getD i sg_n)) (z1 : sz = (xs.length : Int)) (hQ : Q (.inl (some (sg_r h.1))) (h.1 + 1, sg_up (sg_up (sg_up h.2 h.1 (113, List.replicate (xs.length + xs.length / 2) sg_n)) h.1 (113, (sg_cp xs (List.replicate (xs.length + xs.length / 2) sg_n) 0 0 (min xs.length (xs.length + xs.length / 2))))) b (2, [sg_i m, sg_r h.1, sg_i sz]))) : sg_C w mi_Jx4a65c_grow_d5877 d 1 (xs.length + xs.length / 2) [sg_r b] h Q := by
  refine sg_of pn_Jx4a65c (Nat.le_of_ble_eq_true rfl) ?_
  refine sg_aload_n (pc := 0) (j := 0) (dc_Jx4a65c_grow_d5877_0.1.1.1) rfl rfl ?_
  refine sg_aload_n (pc := 1) (j := 0) (dc_Jx4a65c_grow_d5877_0.1.1.2) rfl rfl ?_
  refine sg_getf (pc := 2) g (dc_Jx4a65c_grow_d5877_0.1.2.1) fk_Jx4a65c_48 hb rfl rfl ?_
  refine sg_iconst (pc := 5) (z := 1) (dc_Jx4a65c_grow_d5877_0.1.2.2) (by decide) ?_
  first | refine sg_iaddB (pc := 6) (dc_Jx4a65c_grow_d5877_0.2.1.1) (by omega) (by omega) ?_ | refine sg_iadd (pc := 6) (dc_Jx4a65c_grow_d5877_0.2.1.1) ?_
  refine sg_cV1 (pc := 7) (d' := d - 1) (mc' := 1) (ms' := (xs.length + xs.length / 2)) g (dc_Jx4a65c_grow_d5877_0.2.1.2) cb_Jx4a65c_grow_92f84 ml_Jx4a65c_69 mn_Jx4a65c_grow_92f84 mv_Jx4a65c_grow_92f84 hb (Nat.le_of_ble_eq_true rfl) rfl (Nat.le_of_ble_eq_true rfl) (by first | exact jl_d0 hd rfl | omega) (by first | exact Nat.le_of_ble_eq_true rfl | omega) (by first | exact Nat.le_of_ble_eq_true rfl | omega) ?_
  refine s_grN g (by first | exact jl_d1 hd rfl | omega) hM hb hE l2 l3 hel (by omega) ?_
  refine sg_K1 ?_
  try dsimp only
  refine sg_aret (pc := 10) (dc_Jx4a65c_grow_d5877_0.2.2.1) rfl (by first | exact Or.inl ⟨_, rfl⟩ | exact Or.inr ⟨_, rfl⟩) (by first | exact Nat.le_of_ble_eq_true rfl | omega) (by first | exact Nat.le_of_ble_eq_true rfl | omega) ?_
  exact hQ

set_option maxRecDepth 100000 in
theorem s_ad3R {w : sg_W} {Q : sg_O → sg_H → Prop} {h : sg_H} (g : sg_G w) {d : Nat} (hd : 2 ≤ d) {b E : Nat} {m sz : Int} (hb : h.2 b = some (2, [sg_i m, sg_r E, sg_i sz])) {xs : List sg_V} (hE : h.2 E = some (113, xs)) (s0 : 0 ≤ sz) (s1 : sz < (xs.length : Int)) (s2 : xs.length ≤ 1000) {x u : Nat} {us : List sg_V} (hx : h.2 x = some (u, us)) (nxb : x ≠ b) (has : sg_as 113 (u % 200)) (hwk : sg_wk u = false) (hQ : ∀ (f : Nat → Option sg_E), f b = some (2, [sg_i m, sg_r E, sg_i (sz + 1)]) → f E = some (113, xs.set sz.toNat (sg_r x)) → (∀ q, q ≠ b → q ≠ E → f q = h.2 q) → Q (.inl none) (h.1, f)) : sg_C w mi_Jx4a65c_add_72be8 d 0 0 [sg_r b, sg_r x, sg_r E, sg_i sz] h Q := by
  refine sg_of pn_Jx4a65c (Nat.le_of_ble_eq_true rfl) ?_
  have nbE : b ≠ E := fun q => by rw [q, hE] at hb; cases hb
  refine sg_iload_n (pc := 0) (j := 3) (dc_Jx4a65c_add_72be8_0.1.1.1.1) rfl rfl ?_
  refine sg_aload_n (pc := 1) (j := 2) (dc_Jx4a65c_add_72be8_0.1.1.1.2) rfl rfl ?_
  refine sg_alen (pc := 2) (dc_Jx4a65c_add_72be8_0.1.1.2.1) hE (Nat.le_of_ble_eq_true rfl) (by omega) ?_
  refine sg_icmp_ne (pc := 3) (tgt := 11) (dc_Jx4a65c_add_72be8_0.1.1.2.2) (by decide) (fun cu => ?_) (fun cu => absurd cu (by omega))
  refine sg_aload_n (pc := 11) (j := 2) (dc_Jx4a65c_add_72be8_0.1.2.2.2) rfl rfl ?_
  refine sg_iload_n (pc := 12) (j := 3) (dc_Jx4a65c_add_72be8_0.2.1.1.1) rfl rfl ?_
  refine sg_aload_n (pc := 13) (j := 1) (dc_Jx4a65c_add_72be8_0.2.1.1.2) rfl rfl ?_
  refine sg_aast (pc := 14) g (dc_Jx4a65c_add_72be8_0.2.1.2.1) hE hx (by decide) (by decide) has (by omega) (by first | (rw [List.length_replicate]; omega) | (rw [sg_cp_len, List.length_replicate]; omega) | omega) ?_
  try dsimp only
  refine sg_aload_n (pc := 15) (j := 0) (dc_Jx4a65c_add_72be8_0.2.1.2.2) rfl rfl ?_
  refine sg_iload_n (pc := 16) (j := 3) (dc_Jx4a65c_add_72be8_0.2.2.1.1) rfl rfl ?_
  refine sg_iconst (pc := 17) (z := 1) (dc_Jx4a65c_add_72be8_0.2.2.1.2) (by decide) ?_
  first | refine sg_iaddB (pc := 18) (dc_Jx4a65c_add_72be8_0.2.2.2.1) (by omega) (by omega) ?_ | refine sg_iadd (pc := 18) (dc_Jx4a65c_add_72be8_0.2.2.2.1) ?_
  refine sg_putf (pc := 19) g (dc_Jx4a65c_add_72be8_0.2.2.2.2) fk_Jx4a65c_48 (by first | assumption | (repeat (first | with_reducible exact sg_up_s | with_reducible refine (sg_up_n (by omega)).trans ?_)) <;> assumption) sg_ft_i ?_
  try dsimp only
  refine sg_vret (pc := 22) dc_Jx4a65c_add_72be8_22 rfl (by first | exact Nat.le_of_ble_eq_true rfl | omega) (by first | exact Nat.le_of_ble_eq_true rfl | omega) ?_
  refine hQ _ sg_up_s ?_ (fun q h1 h2 => ?_)
  · (repeat (with_reducible refine (sg_up_n (by omega)).trans ?_))
    exact sg_up_s
  · (repeat (with_reducible refine (sg_up_n (by omega)).trans ?_))
    rfl

set_option maxRecDepth 100000 in
theorem s_ad3D {w : sg_W} {Q : sg_O → sg_H → Prop} {h : sg_H} (g : sg_G w) {d : Nat} (hd : 4 ≤ d) {b E : Nat} {m sz : Int} (hb : h.2 b = some (2, [sg_i m, sg_r E, sg_i sz])) (hE : h.2 E = some (313, [])) (hZ : va_Z "java/util/ArrayList" "DEFAULTCAPACITY_EMPTY_ELEMENTDATA" "[Ljava/lang/Object;" (.ref E) (fun q => sg_b w ≤ q) w.2.1 w.2.1.heap) (s0 : sz = 0) {x u : Nat} {us : List sg_V} (hx : h.2 x = some (u, us)) (nxb : x ≠ b) (has : sg_as 113 (u % 200)) (hwk : sg_wk u = false) (hQ : ∀ (f : Nat → Option sg_E), f b = some (2, [sg_i m, sg_r h.1, sg_i (sz + 1)]) → f h.1 = some (113, (List.replicate 10 sg_n).set sz.toNat (sg_r x)) → (∀ q, q ≠ b → q ≠ h.1 → f q = h.2 q) → Q (.inl none) ((h.1 + 1), f)) : sg_C w mi_Jx4a65c_add_72be8 d 1 10 [sg_r b, sg_r x, sg_r E, sg_i sz] h Q := by
  refine sg_of pn_Jx4a65c (Nat.le_of_ble_eq_true rfl) ?_
  refine sg_frs (fun hf => ?_)
  have hbl := hf _ _ hb
  have nbE : b ≠ E := fun q => by rw [q, hE] at hb; cases hb
  have hxl := hf _ _ hx
  refine sg_iload_n (pc := 0) (j := 3) (dc_Jx4a65c_add_72be8_0.1.1.1.1) rfl rfl ?_
  refine sg_aload_n (pc := 1) (j := 2) (dc_Jx4a65c_add_72be8_0.1.1.1.2) rfl rfl ?_
  refine sg_alenN (N := 0) (pc := 2) (dc_Jx4a65c_add_72be8_0.1.1.2.1) hE (by decide) rfl (by omega) ?_
  refine sg_icmp_ne (pc := 3) (tgt := 11) (dc_Jx4a65c_add_72be8_0.1.1.2.2) (by decide) (fun cu => absurd cu (by omega)) (fun cu => ?_)
  refine sg_aload_n (pc := 6) (j := 0) (dc_Jx4a65c_add_72be8_0.1.2.1.1) rfl rfl ?_
  refine sg_cV0 (pc := 7) (d' := d - 1) (mc' := 1) (ms' := 10) g (dc_Jx4a65c_add_72be8_0.1.2.1.2) cb_Jx4a65c_grow_d5877 ml_Jx4a65c_129 mn_Jx4a65c_grow_d5877 mv_Jx4a65c_grow_d5877 hb (Nat.le_of_ble_eq_true rfl) rfl (Nat.le_of_ble_eq_true rfl) (by first | exact jl_d0 hd rfl | omega) (by first | exact Nat.le_of_ble_eq_true rfl | omega) (by first | exact Nat.le_of_ble_eq_true rfl | omega) ?_
  refine s_grD0 g (by first | exact jl_d1 hd rfl | omega) hb hE hZ (by omega) (by omega) ?_
  refine sg_K1 ?_
  try dsimp only
  refine sg_astore_n (pc := 10) (j := 2) (dc_Jx4a65c_add_72be8_0.1.2.2.1) rfl (by decide) ?_
  refine sg_aload_n (pc := 11) (j := 2) (dc_Jx4a65c_add_72be8_0.1.2.2.2) rfl rfl ?_
  refine sg_iload_n (pc := 12) (j := 3) (dc_Jx4a65c_add_72be8_0.2.1.1.1) rfl rfl ?_
  refine sg_aload_n (pc := 13) (j := 1) (dc_Jx4a65c_add_72be8_0.2.1.1.2) rfl rfl ?_
  refine sg_aast (pc := 14) g (dc_Jx4a65c_add_72be8_0.2.1.2.1) ((sg_up_n (by omega)).trans sg_up_s) ((sg_up_n (by omega)).trans ((sg_up_n (by omega)).trans hx)) (by decide) (by decide) has (by omega) (by first | (rw [List.length_replicate]; omega) | (rw [sg_cp_len, List.length_replicate]; omega) | omega) ?_
  try dsimp only
  refine sg_aload_n (pc := 15) (j := 0) (dc_Jx4a65c_add_72be8_0.2.1.2.2) rfl rfl ?_
  refine sg_iload_n (pc := 16) (j := 3) (dc_Jx4a65c_add_72be8_0.2.2.1.1) rfl rfl ?_
  refine sg_iconst (pc := 17) (z := 1) (dc_Jx4a65c_add_72be8_0.2.2.1.2) (by decide) ?_
  first | refine sg_iaddB (pc := 18) (dc_Jx4a65c_add_72be8_0.2.2.2.1) (by omega) (by omega) ?_ | refine sg_iadd (pc := 18) (dc_Jx4a65c_add_72be8_0.2.2.2.1) ?_
  refine sg_putf (pc := 19) g (dc_Jx4a65c_add_72be8_0.2.2.2.2) fk_Jx4a65c_48 (by first | assumption | (repeat (first | with_reducible exact sg_up_s | with_reducible refine (sg_up_n (by omega)).trans ?_)) <;> assumption) sg_ft_i ?_
  try dsimp only
  refine sg_vret (pc := 22) dc_Jx4a65c_add_72be8_22 rfl (by first | exact Nat.le_of_ble_eq_true rfl | omega) (by first | exact Nat.le_of_ble_eq_true rfl | omega) ?_
  refine hQ _ sg_up_s ?_ (fun q h1 h2 => ?_)
  · (repeat (with_reducible refine (sg_up_n (by omega)).trans ?_))
    exact sg_up_s
  · (repeat (with_reducible refine (sg_up_n (by omega)).trans ?_))
    rfl

set_option maxRecDepth 100000 in
theorem s_ad3N {w : sg_W} {Q : sg_O → sg_H → Prop} {h : sg_H} (g : sg_G w) {d : Nat} (hd : 7 ≤ d) {qm : Nat} (hM : va_Mi "[Ljava/lang/Object;" qm w.2.1) {b E : Nat} {m sz : Int} (hb : h.2 b = some (2, [sg_i m, sg_r E, sg_i sz])) {xs : List sg_V} (hE : h.2 E = some (113, xs)) (l2 : 2 ≤ xs.length) (l3 : xs.length ≤ 200) (hel : ∀ i : Nat, i < xs.length → sg_el h 113 (xs.getD i sg_n)) (s0 : sz = (xs.length : Int)) {x u : Nat} {us : List sg_V} (hx : h.2 x = some (u, us)) (nxb : x ≠ b) (has : sg_as 113 (u % 200)) (hwk : sg_wk u = false) (hQ : ∀ (f : Nat → Option sg_E), f b = some (2, [sg_i m, sg_r h.1, sg_i (sz + 1)]) → f h.1 = some (113, (sg_cp xs (List.replicate (xs.length + xs.length / 2) sg_n) 0 0 (min xs.length (xs.length + xs.length / 2))).set sz.toNat (sg_r x)) → (∀ q, q ≠ b → q ≠ h.1 → f q = h.2 q) → Q (.inl none) ((h.1 + 1), f)) : sg_C w mi_Jx4a65c_add_72be8 d 1 (xs.length + xs.length / 2) [sg_r b, sg_r x, sg_r E, sg_i sz] h Q := by
  refine sg_of pn_Jx4a65c (Nat.le_of_ble_eq_true rfl) ?_
  refine sg_frs (fun hf => ?_)
  have hbl := hf _ _ hb
  have nbE : b ≠ E := fun q => by rw [q, hE] at hb; cases hb
  have hxl := hf _ _ hx
  refine sg_iload_n (pc := 0) (j := 3) (dc_Jx4a65c_add_72be8_0.1.1.1.1) rfl rfl ?_
  refine sg_aload_n (pc := 1) (j := 2) (dc_Jx4a65c_add_72be8_0.1.1.1.2) rfl rfl ?_
  refine sg_alen (pc := 2) (dc_Jx4a65c_add_72be8_0.1.1.2.1) hE (Nat.le_of_ble_eq_true rfl) (by omega) ?_
  refine sg_icmp_ne (pc := 3) (tgt := 11) (dc_Jx4a65c_add_72be8_0.1.1.2.2) (by decide) (fun cu => absurd cu (by omega)) (fun cu => ?_)
  refine sg_aload_n (pc := 6) (j := 0) (dc_Jx4a65c_add_72be8_0.1.2.1.1) rfl rfl ?_
  refine sg_cV0 (pc := 7) (d' := d - 1) (mc' := 1) (ms' := (xs.length + xs.length / 2)) g (dc_Jx4a65c_add_72be8_0.1.2.1.2) cb_Jx4a65c_grow_d5877 ml_Jx4a65c_129 mn_Jx4a65c_grow_d5877 mv_Jx4a65c_grow_d5877 hb (Nat.le_of_ble_eq_true rfl) rfl (Nat.le_of_ble_eq_true rfl) (by first | exact jl_d0 hd rfl | omega) (by first | exact Nat.le_of_ble_eq_true rfl | omega) (by first | exact Nat.le_of_ble_eq_true rfl | omega) ?_
  refine s_grN0 g (by first | exact jl_d1 hd rfl | omega) hM hb hE l2 l3 hel (by omega) ?_
  refine sg_K1 ?_
  try dsimp only
  refine sg_astore_n (pc := 10) (j := 2) (dc_Jx4a65c_add_72be8_0.1.2.2.1) rfl (by decide) ?_
  refine sg_aload_n (pc := 11) (j := 2) (dc_Jx4a65c_add_72be8_0.1.2.2.2) rfl rfl ?_
  refine sg_iload_n (pc := 12) (j := 3) (dc_Jx4a65c_add_72be8_0.2.1.1.1) rfl rfl ?_
  refine sg_aload_n (pc := 13) (j := 1) (dc_Jx4a65c_add_72be8_0.2.1.1.2) rfl rfl ?_
  refine sg_aast (pc := 14) g (dc_Jx4a65c_add_72be8_0.2.1.2.1) ((sg_up_n (by omega)).trans sg_up_s) ((sg_up_n (by omega)).trans ((sg_up_n (by omega)).trans ((sg_up_n (by omega)).trans hx))) (by decide) (by decide) has (by omega) (by first | (rw [List.length_replicate]; omega) | (rw [sg_cp_len, List.length_replicate]; omega) | omega) ?_
  try dsimp only
  refine sg_aload_n (pc := 15) (j := 0) (dc_Jx4a65c_add_72be8_0.2.1.2.2) rfl rfl ?_
  refine sg_iload_n (pc := 16) (j := 3) (dc_Jx4a65c_add_72be8_0.2.2.1.1) rfl rfl ?_
  refine sg_iconst (pc := 17) (z := 1) (dc_Jx4a65c_add_72be8_0.2.2.1.2) (by decide) ?_
  first | refine sg_iaddB (pc := 18) (dc_Jx4a65c_add_72be8_0.2.2.2.1) (by omega) (by omega) ?_ | refine sg_iadd (pc := 18) (dc_Jx4a65c_add_72be8_0.2.2.2.1) ?_
  refine sg_putf (pc := 19) g (dc_Jx4a65c_add_72be8_0.2.2.2.2) fk_Jx4a65c_48 (by first | assumption | (repeat (first | with_reducible exact sg_up_s | with_reducible refine (sg_up_n (by omega)).trans ?_)) <;> assumption) sg_ft_i ?_
  try dsimp only
  refine sg_vret (pc := 22) dc_Jx4a65c_add_72be8_22 rfl (by first | exact Nat.le_of_ble_eq_true rfl | omega) (by first | exact Nat.le_of_ble_eq_true rfl | omega) ?_
  refine hQ _ sg_up_s ?_ (fun q h1 h2 => ?_)
  · (repeat (with_reducible refine (sg_up_n (by omega)).trans ?_))
    exact sg_up_s
  · (repeat (with_reducible refine (sg_up_n (by omega)).trans ?_))
    rfl

set_option maxRecDepth 100000 in
theorem s_al_addR {w : sg_W} {Q : sg_O → sg_H → Prop} {h : sg_H} (g : sg_G w) {d : Nat} (hd : 3 ≤ d) {b E : Nat} {m sz : Int} (hb : h.2 b = some (2, [sg_i m, sg_r E, sg_i sz])) {xs : List sg_V} (hE : h.2 E = some (113, xs)) (s0 : 0 ≤ sz) (s1 : sz < (xs.length : Int)) (s2 : xs.length ≤ 1000) {x u : Nat} {us : List sg_V} (hx : h.2 x = some (u, us)) (nxb : x ≠ b) (has : sg_as 113 (u % 200)) (hwk : sg_wk u = false) (hQ : ∀ (m1 : Int) (f : Nat → Option sg_E), f b = some (2, [sg_i m1, sg_r E, sg_i (sz + 1)]) → f E = some (113, xs.set sz.toNat (sg_r x)) → (∀ q, q ≠ b → q ≠ E → f q = h.2 q) → Q (.inl (some (sg_i 1))) (h.1, f)) : sg_C w mi_Jx4a65c_add_9ea2d d 0 0 [sg_r b, sg_r x] h Q := by
  refine sg_of pn_Jx4a65c (Nat.le_of_ble_eq_true rfl) ?_
  have nbE : b ≠ E := fun q => by rw [q, hE] at hb; cases hb
  refine sg_aload_n (pc := 0) (j := 0) (dc_Jx4a65c_add_9ea2d_0.1.1.1.1) rfl rfl ?_
  refine sg_dup (pc := 1) (dc_Jx4a65c_add_9ea2d_0.1.1.1.2) rfl ?_
  refine sg_getf (pc := 2) g (dc_Jx4a65c_add_9ea2d_0.1.1.2.1) fk_Jx4a65c_63 hb rfl rfl ?_
  refine sg_iconst (pc := 5) (z := 1) (dc_Jx4a65c_add_9ea2d_0.1.1.2.2) (by decide) ?_
  first | refine sg_iaddB (pc := 6) (dc_Jx4a65c_add_9ea2d_0.1.2.1.1) (by omega) (by omega) ?_ | refine sg_iadd (pc := 6) (dc_Jx4a65c_add_9ea2d_0.1.2.1.1) ?_
  refine sg_putf (pc := 7) g (dc_Jx4a65c_add_9ea2d_0.1.2.1.2) fk_Jx4a65c_63 hb sg_ft_i ?_
  try dsimp only
  refine sg_aload_n (pc := 10) (j := 0) (dc_Jx4a65c_add_9ea2d_0.1.2.2.1) rfl rfl ?_
  refine sg_aload_n (pc := 11) (j := 1) (dc_Jx4a65c_add_9ea2d_0.1.2.2.2) rfl rfl ?_
  refine sg_aload_n (pc := 12) (j := 0) (dc_Jx4a65c_add_9ea2d_0.2.1.1.1) rfl rfl ?_
  refine sg_getf (pc := 13) g (dc_Jx4a65c_add_9ea2d_0.2.1.1.2) fk_Jx4a65c_9 (by first | assumption | (repeat (first | with_reducible exact sg_up_s | with_reducible refine (sg_up_n (by omega)).trans ?_)) <;> assumption) (by rfl) (by rfl) ?_
  refine sg_aload_n (pc := 16) (j := 0) (dc_Jx4a65c_add_9ea2d_0.2.1.2.1) rfl rfl ?_
  refine sg_getf (pc := 17) g (dc_Jx4a65c_add_9ea2d_0.2.1.2.2) fk_Jx4a65c_48 (by first | assumption | (repeat (first | with_reducible exact sg_up_s | with_reducible refine (sg_up_n (by omega)).trans ?_)) <;> assumption) (by rfl) (by rfl) ?_
  refine sg_cV3 (pc := 20) (d' := d - 1) (mc' := 0) (ms' := 0) g (dc_Jx4a65c_add_9ea2d_0.2.2.1.1) cb_Jx4a65c_add_72be8 ml_Jx4a65c_131 mn_Jx4a65c_add_72be8 mv_Jx4a65c_add_72be8 (by first | assumption | (repeat (first | with_reducible exact sg_up_s | with_reducible refine (sg_up_n (by omega)).trans ?_)) <;> assumption) (Nat.le_of_ble_eq_true rfl) rfl (Nat.le_of_ble_eq_true rfl) (by first | exact jl_d0 hd rfl | omega) (by first | exact Nat.le_of_ble_eq_true rfl | omega) (by first | exact Nat.le_of_ble_eq_true rfl | omega) ?_
  refine s_ad3R g (by first | exact jl_d1 hd rfl | omega) sg_up_s ((sg_up_n (Ne.symm nbE)).trans hE) s0 s1 s2 ((sg_up_n nxb).trans hx) nxb has hwk (fun f f1 f2 f3 => ?_)
  refine sg_K0 ?_
  try dsimp only
  refine sg_iconst (pc := 23) (z := 1) (dc_Jx4a65c_add_9ea2d_0.2.2.1.2) (by decide) ?_
  refine sg_zret (pc := 24) (dc_Jx4a65c_add_9ea2d_0.2.2.2.1) rfl (by first | exact Or.inl rfl | exact Or.inr rfl | omega | assumption) (by first | exact Nat.le_of_ble_eq_true rfl | omega) (by first | exact Nat.le_of_ble_eq_true rfl | omega) ?_
  exact hQ _ f f1 f2 (fun q h1 h2 => (f3 q h1 h2).trans (sg_up_n h1))

set_option maxRecDepth 100000 in
theorem s_al_addD {w : sg_W} {Q : sg_O → sg_H → Prop} {h : sg_H} (g : sg_G w) {d : Nat} (hd : 5 ≤ d) {b E : Nat} {m sz : Int} (hb : h.2 b = some (2, [sg_i m, sg_r E, sg_i sz])) (hE : h.2 E = some (313, [])) (hZ : va_Z "java/util/ArrayList" "DEFAULTCAPACITY_EMPTY_ELEMENTDATA" "[Ljava/lang/Object;" (.ref E) (fun q => sg_b w ≤ q) w.2.1 w.2.1.heap) (s0 : sz = 0) {x u : Nat} {us : List sg_V} (hx : h.2 x = some (u, us)) (nxb : x ≠ b) (has : sg_as 113 (u % 200)) (hwk : sg_wk u = false) (hQ : ∀ (m1 : Int) (f : Nat → Option sg_E), f b = some (2, [sg_i m1, sg_r h.1, sg_i (sz + 1)]) → f h.1 = some (113, (List.replicate 10 sg_n).set sz.toNat (sg_r x)) → (∀ q, q ≠ b → q ≠ h.1 → f q = h.2 q) → Q (.inl (some (sg_i 1))) ((h.1 + 1), f)) : sg_C w mi_Jx4a65c_add_9ea2d d 1 10 [sg_r b, sg_r x] h Q := by
  refine sg_of pn_Jx4a65c (Nat.le_of_ble_eq_true rfl) ?_
  have nbE : b ≠ E := fun q => by rw [q, hE] at hb; cases hb
  refine sg_aload_n (pc := 0) (j := 0) (dc_Jx4a65c_add_9ea2d_0.1.1.1.1) rfl rfl ?_
  refine sg_dup (pc := 1) (dc_Jx4a65c_add_9ea2d_0.1.1.1.2) rfl ?_
  refine sg_getf (pc := 2) g (dc_Jx4a65c_add_9ea2d_0.1.1.2.1) fk_Jx4a65c_63 hb rfl rfl ?_
  refine sg_iconst (pc := 5) (z := 1) (dc_Jx4a65c_add_9ea2d_0.1.1.2.2) (by decide) ?_
  first | refine sg_iaddB (pc := 6) (dc_Jx4a65c_add_9ea2d_0.1.2.1.1) (by omega) (by omega) ?_ | refine sg_iadd (pc := 6) (dc_Jx4a65c_add_9ea2d_0.1.2.1.1) ?_
  refine sg_putf (pc := 7) g (dc_Jx4a65c_add_9ea2d_0.1.2.1.2) fk_Jx4a65c_63 hb sg_ft_i ?_
  try dsimp only
  refine sg_aload_n (pc := 10) (j := 0) (dc_Jx4a65c_add_9ea2d_0.1.2.2.1) rfl rfl ?_
  refine sg_aload_n (pc := 11) (j := 1) (dc_Jx4a65c_add_9ea2d_0.1.2.2.2) rfl rfl ?_
  refine sg_aload_n (pc := 12) (j := 0) (dc_Jx4a65c_add_9ea2d_0.2.1.1.1) rfl rfl ?_
  refine sg_getf (pc := 13) g (dc_Jx4a65c_add_9ea2d_0.2.1.1.2) fk_Jx4a65c_9 (by first | assumption | (repeat (first | with_reducible exact sg_up_s | with_reducible refine (sg_up_n (by omega)).trans ?_)) <;> assumption) (by rfl) (by rfl) ?_
  refine sg_aload_n (pc := 16) (j := 0) (dc_Jx4a65c_add_9ea2d_0.2.1.2.1) rfl rfl ?_
  refine sg_getf (pc := 17) g (dc_Jx4a65c_add_9ea2d_0.2.1.2.2) fk_Jx4a65c_48 (by first | assumption | (repeat (first | with_reducible exact sg_up_s | with_reducible refine (sg_up_n (by omega)).trans ?_)) <;> assumption) (by rfl) (by rfl) ?_
  refine sg_cV3 (pc := 20) (d' := d - 1) (mc' := 1) (ms' := 10) g (dc_Jx4a65c_add_9ea2d_0.2.2.1.1) cb_Jx4a65c_add_72be8 ml_Jx4a65c_131 mn_Jx4a65c_add_72be8 mv_Jx4a65c_add_72be8 (by first | assumption | (repeat (first | with_reducible exact sg_up_s | with_reducible refine (sg_up_n (by omega)).trans ?_)) <;> assumption) (Nat.le_of_ble_eq_true rfl) rfl (Nat.le_of_ble_eq_true rfl) (by first | exact jl_d0 hd rfl | omega) (by first | exact Nat.le_of_ble_eq_true rfl | omega) (by first | exact Nat.le_of_ble_eq_true rfl | omega) ?_
  refine s_ad3D g (by first | exact jl_d1 hd rfl | omega) sg_up_s ((sg_up_n (Ne.symm nbE)).trans hE) hZ s0 ((sg_up_n nxb).trans hx) nxb has hwk (fun f f1 f2 f3 => ?_)
  refine sg_K0 ?_
  try dsimp only
  refine sg_iconst (pc := 23) (z := 1) (dc_Jx4a65c_add_9ea2d_0.2.2.1.2) (by decide) ?_
  refine sg_zret (pc := 24) (dc_Jx4a65c_add_9ea2d_0.2.2.2.1) rfl (by first | exact Or.inl rfl | exact Or.inr rfl | omega | assumption) (by first | exact Nat.le_of_ble_eq_true rfl | omega) (by first | exact Nat.le_of_ble_eq_true rfl | omega) ?_
  exact hQ _ f f1 f2 (fun q h1 h2 => (f3 q h1 h2).trans (sg_up_n h1))

set_option maxRecDepth 100000 in
theorem s_al_addN {w : sg_W} {Q : sg_O → sg_H → Prop} {h : sg_H} (g : sg_G w) {d : Nat} (hd : 8 ≤ d) {qm : Nat} (hM : va_Mi "[Ljava/lang/Object;" qm w.2.1) {b E : Nat} {m sz : Int} (hb : h.2 b = some (2, [sg_i m, sg_r E, sg_i sz])) {xs : List sg_V} (hE : h.2 E = some (113, xs)) (l2 : 2 ≤ xs.length) (l3 : xs.length ≤ 200) (hel : ∀ i : Nat, i < xs.length → sg_el h 113 (xs.getD i sg_n)) (s0 : sz = (xs.length : Int)) {x u : Nat} {us : List sg_V} (hx : h.2 x = some (u, us)) (nxb : x ≠ b) (has : sg_as 113 (u % 200)) (hwk : sg_wk u = false) (hQ : ∀ (m1 : Int) (f : Nat → Option sg_E), f b = some (2, [sg_i m1, sg_r h.1, sg_i (sz + 1)]) → f h.1 = some (113, (sg_cp xs (List.replicate (xs.length + xs.length / 2) sg_n) 0 0 (min xs.length (xs.length + xs.length / 2))).set sz.toNat (sg_r x)) → (∀ q, q ≠ b → q ≠ h.1 → f q = h.2 q) → Q (.inl (some (sg_i 1))) ((h.1 + 1), f)) : sg_C w mi_Jx4a65c_add_9ea2d d 1 (xs.length + xs.length / 2) [sg_r b, sg_r x] h Q := by
  refine sg_of pn_Jx4a65c (Nat.le_of_ble_eq_true rfl) ?_
  have nbE : b ≠ E := fun q => by rw [q, hE] at hb; cases hb
  refine sg_aload_n (pc := 0) (j := 0) (dc_Jx4a65c_add_9ea2d_0.1.1.1.1) rfl rfl ?_
  refine sg_dup (pc := 1) (dc_Jx4a65c_add_9ea2d_0.1.1.1.2) rfl ?_
  refine sg_getf (pc := 2) g (dc_Jx4a65c_add_9ea2d_0.1.1.2.1) fk_Jx4a65c_63 hb rfl rfl ?_
  refine sg_iconst (pc := 5) (z := 1) (dc_Jx4a65c_add_9ea2d_0.1.1.2.2) (by decide) ?_
  first | refine sg_iaddB (pc := 6) (dc_Jx4a65c_add_9ea2d_0.1.2.1.1) (by omega) (by omega) ?_ | refine sg_iadd (pc := 6) (dc_Jx4a65c_add_9ea2d_0.1.2.1.1) ?_
  refine sg_putf (pc := 7) g (dc_Jx4a65c_add_9ea2d_0.1.2.1.2) fk_Jx4a65c_63 hb sg_ft_i ?_
  try dsimp only
  refine sg_aload_n (pc := 10) (j := 0) (dc_Jx4a65c_add_9ea2d_0.1.2.2.1) rfl rfl ?_
  refine sg_aload_n (pc := 11) (j := 1) (dc_Jx4a65c_add_9ea2d_0.1.2.2.2) rfl rfl ?_
  refine sg_aload_n (pc := 12) (j := 0) (dc_Jx4a65c_add_9ea2d_0.2.1.1.1) rfl rfl ?_
  refine sg_getf (pc := 13) g (dc_Jx4a65c_add_9ea2d_0.2.1.1.2) fk_Jx4a65c_9 (by first | assumption | (repeat (first | with_reducible exact sg_up_s | with_reducible refine (sg_up_n (by omega)).trans ?_)) <;> assumption) (by rfl) (by rfl) ?_
  refine sg_aload_n (pc := 16) (j := 0) (dc_Jx4a65c_add_9ea2d_0.2.1.2.1) rfl rfl ?_
  refine sg_getf (pc := 17) g (dc_Jx4a65c_add_9ea2d_0.2.1.2.2) fk_Jx4a65c_48 (by first | assumption | (repeat (first | with_reducible exact sg_up_s | with_reducible refine (sg_up_n (by omega)).trans ?_)) <;> assumption) (by rfl) (by rfl) ?_
  refine sg_cV3 (pc := 20) (d' := d - 1) (mc' := 1) (ms' := (xs.length + xs.length / 2)) g (dc_Jx4a65c_add_9ea2d_0.2.2.1.1) cb_Jx4a65c_add_72be8 ml_Jx4a65c_131 mn_Jx4a65c_add_72be8 mv_Jx4a65c_add_72be8 (by first | assumption | (repeat (first | with_reducible exact sg_up_s | with_reducible refine (sg_up_n (by omega)).trans ?_)) <;> assumption) (Nat.le_of_ble_eq_true rfl) rfl (Nat.le_of_ble_eq_true rfl) (by first | exact jl_d0 hd rfl | omega) (by first | exact Nat.le_of_ble_eq_true rfl | omega) (by first | exact Nat.le_of_ble_eq_true rfl | omega) ?_
  refine s_ad3N g (by first | exact jl_d1 hd rfl | omega) hM sg_up_s ((sg_up_n (Ne.symm nbE)).trans hE) l2 l3 (fun i hi => sg_el_up hb (hel i hi)) s0 ((sg_up_n nxb).trans hx) nxb has hwk (fun f f1 f2 f3 => ?_)
  refine sg_K0 ?_
  try dsimp only
  refine sg_iconst (pc := 23) (z := 1) (dc_Jx4a65c_add_9ea2d_0.2.2.1.2) (by decide) ?_
  refine sg_zret (pc := 24) (dc_Jx4a65c_add_9ea2d_0.2.2.2.1) rfl (by first | exact Or.inl rfl | exact Or.inr rfl | omega | assumption) (by first | exact Nat.le_of_ble_eq_true rfl | omega) (by first | exact Nat.le_of_ble_eq_true rfl | omega) ?_
  exact hQ _ f f1 f2 (fun q h1 h2 => (f3 q h1 h2).trans (sg_up_n h1))

set_option maxRecDepth 100000 in
theorem s_fr {w : sg_W} {Q : sg_O → sg_H → Prop} {h : sg_H} (g : sg_G w) {d : Nat} (hd : 2 ≤ d) {b E : Nat} {m sz : Int} (hb : h.2 b = some (2, [sg_i m, sg_r E, sg_i sz])) {xs : List sg_V} (hE : h.2 E = some (113, xs)) {i : Int} (i0 : 0 ≤ i) (i1 : i < sz) (i2 : sz ≤ (xs.length : Int)) (l3 : xs.length ≤ 200) (hel : ∀ i : Nat, (i : Int) < sz → sg_el h 113 (xs.getD i sg_n)) (hQ : ∀ (m1 : Int) (f : Nat → Option sg_E) (ys : List sg_V), f b = some (2, [sg_i m1, sg_r E, sg_i (sz - 1)]) → f E = some (113, ys) → ys.length = xs.length → (∀ j : Nat, (j : Int) < sz - 1 → ys[j]? = xs[if (j : Int) < i then j else j + 1]?) → (∀ q, q ≠ b → q ≠ E → f q = h.2 q) → Q (.inl none) (h.1, f)) : sg_C w mi_Jx4a65c_fastRemove_b59b0 d 0 0 [sg_r b, sg_r E, sg_i i] h Q := by
  refine sg_of pn_Jx4a65c (Nat.le_of_ble_eq_true rfl) ?_
  have nbE : b ≠ E := fun q => by rw [q, hE] at hb; cases hb
  have nEb := Ne.symm nbE
  refine sg_aload_n (pc := 0) (j := 0) (dc_Jx4a65c_fastRemove_b59b0_0.1.1.1.1) rfl rfl ?_
  refine sg_dup (pc := 1) (dc_Jx4a65c_fastRemove_b59b0_0.1.1.1.2) rfl ?_
  refine sg_getf (pc := 2) g (dc_Jx4a65c_fastRemove_b59b0_0.1.1.2.1) fk_Jx4a65c_63 hb rfl rfl ?_
  refine sg_iconst (pc := 5) (z := 1) (dc_Jx4a65c_fastRemove_b59b0_0.1.1.2.2) (by decide) ?_
  first | refine sg_iaddB (pc := 6) (dc_Jx4a65c_fastRemove_b59b0_0.1.2.1.1) (by omega) (by omega) ?_ | refine sg_iadd (pc := 6) (dc_Jx4a65c_fastRemove_b59b0_0.1.2.1.1) ?_
  refine sg_putf (pc := 7) g (dc_Jx4a65c_fastRemove_b59b0_0.1.2.1.2) fk_Jx4a65c_63 hb sg_ft_i ?_
  try dsimp only
  refine sg_aload_n (pc := 10) (j := 0) (dc_Jx4a65c_fastRemove_b59b0_0.1.2.2.1) rfl rfl ?_
  refine sg_getf (pc := 11) g (dc_Jx4a65c_fastRemove_b59b0_0.1.2.2.2) fk_Jx4a65c_48 (by first | assumption | (repeat (first | with_reducible exact sg_up_s | with_reducible refine (sg_up_n (by omega)).trans ?_)) <;> assumption) (by rfl) (by rfl) ?_
  refine sg_iconst (pc := 14) (z := 1) (dc_Jx4a65c_fastRemove_b59b0_0.2.1.1.1) (by decide) ?_
  first | refine sg_isubB (pc := 15) (dc_Jx4a65c_fastRemove_b59b0_0.2.1.1.2) (by omega) (by omega) ?_ | refine sg_isub (pc := 15) (dc_Jx4a65c_fastRemove_b59b0_0.2.1.1.2) ?_
  refine sg_dup (pc := 16) (dc_Jx4a65c_fastRemove_b59b0_0.2.1.2.1) rfl ?_
  refine sg_istore_n (pc := 17) (j := 3) (dc_Jx4a65c_fastRemove_b59b0_0.2.1.2.2) rfl (by decide) ?_
  refine sg_iload_n (pc := 18) (j := 2) (dc_Jx4a65c_fastRemove_b59b0_0.2.2.1.1) rfl rfl ?_
  refine sg_icmp_le (pc := 19) (tgt := 34) (dc_Jx4a65c_fastRemove_b59b0_0.2.2.1.2) (by decide) (fun c19 => ?_) (fun c19 => ?_)
  · refine sg_aload_n (pc := 34) (j := 1) (dc_Jx4a65c_fastRemove_b59b0_24.2.1.1.1) rfl rfl ?_
    refine sg_aload_n (pc := 35) (j := 0) (dc_Jx4a65c_fastRemove_b59b0_24.2.1.1.2) rfl rfl ?_
    refine sg_iload_n (pc := 36) (j := 3) (dc_Jx4a65c_fastRemove_b59b0_24.2.1.2.1) rfl rfl ?_
    refine sg_dup_x1 (pc := 37) (dc_Jx4a65c_fastRemove_b59b0_24.2.1.2.2) rfl rfl ?_
    refine sg_putf (pc := 38) g (dc_Jx4a65c_fastRemove_b59b0_24.2.2.1.1) fk_Jx4a65c_48 (by first | assumption | (repeat (first | with_reducible exact sg_up_s | with_reducible refine (sg_up_n (by omega)).trans ?_)) <;> assumption) sg_ft_i ?_
    try dsimp only
    refine sg_null (pc := 41) (dc_Jx4a65c_fastRemove_b59b0_24.2.2.1.2) ?_
    refine sg_aastN (pc := 42) (dc_Jx4a65c_fastRemove_b59b0_24.2.2.2.1) (by first | assumption | (repeat (first | with_reducible exact sg_up_s | with_reducible refine (sg_up_n (by omega)).trans ?_)) <;> assumption) (by omega) (by first | omega | (rw [sg_cp_len]; omega)) ?_
    try dsimp only
    refine sg_vret (pc := 43) (dc_Jx4a65c_fastRemove_b59b0_24.2.2.2.2) rfl (by first | exact Nat.le_of_ble_eq_true rfl | omega) (by first | exact Nat.le_of_ble_eq_true rfl | omega) ?_
    first
    | (obtain ⟨r1, r2⟩ := sg_rmv (xs := xs) (i := i) (s := sz - 1) (by omega) (by omega) (by omega)
       refine hQ (sg_w (m + 1)) _ _ ?_ sg_up_s r1 r2 (fun q h1 h2 => ?_)
       · (repeat (with_reducible refine (sg_up_n (by omega)).trans ?_))
         exact sg_up_s
       · (repeat (with_reducible refine (sg_up_n (by omega)).trans ?_))
         rfl)
    | (obtain ⟨r1, r2⟩ := sg_rmv1 (xs := xs) (s := sz - 1) (by omega)
       refine hQ (sg_w (m + 1)) _ _ ?_ sg_up_s r1 (fun j hj => (r2 j hj).trans (by rw [if_pos (by omega)])) (fun q h1 h2 => ?_)
       · (repeat (with_reducible refine (sg_up_n (by omega)).trans ?_))
         exact sg_up_s
       · (repeat (with_reducible refine (sg_up_n (by omega)).trans ?_))
         rfl)
  · refine sg_aload_n (pc := 22) (j := 1) (dc_Jx4a65c_fastRemove_b59b0_0.2.2.2.1) rfl rfl ?_
    refine sg_iload_n (pc := 23) (j := 2) (dc_Jx4a65c_fastRemove_b59b0_0.2.2.2.2) rfl rfl ?_
    refine sg_iconst (pc := 24) (z := 1) (dc_Jx4a65c_fastRemove_b59b0_24.1.1.1.1) (by decide) ?_
    first | refine sg_iaddB (pc := 25) (dc_Jx4a65c_fastRemove_b59b0_24.1.1.1.2) (by omega) (by omega) ?_ | refine sg_iadd (pc := 25) (dc_Jx4a65c_fastRemove_b59b0_24.1.1.1.2) ?_
    refine sg_aload_n (pc := 26) (j := 1) (dc_Jx4a65c_fastRemove_b59b0_24.1.1.2.1) rfl rfl ?_
    refine sg_iload_n (pc := 27) (j := 2) (dc_Jx4a65c_fastRemove_b59b0_24.1.1.2.2) rfl rfl ?_
    refine sg_iload_n (pc := 28) (j := 3) (dc_Jx4a65c_fastRemove_b59b0_24.1.2.1.1) rfl rfl ?_
    refine sg_iload_n (pc := 29) (j := 2) (dc_Jx4a65c_fastRemove_b59b0_24.1.2.1.2) rfl rfl ?_
    first | refine sg_isubB (pc := 30) (dc_Jx4a65c_fastRemove_b59b0_24.1.2.2.1) (by omega) (by omega) ?_ | refine sg_isub (pc := 30) (dc_Jx4a65c_fastRemove_b59b0_24.1.2.2.1) ?_
    refine sg_copy (pc := 31) g (dc_Jx4a65c_fastRemove_b59b0_24.1.2.2.2) ml_Jx4a65c_112 ma_st ma_na ma_in ((sg_up_n (Ne.symm nbE)).trans hE) ((sg_up_n (Ne.symm nbE)).trans hE) (by decide) (by decide) (by decide) (by omega) (by omega) (by omega) (by omega) (by omega) (fun j hj => sg_el_up hb (hel _ (by omega))) (Nat.le_of_ble_eq_true rfl) (by omega) ?_
    try dsimp only
    refine sg_aload_n (pc := 34) (j := 1) (dc_Jx4a65c_fastRemove_b59b0_24.2.1.1.1) rfl rfl ?_
    refine sg_aload_n (pc := 35) (j := 0) (dc_Jx4a65c_fastRemove_b59b0_24.2.1.1.2) rfl rfl ?_
    refine sg_iload_n (pc := 36) (j := 3) (dc_Jx4a65c_fastRemove_b59b0_24.2.1.2.1) rfl rfl ?_
    refine sg_dup_x1 (pc := 37) (dc_Jx4a65c_fastRemove_b59b0_24.2.1.2.2) rfl rfl ?_
    refine sg_putf (pc := 38) g (dc_Jx4a65c_fastRemove_b59b0_24.2.2.1.1) fk_Jx4a65c_48 (by first | assumption | (repeat (first | with_reducible exact sg_up_s | with_reducible refine (sg_up_n (by omega)).trans ?_)) <;> assumption) sg_ft_i ?_
    try dsimp only
    refine sg_null (pc := 41) (dc_Jx4a65c_fastRemove_b59b0_24.2.2.1.2) ?_
    refine sg_aastN (pc := 42) (dc_Jx4a65c_fastRemove_b59b0_24.2.2.2.1) (by first | assumption | (repeat (first | with_reducible exact sg_up_s | with_reducible refine (sg_up_n (by omega)).trans ?_)) <;> assumption) (by omega) (by first | omega | (rw [sg_cp_len]; omega)) ?_
    try dsimp only
    refine sg_vret (pc := 43) (dc_Jx4a65c_fastRemove_b59b0_24.2.2.2.2) rfl (by first | exact Nat.le_of_ble_eq_true rfl | omega) (by first | exact Nat.le_of_ble_eq_true rfl | omega) ?_
    first
    | (obtain ⟨r1, r2⟩ := sg_rmv (xs := xs) (i := i) (s := sz - 1) (by omega) (by omega) (by omega)
       refine hQ (sg_w (m + 1)) _ _ ?_ sg_up_s r1 r2 (fun q h1 h2 => ?_)
       · (repeat (with_reducible refine (sg_up_n (by omega)).trans ?_))
         exact sg_up_s
       · (repeat (with_reducible refine (sg_up_n (by omega)).trans ?_))
         rfl)
    | (obtain ⟨r1, r2⟩ := sg_rmv1 (xs := xs) (s := sz - 1) (by omega)
       refine hQ (sg_w (m + 1)) _ _ ?_ sg_up_s r1 (fun j hj => (r2 j hj).trans (by rw [if_pos (by omega)])) (fun q h1 h2 => ?_)
       · (repeat (with_reducible refine (sg_up_n (by omega)).trans ?_))
         exact sg_up_s
       · (repeat (with_reducible refine (sg_up_n (by omega)).trans ?_))
         rfl)

set_option maxRecDepth 100000 in
theorem s_al_remove {w : sg_W} {Q : sg_O → sg_H → Prop} {h : sg_H} (g : sg_G w) {d : Nat} (hd : 4 ≤ d) {b E : Nat} {m sz : Int} (hb : h.2 b = some (2, [sg_i m, sg_r E, sg_i sz])) {xs : List sg_V} (hE : h.2 E = some (113, xs)) {i : Int} (i0 : 0 ≤ i) (i1 : i < sz) (i2 : sz ≤ (xs.length : Int)) (l3 : xs.length ≤ 200) (hel : ∀ i : Nat, (i : Int) < sz → sg_el h 113 (xs.getD i sg_n)) {R : Nat} (hv : xs[i.toNat]? = some (sg_r R)) (hQ : ∀ (m1 : Int) (f : Nat → Option sg_E) (ys : List sg_V), f b = some (2, [sg_i m1, sg_r E, sg_i (sz - 1)]) → f E = some (113, ys) → ys.length = xs.length → (∀ j : Nat, (j : Int) < sz - 1 → ys[j]? = xs[if (j : Int) < i then j else j + 1]?) → (∀ q, q ≠ b → q ≠ E → f q = h.2 q) → Q (.inl (some (sg_r R))) (h.1, f)) : sg_C w mi_Jx4a65c_remove_915e3 d 0 0 [sg_r b, sg_i i] h Q := by
  refine sg_of pn_Jx4a65c (Nat.le_of_ble_eq_true rfl) ?_
  refine sg_iload_n (pc := 0) (j := 1) (dc_Jx4a65c_remove_915e3_0.1.1.1.1) rfl rfl ?_
  refine sg_aload_n (pc := 1) (j := 0) (dc_Jx4a65c_remove_915e3_0.1.1.1.2) rfl rfl ?_
  refine sg_getf (pc := 2) g (dc_Jx4a65c_remove_915e3_0.1.1.2.1) fk_Jx4a65c_48 hb rfl rfl ?_
  refine sg_cS2 (pc := 5) (d' := d - 1) (mc' := 0) (ms' := 0) g (dc_Jx4a65c_remove_915e3_0.1.1.2.2) cb_J15_checkIndex_7cf53 ml_Jx4a65c_118 ms_J15_checkIndex_7cf53 (Nat.le_of_ble_eq_true rfl) (by first | exact jl_d0 hd rfl | omega) (by first | exact Nat.le_of_ble_eq_true rfl | omega) (by first | exact Nat.le_of_ble_eq_true rfl | omega) ?_
  refine s_J15_checkIndex_7cf53 g (by first | exact jl_d1 hd rfl | omega) (by omega) (by omega) ?_
  refine sg_K1 ?_
  refine sg_pop (pc := 8) (dc_Jx4a65c_remove_915e3_0.1.2.1.1) rfl ?_
  refine sg_aload_n (pc := 9) (j := 0) (dc_Jx4a65c_remove_915e3_0.1.2.1.2) rfl rfl ?_
  refine sg_getf (pc := 10) g (dc_Jx4a65c_remove_915e3_0.1.2.2.1) fk_Jx4a65c_9 hb rfl rfl ?_
  refine sg_astore_n (pc := 13) (j := 2) (dc_Jx4a65c_remove_915e3_0.1.2.2.2) rfl (by decide) ?_
  refine sg_aload_n (pc := 14) (j := 2) (dc_Jx4a65c_remove_915e3_0.2.1.1.1) rfl rfl ?_
  refine sg_iload_n (pc := 15) (j := 1) (dc_Jx4a65c_remove_915e3_0.2.1.1.2) rfl rfl ?_
  refine sg_aald (pc := 16) (dc_Jx4a65c_remove_915e3_0.2.1.2.1) hE (by decide) (by omega) hv ?_
  refine sg_astore_n (pc := 17) (j := 3) (dc_Jx4a65c_remove_915e3_0.2.1.2.2) rfl (by decide) ?_
  refine sg_aload_n (pc := 18) (j := 0) (dc_Jx4a65c_remove_915e3_0.2.2.1.1) rfl rfl ?_
  refine sg_aload_n (pc := 19) (j := 2) (dc_Jx4a65c_remove_915e3_0.2.2.1.2) rfl rfl ?_
  refine sg_iload_n (pc := 20) (j := 1) (dc_Jx4a65c_remove_915e3_0.2.2.2.1) rfl rfl ?_
  refine sg_cV2 (pc := 21) (d' := d - 1) (mc' := 0) (ms' := 0) g (dc_Jx4a65c_remove_915e3_0.2.2.2.2) cb_Jx4a65c_fastRemove_b59b0 ml_Jx4a65c_144 mn_Jx4a65c_fastRemove_b59b0 mv_Jx4a65c_fastRemove_b59b0 hb (Nat.le_of_ble_eq_true rfl) rfl (Nat.le_of_ble_eq_true rfl) (by first | exact jl_d0 hd rfl | omega) (by first | exact Nat.le_of_ble_eq_true rfl | omega) (by first | exact Nat.le_of_ble_eq_true rfl | omega) ?_
  refine s_fr g (by first | exact jl_d1 hd rfl | omega) hb hE i0 i1 i2 l3 hel (fun m1 f ys f1 f2 f3 f4 f5 => ?_)
  refine sg_K0 ?_
  try dsimp only
  refine sg_aload_n (pc := 24) (j := 3) (dc_Jx4a65c_remove_915e3_24.1) rfl rfl ?_
  refine sg_aret (pc := 25) (dc_Jx4a65c_remove_915e3_24.2) rfl (by first | exact Or.inl ⟨_, rfl⟩ | exact Or.inr ⟨_, rfl⟩) (by first | exact Nat.le_of_ble_eq_true rfl | omega) (by first | exact Nat.le_of_ble_eq_true rfl | omega) ?_
  exact hQ m1 f ys f1 f2 f3 f4 f5

