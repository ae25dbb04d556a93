set_option maxRecDepth 100000 in
theorem s_grD0 {w : sg_W} {Q : sg_O → sg_H → Prop} {h : sg_H} (g : sg_G w) {d : Nat} (hd : 3 ≤ d) {b E : Nat} {m sz : Int} (hb : h.2 b = some (2, [sg_i m, sg_r E, sg_i sz])) (hE : h.2 E = some (313, [])) (hZ : va_Z "java/util/ArrayList" "DEFAULTCAPACITY_EMPTY_ELEMENTDATA" "[Ljava/lang/Object;" (.ref E) (fun q => sg_b w ≤ q) w.2.1 w.2.1.heap) (z0 : 0 ≤ sz) (z1 : sz ≤ 9) (hQ : Q (.inl (some (sg_r h.1))) (h.1 + 1, sg_up (sg_up h.2 h.1 (113, List.replicate 10 sg_n)) b (2, [sg_i m, sg_r h.1, sg_i sz]))) : sg_C w mi_Jx4a65c_grow_d5877 d 1 10 [sg_r b] h Q := by
  refine sg_of pn_Jx4a65c (Nat.le_of_ble_eq_true rfl) ?_
  refine sg_aload_n (pc := 0) (j := 0) (dc_Jx4a65c_grow_d5877_0.1.1.1) rfl rfl ?_
  refine sg_aload_n (pc := 1) (j := 0) (dc_Jx4a65c_grow_d5877_0.1.1.2) rfl rfl ?_
  refine sg_getf (pc := 2) g (dc_Jx4a65c_grow_d5877_0.1.2.1) fk_Jx4a65c_48 hb rfl rfl ?_
  refine sg_iconst (pc := 5) (z := 1) (dc_Jx4a65c_grow_d5877_0.1.2.2) (by decide) ?_
  first | refine sg_iaddB (pc := 6) (dc_Jx4a65c_grow_d5877_0.2.1.1) (by omega) (by omega) ?_ | refine sg_iadd (pc := 6) (dc_Jx4a65c_grow_d5877_0.2.1.1) ?_
  refine sg_cV1 (pc := 7) (d' := d - 1) (mc' := 1) (ms' := 10) g (dc_Jx4a65c_grow_d5877_0.2.1.2) cb_Jx4a65c_grow_92f84 ml_Jx4a65c_69 mn_Jx4a65c_grow_92f84 mv_Jx4a65c_grow_92f84 hb (Nat.le_of_ble_eq_true rfl) rfl (Nat.le_of_ble_eq_true rfl) (by first | exact jl_d0 hd rfl | omega) (by first | exact Nat.le_of_ble_eq_true rfl | omega) (by first | exact Nat.le_of_ble_eq_true rfl | omega) ?_
  refine s_grD g (by first | exact jl_d1 hd rfl | omega) hb hE hZ (by omega) (by omega) ?_
  refine sg_K1 ?_
  try dsimp only
  refine sg_aret (pc := 10) (dc_Jx4a65c_grow_d5877_0.2.2.1) rfl (by first | exact Or.inl ⟨_, rfl⟩ | exact Or.inr ⟨_, rfl⟩) (by first | exact Nat.le_of_ble_eq_true rfl | omega) (by first | exact Nat.le_of_ble_eq_true rfl | omega) ?_
  exact hQ

set_option maxRecDepth 100000 in
theorem s_grN {w : sg_W} {Q : sg_O → sg_H → Prop} {h : sg_H} (g : sg_G w) {d : Nat} (hd : 5 ≤ d) {qm : Nat} (hM : va_Mi "[Ljava/lang/Object;" qm w.2.1) {b E : Nat} {m sz : Int} (hb : h.2 b = some (2, [sg_i m, sg_r E, sg_i sz])) {xs : List sg_V} (hE : h.2 E = some (113, xs)) (l2 : 2 ≤ xs.length) (l3 : xs.length ≤ 200) (hel : ∀ i : Nat, i < xs.length → sg_el h 113 (xs.getD i sg_n)) {z : Int} (z1 : z = (xs.length : Int) + 1) (hQ : Q (.inl (some (sg_r h.1))) (h.1 + 1, sg_up (sg_up (sg_up h.2 h.1 (113, List.replicate (xs.length + xs.length / 2) sg_n)) h.1 (113, (sg_cp xs (List.replicate (xs.length + xs.length / 2) sg_n) 0 0 (min xs.length (xs.length + xs.length / 2))))) b (2, [sg_i m, sg_r h.1, sg_i sz]))) : sg_C w mi_Jx4a65c_grow_92f84 d 1 (xs.length + xs.length / 2) [sg_r b, sg_i z] h Q := by
  refine sg_of pn_Jx4a65c (Nat.le_of_ble_eq_true rfl) ?_
  refine sg_frs (fun hf => ?_)
  have hbl := hf _ _ hb
  refine sg_aload_n (pc := 0) (j := 0) (dc_Jx4a65c_grow_92f84_0.1.1.1.1) rfl rfl ?_
  refine sg_getf (pc := 1) g (dc_Jx4a65c_grow_92f84_0.1.1.1.2) fk_Jx4a65c_9 hb rfl rfl ?_
  refine sg_alen (pc := 4) (dc_Jx4a65c_grow_92f84_0.1.1.2.1) hE (Nat.le_of_ble_eq_true rfl) (by omega) ?_
  refine sg_istore_n (pc := 5) (j := 2) (dc_Jx4a65c_grow_92f84_0.1.1.2.2) rfl (by decide) ?_
  refine sg_iload_n (pc := 6) (j := 2) (dc_Jx4a65c_grow_92f84_0.1.2.1.1) rfl rfl ?_
  refine sg_if_gt (pc := 7) (tgt := 20) (dc_Jx4a65c_grow_92f84_0.1.2.1.2) (by decide) (fun cu => ?_) (fun cu => absurd cu (by omega))
  refine sg_iload_n (pc := 20) (j := 2) (dc_Jx4a65c_grow_92f84_0.2.1.2.1) rfl rfl ?_
  refine sg_iload_n (pc := 21) (j := 1) (dc_Jx4a65c_grow_92f84_0.2.1.2.2) rfl rfl ?_
  refine sg_iload_n (pc := 22) (j := 2) (dc_Jx4a65c_grow_92f84_0.2.2.1.1) rfl rfl ?_
  first | refine sg_isubB (pc := 23) (dc_Jx4a65c_grow_92f84_0.2.2.1.2) (by omega) (by omega) ?_ | refine sg_isub (pc := 23) (dc_Jx4a65c_grow_92f84_0.2.2.1.2) ?_
  refine sg_iload_n (pc := 24) (j := 2) (dc_Jx4a65c_grow_92f84_0.2.2.2.1) rfl rfl ?_
  refine sg_iconst (pc := 25) (z := 1) (dc_Jx4a65c_grow_92f84_0.2.2.2.2) (by decide) ?_
  first | refine sg_ishr0 (pc := 26) (dc_Jx4a65c_grow_92f84_26.1.1.1.1) (by omega) (by omega) ?_ | refine sg_ishr1 (pc := 26) (dc_Jx4a65c_grow_92f84_26.1.1.1.1) (by omega) (by omega) ?_ | refine sg_ishr (pc := 26) (dc_Jx4a65c_grow_92f84_26.1.1.1.1) ?_
  refine sg_cS3 (pc := 27) (d' := d - 1) (mc' := 0) (ms' := 0) g (dc_Jx4a65c_grow_92f84_26.1.1.1.2) cb_J8_newLength_cabcc ml_Jx4a65c_73 ms_J8_newLength_cabcc (Nat.le_of_ble_eq_true rfl) (by first | exact jl_d0 hd rfl | omega) (by first | exact Nat.le_of_ble_eq_true rfl | omega) (by first | exact Nat.le_of_ble_eq_true rfl | omega) ?_
  refine s_J8_newLength_cabcc g (by first | exact jl_d1 hd rfl | omega) (by omega) (fun z27 e27 => sg_K1 ?_)
  refine sg_istore_n (pc := 30) (j := 3) (dc_Jx4a65c_grow_92f84_26.1.1.2.1) rfl (by decide) ?_
  refine sg_aload_n (pc := 31) (j := 0) (dc_Jx4a65c_grow_92f84_26.1.1.2.2) rfl rfl ?_
  refine sg_aload_n (pc := 32) (j := 0) (dc_Jx4a65c_grow_92f84_26.1.2.1.1) rfl rfl ?_
  refine sg_getf (pc := 33) g (dc_Jx4a65c_grow_92f84_26.1.2.1.2) fk_Jx4a65c_9 hb rfl rfl ?_
  refine sg_iload_n (pc := 36) (j := 3) (dc_Jx4a65c_grow_92f84_26.1.2.2.1) rfl rfl ?_
  refine sg_cS2 (pc := 37) (d' := d - 1) (mc' := 1) (ms' := (xs.length + xs.length / 2)) g (dc_Jx4a65c_grow_92f84_26.1.2.2.2) cb_J7_copyOf_1904c ml_Jx4a65c_66 ms_J7_copyOf_1904c (Nat.le_of_ble_eq_true rfl) (by first | exact jl_d0 hd rfl | omega) (by first | exact Nat.le_of_ble_eq_true rfl | omega) (by first | exact Nat.le_of_ble_eq_true rfl | omega) ?_
  refine s_cp1 (N := (xs.length + xs.length / 2)) g (by first | exact jl_d1 hd rfl | omega) hM hE (hf _ _ hE) (fun y e he => Nat.ne_of_lt (hf y e he)) hel (by omega) (by omega) (by omega) ?_
  refine sg_K1 ?_
  try dsimp only
  refine sg_dup_x1 (pc := 40) (dc_Jx4a65c_grow_92f84_26.2.1.1.1) rfl rfl ?_
  refine sg_putf (pc := 41) g (dc_Jx4a65c_grow_92f84_26.2.1.1.2) fk_Jx4a65c_9 (by first | assumption | (repeat (first | with_reducible exact sg_up_s | with_reducible refine (sg_up_n (by omega)).trans ?_)) <;> assumption) sg_ft_a ?_
  try dsimp only
  refine sg_aret (pc := 44) (dc_Jx4a65c_grow_92f84_26.2.1.2.1) rfl (by first | exact Or.inl ⟨_, rfl⟩ | exact Or.inr ⟨_, rfl⟩) (by first | exact Nat.le_of_ble_eq_true rfl | omega) (by first | exact Nat.le_of_ble_eq_true rfl | omega) ?_
  exact hQ

