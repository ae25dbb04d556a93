theorem sg_rmv1 {xs : List sg_V} {s : Int} (h0 : 0 ≤ s) : (xs.set s.toNat sg_n).length = xs.length ∧ ∀ j : Nat, (j : Int) < s → (xs.set s.toNat sg_n)[j]? = xs[j]? :=
  ⟨by rw [List.length_set], fun j hj => List.getElem?_set_ne (by omega)⟩
set_option maxRecDepth 100000 in
theorem s_grD {w : sg_W} {Q : sg_O → sg_H → Prop} {h : sg_H} (g : sg_G w) {d : Nat} (hd : 2 ≤ d) {b E : Nat} {m sz : Int} (hb : h.2 b = some (2, [sg_i m, sg_r E, sg_i sz])) (hE : h.2 E = some (313, [])) (hZ : va_Z "java/util/ArrayList" "DEFAULTCAPACITY_EMPTY_ELEMENTDATA" "[Ljava/lang/Object;" (.ref E) (fun q => sg_b w ≤ q) w.2.1 w.2.1.heap) {z : Int} (z0 : 0 ≤ z) (z1 : z ≤ 10) (hQ : Q (.inl (some (sg_r h.1))) (h.1 + 1, sg_up (sg_up h.2 h.1 (113, List.replicate 10 sg_n)) b (2, [sg_i m, sg_r h.1, sg_i sz]))) : sg_C w mi_Jx4a65c_grow_92f84 d 1 10 [sg_r b, sg_i z] h Q := by
  refine sg_of pn_Jx4a65c (Nat.le_of_ble_eq_true rfl) ?_
  refine sg_frs (fun hf => ?_)
  have hbl := hf _ _ hb
  refine sg_aload_n (pc := 0) (j := 0) (dc_Jx4a65c_grow_92f84_0.1.1.1.1) rfl rfl ?_
  refine sg_getf (pc := 1) g (dc_Jx4a65c_grow_92f84_0.1.1.1.2) fk_Jx4a65c_9 hb rfl rfl ?_
  refine sg_alenN (N := 0) (pc := 4) (dc_Jx4a65c_grow_92f84_0.1.1.2.1) hE (by decide) rfl (by omega) ?_
  refine sg_istore_n (pc := 5) (j := 2) (dc_Jx4a65c_grow_92f84_0.1.1.2.2) rfl (by decide) ?_
  refine sg_iload_n (pc := 6) (j := 2) (dc_Jx4a65c_grow_92f84_0.1.2.1.1) rfl rfl ?_
  refine sg_if_gt (pc := 7) (tgt := 20) (dc_Jx4a65c_grow_92f84_0.1.2.1.2) (by decide) (fun cu => absurd cu (by omega)) (fun cu => ?_)
  refine sg_aload_n (pc := 10) (j := 0) (dc_Jx4a65c_grow_92f84_0.1.2.2.1) rfl rfl ?_
  refine sg_getf (pc := 11) g (dc_Jx4a65c_grow_92f84_0.1.2.2.2) fk_Jx4a65c_9 hb rfl rfl ?_
  refine sg_gets (v := sg_r E) (pc := 14) g (dc_Jx4a65c_grow_92f84_0.2.1.1.1) hZ rfl kl_Jx4a65c_39 ?_
  refine sg_acmp_eq (pc := 17) (tgt := 45) (dc_Jx4a65c_grow_92f84_0.2.1.1.2) (by decide) (fun c17 => ?_) (fun c17 => ?_)
  · refine sg_aload_n (pc := 45) (j := 0) (dc_Jx4a65c_grow_92f84_26.2.1.2.2) rfl rfl ?_
    refine sg_bipush (pc := 46) (z := 10) (dc_Jx4a65c_grow_92f84_26.2.2.1.1) (by decide) ?_
    refine sg_iload_n (pc := 48) (j := 1) (dc_Jx4a65c_grow_92f84_26.2.2.1.2) rfl rfl ?_
    refine sg_mmax (pc := 49) g (dc_Jx4a65c_grow_92f84_26.2.2.2.1) mx_Jx4a65c_79 mx_st mx_in mx_co (Nat.le_of_ble_eq_true rfl) (by omega) (by omega) (by omega) (fun z49 e49 => ?_)
    refine sg_anew (t := 113) (N := 10) (pc := 52) g (dc_Jx4a65c_grow_92f84_26.2.2.2.2) cl_Jx4a65c_7 av_113 rfl (by decide) (by decide) (by omega) (by omega) (by omega) (by omega) ?_
    try dsimp only
    refine sg_dup_x1 (pc := 55) (dc_Jx4a65c_grow_92f84_55.1.1) rfl rfl ?_
    refine sg_putf (pc := 56) g (dc_Jx4a65c_grow_92f84_55.1.2) fk_Jx4a65c_9 (by first | assumption | (repeat (first | with_reducible exact sg_up_s | with_reducible refine (sg_up_n (by omega)).trans ?_)) <;> assumption) sg_ft_a ?_
    try dsimp only
    refine sg_aret (pc := 59) (dc_Jx4a65c_grow_92f84_55.2.1) rfl (by first | exact Or.inl ⟨_, rfl⟩ | exact Or.inr ⟨_, rfl⟩) (by first | exact Nat.le_of_ble_eq_true rfl | omega) (by first | exact Nat.le_of_ble_eq_true rfl | omega) ?_
    exact hQ
  · exact absurd rfl c17

