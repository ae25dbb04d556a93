set_option maxRecDepth 100000 in
theorem s_fr {w : sg_W} {Q : sg_O → sg_H → Prop} {h : sg_H} (g : sg_G w) {d : Nat} (hd : 2 ≤ d) {b E : Nat} {m sz : Int} (hb : h.2 b = some (2, [sg_i m, sg_r E, sg_i sz])) {xs : List sg_V} (hE : h.2 E = some (113, xs)) {i : Int} (i0 : 0 ≤ i) (i1 : i < sz) (i2 : sz ≤ (xs.length : Int)) (l3 : xs.length ≤ 200) (hel : ∀ i : Nat, (i : Int) < sz → sg_el h 113 (xs.getD i sg_n)) (hQ : ∀ (m1 : Int) (f : Nat → Option sg_E) (ys : List sg_V), f b = some (2, [sg_i m1, sg_r E, sg_i (sz - 1)]) → f E = some (113, ys) → ys.length = xs.length → (∀ j : Nat, (j : Int) < sz - 1 → ys[j]? = xs[if (j : Int) < i then j else j + 1]?) → (∀ q, q ≠ b → q ≠ E → f q = h.2 q) → Q (.inl none) (h.1, f)) : sg_C w mi_Jx4a65c_fastRemove_b59b0 d 0 0 [sg_r b, sg_r E, sg_i i] h Q := by
  refine sg_of pn_Jx4a65c (Nat.le_of_ble_eq_true rfl) ?_
  have nbE : b ≠ E := fun q => by rw [q, hE] at hb; cases hb
  have nEb := Ne.symm nbE
  refine sg_aload_n (pc := 0) (j := 0) (dc_Jx4a65c_fastRemove_b59b0_0.1.1.1.1) rfl rfl ?_
  refine sg_dup (pc := 1) (dc_Jx4a65c_fastRemove_b59b0_0.1.1.1.2) rfl ?_
  refine sg_getf (pc := 2) g (dc_Jx4a65c_fastRemove_b59b0_0.1.1.2.1) fk_Jx4a65c_63 hb rfl rfl ?_
  refine sg_iconst (pc := 5) (z := 1) (dc_Jx4a65c_fastRemove_b59b0_0.1.1.2.2) (by decide) ?_
  first | refine sg_iaddB (pc := 6) (dc_Jx4a65c_fastRemove_b59b0_0.1.2.1.1) (by omega) (by omega) ?_ | refine sg_iadd (pc := 6) (dc_Jx4a65c_fastRemove_b59b0_0.1.2.1.1) ?_
  refine sg_putf (pc := 7) g (dc_Jx4a65c_fastRemove_b59b0_0.1.2.1.2) fk_Jx4a65c_63 hb sg_ft_i ?_
  try dsimp only
  refine sg_aload_n (pc := 10) (j := 0) (dc_Jx4a65c_fastRemove_b59b0_0.1.2.2.1) rfl rfl ?_
  refine sg_getf (pc := 11) g (dc_Jx4a65c_fastRemove_b59b0_0.1.2.2.2) fk_Jx4a65c_48 (by first | assumption | (repeat (first | with_reducible exact sg_up_s | with_reducible refine (sg_up_n (by omega)).trans ?_)) <;> assumption) (by rfl) (by rfl) ?_
  refine sg_iconst (pc := 14) (z := 1) (dc_Jx4a65c_fastRemove_b59b0_0.2.1.1.1) (by decide) ?_
  first | refine sg_isubB (pc := 15) (dc_Jx4a65c_fastRemove_b59b0_0.2.1.1.2) (by omega) (by omega) ?_ | refine sg_isub (pc := 15) (dc_Jx4a65c_fastRemove_b59b0_0.2.1.1.2) ?_
  refine sg_dup (pc := 16) (dc_Jx4a65c_fastRemove_b59b0_0.2.1.2.1) rfl ?_
  refine sg_istore_n (pc := 17) (j := 3) (dc_Jx4a65c_fastRemove_b59b0_0.2.1.2.2) rfl (by decide) ?_
  refine sg_iload_n (pc := 18) (j := 2) (dc_Jx4a65c_fastRemove_b59b0_0.2.2.1.1) rfl rfl ?_
  refine sg_icmp_le (pc := 19) (tgt := 34) (dc_Jx4a65c_fastRemove_b59b0_0.2.2.1.2) (by decide) (fun c19 => ?_) (fun c19 => ?_)
  · refine sg_aload_n (pc := 34) (j := 1) (dc_Jx4a65c_fastRemove_b59b0_24.2.1.1.1) rfl rfl ?_
    refine sg_aload_n (pc := 35) (j := 0) (dc_Jx4a65c_fastRemove_b59b0_24.2.1.1.2) rfl rfl ?_
    refine sg_iload_n (pc := 36) (j := 3) (dc_Jx4a65c_fastRemove_b59b0_24.2.1.2.1) rfl rfl ?_
    refine sg_dup_x1 (pc := 37) (dc_Jx4a65c_fastRemove_b59b0_24.2.1.2.2) rfl rfl ?_
    refine sg_putf (pc := 38) g (dc_Jx4a65c_fastRemove_b59b0_24.2.2.1.1) fk_Jx4a65c_48 (by first | assumption | (repeat (first | with_reducible exact sg_up_s | with_reducible refine (sg_up_n (by omega)).trans ?_)) <;> assumption) sg_ft_i ?_
    try dsimp only
    refine sg_null (pc := 41) (dc_Jx4a65c_fastRemove_b59b0_24.2.2.1.2) ?_
    refine sg_aastN (pc := 42) (dc_Jx4a65c_fastRemove_b59b0_24.2.2.2.1) (by first | assumption | (repeat (first | with_reducible exact sg_up_s | with_reducible refine (sg_up_n (by omega)).trans ?_)) <;> assumption) (by omega) (by first | omega | (rw [sg_cp_len]; omega)) ?_
    try dsimp only
    refine sg_vret (pc := 43) (dc_Jx4a65c_fastRemove_b59b0_24.2.2.2.2) rfl (by first | exact Nat.le_of_ble_eq_true rfl | omega) (by first | exact Nat.le_of_ble_eq_true rfl | omega) ?_
    first
    | (obtain ⟨r1, r2⟩ := sg_rmv (xs := xs) (i := i) (s := sz - 1) (by omega) (by omega) (by omega)
       refine hQ (sg_w (m + 1)) _ _ ?_ sg_up_s r1 r2 (fun q h1 h2 => ?_)
       · (repeat (with_reducible refine (sg_up_n (by omega)).trans ?_))
         exact sg_up_s
       · (repeat (with_reducible refine (sg_up_n (by omega)).trans ?_))
         rfl)
    | (obtain ⟨r1, r2⟩ := sg_rmv1 (xs := xs) (s := sz - 1) (by omega)
       refine hQ (sg_w (m + 1)) _ _ ?_ sg_up_s r1 (fun j hj => (r2 j hj).trans (by rw [if_pos (by omega)])) (fun q h1 h2 => ?_)
       · (repeat (with_reducible refine (sg_up_n (by omega)).trans ?_))
         exact sg_up_s
       · (repeat (with_reducible refine (sg_up_n (by omega)).trans ?_))
         rfl)
  · refine sg_aload_n (pc := 22) (j := 1) (dc_Jx4a65c_fastRemove_b59b0_0.2.2.2.1) rfl rfl ?_
    refine sg_iload_n (pc := 23) (j := 2) (dc_Jx4a65c_fastRemove_b59b0_0.2.2.2.2) rfl rfl ?_
    refine sg_iconst (pc := 24) (z := 1) (dc_Jx4a65c_fastRemove_b59b0_24.1.1.1.1) (by decide) ?_
    first | refine sg_iaddB (pc := 25) (dc_Jx4a65c_fastRemove_b59b0_24.1.1.1.2) (by omega) (by omega) ?_ | refine sg_iadd (pc := 25) (dc_Jx4a65c_fastRemove_b59b0_24.1.1.1.2) ?_
    refine sg_aload_n (pc := 26) (j := 1) (dc_Jx4a65c_fastRemove_b59b0_24.1.1.2.1) rfl rfl ?_
    refine sg_iload_n (pc := 27) (j := 2) (dc_Jx4a65c_fastRemove_b59b0_24.1.1.2.2) rfl rfl ?_
    refine sg_iload_n (pc := 28) (j := 3) (dc_Jx4a65c_fastRemove_b59b0_24.1.2.1.1) rfl rfl ?_
    refine sg_iload_n (pc := 29) (j := 2) (dc_Jx4a65c_fastRemove_b59b0_24.1.2.1.2) rfl rfl ?_
    first | refine sg_isubB (pc := 30) (dc_Jx4a65c_fastRemove_b59b0_24.1.2.2.1) (by omega) (by omega) ?_ | refine sg_isub (pc := 30) (dc_Jx4a65c_fastRemove_b59b0_24.1.2.2.1) ?_
    refine sg_copy (pc := 31) g (dc_Jx4a65c_fastRemove_b59b0_24.1.2.2.2) ml_Jx4a65c_112 ma_st ma_na ma_in ((sg_up_n (Ne.symm nbE)).trans hE) ((sg_up_n (Ne.symm nbE)).trans hE) (by decide) (by decide) (by decide) (by omega) (by omega) (by omega) (by omega) (by omega) (fun j hj => sg_el_up hb (hel _ (by omega))) (Nat.le_of_ble_eq_true rfl) (by omega) ?_
    try dsimp only
    refine sg_aload_n (pc := 34) (j := 1) (dc_Jx4a65c_fastRemove_b59b0_24.2.1.1.1) rfl rfl ?_
    refine sg_aload_n (pc := 35) (j := 0) (dc_Jx4a65c_fastRemove_b59b0_24.2.1.1.2) rfl rfl ?_
    refine sg_iload_n (pc := 36) (j := 3) (dc_Jx4a65c_fastRemove_b59b0_24.2.1.2.1) rfl rfl ?_
    refine sg_dup_x1 (pc := 37) (dc_Jx4a65c_fastRemove_b59b0_24.2.1.2.2) rfl rfl ?_
    refine sg_putf (pc := 38) g (dc_Jx4a65c_fastRemove_b59b0_24.2.2.1.1) fk_Jx4a65c_48 (by first | assumption | (repeat (first | with_reducible exact sg_up_s | with_reducible refine (sg_up_n (by omega)).trans ?_)) <;> assumption) sg_ft_i ?_
    try dsimp only
    refine sg_null (pc := 41) (dc_Jx4a65c_fastRemove_b59b0_24.2.2.1.2) ?_
    refine sg_aastN (pc := 42) (dc_Jx4a65c_fastRemove_b59b0_24.2.2.2.1) (by first | assumption | (repeat (first | with_reducible exact sg_up_s | with_reducible refine (sg_up_n (by omega)).trans ?_)) <;> assumption) (by omega) (by first | omega | (rw [sg_cp_len]; omega)) ?_
    try dsimp only
    refine sg_vret (pc := 43) (dc_Jx4a65c_fastRemove_b59b0_24.2.2.2.2) rfl (by first | exact Nat.le_of_ble_eq_true rfl | omega) (by first | exact Nat.le_of_ble_eq_true rfl | omega) ?_
    first
    | (obtain ⟨r1, r2⟩ := sg_rmv (xs := xs) (i := i) (s := sz - 1) (by omega) (by omega) (by omega)
       refine hQ (sg_w (m + 1)) _ _ ?_ sg_up_s r1 r2 (fun q h1 h2 => ?_)
       · (repeat (with_reducible refine (sg_up_n (by omega)).trans ?_))
         exact sg_up_s
       · (repeat (with_reducible refine (sg_up_n (by omega)).trans ?_))
         rfl)
    | (obtain ⟨r1, r2⟩ := sg_rmv1 (xs := xs) (s := sz - 1) (by omega)
       refine hQ (sg_w (m + 1)) _ _ ?_ sg_up_s r1 (fun j hj => (r2 j hj).trans (by rw [if_pos (by omega)])) (fun q h1 h2 => ?_)
       · (repeat (with_reducible refine (sg_up_n (by omega)).trans ?_))
         exact sg_up_s
       · (repeat (with_reducible refine (sg_up_n (by omega)).trans ?_))
         rfl)

