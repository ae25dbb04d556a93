set_option maxRecDepth 100000 in
theorem s_X4_highOf {w : sg_W} {Q : sg_O → sg_H → Prop} {h : sg_H} (g : sg_G w) {d : Nat} (hd : 1 ≤ d) {c : Int} (hQ : ∀ z : Int, (65536 ≤ c ∧ c ≤ 1114111 → z = 55296 + (c - 65536) / 1024) → Q (.inl (some (sg_i z))) h) : sg_C w mi_X4_highOf d 0 0 [sg_i c] h Q := by
  refine sg_of pn_X4 (Nat.le_of_ble_eq_true rfl) ?_
  refine sg_ldc (pc := 0) (z := 55296) g (dc_X4_highOf_0.1.1.1) cn_X4_12 (by decide) ?_
  refine sg_iload_n (pc := 2) (j := 0) (dc_X4_highOf_0.1.1.2) rfl rfl ?_
  refine sg_ldc (pc := 3) (z := 65536) g (dc_X4_highOf_0.1.2.1) cn_X4_11 (by decide) ?_
  first | refine sg_isubB (pc := 5) (dc_X4_highOf_0.1.2.2) (by omega) (by omega) ?_ | refine sg_isub (pc := 5) (dc_X4_highOf_0.1.2.2) ?_
  refine sg_sipush (pc := 6) (z := 1024) (dc_X4_highOf_0.2.1.1) (by decide) ?_
  first | refine sg_idivP (pc := 9) (dc_X4_highOf_0.2.1.2) (by omega) (by omega) (by omega) ?_ | refine sg_idiv (pc := 9) (dc_X4_highOf_0.2.1.2) (by first | omega | assumption) ?_
  first | refine sg_iaddB (pc := 10) (dc_X4_highOf_0.2.2.1) (by omega) (by omega) ?_ | refine sg_iadd (pc := 10) (dc_X4_highOf_0.2.2.1) ?_
  refine sg_iret (pc := 11) (dc_X4_highOf_0.2.2.2) rfl (by first | exact Nat.le_of_ble_eq_true rfl | omega) (by first | exact Nat.le_of_ble_eq_true rfl | omega) ?_
  exact hQ _ (fun r => by first | rfl | omega | (simp (disch := omega) only [sg_w_id, Int.tdiv_eq_ediv_of_nonneg, Int.tmod_eq_emod_of_nonneg] <;> omega))

set_option maxRecDepth 100000 in
theorem s_X4_lowOf {w : sg_W} {Q : sg_O → sg_H → Prop} {h : sg_H} (g : sg_G w) {d : Nat} (hd : 1 ≤ d) {c : Int} (hQ : ∀ z : Int, (65536 ≤ c ∧ c ≤ 1114111 → z = 56320 + (c - 65536) % 1024) → Q (.inl (some (sg_i z))) h) : sg_C w mi_X4_lowOf d 0 0 [sg_i c] h Q := by
  refine sg_of pn_X4 (Nat.le_of_ble_eq_true rfl) ?_
  refine sg_ldc (pc := 0) (z := 56320) g (dc_X4_lowOf_0.1.1.1) cn_X4_13 (by decide) ?_
  refine sg_iload_n (pc := 2) (j := 0) (dc_X4_lowOf_0.1.1.2) rfl rfl ?_
  refine sg_ldc (pc := 3) (z := 65536) g (dc_X4_lowOf_0.1.2.1) cn_X4_11 (by decide) ?_
  first | refine sg_isubB (pc := 5) (dc_X4_lowOf_0.1.2.2) (by omega) (by omega) ?_ | refine sg_isub (pc := 5) (dc_X4_lowOf_0.1.2.2) ?_
  refine sg_sipush (pc := 6) (z := 1024) (dc_X4_lowOf_0.2.1.1) (by decide) ?_
  first | refine sg_iremP (pc := 9) (dc_X4_lowOf_0.2.1.2) (by omega) (by omega) ?_ | refine sg_irem (pc := 9) (dc_X4_lowOf_0.2.1.2) (by first | omega | assumption) ?_
  first | refine sg_iaddB (pc := 10) (dc_X4_lowOf_0.2.2.1) (by omega) (by omega) ?_ | refine sg_iadd (pc := 10) (dc_X4_lowOf_0.2.2.1) ?_
  refine sg_iret (pc := 11) (dc_X4_lowOf_0.2.2.2) rfl (by first | exact Nat.le_of_ble_eq_true rfl | omega) (by first | exact Nat.le_of_ble_eq_true rfl | omega) ?_
  exact hQ _ (fun r => by first | rfl | omega | (simp (disch := omega) only [sg_w_id, Int.tdiv_eq_ediv_of_nonneg, Int.tmod_eq_emod_of_nonneg] <;> omega))

