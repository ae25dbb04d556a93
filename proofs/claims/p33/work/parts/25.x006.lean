set_option maxRecDepth 100000 in
theorem s_X4_codeOf {w : sg_W} {Q : sg_O → sg_H → Prop} {h : sg_H} (g : sg_G w) {d : Nat} (hd : 1 ≤ d) {a b : Int} (hQ : ∀ z : Int, (55296 ≤ a ∧ a < 56320 → 56320 ≤ b ∧ b < 57344 → z = 65536 + (a - 55296) * 1024 + (b - 56320)) → Q (.inl (some (sg_i z))) h) : sg_C w mi_X4_codeOf d 0 0 [sg_i a, sg_i b] h Q := by
  refine sg_of pn_X4 (Nat.le_of_ble_eq_true rfl) ?_
  refine sg_ldc (pc := 0) (z := 65536) g (dc_X4_codeOf_0.1.1.1.1) cn_X4_11 (by decide) ?_
  refine sg_iload_n (pc := 2) (j := 0) (dc_X4_codeOf_0.1.1.1.2) rfl rfl ?_
  refine sg_ldc (pc := 3) (z := 55296) g (dc_X4_codeOf_0.1.1.2.1) cn_X4_12 (by decide) ?_
  first | refine sg_isubB (pc := 5) (dc_X4_codeOf_0.1.1.2.2) (by omega) (by omega) ?_ | refine sg_isub (pc := 5) (dc_X4_codeOf_0.1.1.2.2) ?_
  refine sg_sipush (pc := 6) (z := 1024) (dc_X4_codeOf_0.1.2.1.1) (by decide) ?_
  first | refine sg_imulB (pc := 9) (dc_X4_codeOf_0.1.2.1.2) (by omega) (by omega) ?_ | refine sg_imul (pc := 9) (dc_X4_codeOf_0.1.2.1.2) ?_
  first | refine sg_iaddB (pc := 10) (dc_X4_codeOf_0.1.2.2.1) (by omega) (by omega) ?_ | refine sg_iadd (pc := 10) (dc_X4_codeOf_0.1.2.2.1) ?_
  refine sg_iload_n (pc := 11) (j := 1) (dc_X4_codeOf_0.1.2.2.2) rfl rfl ?_
  refine sg_ldc (pc := 12) (z := 56320) g (dc_X4_codeOf_0.2.1.1.1) cn_X4_13 (by decide) ?_
  first | refine sg_isubB (pc := 14) (dc_X4_codeOf_0.2.1.1.2) (by omega) (by omega) ?_ | refine sg_isub (pc := 14) (dc_X4_codeOf_0.2.1.1.2) ?_
  first | refine sg_iaddB (pc := 15) (dc_X4_codeOf_0.2.1.2.1) (by omega) (by omega) ?_ | refine sg_iadd (pc := 15) (dc_X4_codeOf_0.2.1.2.1) ?_
  refine sg_iret (pc := 16) (dc_X4_codeOf_0.2.1.2.2) rfl (by first | exact Nat.le_of_ble_eq_true rfl | omega) (by first | exact Nat.le_of_ble_eq_true rfl | omega) ?_
  exact hQ _ (fun r r2 => by first | rfl | omega | (simp (disch := omega) only [sg_w_id] <;> omega))

set_option maxRecDepth 100000 in
theorem s_X4_turned {w : sg_W} {Q : sg_O → sg_H → Prop} {h : sg_H} (g : sg_G w) {d : Nat} (hd : 1 ≤ d) {u : Int} (hQ : ∀ z : Int, (0 ≤ u ∧ u < 65536 → z = u % 256 * 256 + u / 256) → Q (.inl (some (sg_i z))) h) : sg_C w mi_X4_turned d 0 0 [sg_i u] h Q := by
  refine sg_of pn_X4 (Nat.le_of_ble_eq_true rfl) ?_
  refine sg_iload_n (pc := 0) (j := 0) (dc_X4_turned_0.1.1.1.1) rfl rfl ?_
  refine sg_sipush (pc := 1) (z := 256) (dc_X4_turned_0.1.1.1.2) (by decide) ?_
  first | refine sg_iremP (pc := 4) (dc_X4_turned_0.1.1.2.1) (by omega) (by omega) ?_ | refine sg_irem (pc := 4) (dc_X4_turned_0.1.1.2.1) (by first | omega | assumption) ?_
  refine sg_sipush (pc := 5) (z := 256) (dc_X4_turned_0.1.1.2.2) (by decide) ?_
  first | refine sg_imulB (pc := 8) (dc_X4_turned_0.1.2.1.1) (by omega) (by omega) ?_ | refine sg_imul (pc := 8) (dc_X4_turned_0.1.2.1.1) ?_
  refine sg_iload_n (pc := 9) (j := 0) (dc_X4_turned_0.1.2.1.2) rfl rfl ?_
  refine sg_sipush (pc := 10) (z := 256) (dc_X4_turned_0.1.2.2.1) (by decide) ?_
  first | refine sg_idivP (pc := 13) (dc_X4_turned_0.1.2.2.2) (by omega) (by omega) (by omega) ?_ | refine sg_idiv (pc := 13) (dc_X4_turned_0.1.2.2.2) (by first | omega | assumption) ?_
  first | refine sg_iaddB (pc := 14) (dc_X4_turned_0.2.1.1.1) (by omega) (by omega) ?_ | refine sg_iadd (pc := 14) (dc_X4_turned_0.2.1.1.1) ?_
  refine sg_iret (pc := 15) (dc_X4_turned_0.2.1.1.2) rfl (by first | exact Nat.le_of_ble_eq_true rfl | omega) (by first | exact Nat.le_of_ble_eq_true rfl | omega) ?_
  exact hQ _ (fun r => by first | rfl | omega | (simp (disch := omega) only [sg_w_id, Int.tdiv_eq_ediv_of_nonneg, Int.tmod_eq_emod_of_nonneg] <;> omega))

