set_option maxRecDepth 100000 in
theorem s_X2_firstSpelled {w : sg_W} {Q : sg_O → sg_H → Prop} {h : sg_H} (g : sg_G w) {d : Nat} (hd : 4 ≤ d) {x : Int} (hQ : ∀ z : Int, 0 ≤ z → z ≤ 122 → Q (.inl (some (sg_i z))) h) : sg_C w mi_X2_firstSpelled d 0 0 [sg_i x] h Q := by
  refine sg_of pn_X2 (Nat.le_of_ble_eq_true rfl) ?_
  refine sg_iload_n (pc := 0) (j := 0) (dc_X2_firstSpelled_0.1.1.1) rfl rfl ?_
  refine sg_bipush (pc := 1) (z := 16) (dc_X2_firstSpelled_0.1.1.2) (by decide) ?_
  first | refine sg_idivP (pc := 3) (dc_X2_firstSpelled_0.1.2.1) (by omega) (by omega) (by omega) ?_ | refine sg_idiv (pc := 3) (dc_X2_firstSpelled_0.1.2.1) (by first | omega | assumption) ?_
  refine sg_bipush (pc := 4) (z := 16) (dc_X2_firstSpelled_0.1.2.2) (by decide) ?_
  refine sg_cS2 (pc := 6) (d' := d - 1) (mc' := 0) (ms' := 0) g (dc_X2_firstSpelled_0.2.1.1) cb_X2_digitOf ml_X2_43 ms_X2_digitOf (Nat.le_of_ble_eq_true rfl) (by first | exact jl_d0 hd rfl | omega) (by first | exact Nat.le_of_ble_eq_true rfl | omega) (by first | exact Nat.le_of_ble_eq_true rfl | omega) ?_
  refine s_X2_digitOf g (by first | exact jl_d1 hd rfl | omega) (fun z6 h6 => sg_K1 ?_)
  refine sg_iret (pc := 9) (dc_X2_firstSpelled_0.2.1.2) rfl (by first | exact Nat.le_of_ble_eq_true rfl | omega) (by first | exact Nat.le_of_ble_eq_true rfl | omega) ?_
  (try simp only [fn_digit, fn_radix] at *)
  exact hQ _ (by first | omega | (subst_vars; (repeat' split) <;> omega)) (by first | omega | (subst_vars; (repeat' split) <;> omega))

set_option maxRecDepth 100000 in
theorem s_X2_secondSpelled {w : sg_W} {Q : sg_O → sg_H → Prop} {h : sg_H} (g : sg_G w) {d : Nat} (hd : 4 ≤ d) {x : Int} (hQ : ∀ z : Int, 0 ≤ z → z ≤ 122 → Q (.inl (some (sg_i z))) h) : sg_C w mi_X2_secondSpelled d 0 0 [sg_i x] h Q := by
  refine sg_of pn_X2 (Nat.le_of_ble_eq_true rfl) ?_
  refine sg_iload_n (pc := 0) (j := 0) (dc_X2_secondSpelled_0.1.1.1) rfl rfl ?_
  refine sg_bipush (pc := 1) (z := 16) (dc_X2_secondSpelled_0.1.1.2) (by decide) ?_
  first | refine sg_iremP (pc := 3) (dc_X2_secondSpelled_0.1.2.1) (by omega) (by omega) ?_ | refine sg_irem (pc := 3) (dc_X2_secondSpelled_0.1.2.1) (by first | omega | assumption) ?_
  refine sg_bipush (pc := 4) (z := 16) (dc_X2_secondSpelled_0.1.2.2) (by decide) ?_
  refine sg_cS2 (pc := 6) (d' := d - 1) (mc' := 0) (ms' := 0) g (dc_X2_secondSpelled_0.2.1.1) cb_X2_digitOf ml_X2_43 ms_X2_digitOf (Nat.le_of_ble_eq_true rfl) (by first | exact jl_d0 hd rfl | omega) (by first | exact Nat.le_of_ble_eq_true rfl | omega) (by first | exact Nat.le_of_ble_eq_true rfl | omega) ?_
  refine s_X2_digitOf g (by first | exact jl_d1 hd rfl | omega) (fun z6 h6 => sg_K1 ?_)
  refine sg_iret (pc := 9) (dc_X2_secondSpelled_0.2.1.2) rfl (by first | exact Nat.le_of_ble_eq_true rfl | omega) (by first | exact Nat.le_of_ble_eq_true rfl | omega) ?_
  (try simp only [fn_digit, fn_radix] at *)
  exact hQ _ (by first | omega | (subst_vars; (repeat' split) <;> omega)) (by first | omega | (subst_vars; (repeat' split) <;> omega))

