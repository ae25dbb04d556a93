set_option maxRecDepth 100000 in
theorem f_X2_digitNumber {w : sg_W} {Q : sg_O → sg_H → Prop} {h : sg_H} (g : sg_G w) {d : Nat} (hd : 4 ≤ d) {x r m : Int} (x0 : 0 ≤ x) (x1 : x ≤ 999999) (r0 : 2 ≤ r ∧ r ≤ 36) (m0 : 0 ≤ m ∧ m ≤ 100) (hQ : ∀ z : Int, z = x / r ^ m.toNat % r → Q (.inl (some (sg_i z))) h) : sg_C w mi_X2_digitNumber d 0 0 [sg_i x, sg_i r, sg_i m] h Q := by
  refine sg_of pn_X2 (Nat.le_of_ble_eq_true rfl) ?_
  refine sg_iload_n (pc := 0) (j := 1) (dc_X2_digitNumber_0.1.1.1.1) rfl rfl ?_
  refine sg_cS1 (pc := 1) (d' := d - 1) (mc' := 0) (ms' := 0) g (dc_X2_digitNumber_0.1.1.1.2) cb_X2_isRadix ml_X2_36 ms_X2_isRadix (Nat.le_of_ble_eq_true rfl) (by first | exact jl_d0 hd rfl | omega) (by first | exact Nat.le_of_ble_eq_true rfl | omega) (by first | exact Nat.le_of_ble_eq_true rfl | omega) ?_
  refine s_X2_isRadix g (by first | exact jl_d1 hd rfl | omega) (fun z1 h1 b1 => sg_K1 ?_)
  (try simp only [fn_radix] at h1)
  refine sg_if_eq (pc := 4) (tgt := 18) (dc_X2_digitNumber_0.1.1.2.1) (by decide) (fun c4 => ?_) (fun c4 => ?_)
  · refine sg_iconst (pc := 18) (z := 0) (dc_X2_digitNumber_0.2.1.2.1) (by decide) ?_
    refine sg_iret (pc := 19) (dc_X2_digitNumber_0.2.1.2.2) rfl (by first | exact Nat.le_of_ble_eq_true rfl | omega) (by first | exact Nat.le_of_ble_eq_true rfl | omega) ?_
    first | exact hQ _ rfl | (exfalso; omega)
  · refine sg_iload_n (pc := 7) (j := 0) (dc_X2_digitNumber_0.1.1.2.2) rfl rfl ?_
    refine sg_iload_n (pc := 8) (j := 1) (dc_X2_digitNumber_0.1.2.1.1) rfl rfl ?_
    refine sg_iload_n (pc := 9) (j := 2) (dc_X2_digitNumber_0.1.2.1.2) rfl rfl ?_
    refine sg_cS3 (pc := 10) (d' := d - 1) (mc' := 0) (ms' := 0) g (dc_X2_digitNumber_0.1.2.2.1) cb_X2_shifted ml_X2_39 ms_X2_shifted (Nat.le_of_ble_eq_true rfl) (by first | exact jl_d0 hd rfl | omega) (by first | exact Nat.le_of_ble_eq_true rfl | omega) (by first | exact Nat.le_of_ble_eq_true rfl | omega) ?_
    refine f_X2_shifted g (by first | exact jl_d1 hd rfl | omega) (by omega) (by omega) (by omega) (by omega) (fun z10 h10 => sg_K1 ?_)
    refine sg_iload_n (pc := 13) (j := 1) (dc_X2_digitNumber_0.1.2.2.2) rfl rfl ?_
    have pd := fs_dp (k := m.toNat) (r := r) x0 (by omega)
    rw [h10]
    refine sg_iremP (pc := 14) (dc_X2_digitNumber_0.2.1.1.1) (by omega) (by omega) ?_
    refine sg_goto (pc := 15) (tgt := 19) (dc_X2_digitNumber_0.2.1.1.2) (by decide) ?_
    refine sg_iret (pc := 19) (dc_X2_digitNumber_0.2.1.2.2) rfl (by first | exact Nat.le_of_ble_eq_true rfl | omega) (by first | exact Nat.le_of_ble_eq_true rfl | omega) ?_
    first | exact hQ _ rfl | (exfalso; omega)

