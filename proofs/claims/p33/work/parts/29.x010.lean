set_option maxRecDepth 100000 in
theorem s_X5_ofUnit_N {w : sg_W} {Q : sg_O → sg_H → Prop} {h : sg_H} (g : sg_G w) {d : Nat} (hd : 14 ≤ d) {B : Nat} {x what : Int} (hv : ¬ (x < 0 ∨ 65536 ≤ x ∨ what < 0 ∨ 3 < what)) (hQ : ∀ v : Int, ¬ (x < 0 ∨ 65536 ≤ x ∨ what < 0 ∨ 3 < what) → ((what = 0 → v = fn_half x) ∧ (what = 1 → v = fn_high x) ∧ (what = 2 → v = fn_low x) ∧ (what = 3 → v = x % 256 * 256 + x / 256)) → Q (.inl (some (sg_i v))) h) : sg_C w mi_X5_ofUnit d 0 0 [sg_r B, sg_i x, sg_i what] h Q := by
  refine sg_of pn_X5 (Nat.le_of_ble_eq_true rfl) ?_
  refine sg_iload_n (pc := 0) (j := 1) (dc_X5_ofUnit_0.1.1.1.1) rfl rfl ?_
  refine sg_cS1 (pc := 1) (d' := d - 1) (mc' := 0) (ms' := 0) g (dc_X5_ofUnit_0.1.1.1.2) cb_X5_checkUnit ml_X5_167 ms_X5_checkUnit (Nat.le_of_ble_eq_true rfl) (by first | exact jl_d0 hd rfl | omega) (by first | exact Nat.le_of_ble_eq_true rfl | omega) (by first | exact Nat.le_of_ble_eq_true rfl | omega) ?_
  refine s_X5_checkUnit_N g (by first | exact jl_d1 hd rfl | omega) (by omega) (sg_K0 ?_)
  refine sg_iload_n (pc := 4) (j := 2) (dc_X5_ofUnit_0.1.1.2.1) rfl rfl ?_
  by_cases cs : what < 0 ∨ 3 < what
  · refine sg_tsOut (pc := 5) (tgt := 80) (dc_X5_ofUnit_0.1.1.2.2) cs (by decide) ?_
    exfalso; omega
  · rcases (show what = 0 ∨ what = 1 ∨ what = 2 ∨ what = 3 by omega) with rfl | rfl | rfl | rfl
    · refine sg_tsIn (pc := 5) (tgt := 36) (dc_X5_ofUnit_0.1.1.2.2) (by omega) (by omega) rfl (by decide) ?_
      refine sg_iload_n (pc := 36) (j := 1) (dc_X5_ofUnit_0.1.2.1.1) rfl rfl ?_
      refine sg_cS1 (pc := 37) (d' := d - 1) (mc' := 0) (ms' := 0) g (dc_X5_ofUnit_0.1.2.1.2) cb_X4_isHalf ml_X5_173 ms_X4_isHalf (Nat.le_of_ble_eq_true rfl) (by first | exact jl_d0 hd rfl | omega) (by first | exact Nat.le_of_ble_eq_true rfl | omega) (by first | exact Nat.le_of_ble_eq_true rfl | omega) ?_
      refine s_X4_isHalf g (by first | exact jl_d1 hd rfl | omega) (fun z37 h37 b37 => sg_K1 ?_)
      refine sg_if_eq (pc := 40) (tgt := 47) (dc_X5_ofUnit_0.1.2.2.1) (by decide) (fun c40 => ?_) (fun c40 => ?_)
      · refine sg_iconst (pc := 47) (z := 0) (dc_X5_ofUnit_0.2.1.1.2) (by decide) ?_
        refine sg_iret (pc := 48) (dc_X5_ofUnit_0.2.1.2.1) rfl (by first | exact Nat.le_of_ble_eq_true rfl | omega) (by first | exact Nat.le_of_ble_eq_true rfl | omega) ?_
        exact hQ _ (by omega) (by refine ⟨?_, ?_, ?_, ?_⟩ <;> intro qw <;> first | (exact absurd qw (by decide)) | (simp only [fn_half, fn_high, fn_low] at *; omega))
      · refine sg_iconst (pc := 43) (z := 1) (dc_X5_ofUnit_0.1.2.2.2) (by decide) ?_
        refine sg_goto (pc := 44) (tgt := 48) (dc_X5_ofUnit_0.2.1.1.1) (by decide) ?_
        refine sg_iret (pc := 48) (dc_X5_ofUnit_0.2.1.2.1) rfl (by first | exact Nat.le_of_ble_eq_true rfl | omega) (by first | exact Nat.le_of_ble_eq_true rfl | omega) ?_
        exact hQ _ (by omega) (by refine ⟨?_, ?_, ?_, ?_⟩ <;> intro qw <;> first | (exact absurd qw (by decide)) | (simp only [fn_half, fn_high, fn_low] at *; omega))
    · refine sg_tsIn (pc := 5) (tgt := 49) (dc_X5_ofUnit_0.1.1.2.2) (by omega) (by omega) rfl (by decide) ?_
      refine sg_iload_n (pc := 49) (j := 1) (dc_X5_ofUnit_0.2.1.2.2) rfl rfl ?_
      refine sg_cS1 (pc := 50) (d' := d - 1) (mc' := 0) (ms' := 0) g (dc_X5_ofUnit_0.2.2.1.1) cb_X4_isHigh ml_X5_248 ms_X4_isHigh (Nat.le_of_ble_eq_true rfl) (by first | exact jl_d0 hd rfl | omega) (by first | exact Nat.le_of_ble_eq_true rfl | omega) (by first | exact Nat.le_of_ble_eq_true rfl | omega) ?_
      refine s_X4_isHigh g (by first | exact jl_d1 hd rfl | omega) (fun z50 h50 b50 => sg_K1 ?_)
      refine sg_if_eq (pc := 53) (tgt := 60) (dc_X5_ofUnit_0.2.2.1.2) (by decide) (fun c53 => ?_) (fun c53 => ?_)
      · refine sg_iconst (pc := 60) (z := 0) (dc_X5_ofUnit_60.1.1.1.1) (by decide) ?_
        refine sg_iret (pc := 61) (dc_X5_ofUnit_60.1.1.1.2) rfl (by first | exact Nat.le_of_ble_eq_true rfl | omega) (by first | exact Nat.le_of_ble_eq_true rfl | omega) ?_
        exact hQ _ (by omega) (by refine ⟨?_, ?_, ?_, ?_⟩ <;> intro qw <;> first | (exact absurd qw (by decide)) | (simp only [fn_half, fn_high, fn_low] at *; omega))
      · refine sg_iconst (pc := 56) (z := 1) (dc_X5_ofUnit_0.2.2.2.1) (by decide) ?_
        refine sg_goto (pc := 57) (tgt := 61) (dc_X5_ofUnit_0.2.2.2.2) (by decide) ?_
        refine sg_iret (pc := 61) (dc_X5_ofUnit_60.1.1.1.2) rfl (by first | exact Nat.le_of_ble_eq_true rfl | omega) (by first | exact Nat.le_of_ble_eq_true rfl | omega) ?_
        exact hQ _ (by omega) (by refine ⟨?_, ?_, ?_, ?_⟩ <;> intro qw <;> first | (exact absurd qw (by decide)) | (simp only [fn_half, fn_high, fn_low] at *; omega))
    · refine sg_tsIn (pc := 5) (tgt := 62) (dc_X5_ofUnit_0.1.1.2.2) (by omega) (by omega) rfl (by decide) ?_
      refine sg_iload_n (pc := 62) (j := 1) (dc_X5_ofUnit_60.1.1.2.1) rfl rfl ?_
      refine sg_cS1 (pc := 63) (d' := d - 1) (mc' := 0) (ms' := 0) g (dc_X5_ofUnit_60.1.1.2.2) cb_X4_isLow ml_X5_251 ms_X4_isLow (Nat.le_of_ble_eq_true rfl) (by first | exact jl_d0 hd rfl | omega) (by first | exact Nat.le_of_ble_eq_true rfl | omega) (by first | exact Nat.le_of_ble_eq_true rfl | omega) ?_
      refine s_X4_isLow g (by first | exact jl_d1 hd rfl | omega) (fun z63 h63 b63 => sg_K1 ?_)
      refine sg_if_eq (pc := 66) (tgt := 73) (dc_X5_ofUnit_60.1.2.1.1) (by decide) (fun c66 => ?_) (fun c66 => ?_)
      · refine sg_iconst (pc := 73) (z := 0) (dc_X5_ofUnit_60.1.2.2.2) (by decide) ?_
        refine sg_iret (pc := 74) (dc_X5_ofUnit_60.2.1.1.1) rfl (by first | exact Nat.le_of_ble_eq_true rfl | omega) (by first | exact Nat.le_of_ble_eq_true rfl | omega) ?_
        exact hQ _ (by omega) (by refine ⟨?_, ?_, ?_, ?_⟩ <;> intro qw <;> first | (exact absurd qw (by decide)) | (simp only [fn_half, fn_high, fn_low] at *; omega))
      · refine sg_iconst (pc := 69) (z := 1) (dc_X5_ofUnit_60.1.2.1.2) (by decide) ?_
        refine sg_goto (pc := 70) (tgt := 74) (dc_X5_ofUnit_60.1.2.2.1) (by decide) ?_
        refine sg_iret (pc := 74) (dc_X5_ofUnit_60.2.1.1.1) rfl (by first | exact Nat.le_of_ble_eq_true rfl | omega) (by first | exact Nat.le_of_ble_eq_true rfl | omega) ?_
        exact hQ _ (by omega) (by refine ⟨?_, ?_, ?_, ?_⟩ <;> intro qw <;> first | (exact absurd qw (by decide)) | (simp only [fn_half, fn_high, fn_low] at *; omega))
    · refine sg_tsIn (pc := 5) (tgt := 75) (dc_X5_ofUnit_0.1.1.2.2) (by omega) (by omega) rfl (by decide) ?_
      refine sg_iload_n (pc := 75) (j := 1) (dc_X5_ofUnit_60.2.1.1.2) rfl rfl ?_
      refine sg_cS1 (pc := 76) (d' := d - 1) (mc' := 0) (ms' := 0) g (dc_X5_ofUnit_60.2.1.2.1) cb_X4_turned ml_X5_170 ms_X4_turned (Nat.le_of_ble_eq_true rfl) (by first | exact jl_d0 hd rfl | omega) (by first | exact Nat.le_of_ble_eq_true rfl | omega) (by first | exact Nat.le_of_ble_eq_true rfl | omega) ?_
      refine s_X4_turned g (by first | exact jl_d1 hd rfl | omega) (fun z76 h76 => sg_K1 ?_)
      refine sg_iret (pc := 79) (dc_X5_ofUnit_60.2.1.2.2) rfl (by first | exact Nat.le_of_ble_eq_true rfl | omega) (by first | exact Nat.le_of_ble_eq_true rfl | omega) ?_
      exact hQ _ (by omega) (by refine ⟨?_, ?_, ?_, ?_⟩ <;> intro qw <;> first | (exact absurd qw (by decide)) | (simp only [fn_half, fn_high, fn_low] at *; omega))

