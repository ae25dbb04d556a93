set_option maxRecDepth 100000 in
theorem s_X5_code {w : sg_W} {Q : sg_O → sg_H → Prop} {h : sg_H} (g : sg_G w) {d : Nat} (hd : 14 ≤ d) {B : Nat} {x y : Int} (hQ : ∀ v : Int, ¬ (x < 55296 ∨ 56320 ≤ x ∨ y < 56320 ∨ 57344 ≤ y) → v = 65536 + (x - 55296) * 1024 + (y - 56320) → Q (.inl (some (sg_i v))) h) (hX : (x < 55296 ∨ 56320 ≤ x ∨ y < 56320 ∨ 57344 ≤ y) → ∀ z, h.1 ≤ z → Q (.inr e_A) (z, h.2)) : sg_C w mi_X5_code d 8 48 [sg_r B, sg_i x, sg_i y] h Q := by
  refine sg_of pn_X5 (Nat.le_of_ble_eq_true rfl) ?_
  refine sg_iload_n (pc := 0) (j := 1) (dc_X5_code_0.1.1.1.1) rfl rfl ?_
  refine sg_cS1 (pc := 1) (d' := d - 1) (mc' := 0) (ms' := 0) g (dc_X5_code_0.1.1.1.2) cb_X4_isHigh ml_X5_248 ms_X4_isHigh (Nat.le_of_ble_eq_true rfl) (by first | exact jl_d0 hd rfl | omega) (by first | exact Nat.le_of_ble_eq_true rfl | omega) (by first | exact Nat.le_of_ble_eq_true rfl | omega) ?_
  refine s_X4_isHigh g (by first | exact jl_d1 hd rfl | omega) (fun z1 h1 b1 => sg_K1 ?_)
  (try simp only [fn_high, fn_low] at h1)
  refine sg_if_eq (pc := 4) (tgt := 14) (dc_X5_code_0.1.1.2.1) (by decide) (fun c4 => ?_) (fun c4 => ?_)
  · refine sg_throw (pc := 14) g th_X5_110_254 (dc_X5_code_0.1.2.2.1) (dc_X5_code_0.1.2.2.2) (dc_X5_code_0.2.1.1.1) (dc_X5_code_0.2.1.1.2) (dc_X5_code_0.2.1.2.1) (by first | exact Nat.le_trans (Nat.le_of_ble_eq_true rfl) hd | omega) (Nat.le_of_ble_eq_true rfl) (by first | exact Nat.le_of_ble_eq_true rfl | omega) (by first | exact Nat.le_of_ble_eq_true rfl | omega) ?_
    exact fun z hz => hX (by omega) z hz
  · refine sg_iload_n (pc := 7) (j := 2) (dc_X5_code_0.1.1.2.2) rfl rfl ?_
    refine sg_cS1 (pc := 8) (d' := d - 1) (mc' := 0) (ms' := 0) g (dc_X5_code_0.1.2.1.1) cb_X4_isLow ml_X5_251 ms_X4_isLow (Nat.le_of_ble_eq_true rfl) (by first | exact jl_d0 hd rfl | omega) (by first | exact Nat.le_of_ble_eq_true rfl | omega) (by first | exact Nat.le_of_ble_eq_true rfl | omega) ?_
    refine s_X4_isLow g (by first | exact jl_d1 hd rfl | omega) (fun z8 h8 b8 => sg_K1 ?_)
    (try simp only [fn_high, fn_low] at h8)
    refine sg_if_ne (pc := 11) (tgt := 24) (dc_X5_code_0.1.2.1.2) (by decide) (fun c11 => ?_) (fun c11 => ?_)
    · refine sg_iload_n (pc := 24) (j := 1) (dc_X5_code_0.2.1.2.2) rfl rfl ?_
      refine sg_iload_n (pc := 25) (j := 2) (dc_X5_code_0.2.2.1.1) rfl rfl ?_
      refine sg_cS2 (pc := 26) (d' := d - 1) (mc' := 0) (ms' := 0) g (dc_X5_code_0.2.2.1.2) cb_X4_codeOf ml_X5_256 ms_X4_codeOf (Nat.le_of_ble_eq_true rfl) (by first | exact jl_d0 hd rfl | omega) (by first | exact Nat.le_of_ble_eq_true rfl | omega) (by first | exact Nat.le_of_ble_eq_true rfl | omega) ?_
      refine s_X4_codeOf g (by first | exact jl_d1 hd rfl | omega) (fun z26 h26 => sg_K1 ?_)
      refine sg_iret (pc := 29) (dc_X5_code_0.2.2.2.1) rfl (by first | exact Nat.le_of_ble_eq_true rfl | omega) (by first | exact Nat.le_of_ble_eq_true rfl | omega) ?_
      exact hQ _ (by omega) (by omega)
    · refine sg_throw (pc := 14) g th_X5_110_254 (dc_X5_code_0.1.2.2.1) (dc_X5_code_0.1.2.2.2) (dc_X5_code_0.2.1.1.1) (dc_X5_code_0.2.1.1.2) (dc_X5_code_0.2.1.2.1) (by first | exact Nat.le_trans (Nat.le_of_ble_eq_true rfl) hd | omega) (Nat.le_of_ble_eq_true rfl) (by first | exact Nat.le_of_ble_eq_true rfl | omega) (by first | exact Nat.le_of_ble_eq_true rfl | omega) ?_
      exact fun z hz => hX (by omega) z hz

