set_option maxRecDepth 100000 in
theorem s_X5_units {w : sg_W} {Q : sg_O → sg_H → Prop} {h : sg_H} (g : sg_G w) {d : Nat} (hd : 14 ≤ d) {B : Nat} {x : Int} (hQ : ∀ v : Int, v = fn_units x → Q (.inl (some (sg_i v))) h) : sg_C w mi_X5_units d 0 0 [sg_r B, sg_i x] h Q := by
  refine sg_of pn_X5 (Nat.le_of_ble_eq_true rfl) ?_
  refine sg_iload_n (pc := 0) (j := 1) (dc_X5_units_0.1.1) rfl rfl ?_
  refine sg_cS1 (pc := 1) (d' := d - 1) (mc' := 0) (ms' := 0) g (dc_X5_units_0.1.2) cb_X4_unitsOf ml_X5_161 ms_X4_unitsOf (Nat.le_of_ble_eq_true rfl) (by first | exact jl_d0 hd rfl | omega) (by first | exact Nat.le_of_ble_eq_true rfl | omega) (by first | exact Nat.le_of_ble_eq_true rfl | omega) ?_
  refine s_X4_unitsOf g (by first | exact jl_d1 hd rfl | omega) (fun z1 h1 => sg_K1 ?_)
  refine sg_iret (pc := 4) (dc_X5_units_0.2.1) rfl (by first | exact Nat.le_of_ble_eq_true rfl | omega) (by first | exact Nat.le_of_ble_eq_true rfl | omega) ?_
  first | exact hQ _ (by assumption) | exact hQ _ (by omega) | exact hQ _ (fun _ => by omega)

set_option maxRecDepth 100000 in
theorem s_X5_half {w : sg_W} {Q : sg_O → sg_H → Prop} {h : sg_H} (g : sg_G w) {d : Nat} (hd : 14 ≤ d) {B : Nat} {x p : Int} (hQ : ∀ v : Int, ¬ (x < 65536 ∨ 1114111 < x) → v = (if p = 0 then 56320 + (x - 65536) % 1024 else 55296 + (x - 65536) / 1024) → Q (.inl (some (sg_i v))) h) (hX : (x < 65536 ∨ 1114111 < x) → ∀ z, h.1 ≤ z → Q (.inr e_A) (z, h.2)) : sg_C w mi_X5_half d 8 48 [sg_r B, sg_i x, sg_i p] h Q := by
  refine sg_of pn_X5 (Nat.le_of_ble_eq_true rfl) ?_
  refine sg_iload_n (pc := 0) (j := 1) (dc_X5_half_0.1.1.1.1) rfl rfl ?_
  refine sg_cS1 (pc := 1) (d' := d - 1) (mc' := 0) (ms' := 0) g (dc_X5_half_0.1.1.1.2) cb_X4_isWideCode ml_X5_237 ms_X4_isWideCode (Nat.le_of_ble_eq_true rfl) (by first | exact jl_d0 hd rfl | omega) (by first | exact Nat.le_of_ble_eq_true rfl | omega) (by first | exact Nat.le_of_ble_eq_true rfl | omega) ?_
  refine s_X4_isWideCode g (by first | exact jl_d1 hd rfl | omega) (fun z1 h1 b1 => sg_K1 ?_)
  (try simp only [fn_wide] at h1)
  refine sg_if_ne (pc := 4) (tgt := 17) (dc_X5_half_0.1.1.2.1) (by decide) (fun c4 => ?_) (fun c4 => ?_)
  · refine sg_iload_n (pc := 17) (j := 2) (dc_X5_half_0.2.1.1.1) rfl rfl ?_
    refine sg_if_eq (pc := 18) (tgt := 28) (dc_X5_half_0.2.1.1.2) (by decide) (fun c18 => ?_) (fun c18 => ?_)
    · refine sg_iload_n (pc := 28) (j := 1) (dc_X5_half_0.2.2.1.2) rfl rfl ?_
      refine sg_cS1 (pc := 29) (d' := d - 1) (mc' := 0) (ms' := 0) g (dc_X5_half_0.2.2.2.1) cb_X4_lowOf ml_X5_245 ms_X4_lowOf (Nat.le_of_ble_eq_true rfl) (by first | exact jl_d0 hd rfl | omega) (by first | exact Nat.le_of_ble_eq_true rfl | omega) (by first | exact Nat.le_of_ble_eq_true rfl | omega) ?_
      refine s_X4_lowOf g (by first | exact jl_d1 hd rfl | omega) (fun z29 h29 => sg_K1 ?_)
      refine sg_iret (pc := 32) (dc_X5_half_0.2.2.2.2) rfl (by first | exact Nat.le_of_ble_eq_true rfl | omega) (by first | exact Nat.le_of_ble_eq_true rfl | omega) ?_
      first | exact hQ _ (by omega) (by omega) | exact hQ _ (by omega) (by (repeat' split) <;> omega)
    · refine sg_iload_n (pc := 21) (j := 1) (dc_X5_half_0.2.1.2.1) rfl rfl ?_
      refine sg_cS1 (pc := 22) (d' := d - 1) (mc' := 0) (ms' := 0) g (dc_X5_half_0.2.1.2.2) cb_X4_highOf ml_X5_242 ms_X4_highOf (Nat.le_of_ble_eq_true rfl) (by first | exact jl_d0 hd rfl | omega) (by first | exact Nat.le_of_ble_eq_true rfl | omega) (by first | exact Nat.le_of_ble_eq_true rfl | omega) ?_
      refine s_X4_highOf g (by first | exact jl_d1 hd rfl | omega) (fun z22 h22 => sg_K1 ?_)
      refine sg_goto (pc := 25) (tgt := 32) (dc_X5_half_0.2.2.1.1) (by decide) ?_
      refine sg_iret (pc := 32) (dc_X5_half_0.2.2.2.2) rfl (by first | exact Nat.le_of_ble_eq_true rfl | omega) (by first | exact Nat.le_of_ble_eq_true rfl | omega) ?_
      first | exact hQ _ (by omega) (by omega) | exact hQ _ (by omega) (by (repeat' split) <;> omega)
  · refine sg_throw (pc := 7) g th_X5_110_240 (dc_X5_half_0.1.1.2.2) (dc_X5_half_0.1.2.1.1) (dc_X5_half_0.1.2.1.2) (dc_X5_half_0.1.2.2.1) (dc_X5_half_0.1.2.2.2) (by first | exact Nat.le_trans (Nat.le_of_ble_eq_true rfl) hd | omega) (Nat.le_of_ble_eq_true rfl) (by first | exact Nat.le_of_ble_eq_true rfl | omega) (by first | exact Nat.le_of_ble_eq_true rfl | omega) ?_
    exact fun z hz => hX (by omega) z hz

