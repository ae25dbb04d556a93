set_option maxRecDepth 100000 in
theorem s_X2_signValue {w : sg_W} {Q : sg_O → sg_H → Prop} {h : sg_H} (g : sg_G w) {d : Nat} (hd : 3 ≤ d) {x : Int} (hQ : ∀ z : Int, z = fn_val x → Q (.inl (some (sg_i z))) h) : sg_C w mi_X2_signValue d 0 0 [sg_i x] h Q := by
  refine sg_of pn_X2 (Nat.le_of_ble_eq_true rfl) ?_
  refine sg_iload_n (pc := 0) (j := 0) (dc_X2_signValue_0.1.1.1.1) rfl rfl ?_
  by_cases cs : x < 178 ∨ 190 < x
  · refine sg_tsOut (pc := 1) (tgt := 77) (dc_X2_signValue_0.1.1.1.2) cs (by decide) ?_
    refine sg_iload_n (pc := 77) (j := 0) (dc_X2_signValue_0.2.1.2.1) rfl rfl ?_
    refine sg_cS1 (pc := 78) (d' := d - 1) (mc' := 0) (ms' := 0) g (dc_X2_signValue_0.2.1.2.2) cb_X2_plainValueOf ml_X2_32 ms_X2_plainValueOf (Nat.le_of_ble_eq_true rfl) (by first | exact jl_d0 hd rfl | omega) (by first | exact Nat.le_of_ble_eq_true rfl | omega) (by first | exact Nat.le_of_ble_eq_true rfl | omega) ?_
    refine s_X2_plainValueOf g (by first | exact jl_d1 hd rfl | omega) (fun z78 h78 => sg_K1 ?_)
    refine sg_iret (pc := 81) (dc_X2_signValue_0.2.2.1.1) rfl (by first | exact Nat.le_of_ble_eq_true rfl | omega) (by first | exact Nat.le_of_ble_eq_true rfl | omega) ?_
    first | exact hQ _ (by (try simp only [fn_val] at *) <;> first | omega | ((repeat' split) <;> omega) | grind) | exact hQ _ (by simp [fn_val, fn_plain])
  · rcases (show x = 178 ∨ x = 179 ∨ x = 180 ∨ x = 181 ∨ x = 182 ∨ x = 183 ∨ x = 184 ∨ x = 185 ∨ x = 186 ∨ x = 187 ∨ x = 188 ∨ x = 189 ∨ x = 190 by omega) with rfl | rfl | rfl | rfl | rfl | rfl | rfl | rfl | rfl | rfl | rfl | rfl | rfl
    · refine sg_tsIn (pc := 1) (tgt := 68) (dc_X2_signValue_0.1.1.1.2) (by omega) (by omega) rfl (by decide) ?_
      refine sg_iconst (pc := 68) (z := 2) (dc_X2_signValue_0.1.1.2.1) (by decide) ?_
      refine sg_iret (pc := 69) (dc_X2_signValue_0.1.1.2.2) rfl (by first | exact Nat.le_of_ble_eq_true rfl | omega) (by first | exact Nat.le_of_ble_eq_true rfl | omega) ?_
      first | exact hQ _ (by (try simp only [fn_val] at *) <;> first | omega | ((repeat' split) <;> omega) | grind) | exact hQ _ (by simp [fn_val, fn_plain])
    · refine sg_tsIn (pc := 1) (tgt := 70) (dc_X2_signValue_0.1.1.1.2) (by omega) (by omega) rfl (by decide) ?_
      refine sg_iconst (pc := 70) (z := 3) (dc_X2_signValue_0.1.2.1.1) (by decide) ?_
      refine sg_iret (pc := 71) (dc_X2_signValue_0.1.2.1.2) rfl (by first | exact Nat.le_of_ble_eq_true rfl | omega) (by first | exact Nat.le_of_ble_eq_true rfl | omega) ?_
      first | exact hQ _ (by (try simp only [fn_val] at *) <;> first | omega | ((repeat' split) <;> omega) | grind) | exact hQ _ (by simp [fn_val, fn_plain])
    · refine sg_tsIn (pc := 1) (tgt := 77) (dc_X2_signValue_0.1.1.1.2) (by omega) (by omega) rfl (by decide) ?_
      refine sg_iload_n (pc := 77) (j := 0) (dc_X2_signValue_0.2.1.2.1) rfl rfl ?_
      refine sg_cS1 (pc := 78) (d' := d - 1) (mc' := 0) (ms' := 0) g (dc_X2_signValue_0.2.1.2.2) cb_X2_plainValueOf ml_X2_32 ms_X2_plainValueOf (Nat.le_of_ble_eq_true rfl) (by first | exact jl_d0 hd rfl | omega) (by first | exact Nat.le_of_ble_eq_true rfl | omega) (by first | exact Nat.le_of_ble_eq_true rfl | omega) ?_
      refine s_X2_plainValueOf g (by first | exact jl_d1 hd rfl | omega) (fun z78 h78 => sg_K1 ?_)
      refine sg_iret (pc := 81) (dc_X2_signValue_0.2.2.1.1) rfl (by first | exact Nat.le_of_ble_eq_true rfl | omega) (by first | exact Nat.le_of_ble_eq_true rfl | omega) ?_
      first | exact hQ _ (by (try simp only [fn_val] at *) <;> first | omega | ((repeat' split) <;> omega) | grind) | exact hQ _ (by simp [fn_val, fn_plain])
    · refine sg_tsIn (pc := 1) (tgt := 77) (dc_X2_signValue_0.1.1.1.2) (by omega) (by omega) rfl (by decide) ?_
      refine sg_iload_n (pc := 77) (j := 0) (dc_X2_signValue_0.2.1.2.1) rfl rfl ?_
      refine sg_cS1 (pc := 78) (d' := d - 1) (mc' := 0) (ms' := 0) g (dc_X2_signValue_0.2.1.2.2) cb_X2_plainValueOf ml_X2_32 ms_X2_plainValueOf (Nat.le_of_ble_eq_true rfl) (by first | exact jl_d0 hd rfl | omega) (by first | exact Nat.le_of_ble_eq_true rfl | omega) (by first | exact Nat.le_of_ble_eq_true rfl | omega) ?_
      refine s_X2_plainValueOf g (by first | exact jl_d1 hd rfl | omega) (fun z78 h78 => sg_K1 ?_)
      refine sg_iret (pc := 81) (dc_X2_signValue_0.2.2.1.1) rfl (by first | exact Nat.le_of_ble_eq_true rfl | omega) (by first | exact Nat.le_of_ble_eq_true rfl | omega) ?_
      first | exact hQ _ (by (try simp only [fn_val] at *) <;> first | omega | ((repeat' split) <;> omega) | grind) | exact hQ _ (by simp [fn_val, fn_plain])
    · refine sg_tsIn (pc := 1) (tgt := 77) (dc_X2_signValue_0.1.1.1.2) (by omega) (by omega) rfl (by decide) ?_
      refine sg_iload_n (pc := 77) (j := 0) (dc_X2_signValue_0.2.1.2.1) rfl rfl ?_
      refine sg_cS1 (pc := 78) (d' := d - 1) (mc' := 0) (ms' := 0) g (dc_X2_signValue_0.2.1.2.2) cb_X2_plainValueOf ml_X2_32 ms_X2_plainValueOf (Nat.le_of_ble_eq_true rfl) (by first | exact jl_d0 hd rfl | omega) (by first | exact Nat.le_of_ble_eq_true rfl | omega) (by first | exact Nat.le_of_ble_eq_true rfl | omega) ?_
      refine s_X2_plainValueOf g (by first | exact jl_d1 hd rfl | omega) (fun z78 h78 => sg_K1 ?_)
      refine sg_iret (pc := 81) (dc_X2_signValue_0.2.2.1.1) rfl (by first | exact Nat.le_of_ble_eq_true rfl | omega) (by first | exact Nat.le_of_ble_eq_true rfl | omega) ?_
      first | exact hQ _ (by (try simp only [fn_val] at *) <;> first | omega | ((repeat' split) <;> omega) | grind) | exact hQ _ (by simp [fn_val, fn_plain])
    · refine sg_tsIn (pc := 1) (tgt := 77) (dc_X2_signValue_0.1.1.1.2) (by omega) (by omega) rfl (by decide) ?_
      refine sg_iload_n (pc := 77) (j := 0) (dc_X2_signValue_0.2.1.2.1) rfl rfl ?_
      refine sg_cS1 (pc := 78) (d' := d - 1) (mc' := 0) (ms' := 0) g (dc_X2_signValue_0.2.1.2.2) cb_X2_plainValueOf ml_X2_32 ms_X2_plainValueOf (Nat.le_of_ble_eq_true rfl) (by first | exact jl_d0 hd rfl | omega) (by first | exact Nat.le_of_ble_eq_true rfl | omega) (by first | exact Nat.le_of_ble_eq_true rfl | omega) ?_
      refine s_X2_plainValueOf g (by first | exact jl_d1 hd rfl | omega) (fun z78 h78 => sg_K1 ?_)
      refine sg_iret (pc := 81) (dc_X2_signValue_0.2.2.1.1) rfl (by first | exact Nat.le_of_ble_eq_true rfl | omega) (by first | exact Nat.le_of_ble_eq_true rfl | omega) ?_
      first | exact hQ _ (by (try simp only [fn_val] at *) <;> first | omega | ((repeat' split) <;> omega) | grind) | exact hQ _ (by simp [fn_val, fn_plain])
    · refine sg_tsIn (pc := 1) (tgt := 77) (dc_X2_signValue_0.1.1.1.2) (by omega) (by omega) rfl (by decide) ?_
      refine sg_iload_n (pc := 77) (j := 0) (dc_X2_signValue_0.2.1.2.1) rfl rfl ?_
      refine sg_cS1 (pc := 78) (d' := d - 1) (mc' := 0) (ms' := 0) g (dc_X2_signValue_0.2.1.2.2) cb_X2_plainValueOf ml_X2_32 ms_X2_plainValueOf (Nat.le_of_ble_eq_true rfl) (by first | exact jl_d0 hd rfl | omega) (by first | exact Nat.le_of_ble_eq_true rfl | omega) (by first | exact Nat.le_of_ble_eq_true rfl | omega) ?_
      refine s_X2_plainValueOf g (by first | exact jl_d1 hd rfl | omega) (fun z78 h78 => sg_K1 ?_)
      refine sg_iret (pc := 81) (dc_X2_signValue_0.2.2.1.1) rfl (by first | exact Nat.le_of_ble_eq_true rfl | omega) (by first | exact Nat.le_of_ble_eq_true rfl | omega) ?_
      first | exact hQ _ (by (try simp only [fn_val] at *) <;> first | omega | ((repeat' split) <;> omega) | grind) | exact hQ _ (by simp [fn_val, fn_plain])
    · refine sg_tsIn (pc := 1) (tgt := 72) (dc_X2_signValue_0.1.1.1.2) (by omega) (by omega) rfl (by decide) ?_
      refine sg_iconst (pc := 72) (z := 1) (dc_X2_signValue_0.1.2.2.1) (by decide) ?_
      refine sg_iret (pc := 73) (dc_X2_signValue_0.1.2.2.2) rfl (by first | exact Nat.le_of_ble_eq_true rfl | omega) (by first | exact Nat.le_of_ble_eq_true rfl | omega) ?_
      first | exact hQ _ (by (try simp only [fn_val] at *) <;> first | omega | ((repeat' split) <;> omega) | grind) | exact hQ _ (by simp [fn_val, fn_plain])
    · refine sg_tsIn (pc := 1) (tgt := 77) (dc_X2_signValue_0.1.1.1.2) (by omega) (by omega) rfl (by decide) ?_
      refine sg_iload_n (pc := 77) (j := 0) (dc_X2_signValue_0.2.1.2.1) rfl rfl ?_
      refine sg_cS1 (pc := 78) (d' := d - 1) (mc' := 0) (ms' := 0) g (dc_X2_signValue_0.2.1.2.2) cb_X2_plainValueOf ml_X2_32 ms_X2_plainValueOf (Nat.le_of_ble_eq_true rfl) (by first | exact jl_d0 hd rfl | omega) (by first | exact Nat.le_of_ble_eq_true rfl | omega) (by first | exact Nat.le_of_ble_eq_true rfl | omega) ?_
      refine s_X2_plainValueOf g (by first | exact jl_d1 hd rfl | omega) (fun z78 h78 => sg_K1 ?_)
      refine sg_iret (pc := 81) (dc_X2_signValue_0.2.2.1.1) rfl (by first | exact Nat.le_of_ble_eq_true rfl | omega) (by first | exact Nat.le_of_ble_eq_true rfl | omega) ?_
      first | exact hQ _ (by (try simp only [fn_val] at *) <;> first | omega | ((repeat' split) <;> omega) | grind) | exact hQ _ (by simp [fn_val, fn_plain])
    · refine sg_tsIn (pc := 1) (tgt := 77) (dc_X2_signValue_0.1.1.1.2) (by omega) (by omega) rfl (by decide) ?_
      refine sg_iload_n (pc := 77) (j := 0) (dc_X2_signValue_0.2.1.2.1) rfl rfl ?_
      refine sg_cS1 (pc := 78) (d' := d - 1) (mc' := 0) (ms' := 0) g (dc_X2_signValue_0.2.1.2.2) cb_X2_plainValueOf ml_X2_32 ms_X2_plainValueOf (Nat.le_of_ble_eq_true rfl) (by first | exact jl_d0 hd rfl | omega) (by first | exact Nat.le_of_ble_eq_true rfl | omega) (by first | exact Nat.le_of_ble_eq_true rfl | omega) ?_
      refine s_X2_plainValueOf g (by first | exact jl_d1 hd rfl | omega) (fun z78 h78 => sg_K1 ?_)
      refine sg_iret (pc := 81) (dc_X2_signValue_0.2.2.1.1) rfl (by first | exact Nat.le_of_ble_eq_true rfl | omega) (by first | exact Nat.le_of_ble_eq_true rfl | omega) ?_
      first | exact hQ _ (by (try simp only [fn_val] at *) <;> first | omega | ((repeat' split) <;> omega) | grind) | exact hQ _ (by simp [fn_val, fn_plain])
    · refine sg_tsIn (pc := 1) (tgt := 74) (dc_X2_signValue_0.1.1.1.2) (by omega) (by omega) rfl (by decide) ?_
      refine sg_bipush (pc := 74) (z := -2) (dc_X2_signValue_0.2.1.1.1) (by decide) ?_
      refine sg_iret (pc := 76) (dc_X2_signValue_0.2.1.1.2) rfl (by first | exact Nat.le_of_ble_eq_true rfl | omega) (by first | exact Nat.le_of_ble_eq_true rfl | omega) ?_
      first | exact hQ _ (by (try simp only [fn_val] at *) <;> first | omega | ((repeat' split) <;> omega) | grind) | exact hQ _ (by simp [fn_val, fn_plain])
    · refine sg_tsIn (pc := 1) (tgt := 74) (dc_X2_signValue_0.1.1.1.2) (by omega) (by omega) rfl (by decide) ?_
      refine sg_bipush (pc := 74) (z := -2) (dc_X2_signValue_0.2.1.1.1) (by decide) ?_
      refine sg_iret (pc := 76) (dc_X2_signValue_0.2.1.1.2) rfl (by first | exact Nat.le_of_ble_eq_true rfl | omega) (by first | exact Nat.le_of_ble_eq_true rfl | omega) ?_
      first | exact hQ _ (by (try simp only [fn_val] at *) <;> first | omega | ((repeat' split) <;> omega) | grind) | exact hQ _ (by simp [fn_val, fn_plain])
    · refine sg_tsIn (pc := 1) (tgt := 74) (dc_X2_signValue_0.1.1.1.2) (by omega) (by omega) rfl (by decide) ?_
      refine sg_bipush (pc := 74) (z := -2) (dc_X2_signValue_0.2.1.1.1) (by decide) ?_
      refine sg_iret (pc := 76) (dc_X2_signValue_0.2.1.1.2) rfl (by first | exact Nat.le_of_ble_eq_true rfl | omega) (by first | exact Nat.le_of_ble_eq_true rfl | omega) ?_
      first | exact hQ _ (by (try simp only [fn_val] at *) <;> first | omega | ((repeat' split) <;> omega) | grind) | exact hQ _ (by simp [fn_val, fn_plain])

