set_option maxRecDepth 100000 in
theorem s_X2_formOf {w : sg_W} {Q : sg_O → sg_H → Prop} {h : sg_H} (g : sg_G w) {d : Nat} (hd : 4 ≤ d) {x : Int} (hQ : ∀ z : Int, 0 ≤ z → z ≤ 122 → Q (.inl (some (sg_i z))) h) : sg_C w mi_X2_formOf d 0 0 [sg_i x] h Q := by
  refine sg_of pn_X2 (Nat.le_of_ble_eq_true rfl) ?_
  refine sg_iload_n (pc := 0) (j := 0) (dc_X2_formOf_0.1.1.1.1) rfl rfl ?_
  refine sg_iconst (pc := 1) (z := 0) (dc_X2_formOf_0.1.1.1.2) (by decide) ?_
  refine sg_cS2 (pc := 2) (d' := d - 1) (mc' := 0) (ms' := 0) g (dc_X2_formOf_0.1.1.2.1) cb_X2_isOf ml_X2_25 ms_X2_isOf (Nat.le_of_ble_eq_true rfl) (by first | exact jl_d0 hd rfl | omega) (by first | exact Nat.le_of_ble_eq_true rfl | omega) (by first | exact Nat.le_of_ble_eq_true rfl | omega) ?_
  refine s_X2_isOf g (by first | exact jl_d1 hd rfl | omega) (fun z2 h2 b2 => sg_K1 ?_)
  refine sg_if_eq (pc := 5) (tgt := 11) (dc_X2_formOf_0.1.1.2.2) (by decide) (fun c5 => ?_) (fun c5 => ?_)
  · refine sg_iload_n (pc := 11) (j := 0) (dc_X2_formOf_0.1.2.2.1) rfl rfl ?_
    refine sg_iconst (pc := 12) (z := 4) (dc_X2_formOf_0.1.2.2.2) (by decide) ?_
    refine sg_cS2 (pc := 13) (d' := d - 1) (mc' := 0) (ms' := 0) g (dc_X2_formOf_0.2.1.1.1) cb_X2_isOf ml_X2_25 ms_X2_isOf (Nat.le_of_ble_eq_true rfl) (by first | exact jl_d0 hd rfl | omega) (by first | exact Nat.le_of_ble_eq_true rfl | omega) (by first | exact Nat.le_of_ble_eq_true rfl | omega) ?_
    refine s_X2_isOf g (by first | exact jl_d1 hd rfl | omega) (fun z13 h13 b13 => sg_K1 ?_)
    refine sg_if_eq (pc := 16) (tgt := 22) (dc_X2_formOf_0.2.1.1.2) (by decide) (fun c16 => ?_) (fun c16 => ?_)
    · refine sg_iload_n (pc := 22) (j := 0) (dc_X2_formOf_0.2.2.1.1) rfl rfl ?_
      refine sg_iconst (pc := 23) (z := 1) (dc_X2_formOf_0.2.2.1.2) (by decide) ?_
      refine sg_cS2 (pc := 24) (d' := d - 1) (mc' := 0) (ms' := 0) g (dc_X2_formOf_0.2.2.2.1) cb_X2_isOf ml_X2_25 ms_X2_isOf (Nat.le_of_ble_eq_true rfl) (by first | exact jl_d0 hd rfl | omega) (by first | exact Nat.le_of_ble_eq_true rfl | omega) (by first | exact Nat.le_of_ble_eq_true rfl | omega) ?_
      refine s_X2_isOf g (by first | exact jl_d1 hd rfl | omega) (fun z24 h24 b24 => sg_K1 ?_)
      refine sg_if_eq (pc := 27) (tgt := 33) (dc_X2_formOf_0.2.2.2.2) (by decide) (fun c27 => ?_) (fun c27 => ?_)
      · refine sg_iload_n (pc := 33) (j := 0) (dc_X2_formOf_30.1.1.2.1) rfl rfl ?_
        refine sg_iconst (pc := 34) (z := 3) (dc_X2_formOf_30.1.1.2.2) (by decide) ?_
        refine sg_cS2 (pc := 35) (d' := d - 1) (mc' := 0) (ms' := 0) g (dc_X2_formOf_30.1.2.1.1) cb_X2_isOf ml_X2_25 ms_X2_isOf (Nat.le_of_ble_eq_true rfl) (by first | exact jl_d0 hd rfl | omega) (by first | exact Nat.le_of_ble_eq_true rfl | omega) (by first | exact Nat.le_of_ble_eq_true rfl | omega) ?_
        refine s_X2_isOf g (by first | exact jl_d1 hd rfl | omega) (fun z35 h35 b35 => sg_K1 ?_)
        refine sg_if_eq (pc := 38) (tgt := 46) (dc_X2_formOf_30.1.2.1.2) (by decide) (fun c38 => ?_) (fun c38 => ?_)
        · refine sg_bipush (pc := 46) (z := 45) (dc_X2_formOf_30.2.1.1.1) (by decide) ?_
          refine sg_cret (pc := 48) (dc_X2_formOf_30.2.1.1.2) rfl (by omega) (by omega) (by first | exact Nat.le_of_ble_eq_true rfl | omega) (by first | exact Nat.le_of_ble_eq_true rfl | omega) ?_
          exact hQ _ (by omega) (by omega)
        · refine sg_bipush (pc := 41) (z := 119) (dc_X2_formOf_30.1.2.2.1) (by decide) ?_
          refine sg_goto (pc := 43) (tgt := 48) (dc_X2_formOf_30.1.2.2.2) (by decide) ?_
          refine sg_cret (pc := 48) (dc_X2_formOf_30.2.1.1.2) rfl (by omega) (by omega) (by first | exact Nat.le_of_ble_eq_true rfl | omega) (by first | exact Nat.le_of_ble_eq_true rfl | omega) ?_
          exact hQ _ (by omega) (by omega)
      · refine sg_bipush (pc := 30) (z := 108) (dc_X2_formOf_30.1.1.1.1) (by decide) ?_
        refine sg_cret (pc := 32) (dc_X2_formOf_30.1.1.1.2) rfl (by omega) (by omega) (by first | exact Nat.le_of_ble_eq_true rfl | omega) (by first | exact Nat.le_of_ble_eq_true rfl | omega) ?_
        exact hQ _ (by omega) (by omega)
    · refine sg_bipush (pc := 19) (z := 117) (dc_X2_formOf_0.2.1.2.1) (by decide) ?_
      refine sg_cret (pc := 21) (dc_X2_formOf_0.2.1.2.2) rfl (by omega) (by omega) (by first | exact Nat.le_of_ble_eq_true rfl | omega) (by first | exact Nat.le_of_ble_eq_true rfl | omega) ?_
      exact hQ _ (by omega) (by omega)
  · refine sg_bipush (pc := 8) (z := 100) (dc_X2_formOf_0.1.2.1.1) (by decide) ?_
    refine sg_cret (pc := 10) (dc_X2_formOf_0.1.2.1.2) rfl (by omega) (by omega) (by first | exact Nat.le_of_ble_eq_true rfl | omega) (by first | exact Nat.le_of_ble_eq_true rfl | omega) ?_
    exact hQ _ (by omega) (by omega)

