set_option maxRecDepth 100000 in
theorem s_X4_codeFrom {w : sg_W} {Q : sg_O → sg_H → Prop} {h : sg_H} (g : sg_G w) {d : Nat} (hd : 3 ≤ d) {B a : Nat} (hx : ck_X h B) (hl : ck_L B a 1) {p : Int} (hQ : ∀ z : Int, (∀ n, ck_N h a n → 0 ≤ p → p < n → 0 ≤ z ∧ z ≤ 1114111) → Q (.inl (some (sg_i z))) h) : sg_C w mi_X4_codeFrom d 0 0 [sg_r a, sg_i p] h Q := by
  refine sg_of pn_X4 (Nat.le_of_ble_eq_true rfl) ?_
  refine sg_aload_n (pc := 0) (j := 0) (dc_X4_codeFrom_0.1.1.1.1) rfl rfl ?_
  refine sg_iload_n (pc := 1) (j := 1) (dc_X4_codeFrom_0.1.1.1.2) rfl rfl ?_
  refine sg_cE1 (pc := 2) (d' := d - 1) (mc' := 0) (ms' := 0) 3 g (dc_X4_codeFrom_0.1.1.2.1) cb_X0_get ml_X4_39 mn_X0_get rfl mv_X0_get (Nat.le_of_ble_eq_true rfl) (ck_lc (by assumption) (by first | assumption | exact ck_rev)) (Nat.le_of_ble_eq_true rfl) (by first | exact jl_d0 hd rfl | omega) (by first | exact Nat.le_of_ble_eq_true rfl | omega) (by first | exact Nat.le_of_ble_eq_true rfl | omega) ?_
  refine s_X0_get g (by first | exact jl_d1 hd rfl | omega) (by assumption) (by first | assumption | exact ck_rev) (fun z2 G2 v2 => sg_K1 ?_)
  refine sg_istore_n (pc := 5) (j := 2) (dc_X4_codeFrom_0.1.1.2.2) rfl (by decide) ?_
  refine sg_iload_n (pc := 6) (j := 2) (dc_X4_codeFrom_0.1.2.1.1) rfl rfl ?_
  refine sg_cS1 (pc := 7) (d' := d - 1) (mc' := 0) (ms' := 0) g (dc_X4_codeFrom_0.1.2.1.2) cb_X4_isHigh ml_X4_15 ms_X4_isHigh (Nat.le_of_ble_eq_true rfl) (by first | exact jl_d0 hd rfl | omega) (by first | exact Nat.le_of_ble_eq_true rfl | omega) (by first | exact Nat.le_of_ble_eq_true rfl | omega) ?_
  refine s_X4_isHigh g (by first | exact jl_d1 hd rfl | omega) (fun z7 h7 b7 => sg_K1 ?_)
  (try simp only [fn_high, fn_low] at h7)
  refine sg_if_eq (pc := 10) (tgt := 38) (dc_X4_codeFrom_0.1.2.2.1) (by decide) (fun c10 => ?_) (fun c10 => ?_)
  · refine sg_iload_n (pc := 38) (j := 2) (dc_X4_codeFrom_28.2.2.1) rfl rfl ?_
    refine sg_iret (pc := 39) (dc_X4_codeFrom_28.2.2.2) rfl (by first | exact Nat.le_of_ble_eq_true rfl | omega) (by first | exact Nat.le_of_ble_eq_true rfl | omega) ?_
    exact hQ _ (fun n2 q1 q2 q3 => by have q4 := ck_v1.mp (v2 n2 q1 q2 q3); omega)
  · refine sg_aload_n (pc := 13) (j := 0) (dc_X4_codeFrom_0.1.2.2.2) rfl rfl ?_
    refine sg_iload_n (pc := 14) (j := 1) (dc_X4_codeFrom_0.2.1.1.1) rfl rfl ?_
    refine sg_iconst (pc := 15) (z := 1) (dc_X4_codeFrom_0.2.1.1.2) (by decide) ?_
    first | refine sg_iaddB (pc := 16) (dc_X4_codeFrom_0.2.1.2.1) (by omega) (by omega) ?_ | refine sg_iadd (pc := 16) (dc_X4_codeFrom_0.2.1.2.1) ?_
    refine sg_cE1 (pc := 17) (d' := d - 1) (mc' := 0) (ms' := 0) 3 g (dc_X4_codeFrom_0.2.1.2.2) cb_X0_get ml_X4_39 mn_X0_get rfl mv_X0_get (Nat.le_of_ble_eq_true rfl) (ck_lc (by assumption) (by first | assumption | exact ck_rev)) (Nat.le_of_ble_eq_true rfl) (by first | exact jl_d0 hd rfl | omega) (by first | exact Nat.le_of_ble_eq_true rfl | omega) (by first | exact Nat.le_of_ble_eq_true rfl | omega) ?_
    refine s_X0_get g (by first | exact jl_d1 hd rfl | omega) (by assumption) (by first | assumption | exact ck_rev) (fun z17 G17 v17 => sg_K1 ?_)
    refine sg_cS1 (pc := 20) (d' := d - 1) (mc' := 0) (ms' := 0) g (dc_X4_codeFrom_0.2.2.1.1) cb_X4_isLow ml_X4_19 ms_X4_isLow (Nat.le_of_ble_eq_true rfl) (by first | exact jl_d0 hd rfl | omega) (by first | exact Nat.le_of_ble_eq_true rfl | omega) (by first | exact Nat.le_of_ble_eq_true rfl | omega) ?_
    refine s_X4_isLow g (by first | exact jl_d1 hd rfl | omega) (fun z20 h20 b20 => sg_K1 ?_)
    (try simp only [fn_high, fn_low] at h20)
    refine sg_if_eq (pc := 23) (tgt := 38) (dc_X4_codeFrom_0.2.2.1.2) (by decide) (fun c23 => ?_) (fun c23 => ?_)
    · refine sg_iload_n (pc := 38) (j := 2) (dc_X4_codeFrom_28.2.2.1) rfl rfl ?_
      refine sg_iret (pc := 39) (dc_X4_codeFrom_28.2.2.2) rfl (by first | exact Nat.le_of_ble_eq_true rfl | omega) (by first | exact Nat.le_of_ble_eq_true rfl | omega) ?_
      exact hQ _ (fun n2 q1 q2 q3 => by have q4 := ck_v1.mp (v2 n2 q1 q2 q3); omega)
    · refine sg_iload_n (pc := 26) (j := 2) (dc_X4_codeFrom_0.2.2.2.1) rfl rfl ?_
      refine sg_aload_n (pc := 27) (j := 0) (dc_X4_codeFrom_0.2.2.2.2) rfl rfl ?_
      refine sg_iload_n (pc := 28) (j := 1) (dc_X4_codeFrom_28.1.1.1) rfl rfl ?_
      refine sg_iconst (pc := 29) (z := 1) (dc_X4_codeFrom_28.1.1.2) (by decide) ?_
      first | refine sg_iaddB (pc := 30) (dc_X4_codeFrom_28.1.2.1) (by omega) (by omega) ?_ | refine sg_iadd (pc := 30) (dc_X4_codeFrom_28.1.2.1) ?_
      refine sg_cE1 (pc := 31) (d' := d - 1) (mc' := 0) (ms' := 0) 3 g (dc_X4_codeFrom_28.1.2.2) cb_X0_get ml_X4_39 mn_X0_get rfl mv_X0_get (Nat.le_of_ble_eq_true rfl) (ck_lc (by assumption) (by first | assumption | exact ck_rev)) (Nat.le_of_ble_eq_true rfl) (by first | exact jl_d0 hd rfl | omega) (by first | exact Nat.le_of_ble_eq_true rfl | omega) (by first | exact Nat.le_of_ble_eq_true rfl | omega) ?_
      refine s_X0_get g (by first | exact jl_d1 hd rfl | omega) (by assumption) (by first | assumption | exact ck_rev) (fun z31 G31 v31 => sg_K1 ?_)
      refine sg_cS2 (pc := 34) (d' := d - 1) (mc' := 0) (ms' := 0) g (dc_X4_codeFrom_28.2.1.1) cb_X4_codeOf ml_X4_42 ms_X4_codeOf (Nat.le_of_ble_eq_true rfl) (by first | exact jl_d0 hd rfl | omega) (by first | exact Nat.le_of_ble_eq_true rfl | omega) (by first | exact Nat.le_of_ble_eq_true rfl | omega) ?_
      refine s_X4_codeOf g (by first | exact jl_d1 hd rfl | omega) (fun z34 h34 => sg_K1 ?_)
      refine sg_iret (pc := 37) (dc_X4_codeFrom_28.2.1.2) rfl (by first | exact Nat.le_of_ble_eq_true rfl | omega) (by first | exact Nat.le_of_ble_eq_true rfl | omega) ?_
      exact hQ _ (fun n2 q1 q2 q3 => by have q4 := ck_v1.mp (v2 n2 q1 q2 q3); omega)

