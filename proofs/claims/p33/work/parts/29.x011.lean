set_option maxRecDepth 100000 in
theorem s_X5_compare {w : sg_W} {Q : sg_O → sg_H → Prop} {h : sg_H} (g : sg_G w) {d : Nat} (hd : 14 ≤ d) {B : Nat} {x y : Int} (hQ : ∀ v : Int, ¬ (x < 0 ∨ 65536 ≤ x ∨ y < 0 ∨ 65536 ≤ y) → v = (if x = y then 0 else if x < y then -1 else 1) → Q (.inl (some (sg_i v))) h) (hX : (x < 0 ∨ 65536 ≤ x ∨ y < 0 ∨ 65536 ≤ y) → ∀ z, h.1 ≤ z → Q (.inr e_A) (z, h.2)) : sg_C w mi_X5_compare d 8 48 [sg_r B, sg_i x, sg_i y] h Q := by
  refine sg_of pn_X5 (Nat.le_of_ble_eq_true rfl) ?_
  refine sg_iload_n (pc := 0) (j := 1) (dc_X5_compare_0.1.1.1) rfl rfl ?_
  refine sg_cS1 (pc := 1) (d' := d - 1) (mc' := 1) (ms' := 6) g (dc_X5_compare_0.1.1.2) cb_X5_checkUnit ml_X5_167 ms_X5_checkUnit (Nat.le_of_ble_eq_true rfl) (by first | exact jl_d0 hd rfl | omega) (by first | exact Nat.le_of_ble_eq_true rfl | omega) (by first | exact Nat.le_of_ble_eq_true rfl | omega) ?_
  refine s_X5_checkUnit g (by first | exact jl_d1 hd rfl | omega) (fun v1 => sg_K0 ?_) (fun v1 z1 w1 => sg_KX (by first | exact Nat.le_of_ble_eq_true rfl | omega) (by first | exact Nat.le_of_ble_eq_true rfl | omega) (hX (by omega) z1 w1))
  refine sg_iload_n (pc := 4) (j := 2) (dc_X5_compare_0.1.2.1) rfl rfl ?_
  refine sg_cS1 (pc := 5) (d' := d - 1) (mc' := 1) (ms' := 6) g (dc_X5_compare_0.1.2.2) cb_X5_checkUnit ml_X5_167 ms_X5_checkUnit (Nat.le_of_ble_eq_true rfl) (by first | exact jl_d0 hd rfl | omega) (by first | exact Nat.le_of_ble_eq_true rfl | omega) (by first | exact Nat.le_of_ble_eq_true rfl | omega) ?_
  refine s_X5_checkUnit g (by first | exact jl_d1 hd rfl | omega) (fun v5 => sg_K0 ?_) (fun v5 z5 w5 => sg_KX (by first | exact Nat.le_of_ble_eq_true rfl | omega) (by first | exact Nat.le_of_ble_eq_true rfl | omega) (hX (by omega) z5 w5))
  refine sg_iload_n (pc := 8) (j := 1) (dc_X5_compare_0.2.1.1) rfl rfl ?_
  refine sg_iload_n (pc := 9) (j := 2) (dc_X5_compare_0.2.1.2) rfl rfl ?_
  refine sg_cS2 (pc := 10) (d' := d - 1) (mc' := 0) (ms' := 0) g (dc_X5_compare_0.2.2.1) cb_X5_ahead ml_X5_231 ms_X5_ahead (Nat.le_of_ble_eq_true rfl) (by first | exact jl_d0 hd rfl | omega) (by first | exact Nat.le_of_ble_eq_true rfl | omega) (by first | exact Nat.le_of_ble_eq_true rfl | omega) ?_
  refine s_X5_ahead g (by first | exact jl_d1 hd rfl | omega) (fun z10 h10 => sg_K1 ?_)
  refine sg_iret (pc := 13) (dc_X5_compare_0.2.2.2) rfl (by first | exact Nat.le_of_ble_eq_true rfl | omega) (by first | exact Nat.le_of_ble_eq_true rfl | omega) ?_
  exact hQ _ (by omega) (by assumption)

set_option maxRecDepth 100000 in
theorem s_X5_count_N {w : sg_W} {Q : sg_O → sg_H → Prop} {h : sg_H} (g : sg_G w) {d : Nat} (hd : 14 ≤ d) {B : Nat} (hx : ck_X h B) {row kind : Int} (hv : ¬ (row < 0 ∨ 4 ≤ row ∨ kind < 0 ∨ 4 < kind)) (hQ : ∀ v : Int, Q (.inl (some (sg_i v))) h) : sg_C w mi_X5_count d 0 0 [sg_r B, sg_i row, sg_i kind] h Q := by
  refine sg_of pn_X5 (Nat.le_of_ble_eq_true rfl) ?_
  have y0 := ck_Y0 hx
  refine sg_aload_n (pc := 0) (j := 0) (dc_X5_count_0.1.1.1.1) rfl rfl ?_
  refine sg_iload_n (pc := 1) (j := 1) (dc_X5_count_0.1.1.1.2) rfl rfl ?_
  refine sg_cE1 (pc := 2) (d' := d - 1) (mc' := 0) (ms' := 0) 6 g (dc_X5_count_0.1.1.2.1) cb_X5_rowOf ml_X5_36 mn_X5_rowOf rfl mv_X5_rowOf (Nat.le_of_ble_eq_true rfl) (ck_oc (by assumption)) (Nat.le_of_ble_eq_true rfl) (by first | exact jl_d0 hd rfl | omega) (by first | exact Nat.le_of_ble_eq_true rfl | omega) (by first | exact Nat.le_of_ble_eq_true rfl | omega) ?_
  refine s_X5_rowOf_N g (by first | exact jl_d1 hd rfl | omega) (by assumption) (by omega) (fun a2 l2 r2 r2b => sg_K1 ?_)
  refine sg_astore_n (pc := 5) (j := 3) (dc_X5_count_0.1.1.2.2) rfl (by decide) ?_
  refine sg_iload_n (pc := 6) (j := 2) (dc_X5_count_0.1.2.1.1) rfl rfl ?_
  refine sg_cS1 (pc := 7) (d' := d - 1) (mc' := 0) (ms' := 0) g (dc_X5_count_0.1.2.1.2) cb_X5_checkKind ml_X5_93 ms_X5_checkKind (Nat.le_of_ble_eq_true rfl) (by first | exact jl_d0 hd rfl | omega) (by first | exact Nat.le_of_ble_eq_true rfl | omega) (by first | exact Nat.le_of_ble_eq_true rfl | omega) ?_
  refine s_X5_checkKind_N g (by first | exact jl_d1 hd rfl | omega) (by omega) (sg_K0 ?_)
  refine sg_iconst (pc := 10) (z := 0) (dc_X5_count_0.1.2.2.1) (by decide) ?_
  refine sg_istore (pc := 11) (dc_X5_count_0.1.2.2.2) (by decide) ?_
  refine sg_iconst (pc := 13) (z := 0) (dc_X5_count_0.2.1.1.1) (by decide) ?_
  refine sg_istore (pc := 14) (dc_X5_count_0.2.1.1.2) (by decide) ?_
  have loop16 : ∀ (N : Nat) (p s : Int), (0 ≤ p) → (40 - p).toNat < N → sg_R w mi_X5_count d 0 0 Q 16 [(5, sg_i p), (4, sg_i s), (0, sg_r B), (2, sg_i kind), (3, sg_r a2)] [] h 0 0 := by
    intro N
    induction N with
    | zero => intro p s p0 hm; exact absurd hm (Nat.not_lt_zero _)
    | succ N ih =>
      intro p s p0 hm
      refine sg_iload (pc := 16) (dc_X5_count_0.2.1.2.1) rfl ?_
      refine sg_aload_n (pc := 18) (j := 3) (dc_X5_count_0.2.1.2.2) rfl rfl ?_
      refine sg_cE0 (pc := 19) (d' := d - 1) (mc' := 0) (ms' := 0) 3 g (dc_X5_count_0.2.2.1.1) cb_X0_size ml_X5_63 mn_X0_size rfl mv_X0_size (Nat.le_of_ble_eq_true rfl) (ck_lc (by assumption) (by first | assumption | exact ck_rev)) (Nat.le_of_ble_eq_true rfl) (by first | exact jl_d0 hd rfl | omega) (by first | exact Nat.le_of_ble_eq_true rfl | omega) (by first | exact Nat.le_of_ble_eq_true rfl | omega) ?_
      refine s_X0_size g (by first | exact jl_d1 hd rfl | omega) (by assumption) (by first | assumption | exact ck_rev) (fun z19 l19 u19 N19 => sg_K1 ?_)
      refine sg_icmp_ge (pc := 22) (tgt := 47) (dc_X5_count_0.2.2.1.2) (by decide) (fun c22 => ?_) (fun c22 => ?_)
      · refine sg_iload (pc := 47) (dc_X5_count_28.1.2.2.2) rfl ?_
        refine sg_iret (pc := 49) (dc_X5_count_28.2.1.1.1) rfl (by first | exact Nat.le_of_ble_eq_true rfl | omega) (by first | exact Nat.le_of_ble_eq_true rfl | omega) ?_
        exact hQ _
      · refine sg_aload_n (pc := 25) (j := 3) (dc_X5_count_0.2.2.2.1) rfl rfl ?_
        refine sg_iload (pc := 26) (dc_X5_count_0.2.2.2.2) rfl ?_
        refine sg_cE1 (pc := 28) (d' := d - 1) (mc' := 0) (ms' := 0) 3 g (dc_X5_count_28.1.1.1.1) cb_X0_get ml_X5_75 mn_X0_get rfl mv_X0_get (Nat.le_of_ble_eq_true rfl) (ck_lc (by assumption) (by first | assumption | exact ck_rev)) (Nat.le_of_ble_eq_true rfl) (by first | exact jl_d0 hd rfl | omega) (by first | exact Nat.le_of_ble_eq_true rfl | omega) (by first | exact Nat.le_of_ble_eq_true rfl | omega) ?_
        refine s_X0_get g (by first | exact jl_d1 hd rfl | omega) (by assumption) (by first | assumption | exact ck_rev) (fun z28 G28 v28 => sg_K1 ?_)
        refine sg_iload_n (pc := 31) (j := 2) (dc_X5_count_28.1.1.1.2) rfl rfl ?_
        refine sg_cS2 (pc := 32) (d' := d - 1) (mc' := 0) (ms' := 0) g (dc_X5_count_28.1.1.2.1) cb_X2_isOf ml_X5_96 ms_X2_isOf (Nat.le_of_ble_eq_true rfl) (by first | exact jl_d0 hd rfl | omega) (by first | exact Nat.le_of_ble_eq_true rfl | omega) (by first | exact Nat.le_of_ble_eq_true rfl | omega) ?_
        refine s_X2_isOf g (by first | exact jl_d1 hd rfl | omega) (fun z32 h32 b32 => sg_K1 ?_)
        refine sg_if_eq (pc := 35) (tgt := 41) (dc_X5_count_28.1.1.2.2) (by decide) (fun c35 => ?_) (fun c35 => ?_)
        · first | refine sg_iincB (pc := 41) (dc_X5_count_28.1.2.1.2) rfl (by decide) (by decide) (by omega) (by omega) ?_ | refine sg_iinc (pc := 41) (dc_X5_count_28.1.2.1.2) rfl (by decide) (by decide) ?_
          refine sg_goto (pc := 44) (tgt := 16) (dc_X5_count_28.1.2.2.1) (by decide) ?_
          refine sg_lsub (lv' := [(5, _), (4, _), (0, _), (2, _), (3, _)]) ⟨rfl, rfl, rfl, rfl, rfl, trivial⟩ ?_
          exact ih _ _ (by omega) (by first | exact jl_m1 hm (by omega) | exact jl_m2 hm (by omega) | omega)
        · first | refine sg_iincB (pc := 38) (dc_X5_count_28.1.2.1.1) rfl (by decide) (by decide) (by omega) (by omega) ?_ | refine sg_iinc (pc := 38) (dc_X5_count_28.1.2.1.1) rfl (by decide) (by decide) ?_
          first | refine sg_iincB (pc := 41) (dc_X5_count_28.1.2.1.2) rfl (by decide) (by decide) (by omega) (by omega) ?_ | refine sg_iinc (pc := 41) (dc_X5_count_28.1.2.1.2) rfl (by decide) (by decide) ?_
          refine sg_goto (pc := 44) (tgt := 16) (dc_X5_count_28.1.2.2.1) (by decide) ?_
          refine sg_lsub (lv' := [(5, _), (4, _), (0, _), (2, _), (3, _)]) ⟨rfl, rfl, rfl, rfl, rfl, trivial⟩ ?_
          exact ih _ _ (by omega) (by first | exact jl_m1 hm (by omega) | exact jl_m2 hm (by omega) | omega)
  refine sg_lsub (lv' := [(5, _), (4, _), (0, _), (2, _), (3, _)]) ⟨rfl, rfl, rfl, rfl, rfl, trivial⟩ ?_
  exact loop16 _ _ _ (by omega) (Nat.lt_succ_self _)

