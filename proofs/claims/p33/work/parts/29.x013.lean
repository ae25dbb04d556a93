set_option maxRecDepth 100000 in
theorem s_X5_values_N {w : sg_W} {Q : sg_O → sg_H → Prop} {h : sg_H} (g : sg_G w) {d : Nat} (hd : 14 ≤ d) {B : Nat} (hx : ck_X h B) {row : Int} (hv : 0 ≤ row ∧ row < 4) (hQ : ∀ v : Int, Q (.inl (some (sg_i v))) h) : sg_C w mi_X5_values d 0 0 [sg_r B, sg_i row] h Q := by
  refine sg_of pn_X5 (Nat.le_of_ble_eq_true rfl) ?_
  have y0 := ck_Y0 hx
  refine sg_aload_n (pc := 0) (j := 0) (dc_X5_values_0.1.1.1.1) rfl rfl ?_
  refine sg_iload_n (pc := 1) (j := 1) (dc_X5_values_0.1.1.1.2) rfl rfl ?_
  refine sg_cE1 (pc := 2) (d' := d - 1) (mc' := 0) (ms' := 0) 6 g (dc_X5_values_0.1.1.2.1) cb_X5_rowOf ml_X5_36 mn_X5_rowOf rfl mv_X5_rowOf (Nat.le_of_ble_eq_true rfl) (ck_oc (by assumption)) (Nat.le_of_ble_eq_true rfl) (by first | exact jl_d0 hd rfl | omega) (by first | exact Nat.le_of_ble_eq_true rfl | omega) (by first | exact Nat.le_of_ble_eq_true rfl | omega) ?_
  refine s_X5_rowOf_N g (by first | exact jl_d1 hd rfl | omega) (by assumption) (by omega) (fun a2 l2 r2 r2b => sg_K1 ?_)
  refine sg_astore_n (pc := 5) (j := 2) (dc_X5_values_0.1.1.2.2) rfl (by decide) ?_
  refine sg_iconst (pc := 6) (z := 0) (dc_X5_values_0.1.2.1.1) (by decide) ?_
  refine sg_istore_n (pc := 7) (j := 3) (dc_X5_values_0.1.2.1.2) rfl (by decide) ?_
  refine sg_iconst (pc := 8) (z := 0) (dc_X5_values_0.1.2.2.1) (by decide) ?_
  refine sg_istore (pc := 9) (dc_X5_values_0.1.2.2.2) (by decide) ?_
  have loop11 : ∀ (N : Nat) (p s : Int), (0 ≤ p) → (40 - p).toNat < N → sg_R w mi_X5_values d 0 0 Q 11 [(4, sg_i p), (3, sg_i s), (0, sg_r B), (2, sg_r a2)] [] h 0 0 := by
    intro N
    induction N with
    | zero => intro p s p0 hm; exact absurd hm (Nat.not_lt_zero _)
    | succ N ih =>
      intro p s p0 hm
      refine sg_iload (pc := 11) (dc_X5_values_0.2.1.1.1) rfl ?_
      refine sg_aload_n (pc := 13) (j := 2) (dc_X5_values_0.2.1.1.2) rfl rfl ?_
      refine sg_cE0 (pc := 14) (d' := d - 1) (mc' := 0) (ms' := 0) 3 g (dc_X5_values_0.2.1.2.1) cb_X0_size ml_X5_63 mn_X0_size rfl mv_X0_size (Nat.le_of_ble_eq_true rfl) (ck_lc (by assumption) (by first | assumption | exact ck_rev)) (Nat.le_of_ble_eq_true rfl) (by first | exact jl_d0 hd rfl | omega) (by first | exact Nat.le_of_ble_eq_true rfl | omega) (by first | exact Nat.le_of_ble_eq_true rfl | omega) ?_
      refine s_X0_size g (by first | exact jl_d1 hd rfl | omega) (by assumption) (by first | assumption | exact ck_rev) (fun z14 l14 u14 N14 => sg_K1 ?_)
      refine sg_icmp_ge (pc := 17) (tgt := 47) (dc_X5_values_0.2.1.2.2) (by decide) (fun c17 => ?_) (fun c17 => ?_)
      · refine sg_iload_n (pc := 47) (j := 3) (dc_X5_values_29.2.1.1.2) rfl rfl ?_
        refine sg_iret (pc := 48) (dc_X5_values_29.2.1.2.1) rfl (by first | exact Nat.le_of_ble_eq_true rfl | omega) (by first | exact Nat.le_of_ble_eq_true rfl | omega) ?_
        exact hQ _
      · refine sg_aload_n (pc := 20) (j := 2) (dc_X5_values_0.2.2.1.1) rfl rfl ?_
        refine sg_iload (pc := 21) (dc_X5_values_0.2.2.1.2) rfl ?_
        refine sg_cE1 (pc := 23) (d' := d - 1) (mc' := 0) (ms' := 0) 3 g (dc_X5_values_0.2.2.2.1) cb_X0_get ml_X5_75 mn_X0_get rfl mv_X0_get (Nat.le_of_ble_eq_true rfl) (ck_lc (by assumption) (by first | assumption | exact ck_rev)) (Nat.le_of_ble_eq_true rfl) (by first | exact jl_d0 hd rfl | omega) (by first | exact Nat.le_of_ble_eq_true rfl | omega) (by first | exact Nat.le_of_ble_eq_true rfl | omega) ?_
        refine s_X0_get g (by first | exact jl_d1 hd rfl | omega) (by assumption) (by first | assumption | exact ck_rev) (fun z23 G23 v23 => sg_K1 ?_)
        refine sg_cS1 (pc := 26) (d' := d - 1) (mc' := 0) (ms' := 0) g (dc_X5_values_0.2.2.2.2) cb_X2_signValue ml_X5_195 ms_X2_signValue (Nat.le_of_ble_eq_true rfl) (by first | exact jl_d0 hd rfl | omega) (by first | exact Nat.le_of_ble_eq_true rfl | omega) (by first | exact Nat.le_of_ble_eq_true rfl | omega) ?_
        refine s_X2_signValue g (by first | exact jl_d1 hd rfl | omega) (fun z26 h26 => sg_K1 ?_)
        refine sg_istore (pc := 29) (dc_X5_values_29.1.1.1.1) (by decide) ?_
        refine sg_iload (pc := 31) (dc_X5_values_29.1.1.1.2) rfl ?_
        refine sg_if_lt (pc := 33) (tgt := 41) (dc_X5_values_29.1.1.2.1) (by decide) (fun c33 => ?_) (fun c33 => ?_)
        · first | refine sg_iincB (pc := 41) (dc_X5_values_29.1.2.2.2) rfl (by decide) (by decide) (by omega) (by omega) ?_ | refine sg_iinc (pc := 41) (dc_X5_values_29.1.2.2.2) rfl (by decide) (by decide) ?_
          refine sg_goto (pc := 44) (tgt := 11) (dc_X5_values_29.2.1.1.1) (by decide) ?_
          refine sg_lsub (lv' := [(4, _), (3, _), (0, _), (2, _)]) ⟨rfl, rfl, rfl, rfl, trivial⟩ ?_
          exact ih _ _ (by omega) (by first | exact jl_m1 hm (by omega) | exact jl_m2 hm (by omega) | omega)
        · refine sg_iload_n (pc := 36) (j := 3) (dc_X5_values_29.1.1.2.2) rfl rfl ?_
          refine sg_iload (pc := 37) (dc_X5_values_29.1.2.1.1) rfl ?_
          first | refine sg_iaddB (pc := 39) (dc_X5_values_29.1.2.1.2) (by omega) (by omega) ?_ | refine sg_iadd (pc := 39) (dc_X5_values_29.1.2.1.2) ?_
          refine sg_istore_n (pc := 40) (j := 3) (dc_X5_values_29.1.2.2.1) rfl (by decide) ?_
          first | refine sg_iincB (pc := 41) (dc_X5_values_29.1.2.2.2) rfl (by decide) (by decide) (by omega) (by omega) ?_ | refine sg_iinc (pc := 41) (dc_X5_values_29.1.2.2.2) rfl (by decide) (by decide) ?_
          refine sg_goto (pc := 44) (tgt := 11) (dc_X5_values_29.2.1.1.1) (by decide) ?_
          refine sg_lsub (lv' := [(4, _), (3, _), (0, _), (2, _)]) ⟨rfl, rfl, rfl, rfl, trivial⟩ ?_
          exact ih _ _ (by omega) (by first | exact jl_m1 hm (by omega) | exact jl_m2 hm (by omega) | omega)
  refine sg_lsub (lv' := [(4, _), (3, _), (0, _), (2, _)]) ⟨rfl, rfl, rfl, rfl, trivial⟩ ?_
  exact loop11 _ _ _ (by omega) (Nat.lt_succ_self _)

