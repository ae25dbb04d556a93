set_option maxRecDepth 100000 in
theorem s_X5_told_N {w : sg_W} {Q : sg_O → sg_H → Prop} {h : sg_H} (g : sg_G w) {d : Nat} (hd : 14 ≤ d) {B : Nat} (hx : ck_X h B) {row radix : Int} (hv : ¬ (row < 0 ∨ 4 ≤ row ∨ radix < 2 ∨ 36 < radix)) (hQ : ∀ v : Int, Q (.inl (some (sg_i v))) h) : sg_C w mi_X5_told d 0 0 [sg_r B, sg_i row, sg_i radix] h Q := by
  refine sg_of pn_X5 (Nat.le_of_ble_eq_true rfl) ?_
  have y0 := ck_Y0 hx
  refine sg_aload_n (pc := 0) (j := 0) (dc_X5_told_0.1.1.1.1) rfl rfl ?_
  refine sg_iload_n (pc := 1) (j := 1) (dc_X5_told_0.1.1.1.2) rfl rfl ?_
  refine sg_cE1 (pc := 2) (d' := d - 1) (mc' := 0) (ms' := 0) 6 g (dc_X5_told_0.1.1.2.1) cb_X5_rowOf ml_X5_36 mn_X5_rowOf rfl mv_X5_rowOf (Nat.le_of_ble_eq_true rfl) (ck_oc (by assumption)) (Nat.le_of_ble_eq_true rfl) (by first | exact jl_d0 hd rfl | omega) (by first | exact Nat.le_of_ble_eq_true rfl | omega) (by first | exact Nat.le_of_ble_eq_true rfl | omega) ?_
  refine s_X5_rowOf_N g (by first | exact jl_d1 hd rfl | omega) (by assumption) (by omega) (fun a2 l2 r2 r2b => sg_K1 ?_)
  refine sg_astore_n (pc := 5) (j := 3) (dc_X5_told_0.1.1.2.2) rfl (by decide) ?_
  refine sg_iload_n (pc := 6) (j := 2) (dc_X5_told_0.1.2.1.1) rfl rfl ?_
  refine sg_cS1 (pc := 7) (d' := d - 1) (mc' := 0) (ms' := 0) g (dc_X5_told_0.1.2.1.2) cb_X5_checkRadix ml_X5_115 ms_X5_checkRadix (Nat.le_of_ble_eq_true rfl) (by first | exact jl_d0 hd rfl | omega) (by first | exact Nat.le_of_ble_eq_true rfl | omega) (by first | exact Nat.le_of_ble_eq_true rfl | omega) ?_
  refine s_X5_checkRadix_N g (by first | exact jl_d1 hd rfl | omega) (by omega) (sg_K0 ?_)
  refine sg_aload_n (pc := 10) (j := 3) (dc_X5_told_0.1.2.2.1) rfl rfl ?_
  refine sg_cE0 (pc := 11) (d' := d - 1) (mc' := 0) (ms' := 0) 3 g (dc_X5_told_0.1.2.2.2) cb_X0_size ml_X5_63 mn_X0_size rfl mv_X0_size (Nat.le_of_ble_eq_true rfl) (ck_lc (by assumption) (by first | assumption | exact ck_rev)) (Nat.le_of_ble_eq_true rfl) (by first | exact jl_d0 hd rfl | omega) (by first | exact Nat.le_of_ble_eq_true rfl | omega) (by first | exact Nat.le_of_ble_eq_true rfl | omega) ?_
  refine s_X0_size g (by first | exact jl_d1 hd rfl | omega) (by assumption) (by first | assumption | exact ck_rev) (fun z11 l11 u11 N11 => sg_K1 ?_)
  refine sg_if_ne (pc := 14) (tgt := 20) (dc_X5_told_0.2.1.1.1) (by decide) (fun c14 => ?_) (fun c14 => ?_)
  · refine sg_iconst (pc := 20) (z := 0) (dc_X5_told_0.2.1.2.2) (by decide) ?_
    refine sg_istore (pc := 21) (dc_X5_told_0.2.2.1.1) (by decide) ?_
    refine sg_iconst (pc := 23) (z := 0) (dc_X5_told_0.2.2.1.2) (by decide) ?_
    refine sg_istore (pc := 24) (dc_X5_told_0.2.2.2.1) (by decide) ?_
    have loop26 : ∀ (N : Nat) (p s : Int), (0 ≤ p) → (40 - p).toNat < N → sg_R w mi_X5_told d 0 0 Q 26 [(5, sg_i p), (4, sg_i s), (0, sg_r B), (2, sg_i radix), (3, sg_r a2)] [] h 0 0 := by
      intro N
      induction N with
      | zero => intro p s p0 hm; exact absurd hm (Nat.not_lt_zero _)
      | succ N ih =>
        intro p s p0 hm
        refine sg_iload (pc := 26) (dc_X5_told_0.2.2.2.2) rfl ?_
        refine sg_aload_n (pc := 28) (j := 3) (dc_X5_told_28.1.1.1.1) rfl rfl ?_
        refine sg_cE0 (pc := 29) (d' := d - 1) (mc' := 0) (ms' := 0) 3 g (dc_X5_told_28.1.1.1.2) cb_X0_size ml_X5_63 mn_X0_size rfl mv_X0_size (Nat.le_of_ble_eq_true rfl) (ck_lc (by assumption) (by first | assumption | exact ck_rev)) (Nat.le_of_ble_eq_true rfl) (by first | exact jl_d0 hd rfl | omega) (by first | exact Nat.le_of_ble_eq_true rfl | omega) (by first | exact Nat.le_of_ble_eq_true rfl | omega) ?_
        refine s_X0_size g (by first | exact jl_d1 hd rfl | omega) (by assumption) (by first | assumption | exact ck_rev) (fun z29 l29 u29 N29 => sg_K1 ?_)
        refine sg_icmp_ge (pc := 32) (tgt := 74) (dc_X5_told_28.1.1.2.1) (by decide) (fun c32 => ?_) (fun c32 => ?_)
        · refine sg_iload (pc := 74) (dc_X5_told_59.2.1.1.1) rfl ?_
          refine sg_iret (pc := 76) (dc_X5_told_59.2.1.1.2) rfl (by first | exact Nat.le_of_ble_eq_true rfl | omega) (by first | exact Nat.le_of_ble_eq_true rfl | omega) ?_
          exact hQ _
        · refine sg_aload_n (pc := 35) (j := 3) (dc_X5_told_28.1.1.2.2) rfl rfl ?_
          refine sg_iload (pc := 36) (dc_X5_told_28.1.2.1.1) rfl ?_
          refine sg_cE1 (pc := 38) (d' := d - 1) (mc' := 0) (ms' := 0) 3 g (dc_X5_told_28.1.2.1.2) cb_X0_get ml_X5_75 mn_X0_get rfl mv_X0_get (Nat.le_of_ble_eq_true rfl) (ck_lc (by assumption) (by first | assumption | exact ck_rev)) (Nat.le_of_ble_eq_true rfl) (by first | exact jl_d0 hd rfl | omega) (by first | exact Nat.le_of_ble_eq_true rfl | omega) (by first | exact Nat.le_of_ble_eq_true rfl | omega) ?_
          refine s_X0_get g (by first | exact jl_d1 hd rfl | omega) (by assumption) (by first | assumption | exact ck_rev) (fun z38 G38 v38 => sg_K1 ?_)
          refine sg_iload_n (pc := 41) (j := 2) (dc_X5_told_28.1.2.2.1) rfl rfl ?_
          refine sg_cS2 (pc := 42) (d' := d - 1) (mc' := 0) (ms' := 0) g (dc_X5_told_28.1.2.2.2) cb_X2_numberOf ml_X5_148 ms_X2_numberOf (Nat.le_of_ble_eq_true rfl) (by first | exact jl_d0 hd rfl | omega) (by first | exact Nat.le_of_ble_eq_true rfl | omega) (by first | exact Nat.le_of_ble_eq_true rfl | omega) ?_
          refine s_X2_numberOf g (by first | exact jl_d1 hd rfl | omega) (fun z42 h42 => sg_K1 ?_)
          refine sg_istore (pc := 45) (dc_X5_told_28.2.1.1.1) (by decide) ?_
          refine sg_iload (pc := 47) (dc_X5_told_28.2.1.1.2) rfl ?_
          refine sg_iconst (pc := 49) (z := -1) (dc_X5_told_28.2.1.2.1) (by decide) ?_
          refine sg_icmp_ne (pc := 50) (tgt := 56) (dc_X5_told_28.2.1.2.2) (by decide) (fun c50 => ?_) (fun c50 => ?_)
          · refine sg_iload (pc := 56) (dc_X5_told_28.2.2.2.1) rfl ?_
            refine sg_iload_n (pc := 58) (j := 2) (dc_X5_told_28.2.2.2.2) rfl rfl ?_
            first | refine sg_imulB (pc := 59) (dc_X5_told_59.1.1.1.1) (by omega) (by omega) ?_ | refine sg_imul (pc := 59) (dc_X5_told_59.1.1.1.1) ?_
            refine sg_iload (pc := 60) (dc_X5_told_59.1.1.1.2) rfl ?_
            first | refine sg_iaddB (pc := 62) (dc_X5_told_59.1.1.2.1) (by omega) (by omega) ?_ | refine sg_iadd (pc := 62) (dc_X5_told_59.1.1.2.1) ?_
            refine sg_ldc (pc := 63) (z := 1000003) g (dc_X5_told_59.1.1.2.2) cn_X5_218 (by decide) ?_
            first | refine sg_iremP (pc := 65) (dc_X5_told_59.1.2.1.1) (by omega) (by omega) ?_ | refine sg_irem (pc := 65) (dc_X5_told_59.1.2.1.1) (by first | omega | assumption) ?_
            refine sg_istore (pc := 66) (dc_X5_told_59.1.2.1.2) (by decide) ?_
            first | refine sg_iincB (pc := 68) (dc_X5_told_59.1.2.2.1) rfl (by decide) (by decide) (by omega) (by omega) ?_ | refine sg_iinc (pc := 68) (dc_X5_told_59.1.2.2.1) rfl (by decide) (by decide) ?_
            refine sg_goto (pc := 71) (tgt := 26) (dc_X5_told_59.1.2.2.2) (by decide) ?_
            refine sg_lsub (lv' := [(5, _), (4, _), (0, _), (2, _), (3, _)]) ⟨rfl, rfl, rfl, rfl, rfl, trivial⟩ ?_
            exact ih _ _ (by omega) (by first | exact jl_m1 hm (by omega) | exact jl_m2 hm (by omega) | omega)
          · refine sg_bipush (pc := 53) (z := -9) (dc_X5_told_28.2.2.1.1) (by decide) ?_
            refine sg_iret (pc := 55) (dc_X5_told_28.2.2.1.2) rfl (by first | exact Nat.le_of_ble_eq_true rfl | omega) (by first | exact Nat.le_of_ble_eq_true rfl | omega) ?_
            exact hQ _
    refine sg_lsub (lv' := [(5, _), (4, _), (0, _), (2, _), (3, _)]) ⟨rfl, rfl, rfl, rfl, rfl, trivial⟩ ?_
    exact loop26 _ _ _ (by omega) (Nat.lt_succ_self _)
  · refine sg_bipush (pc := 17) (z := -9) (dc_X5_told_0.2.1.1.2) (by decide) ?_
    refine sg_iret (pc := 19) (dc_X5_told_0.2.1.2.1) rfl (by first | exact Nat.le_of_ble_eq_true rfl | omega) (by first | exact Nat.le_of_ble_eq_true rfl | omega) ?_
    exact hQ _

