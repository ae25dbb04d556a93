set_option maxRecDepth 100000 in
theorem s_X5_order_N {w : sg_W} {Q : sg_O → sg_H → Prop} {h : sg_H} (g : sg_G w) {d : Nat} (hd : 14 ≤ d) {B : Nat} (hx : ck_X h B) {row other : Int} (hv : ¬ (row < 0 ∨ 4 ≤ row ∨ other < 0 ∨ 4 ≤ other)) (hQ : ∀ v : Int, Q (.inl (some (sg_i v))) h) : sg_C w mi_X5_order d 0 0 [sg_r B, sg_i row, sg_i other] h Q := by
  refine sg_of pn_X5 (Nat.le_of_ble_eq_true rfl) ?_
  have y0 := ck_Y0 hx
  refine sg_aload_n (pc := 0) (j := 0) (dc_X5_order_0.1.1.1.1) rfl rfl ?_
  refine sg_iload_n (pc := 1) (j := 1) (dc_X5_order_0.1.1.1.2) rfl rfl ?_
  refine sg_cE1 (pc := 2) (d' := d - 1) (mc' := 0) (ms' := 0) 6 g (dc_X5_order_0.1.1.2.1) cb_X5_rowOf ml_X5_36 mn_X5_rowOf rfl mv_X5_rowOf (Nat.le_of_ble_eq_true rfl) (ck_oc (by assumption)) (Nat.le_of_ble_eq_true rfl) (by first | exact jl_d0 hd rfl | omega) (by first | exact Nat.le_of_ble_eq_true rfl | omega) (by first | exact Nat.le_of_ble_eq_true rfl | omega) ?_
  refine s_X5_rowOf_N g (by first | exact jl_d1 hd rfl | omega) (by assumption) (by omega) (fun a2 l2 r2 r2b => sg_K1 ?_)
  refine sg_astore_n (pc := 5) (j := 3) (dc_X5_order_0.1.1.2.2) rfl (by decide) ?_
  refine sg_aload_n (pc := 6) (j := 0) (dc_X5_order_0.1.2.1.1) rfl rfl ?_
  refine sg_iload_n (pc := 7) (j := 2) (dc_X5_order_0.1.2.1.2) rfl rfl ?_
  refine sg_cE1 (pc := 8) (d' := d - 1) (mc' := 0) (ms' := 0) 6 g (dc_X5_order_0.1.2.2.1) cb_X5_rowOf ml_X5_36 mn_X5_rowOf rfl mv_X5_rowOf (Nat.le_of_ble_eq_true rfl) (ck_oc (by assumption)) (Nat.le_of_ble_eq_true rfl) (by first | exact jl_d0 hd rfl | omega) (by first | exact Nat.le_of_ble_eq_true rfl | omega) (by first | exact Nat.le_of_ble_eq_true rfl | omega) ?_
  refine s_X5_rowOf_N g (by first | exact jl_d1 hd rfl | omega) (by assumption) (by omega) (fun a8 l8 r8 r8b => sg_K1 ?_)
  refine sg_astore (pc := 11) (dc_X5_order_0.1.2.2.2) (by decide) ?_
  refine sg_iconst (pc := 13) (z := 0) (dc_X5_order_0.2.1.1.1) (by decide) ?_
  refine sg_istore (pc := 14) (dc_X5_order_0.2.1.1.2) (by decide) ?_
  have loop16 : ∀ (N : Nat) (p : Int), (0 ≤ p) → (40 - p).toNat < N → sg_R w mi_X5_order d 0 0 Q 16 [(5, sg_i p), (0, sg_r B), (3, sg_r a2), (4, sg_r a8)] [] h 0 0 := by
    intro N
    induction N with
    | zero => intro p p0 hm; exact absurd hm (Nat.not_lt_zero _)
    | succ N ih =>
      intro p p0 hm
      refine sg_iload (pc := 16) (dc_X5_order_0.2.1.2.1) rfl ?_
      refine sg_aload_n (pc := 18) (j := 3) (dc_X5_order_0.2.1.2.2) rfl rfl ?_
      refine sg_cE0 (pc := 19) (d' := d - 1) (mc' := 0) (ms' := 0) 3 g (dc_X5_order_0.2.2.1.1) cb_X0_size ml_X5_63 mn_X0_size rfl mv_X0_size (Nat.le_of_ble_eq_true rfl) (ck_lc (by assumption) (by first | assumption | exact ck_rev)) (Nat.le_of_ble_eq_true rfl) (by first | exact jl_d0 hd rfl | omega) (by first | exact Nat.le_of_ble_eq_true rfl | omega) (by first | exact Nat.le_of_ble_eq_true rfl | omega) ?_
      refine s_X0_size g (by first | exact jl_d1 hd rfl | omega) (by assumption) (by first | assumption | exact ck_rev) (fun z19 l19 u19 N19 => sg_K1 ?_)
      refine sg_icmp_ge (pc := 22) (tgt := 74) (dc_X5_order_0.2.2.1.2) (by decide) (fun c22 => ?_) (fun c22 => ?_)
      · refine sg_aload_n (pc := 74) (j := 3) (dc_X5_order_67.1.1.2.2) rfl rfl ?_
        refine sg_cE0 (pc := 75) (d' := d - 1) (mc' := 0) (ms' := 0) 3 g (dc_X5_order_67.1.2.1.1) cb_X0_size ml_X5_63 mn_X0_size rfl mv_X0_size (Nat.le_of_ble_eq_true rfl) (ck_lc (by assumption) (by first | assumption | exact ck_rev)) (Nat.le_of_ble_eq_true rfl) (by first | exact jl_d0 hd rfl | omega) (by first | exact Nat.le_of_ble_eq_true rfl | omega) (by first | exact Nat.le_of_ble_eq_true rfl | omega) ?_
        refine s_X0_size g (by first | exact jl_d1 hd rfl | omega) (by assumption) (by first | assumption | exact ck_rev) (fun z75 l75 u75 N75 => sg_K1 ?_)
        refine sg_aload (pc := 78) (dc_X5_order_67.1.2.1.2) rfl ?_
        refine sg_cE0 (pc := 80) (d' := d - 1) (mc' := 0) (ms' := 0) 3 g (dc_X5_order_67.1.2.2.1) cb_X0_size ml_X5_63 mn_X0_size rfl mv_X0_size (Nat.le_of_ble_eq_true rfl) (ck_lc (by assumption) (by first | assumption | exact ck_rev)) (Nat.le_of_ble_eq_true rfl) (by first | exact jl_d0 hd rfl | omega) (by first | exact Nat.le_of_ble_eq_true rfl | omega) (by first | exact Nat.le_of_ble_eq_true rfl | omega) ?_
        refine s_X0_size g (by first | exact jl_d1 hd rfl | omega) (by assumption) (by first | assumption | exact ck_rev) (fun z80 l80 u80 N80 => sg_K1 ?_)
        refine sg_cS2 (pc := 83) (d' := d - 1) (mc' := 0) (ms' := 0) g (dc_X5_order_67.1.2.2.2) cb_X5_ahead ml_X5_231 ms_X5_ahead (Nat.le_of_ble_eq_true rfl) (by first | exact jl_d0 hd rfl | omega) (by first | exact Nat.le_of_ble_eq_true rfl | omega) (by first | exact Nat.le_of_ble_eq_true rfl | omega) ?_
        refine s_X5_ahead g (by first | exact jl_d1 hd rfl | omega) (fun z83 h83 => sg_K1 ?_)
        refine sg_iret (pc := 86) (dc_X5_order_67.2.1.1.1) rfl (by first | exact Nat.le_of_ble_eq_true rfl | omega) (by first | exact Nat.le_of_ble_eq_true rfl | omega) ?_
        exact hQ _
      · refine sg_iload (pc := 25) (dc_X5_order_0.2.2.2.1) rfl ?_
        refine sg_aload (pc := 27) (dc_X5_order_0.2.2.2.2) rfl ?_
        refine sg_cE0 (pc := 29) (d' := d - 1) (mc' := 0) (ms' := 0) 3 g (dc_X5_order_29.1.1.1.1) cb_X0_size ml_X5_63 mn_X0_size rfl mv_X0_size (Nat.le_of_ble_eq_true rfl) (ck_lc (by assumption) (by first | assumption | exact ck_rev)) (Nat.le_of_ble_eq_true rfl) (by first | exact jl_d0 hd rfl | omega) (by first | exact Nat.le_of_ble_eq_true rfl | omega) (by first | exact Nat.le_of_ble_eq_true rfl | omega) ?_
        refine s_X0_size g (by first | exact jl_d1 hd rfl | omega) (by assumption) (by first | assumption | exact ck_rev) (fun z29 l29 u29 N29 => sg_K1 ?_)
        refine sg_icmp_ge (pc := 32) (tgt := 74) (dc_X5_order_29.1.1.1.2) (by decide) (fun c32 => ?_) (fun c32 => ?_)
        · refine sg_aload_n (pc := 74) (j := 3) (dc_X5_order_67.1.1.2.2) rfl rfl ?_
          refine sg_cE0 (pc := 75) (d' := d - 1) (mc' := 0) (ms' := 0) 3 g (dc_X5_order_67.1.2.1.1) cb_X0_size ml_X5_63 mn_X0_size rfl mv_X0_size (Nat.le_of_ble_eq_true rfl) (ck_lc (by assumption) (by first | assumption | exact ck_rev)) (Nat.le_of_ble_eq_true rfl) (by first | exact jl_d0 hd rfl | omega) (by first | exact Nat.le_of_ble_eq_true rfl | omega) (by first | exact Nat.le_of_ble_eq_true rfl | omega) ?_
          refine s_X0_size g (by first | exact jl_d1 hd rfl | omega) (by assumption) (by first | assumption | exact ck_rev) (fun z75 l75 u75 N75 => sg_K1 ?_)
          refine sg_aload (pc := 78) (dc_X5_order_67.1.2.1.2) rfl ?_
          refine sg_cE0 (pc := 80) (d' := d - 1) (mc' := 0) (ms' := 0) 3 g (dc_X5_order_67.1.2.2.1) cb_X0_size ml_X5_63 mn_X0_size rfl mv_X0_size (Nat.le_of_ble_eq_true rfl) (ck_lc (by assumption) (by first | assumption | exact ck_rev)) (Nat.le_of_ble_eq_true rfl) (by first | exact jl_d0 hd rfl | omega) (by first | exact Nat.le_of_ble_eq_true rfl | omega) (by first | exact Nat.le_of_ble_eq_true rfl | omega) ?_
          refine s_X0_size g (by first | exact jl_d1 hd rfl | omega) (by assumption) (by first | assumption | exact ck_rev) (fun z80 l80 u80 N80 => sg_K1 ?_)
          refine sg_cS2 (pc := 83) (d' := d - 1) (mc' := 0) (ms' := 0) g (dc_X5_order_67.1.2.2.2) cb_X5_ahead ml_X5_231 ms_X5_ahead (Nat.le_of_ble_eq_true rfl) (by first | exact jl_d0 hd rfl | omega) (by first | exact Nat.le_of_ble_eq_true rfl | omega) (by first | exact Nat.le_of_ble_eq_true rfl | omega) ?_
          refine s_X5_ahead g (by first | exact jl_d1 hd rfl | omega) (fun z83 h83 => sg_K1 ?_)
          refine sg_iret (pc := 86) (dc_X5_order_67.2.1.1.1) rfl (by first | exact Nat.le_of_ble_eq_true rfl | omega) (by first | exact Nat.le_of_ble_eq_true rfl | omega) ?_
          exact hQ _
        · refine sg_aload_n (pc := 35) (j := 3) (dc_X5_order_29.1.1.2.1) rfl rfl ?_
          refine sg_iload (pc := 36) (dc_X5_order_29.1.1.2.2) rfl ?_
          refine sg_cE1 (pc := 38) (d' := d - 1) (mc' := 0) (ms' := 0) 3 g (dc_X5_order_29.1.2.1.1) cb_X0_get ml_X5_75 mn_X0_get rfl mv_X0_get (Nat.le_of_ble_eq_true rfl) (ck_lc (by assumption) (by first | assumption | exact ck_rev)) (Nat.le_of_ble_eq_true rfl) (by first | exact jl_d0 hd rfl | omega) (by first | exact Nat.le_of_ble_eq_true rfl | omega) (by first | exact Nat.le_of_ble_eq_true rfl | omega) ?_
          refine s_X0_get g (by first | exact jl_d1 hd rfl | omega) (by assumption) (by first | assumption | exact ck_rev) (fun z38 G38 v38 => sg_K1 ?_)
          refine sg_aload (pc := 41) (dc_X5_order_29.1.2.1.2) rfl ?_
          refine sg_iload (pc := 43) (dc_X5_order_29.1.2.2.1) rfl ?_
          refine sg_cE1 (pc := 45) (d' := d - 1) (mc' := 0) (ms' := 0) 3 g (dc_X5_order_29.1.2.2.2) cb_X0_get ml_X5_75 mn_X0_get rfl mv_X0_get (Nat.le_of_ble_eq_true rfl) (ck_lc (by assumption) (by first | assumption | exact ck_rev)) (Nat.le_of_ble_eq_true rfl) (by first | exact jl_d0 hd rfl | omega) (by first | exact Nat.le_of_ble_eq_true rfl | omega) (by first | exact Nat.le_of_ble_eq_true rfl | omega) ?_
          refine s_X0_get g (by first | exact jl_d1 hd rfl | omega) (by assumption) (by first | assumption | exact ck_rev) (fun z45 G45 v45 => sg_K1 ?_)
          refine sg_icmp_eq (pc := 48) (tgt := 68) (dc_X5_order_29.2.1.1.1) (by decide) (fun c48 => ?_) (fun c48 => ?_)
          · first | refine sg_iincB (pc := 68) (dc_X5_order_67.1.1.1.2) rfl (by decide) (by decide) (by omega) (by omega) ?_ | refine sg_iinc (pc := 68) (dc_X5_order_67.1.1.1.2) rfl (by decide) (by decide) ?_
            refine sg_goto (pc := 71) (tgt := 16) (dc_X5_order_67.1.1.2.1) (by decide) ?_
            refine sg_lsub (lv' := [(5, _), (0, _), (3, _), (4, _)]) ⟨rfl, rfl, rfl, rfl, trivial⟩ ?_
            exact ih _ (by omega) (by first | exact jl_m1 hm (by omega) | exact jl_m2 hm (by omega) | omega)
          · refine sg_aload_n (pc := 51) (j := 3) (dc_X5_order_29.2.1.1.2) rfl rfl ?_
            refine sg_iload (pc := 52) (dc_X5_order_29.2.1.2.1) rfl ?_
            refine sg_cE1 (pc := 54) (d' := d - 1) (mc' := 0) (ms' := 0) 3 g (dc_X5_order_29.2.1.2.2) cb_X0_get ml_X5_75 mn_X0_get rfl mv_X0_get (Nat.le_of_ble_eq_true rfl) (ck_lc (by assumption) (by first | assumption | exact ck_rev)) (Nat.le_of_ble_eq_true rfl) (by first | exact jl_d0 hd rfl | omega) (by first | exact Nat.le_of_ble_eq_true rfl | omega) (by first | exact Nat.le_of_ble_eq_true rfl | omega) ?_
            refine s_X0_get g (by first | exact jl_d1 hd rfl | omega) (by assumption) (by first | assumption | exact ck_rev) (fun z54 G54 v54 => sg_K1 ?_)
            refine sg_aload (pc := 57) (dc_X5_order_29.2.2.1.1) rfl ?_
            refine sg_iload (pc := 59) (dc_X5_order_29.2.2.1.2) rfl ?_
            refine sg_cE1 (pc := 61) (d' := d - 1) (mc' := 0) (ms' := 0) 3 g (dc_X5_order_29.2.2.2.1) cb_X0_get ml_X5_75 mn_X0_get rfl mv_X0_get (Nat.le_of_ble_eq_true rfl) (ck_lc (by assumption) (by first | assumption | exact ck_rev)) (Nat.le_of_ble_eq_true rfl) (by first | exact jl_d0 hd rfl | omega) (by first | exact Nat.le_of_ble_eq_true rfl | omega) (by first | exact Nat.le_of_ble_eq_true rfl | omega) ?_
            refine s_X0_get g (by first | exact jl_d1 hd rfl | omega) (by assumption) (by first | assumption | exact ck_rev) (fun z61 G61 v61 => sg_K1 ?_)
            refine sg_cS2 (pc := 64) (d' := d - 1) (mc' := 0) (ms' := 0) g (dc_X5_order_29.2.2.2.2) cb_X5_ahead ml_X5_231 ms_X5_ahead (Nat.le_of_ble_eq_true rfl) (by first | exact jl_d0 hd rfl | omega) (by first | exact Nat.le_of_ble_eq_true rfl | omega) (by first | exact Nat.le_of_ble_eq_true rfl | omega) ?_
            refine s_X5_ahead g (by first | exact jl_d1 hd rfl | omega) (fun z64 h64 => sg_K1 ?_)
            refine sg_iret (pc := 67) (dc_X5_order_67.1.1.1.1) rfl (by first | exact Nat.le_of_ble_eq_true rfl | omega) (by first | exact Nat.le_of_ble_eq_true rfl | omega) ?_
            exact hQ _
  refine sg_lsub (lv' := [(5, _), (0, _), (3, _), (4, _)]) ⟨rfl, rfl, rfl, rfl, trivial⟩ ?_
  exact loop16 _ _ (by omega) (Nat.lt_succ_self _)

