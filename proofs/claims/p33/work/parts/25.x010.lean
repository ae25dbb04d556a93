set_option maxRecDepth 100000 in
theorem s_X4_howMany {w : sg_W} {Q : sg_O → sg_H → Prop} {h : sg_H} (g : sg_G w) {d : Nat} (hd : 5 ≤ d) {B a : Nat} (hx : ck_X h B) (hl : ck_L B a 1) {t : Int} (hQ : ∀ z : Int, Q (.inl (some (sg_i z))) h) : sg_C w mi_X4_howMany d 0 0 [sg_r a, sg_i t] h Q := by
  refine sg_of pn_X4 (Nat.le_of_ble_eq_true rfl) ?_
  obtain ⟨-, -, -, -, c40, -⟩ := ck_ln hx hl
  refine sg_iload_n (pc := 0) (j := 1) (dc_X4_howMany_0.1.1.1.1) rfl rfl ?_
  refine sg_if_ne (pc := 1) (tgt := 9) (dc_X4_howMany_0.1.1.1.2) (by decide) (fun c1 => ?_) (fun c1 => ?_)
  · refine sg_iconst (pc := 9) (z := 0) (dc_X4_howMany_0.1.2.1.2) (by decide) ?_
    refine sg_istore_n (pc := 10) (j := 2) (dc_X4_howMany_0.1.2.2.1) rfl (by decide) ?_
    refine sg_iconst (pc := 11) (z := 0) (dc_X4_howMany_0.1.2.2.2) (by decide) ?_
    refine sg_istore_n (pc := 12) (j := 3) (dc_X4_howMany_0.2.1.1.1) rfl (by decide) ?_
    have loop13 : ∀ (N : Nat) (p s : Int), (0 ≤ p) → (40 - p).toNat < N → sg_R w mi_X4_howMany d 0 0 Q 13 [(3, sg_i p), (2, sg_i s), (0, sg_r a), (1, sg_i t)] [] h 0 0 := by
      intro N
      induction N with
      | zero => intro p s p0 hm; exact absurd hm (Nat.not_lt_zero _)
      | succ N ih =>
        intro p s p0 hm
        refine sg_iload_n (pc := 13) (j := 3) (dc_X4_howMany_0.2.1.1.2) rfl rfl ?_
        refine sg_aload_n (pc := 14) (j := 0) (dc_X4_howMany_0.2.1.2.1) rfl rfl ?_
        refine sg_cE0 (pc := 15) (d' := d - 1) (mc' := 0) (ms' := 0) 3 g (dc_X4_howMany_0.2.1.2.2) cb_X0_size ml_X4_46 mn_X0_size rfl mv_X0_size (Nat.le_of_ble_eq_true rfl) (ck_lc (by assumption) (by first | assumption | exact ck_rev)) (Nat.le_of_ble_eq_true rfl) (by first | exact jl_d0 hd rfl | omega) (by first | exact Nat.le_of_ble_eq_true rfl | omega) (by first | exact Nat.le_of_ble_eq_true rfl | omega) ?_
        refine s_X0_size g (by first | exact jl_d1 hd rfl | omega) (by assumption) (by first | assumption | exact ck_rev) (fun z15 l15 u15 N15 => sg_K1 ?_)
        refine sg_icmp_ge (pc := 18) (tgt := 50) (dc_X4_howMany_0.2.2.1.1) (by decide) (fun c18 => ?_) (fun c18 => ?_)
        · refine sg_iload_n (pc := 50) (j := 2) (dc_X4_howMany_26.2.1.2.1) rfl rfl ?_
          refine sg_iret (pc := 51) (dc_X4_howMany_26.2.1.2.2) rfl (by first | exact Nat.le_of_ble_eq_true rfl | omega) (by first | exact Nat.le_of_ble_eq_true rfl | omega) ?_
          exact hQ _
        · refine sg_aload_n (pc := 21) (j := 0) (dc_X4_howMany_0.2.2.1.2) rfl rfl ?_
          refine sg_iload_n (pc := 22) (j := 3) (dc_X4_howMany_0.2.2.2.1) rfl rfl ?_
          refine sg_cS2 (pc := 23) (d' := d - 1) (mc' := 0) (ms' := 0) g (dc_X4_howMany_0.2.2.2.2) cb_X4_isCodeBegin ml_X4_50 ms_X4_isCodeBegin (Nat.le_of_ble_eq_true rfl) (by first | exact jl_d0 hd rfl | omega) (by first | exact Nat.le_of_ble_eq_true rfl | omega) (by first | exact Nat.le_of_ble_eq_true rfl | omega) ?_
          refine s_X4_isCodeBegin g (by first | exact jl_d1 hd rfl | omega) (by assumption) (by assumption) (fun z23 b23 => sg_K1 ?_)
          refine sg_if_eq (pc := 26) (tgt := 44) (dc_X4_howMany_26.1.1.1.1) (by decide) (fun c26 => ?_) (fun c26 => ?_)
          · first | refine sg_iincB (pc := 44) (dc_X4_howMany_26.2.1.1.1) rfl (by decide) (by decide) (by omega) (by omega) ?_ | refine sg_iinc (pc := 44) (dc_X4_howMany_26.2.1.1.1) rfl (by decide) (by decide) ?_
            refine sg_goto (pc := 47) (tgt := 13) (dc_X4_howMany_26.2.1.1.2) (by decide) ?_
            refine sg_lsub (lv' := [(3, _), (2, _), (0, _), (1, _)]) ⟨rfl, rfl, rfl, rfl, trivial⟩ ?_
            exact ih _ _ (by omega) (by first | exact jl_m1 hm (by omega) | exact jl_m2 hm (by omega) | omega)
          · refine sg_aload_n (pc := 29) (j := 0) (dc_X4_howMany_26.1.1.1.2) rfl rfl ?_
            refine sg_iload_n (pc := 30) (j := 3) (dc_X4_howMany_26.1.1.2.1) rfl rfl ?_
            refine sg_cS2 (pc := 31) (d' := d - 1) (mc' := 0) (ms' := 0) g (dc_X4_howMany_26.1.1.2.2) cb_X4_codeFrom ml_X4_57 ms_X4_codeFrom (Nat.le_of_ble_eq_true rfl) (by first | exact jl_d0 hd rfl | omega) (by first | exact Nat.le_of_ble_eq_true rfl | omega) (by first | exact Nat.le_of_ble_eq_true rfl | omega) ?_
            refine s_X4_codeFrom g (by first | exact jl_d1 hd rfl | omega) (by assumption) (by assumption) (fun z31 v31 => sg_K1 ?_)
            refine sg_iload_n (pc := 34) (j := 1) (dc_X4_howMany_26.1.2.1.1) rfl rfl ?_
            refine sg_cS2 (pc := 35) (d' := d - 1) (mc' := 0) (ms' := 0) g (dc_X4_howMany_26.1.2.1.2) cb_X4_isCounted ml_X4_61 ms_X4_isCounted (Nat.le_of_ble_eq_true rfl) (by first | exact jl_d0 hd rfl | omega) (by first | exact Nat.le_of_ble_eq_true rfl | omega) (by first | exact Nat.le_of_ble_eq_true rfl | omega) ?_
            refine s_X4_isCounted g (by first | exact jl_d1 hd rfl | omega) (fun z35 b35 => sg_K1 ?_)
            refine sg_if_eq (pc := 38) (tgt := 44) (dc_X4_howMany_26.1.2.2.1) (by decide) (fun c38 => ?_) (fun c38 => ?_)
            · first | refine sg_iincB (pc := 44) (dc_X4_howMany_26.2.1.1.1) rfl (by decide) (by decide) (by omega) (by omega) ?_ | refine sg_iinc (pc := 44) (dc_X4_howMany_26.2.1.1.1) rfl (by decide) (by decide) ?_
              refine sg_goto (pc := 47) (tgt := 13) (dc_X4_howMany_26.2.1.1.2) (by decide) ?_
              refine sg_lsub (lv' := [(3, _), (2, _), (0, _), (1, _)]) ⟨rfl, rfl, rfl, rfl, trivial⟩ ?_
              exact ih _ _ (by omega) (by first | exact jl_m1 hm (by omega) | exact jl_m2 hm (by omega) | omega)
            · first | refine sg_iincB (pc := 41) (dc_X4_howMany_26.1.2.2.2) rfl (by decide) (by decide) (by omega) (by omega) ?_ | refine sg_iinc (pc := 41) (dc_X4_howMany_26.1.2.2.2) rfl (by decide) (by decide) ?_
              first | refine sg_iincB (pc := 44) (dc_X4_howMany_26.2.1.1.1) rfl (by decide) (by decide) (by omega) (by omega) ?_ | refine sg_iinc (pc := 44) (dc_X4_howMany_26.2.1.1.1) rfl (by decide) (by decide) ?_
              refine sg_goto (pc := 47) (tgt := 13) (dc_X4_howMany_26.2.1.1.2) (by decide) ?_
              refine sg_lsub (lv' := [(3, _), (2, _), (0, _), (1, _)]) ⟨rfl, rfl, rfl, rfl, trivial⟩ ?_
              exact ih _ _ (by omega) (by first | exact jl_m1 hm (by omega) | exact jl_m2 hm (by omega) | omega)
    refine sg_lsub (lv' := [(3, _), (2, _), (0, _), (1, _)]) ⟨rfl, rfl, rfl, rfl, trivial⟩ ?_
    exact loop13 _ _ _ (by omega) (Nat.lt_succ_self _)
  · refine sg_aload_n (pc := 4) (j := 0) (dc_X4_howMany_0.1.1.2.1) rfl rfl ?_
    refine sg_cE0 (pc := 5) (d' := d - 1) (mc' := 0) (ms' := 0) 3 g (dc_X4_howMany_0.1.1.2.2) cb_X0_size ml_X4_46 mn_X0_size rfl mv_X0_size (Nat.le_of_ble_eq_true rfl) (ck_lc (by assumption) (by first | assumption | exact ck_rev)) (Nat.le_of_ble_eq_true rfl) (by first | exact jl_d0 hd rfl | omega) (by first | exact Nat.le_of_ble_eq_true rfl | omega) (by first | exact Nat.le_of_ble_eq_true rfl | omega) ?_
    refine s_X0_size g (by first | exact jl_d1 hd rfl | omega) (by assumption) (by first | assumption | exact ck_rev) (fun z5 l5 u5 N5 => sg_K1 ?_)
    refine sg_iret (pc := 8) (dc_X4_howMany_0.1.2.1.1) rfl (by first | exact Nat.le_of_ble_eq_true rfl | omega) (by first | exact Nat.le_of_ble_eq_true rfl | omega) ?_
    exact hQ _

