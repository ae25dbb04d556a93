set_option maxRecDepth 100000 in
theorem s_X2_kindsOf {w : sg_W} {Q : sg_O → sg_H → Prop} {h : sg_H} (g : sg_G w) {d : Nat} (hd : 4 ≤ d) {x : Int} (hQ : ∀ z : Int, z = fn_kinds x → Q (.inl (some (sg_i z))) h) : sg_C w mi_X2_kindsOf d 0 0 [sg_i x] h Q := by
  refine sg_of pn_X2 (Nat.le_of_ble_eq_true rfl) ?_
  refine sg_iconst (pc := 0) (z := 0) (dc_X2_kindsOf_0.1.1.1.1) (by decide) ?_
  refine sg_istore_n (pc := 1) (j := 1) (dc_X2_kindsOf_0.1.1.1.2) rfl (by decide) ?_
  refine sg_iconst (pc := 2) (z := 0) (dc_X2_kindsOf_0.1.1.2.1) (by decide) ?_
  refine sg_istore_n (pc := 3) (j := 2) (dc_X2_kindsOf_0.1.1.2.2) rfl (by decide) ?_
  have loop4 : ∀ (N : Nat) (k s : Int), ((k = 0 ∧ s = 0) ∨ (k = 1 ∧ s = fn_isOf x 0) ∨ (k = 2 ∧ s = fn_isOf x 0 + 2 * fn_isOf x 1) ∨ (k = 3 ∧ s = fn_isOf x 0 + 2 * fn_isOf x 1 + 4 * fn_isOf x 2) ∨ (k = 4 ∧ s = fn_isOf x 0 + 2 * fn_isOf x 1 + 4 * fn_isOf x 2 + 8 * fn_isOf x 3) ∨ (k = 5 ∧ s = fn_kinds x)) → (5 - k).toNat < N → sg_R w mi_X2_kindsOf d 0 0 Q 4 [(2, sg_i k), (1, sg_i s), (0, sg_i x)] [] h 0 0 := by
    intro N
    induction N with
    | zero => intro k s k0 hm; exact absurd hm (Nat.not_lt_zero _)
    | succ N ih =>
      intro k s k0 hm
      have ls := fk_lsl
      have lz := fk_02 x
      have lq : fn_kinds x = fn_isOf x 0 + 2 * fn_isOf x 1 + 4 * fn_isOf x 2 + 8 * fn_isOf x 3 + 16 * fn_isOf x 4 := rfl
      rcases k0 with ⟨rfl, rfl⟩ | ⟨rfl, rfl⟩ | ⟨rfl, rfl⟩ | ⟨rfl, rfl⟩ | ⟨rfl, rfl⟩ | ⟨rfl, rfl⟩
      all_goals
        refine sg_iload_n (pc := 4) (j := 2) (dc_X2_kindsOf_0.1.2.1.1) rfl rfl ?_
        refine sg_iconst (pc := 5) (z := 5) (dc_X2_kindsOf_0.1.2.1.2) (by decide) ?_
        refine sg_icmp_ge (pc := 6) (tgt := 29) (dc_X2_kindsOf_0.1.2.2.1) (by decide) (fun c6 => ?_) (fun c6 => ?_)
        · refine sg_iload_n (pc := 29) (j := 1) (dc_X2_kindsOf_22.1.2.2) rfl rfl ?_
          refine sg_iret (pc := 30) (dc_X2_kindsOf_22.2.1.1) rfl (by first | exact Nat.le_of_ble_eq_true rfl | omega) (by first | exact Nat.le_of_ble_eq_true rfl | omega) ?_
          exact hQ _ (by omega)
        · refine sg_iload_n (pc := 9) (j := 0) (dc_X2_kindsOf_0.1.2.2.2) rfl rfl ?_
          refine sg_iload_n (pc := 10) (j := 2) (dc_X2_kindsOf_0.2.1.1.1) rfl rfl ?_
          refine sg_cS2 (pc := 11) (d' := d - 1) (mc' := 0) (ms' := 0) g (dc_X2_kindsOf_0.2.1.1.2) cb_X2_isOf ml_X2_25 ms_X2_isOf (Nat.le_of_ble_eq_true rfl) (by first | exact jl_d0 hd rfl | omega) (by first | exact Nat.le_of_ble_eq_true rfl | omega) (by first | exact Nat.le_of_ble_eq_true rfl | omega) ?_
          refine s_X2_isOf g (by first | exact jl_d1 hd rfl | omega) (fun z11 h11 b11 => sg_K1 ?_)
          refine sg_if_eq (pc := 14) (tgt := 23) (dc_X2_kindsOf_0.2.1.2.1) (by decide) (fun c14 => ?_) (fun c14 => ?_)
          · first | refine sg_iincB (pc := 23) (dc_X2_kindsOf_22.1.1.2) rfl (by decide) (by decide) (by omega) (by omega) ?_ | refine sg_iinc (pc := 23) (dc_X2_kindsOf_22.1.1.2) rfl (by decide) (by decide) ?_
            refine sg_goto (pc := 26) (tgt := 4) (dc_X2_kindsOf_22.1.2.1) (by decide) ?_
            refine sg_lsub (lv' := [(2, _), (1, _), (0, _)]) ⟨rfl, rfl, rfl, trivial⟩ ?_
            exact ih _ _ (by omega) (by first | exact jl_m1 hm (by omega) | exact jl_m2 hm (by omega) | omega)
          · refine sg_iload_n (pc := 17) (j := 1) (dc_X2_kindsOf_0.2.1.2.2) rfl rfl ?_
            refine sg_iconst (pc := 18) (z := 1) (dc_X2_kindsOf_0.2.2.1.1) (by decide) ?_
            refine sg_iload_n (pc := 19) (j := 2) (dc_X2_kindsOf_0.2.2.1.2) rfl rfl ?_
            refine sg_ishl (pc := 20) (dc_X2_kindsOf_0.2.2.2.1) ?_
            first | refine sg_iaddB (pc := 21) (dc_X2_kindsOf_0.2.2.2.2) (by omega) (by omega) ?_ | refine sg_iadd (pc := 21) (dc_X2_kindsOf_0.2.2.2.2) ?_
            refine sg_istore_n (pc := 22) (j := 1) (dc_X2_kindsOf_22.1.1.1) rfl (by decide) ?_
            first | refine sg_iincB (pc := 23) (dc_X2_kindsOf_22.1.1.2) rfl (by decide) (by decide) (by omega) (by omega) ?_ | refine sg_iinc (pc := 23) (dc_X2_kindsOf_22.1.1.2) rfl (by decide) (by decide) ?_
            refine sg_goto (pc := 26) (tgt := 4) (dc_X2_kindsOf_22.1.2.1) (by decide) ?_
            refine sg_lsub (lv' := [(2, _), (1, _), (0, _)]) ⟨rfl, rfl, rfl, trivial⟩ ?_
            exact ih _ _ (by omega) (by first | exact jl_m1 hm (by omega) | exact jl_m2 hm (by omega) | omega)
  refine sg_lsub (lv' := [(2, _), (1, _), (0, _)]) ⟨rfl, rfl, rfl, trivial⟩ ?_
  exact loop4 _ _ _ (by omega) (Nat.lt_succ_self _)

