set_option maxRecDepth 100000 in
theorem s_X4_areSentAgain {w : sg_W} {Q : sg_O → sg_H → Prop} {h : sg_H} (g : sg_G w) {d : Nat} (hd : 5 ≤ d) {B a : Nat} (hx : ck_X h B) (hl : ck_L B a 1) (hQ : ∀ z : Int, (z = 0 ∨ z = 1) → Q (.inl (some (sg_i z))) h) : sg_C w mi_X4_areSentAgain d 0 0 [sg_r a] h Q := by
  refine sg_of pn_X4 (Nat.le_of_ble_eq_true rfl) ?_
  obtain ⟨-, -, -, -, c40, -⟩ := ck_ln hx hl
  refine sg_iconst (pc := 0) (z := 0) (dc_X4_areSentAgain_0.1.1.1.1) (by decide) ?_
  refine sg_istore_n (pc := 1) (j := 1) (dc_X4_areSentAgain_0.1.1.1.2) rfl (by decide) ?_
  refine sg_iconst (pc := 2) (z := 0) (dc_X4_areSentAgain_0.1.1.2.1) (by decide) ?_
  refine sg_istore_n (pc := 3) (j := 2) (dc_X4_areSentAgain_0.1.1.2.2) rfl (by decide) ?_
  have loop4 : ∀ (N : Nat) (p s : Int), (0 ≤ p) → (40 - p).toNat < N → sg_R w mi_X4_areSentAgain d 0 0 Q 4 [(2, sg_i p), (1, sg_i s), (0, sg_r a)] [] h 0 0 := by
    intro N
    induction N with
    | zero => intro p s p0 hm; exact absurd hm (Nat.not_lt_zero _)
    | succ N ih =>
      intro p s p0 hm
      refine sg_iload_n (pc := 4) (j := 2) (dc_X4_areSentAgain_0.1.2.1.1) rfl rfl ?_
      refine sg_aload_n (pc := 5) (j := 0) (dc_X4_areSentAgain_0.1.2.1.2) rfl rfl ?_
      refine sg_cE0 (pc := 6) (d' := d - 1) (mc' := 0) (ms' := 0) 3 g (dc_X4_areSentAgain_0.1.2.2.1) cb_X0_size ml_X4_46 mn_X0_size rfl mv_X0_size (Nat.le_of_ble_eq_true rfl) (ck_lc (by assumption) (by first | assumption | exact ck_rev)) (Nat.le_of_ble_eq_true rfl) (by first | exact jl_d0 hd rfl | omega) (by first | exact Nat.le_of_ble_eq_true rfl | omega) (by first | exact Nat.le_of_ble_eq_true rfl | omega) ?_
      refine s_X0_size g (by first | exact jl_d1 hd rfl | omega) (by assumption) (by first | assumption | exact ck_rev) (fun z6 l6 u6 N6 => sg_K1 ?_)
      refine sg_icmp_ge (pc := 9) (tgt := 50) (dc_X4_areSentAgain_0.1.2.2.2) (by decide) (fun c9 => ?_) (fun c9 => ?_)
      · refine sg_iload_n (pc := 50) (j := 1) (dc_X4_areSentAgain_26.2.2.2.1) rfl rfl ?_
        refine sg_aload_n (pc := 51) (j := 0) (dc_X4_areSentAgain_26.2.2.2.2) rfl rfl ?_
        refine sg_cE0 (pc := 52) (d' := d - 1) (mc' := 0) (ms' := 0) 3 g (dc_X4_areSentAgain_52.1.1.1) cb_X0_size ml_X4_46 mn_X0_size rfl mv_X0_size (Nat.le_of_ble_eq_true rfl) (ck_lc (by assumption) (by first | assumption | exact ck_rev)) (Nat.le_of_ble_eq_true rfl) (by first | exact jl_d0 hd rfl | omega) (by first | exact Nat.le_of_ble_eq_true rfl | omega) (by first | exact Nat.le_of_ble_eq_true rfl | omega) ?_
        refine s_X0_size g (by first | exact jl_d1 hd rfl | omega) (by assumption) (by first | assumption | exact ck_rev) (fun z52 l52 u52 N52 => sg_K1 ?_)
        refine sg_icmp_ne (pc := 55) (tgt := 62) (dc_X4_areSentAgain_52.1.1.2) (by decide) (fun c55 => ?_) (fun c55 => ?_)
        · refine sg_iconst (pc := 62) (z := 0) (dc_X4_areSentAgain_52.2.1.1) (by decide) ?_
          refine sg_zret (pc := 63) (dc_X4_areSentAgain_52.2.1.2) rfl (by first | exact Or.inl rfl | exact Or.inr rfl | omega | assumption) (by first | exact Nat.le_of_ble_eq_true rfl | omega) (by first | exact Nat.le_of_ble_eq_true rfl | omega) ?_
          exact hQ _ (by first | exact Or.inl rfl | exact Or.inr rfl | omega | assumption)
        · refine sg_iconst (pc := 58) (z := 1) (dc_X4_areSentAgain_52.1.2.1) (by decide) ?_
          refine sg_goto (pc := 59) (tgt := 63) (dc_X4_areSentAgain_52.1.2.2) (by decide) ?_
          refine sg_zret (pc := 63) (dc_X4_areSentAgain_52.2.1.2) rfl (by first | exact Or.inl rfl | exact Or.inr rfl | omega | assumption) (by first | exact Nat.le_of_ble_eq_true rfl | omega) (by first | exact Nat.le_of_ble_eq_true rfl | omega) ?_
          exact hQ _ (by first | exact Or.inl rfl | exact Or.inr rfl | omega | assumption)
      · refine sg_aload_n (pc := 12) (j := 0) (dc_X4_areSentAgain_0.2.1.1.1) rfl rfl ?_
        refine sg_iload_n (pc := 13) (j := 2) (dc_X4_areSentAgain_0.2.1.1.2) rfl rfl ?_
        refine sg_cS2 (pc := 14) (d' := d - 1) (mc' := 0) (ms' := 0) g (dc_X4_areSentAgain_0.2.1.2.1) cb_X4_isCodeBegin ml_X4_50 ms_X4_isCodeBegin (Nat.le_of_ble_eq_true rfl) (by first | exact jl_d0 hd rfl | omega) (by first | exact Nat.le_of_ble_eq_true rfl | omega) (by first | exact Nat.le_of_ble_eq_true rfl | omega) ?_
        refine s_X4_isCodeBegin g (by first | exact jl_d1 hd rfl | omega) (by assumption) (by assumption) (fun z14 b14 => sg_K1 ?_)
        refine sg_if_eq (pc := 17) (tgt := 44) (dc_X4_areSentAgain_0.2.1.2.2) (by decide) (fun c17 => ?_) (fun c17 => ?_)
        · first | refine sg_iincB (pc := 44) (dc_X4_areSentAgain_26.2.2.1.1) rfl (by decide) (by decide) (by omega) (by omega) ?_ | refine sg_iinc (pc := 44) (dc_X4_areSentAgain_26.2.2.1.1) rfl (by decide) (by decide) ?_
          refine sg_goto (pc := 47) (tgt := 4) (dc_X4_areSentAgain_26.2.2.1.2) (by decide) ?_
          refine sg_lsub (lv' := [(2, _), (1, _), (0, _)]) ⟨rfl, rfl, rfl, trivial⟩ ?_
          exact ih _ _ (by omega) (by first | exact jl_m1 hm (by omega) | exact jl_m2 hm (by omega) | omega)
        · refine sg_aload_n (pc := 20) (j := 0) (dc_X4_areSentAgain_0.2.2.1.1) rfl rfl ?_
          refine sg_iload_n (pc := 21) (j := 2) (dc_X4_areSentAgain_0.2.2.1.2) rfl rfl ?_
          refine sg_cS2 (pc := 22) (d' := d - 1) (mc' := 0) (ms' := 0) g (dc_X4_areSentAgain_0.2.2.2.1) cb_X4_codeFrom ml_X4_57 ms_X4_codeFrom (Nat.le_of_ble_eq_true rfl) (by first | exact jl_d0 hd rfl | omega) (by first | exact Nat.le_of_ble_eq_true rfl | omega) (by first | exact Nat.le_of_ble_eq_true rfl | omega) ?_
          refine s_X4_codeFrom g (by first | exact jl_d1 hd rfl | omega) (by assumption) (by assumption) (fun z22 v22 => sg_K1 ?_)
          refine sg_istore_n (pc := 25) (j := 3) (dc_X4_areSentAgain_0.2.2.2.2) rfl (by decide) ?_
          refine sg_aload_n (pc := 26) (j := 0) (dc_X4_areSentAgain_26.1.1.1.1) rfl rfl ?_
          refine sg_iload_n (pc := 27) (j := 1) (dc_X4_areSentAgain_26.1.1.1.2) rfl rfl ?_
          refine sg_iload_n (pc := 28) (j := 3) (dc_X4_areSentAgain_26.1.1.2.1) rfl rfl ?_
          refine sg_cS3 (pc := 29) (d' := d - 1) (mc' := 0) (ms' := 0) g (dc_X4_areSentAgain_26.1.1.2.2) cb_X4_standsAt ml_X4_68 ms_X4_standsAt (Nat.le_of_ble_eq_true rfl) (by first | exact jl_d0 hd rfl | omega) (by first | exact Nat.le_of_ble_eq_true rfl | omega) (by first | exact Nat.le_of_ble_eq_true rfl | omega) ?_
          refine s_X4_standsAt g (by first | exact jl_d1 hd rfl | omega) (by assumption) (by assumption) (fun z29 b29 => sg_K1 ?_)
          refine sg_if_ne (pc := 32) (tgt := 37) (dc_X4_areSentAgain_26.1.2.1.1) (by decide) (fun c32 => ?_) (fun c32 => ?_)
          · refine sg_iload_n (pc := 37) (j := 1) (dc_X4_areSentAgain_26.1.2.2.2) rfl rfl ?_
            refine sg_iload_n (pc := 38) (j := 3) (dc_X4_areSentAgain_26.2.1.1.1) rfl rfl ?_
            refine sg_cS1 (pc := 39) (d' := d - 1) (mc' := 0) (ms' := 0) g (dc_X4_areSentAgain_26.2.1.1.2) cb_X4_unitsOf ml_X4_72 ms_X4_unitsOf (Nat.le_of_ble_eq_true rfl) (by first | exact jl_d0 hd rfl | omega) (by first | exact Nat.le_of_ble_eq_true rfl | omega) (by first | exact Nat.le_of_ble_eq_true rfl | omega) ?_
            refine s_X4_unitsOf g (by first | exact jl_d1 hd rfl | omega) (fun z39 h39 => sg_K1 ?_)
            first | refine sg_iaddB (pc := 42) (dc_X4_areSentAgain_26.2.1.2.1) (by omega) (by omega) ?_ | refine sg_iadd (pc := 42) (dc_X4_areSentAgain_26.2.1.2.1) ?_
            refine sg_istore_n (pc := 43) (j := 1) (dc_X4_areSentAgain_26.2.1.2.2) rfl (by decide) ?_
            first | refine sg_iincB (pc := 44) (dc_X4_areSentAgain_26.2.2.1.1) rfl (by decide) (by decide) (by omega) (by omega) ?_ | refine sg_iinc (pc := 44) (dc_X4_areSentAgain_26.2.2.1.1) rfl (by decide) (by decide) ?_
            refine sg_goto (pc := 47) (tgt := 4) (dc_X4_areSentAgain_26.2.2.1.2) (by decide) ?_
            refine sg_lsub (lv' := [(2, _), (1, _), (0, _)]) ⟨rfl, rfl, rfl, trivial⟩ ?_
            exact ih _ _ (by omega) (by first | exact jl_m1 hm (by omega) | exact jl_m2 hm (by omega) | omega)
          · refine sg_iconst (pc := 35) (z := 0) (dc_X4_areSentAgain_26.1.2.1.2) (by decide) ?_
            refine sg_zret (pc := 36) (dc_X4_areSentAgain_26.1.2.2.1) rfl (by first | exact Or.inl rfl | exact Or.inr rfl | omega | assumption) (by first | exact Nat.le_of_ble_eq_true rfl | omega) (by first | exact Nat.le_of_ble_eq_true rfl | omega) ?_
            exact hQ _ (by first | exact Or.inl rfl | exact Or.inr rfl | omega | assumption)
  refine sg_lsub (lv' := [(2, _), (1, _), (0, _)]) ⟨rfl, rfl, rfl, trivial⟩ ?_
  exact loop4 _ _ _ (by omega) (Nat.lt_succ_self _)

