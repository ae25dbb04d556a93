set_option maxRecDepth 100000 in
theorem s_X2_kindsOf {w : sg_W} {Q : sg_O → sg_H → Prop} {h : sg_H} (g : sg_G w) {d : Nat} (hd : 4 ≤ d) {x : Int} (hQ : ∀ z : Int, z = fn_kinds x → Q (.inl (some (sg_i z))) h) : sg_C w mi_X2_kindsOf d 0 0 [sg_i x] h Q := by
  refine sg_of pn_X2 (Nat.le_of_ble_eq_true rfl) ?_
  refine sg_iconst (pc := 0) (z := 0) (dc_X2_kindsOf_0.1.1.1.1) (by decide) ?_
  refine sg_istore_n (pc := 1) (j := 1) (dc_X2_kindsOf_0.1.1.1.2) rfl (by decide) ?_
  refine sg_iconst (pc := 2) (z := 0) (dc_X2_kindsOf_0.1.1.2.1) (by decide) ?_
  refine sg_istore_n (pc := 3) (j := 2) (dc_X2_kindsOf_0.1.1.2.2) rfl (by decide) ?_
  have loop4 : ∀ (N : Nat) (k s : Int), ((k = 0 ∧ s = 0) ∨ (k = 1 ∧ s = fn_isOf x 0) ∨ (k = 2 ∧ s = fn_isOf x 0 + 2 * fn_isOf x 1) ∨ (k = 3 ∧ s = fn_isOf x 0 + 2 * fn_isOf x 1 + 4 * fn_isOf x 2) ∨ (k = 4 ∧ s = fn_isOf x 0 + 2 * fn_isOf x 1 + 4 * fn_isOf x 2 + 8 * fn_isOf x 3) ∨ (k = 5 ∧ s = fn_kinds x)) → (5 - k).toNat < N → sg_R w mi_X2_kindsOf d 0 0 Q 4 [(2, sg_i k), (1, sg_i s), (0, sg_i x)] [] h 0 0 := by
    intro N
    induction N with
    | zero => intro k s k0 hm; exact absurd hm (Nat.not_lt_zero _)
    | succ N ih =>
      intro k s k0 hm
      have ls := fk_lsl
      have lz := fk_02 x
      have lq : fn_kinds x = fn_isOf x 0 + 2 * fn_isOf x 1 + 4 * fn_isOf x 2 + 8 * fn_isOf x 3 + 16 * fn_isOf x 4 := rfl
      rcases k0 with ⟨rfl, rfl⟩ | ⟨rfl, rfl⟩ | ⟨rfl, rfl⟩ | ⟨rfl, rfl⟩ | ⟨rfl, rfl⟩ | ⟨rfl, rfl⟩
      all_goals
        refine sg_iload_n (pc := 4) (j := 2) (dc_X2_kindsOf_0.1.2.1.1) rfl rfl ?_
        refine sg_iconst (pc := 5) (z := 5) (dc_X2_kindsOf_0.1.2.1.2) (by decide) ?_
        refine sg_icmp_ge (pc := 6) (tgt := 29) (dc_X2_kindsOf_0.1.2.2.1) (by decide) (fun c6 => ?_) (fun c6 => ?_)
        · refine sg_iload_n (pc := 29) (j := 1) (dc_X2_kindsOf_22.1.2.2) rfl rfl ?_
          refine sg_iret (pc := 30) (dc_X2_kindsOf_22.2.1.1) rfl (by first | exact Nat.le_of_ble_eq_true rfl | omega) (by first | exact Nat.le_of_ble_eq_true rfl | omega) ?_
          exact hQ _ (by omega)
        · refine sg_iload_n (pc := 9) (j := 0) (dc_X2_kindsOf_0.1.2.2.2) rfl rfl ?_
          refine sg_iload_n (pc := 10) (j := 2) (dc_X2_kindsOf_0.2.1.1.1) rfl rfl ?_
          refine sg_cS2 (pc := 11) (d' := d - 1) (mc' := 0) (ms' := 0) g (dc_X2_kindsOf_0.2.1.1.2) cb_X2_isOf ml_X2_25 ms_X2_isOf (Nat.le_of_ble_eq_true rfl) (by first | exact jl_d0 hd rfl | omega) (by first | exact Nat.le_of_ble_eq_true rfl | omega) (by first | exact Nat.le_of_ble_eq_true rfl | omega) ?_
          refine s_X2_isOf g (by first | exact jl_d1 hd rfl | omega) (fun z11 h11 b11 => sg_K1 ?_)
          refine sg_if_eq (pc := 14) (tgt := 23) (dc_X2_kindsOf_0.2.1.2.1) (by decide) (fun c14 => ?_) (fun c14 => ?_)
          · first | refine sg_iincB (pc := 23) (dc_X2_kindsOf_22.1.1.2) rfl (by decide) (by decide) (by omega) (by omega) ?_ | refine sg_iinc (pc := 23) (dc_X2_kindsOf_22.1.1.2) rfl (by decide) (by decide) ?_
            refine sg_goto (pc := 26) (tgt := 4) (dc_X2_kindsOf_22.1.2.1) (by decide) ?_
            refine sg_lsub (lv' := [(2, _), (1, _), (0, _)]) ⟨rfl, rfl, rfl, trivial⟩ ?_
            exact ih _ _ (by first | exact Or.inr (Or.inl ⟨by decide, by omega⟩) | exact Or.inr (Or.inr (Or.inl ⟨by decide, by omega⟩)) | exact Or.inr (Or.inr (Or.inr (Or.inl ⟨by decide, by omega⟩))) | exact Or.inr (Or.inr (Or.inr (Or.inr (Or.inl ⟨by decide, by omega⟩)))) | exact Or.inr (Or.inr (Or.inr (Or.inr (Or.inr ⟨by decide, by omega⟩)))) | omega) (by first | exact jl_m1 hm (by omega) | exact jl_m2 hm (by omega) | omega)
          · refine sg_iload_n (pc := 17) (j := 1) (dc_X2_kindsOf_0.2.1.2.2) rfl rfl ?_
            refine sg_iconst (pc := 18) (z := 1) (dc_X2_kindsOf_0.2.2.1.1) (by decide) ?_
            refine sg_iload_n (pc := 19) (j := 2) (dc_X2_kindsOf_0.2.2.1.2) rfl rfl ?_
            refine sg_ishl (pc := 20) (dc_X2_kindsOf_0.2.2.2.1) ?_
            first | refine sg_iaddB (pc := 21) (dc_X2_kindsOf_0.2.2.2.2) (by omega) (by omega) ?_ | refine sg_iadd (pc := 21) (dc_X2_kindsOf_0.2.2.2.2) ?_
            refine sg_istore_n (pc := 22) (j := 1) (dc_X2_kindsOf_22.1.1.1) rfl (by decide) ?_
            first | refine sg_iincB (pc := 23) (dc_X2_kindsOf_22.1.1.2) rfl (by decide) (by decide) (by omega) (by omega) ?_ | refine sg_iinc (pc := 23) (dc_X2_kindsOf_22.1.1.2) rfl (by decide) (by decide) ?_
            refine sg_goto (pc := 26) (tgt := 4) (dc_X2_kindsOf_22.1.2.1) (by decide) ?_
            refine sg_lsub (lv' := [(2, _), (1, _), (0, _)]) ⟨rfl, rfl, rfl, trivial⟩ ?_
            exact ih _ _ (by first | exact Or.inr (Or.inl ⟨by decide, by omega⟩) | exact Or.inr (Or.inr (Or.inl ⟨by decide, by omega⟩)) | exact Or.inr (Or.inr (Or.inr (Or.inl ⟨by decide, by omega⟩))) | exact Or.inr (Or.inr (Or.inr (Or.inr (Or.inl ⟨by decide, by omega⟩)))) | exact Or.inr (Or.inr (Or.inr (Or.inr (Or.inr ⟨by decide, by omega⟩)))) | omega) (by first | exact jl_m1 hm (by omega) | exact jl_m2 hm (by omega) | omega)
  refine sg_lsub (lv' := [(2, _), (1, _), (0, _)]) ⟨rfl, rfl, rfl, trivial⟩ ?_
  exact loop4 _ _ _ (by omega) (Nat.lt_succ_self _)

set_option maxRecDepth 100000 in
theorem s_X2_signValue {w : sg_W} {Q : sg_O → sg_H → Prop} {h : sg_H} (g : sg_G w) {d : Nat} (hd : 3 ≤ d) {x : Int} (hQ : ∀ z : Int, z = fn_val x → Q (.inl (some (sg_i z))) h) : sg_C w mi_X2_signValue d 0 0 [sg_i x] h Q := by
  refine sg_of pn_X2 (Nat.le_of_ble_eq_true rfl) ?_
  refine sg_iload_n (pc := 0) (j := 0) (dc_X2_signValue_0.1.1.1.1) rfl rfl ?_
  by_cases cs : x < 178 ∨ 190 < x
  · refine sg_tsOut (pc := 1) (tgt := 77) (dc_X2_signValue_0.1.1.1.2) cs (by decide) ?_
    refine sg_iload_n (pc := 77) (j := 0) (dc_X2_signValue_0.2.1.2.1) rfl rfl ?_
    refine sg_cS1 (pc := 78) (d' := d - 1) (mc' := 0) (ms' := 0) g (dc_X2_signValue_0.2.1.2.2) cb_X2_plainValueOf ml_X2_32 ms_X2_plainValueOf (Nat.le_of_ble_eq_true rfl) (by first | exact jl_d0 hd rfl | omega) (by first | exact Nat.le_of_ble_eq_true rfl | omega) (by first | exact Nat.le_of_ble_eq_true rfl | omega) ?_
    refine s_X2_plainValueOf g (by first | exact jl_d1 hd rfl | omega) (fun z78 h78 => sg_K1 ?_)
    refine sg_iret (pc := 81) (dc_X2_signValue_0.2.2.1.1) rfl (by first | exact Nat.le_of_ble_eq_true rfl | omega) (by first | exact Nat.le_of_ble_eq_true rfl | omega) ?_
    first | exact hQ _ (by (try simp only [fn_val] at *) <;> first | omega | ((repeat' split) <;> omega) | grind) | exact hQ _ (by simp [fn_val, fn_plain])
  · rcases (show x = 178 ∨ x = 179 ∨ x = 180 ∨ x = 181 ∨ x = 182 ∨ x = 183 ∨ x = 184 ∨ x = 185 ∨ x = 186 ∨ x = 187 ∨ x = 188 ∨ x = 189 ∨ x = 190 by omega) with rfl | rfl | rfl | rfl | rfl | rfl | rfl | rfl | rfl | rfl | rfl | rfl | rfl
    · refine sg_tsIn (pc := 1) (tgt := 68) (dc_X2_signValue_0.1.1.1.2) (by omega) (by omega) rfl (by decide) ?_
      refine sg_iconst (pc := 68) (z := 2) (dc_X2_signValue_0.1.1.2.1) (by decide) ?_
      refine sg_iret (pc := 69) (dc_X2_signValue_0.1.1.2.2) rfl (by first | exact Nat.le_of_ble_eq_true rfl | omega) (by first | exact Nat.le_of_ble_eq_true rfl | omega) ?_
      first | exact hQ _ (by (try simp only [fn_val] at *) <;> first | omega | ((repeat' split) <;> omega) | grind) | exact hQ _ (by simp [fn_val, fn_plain])
    · refine sg_tsIn (pc := 1) (tgt := 70) (dc_X2_signValue_0.1.1.1.2) (by omega) (by omega) rfl (by decide) ?_
      refine sg_iconst (pc := 70) (z := 3) (dc_X2_signValue_0.1.2.1.1) (by decide) ?_
      refine sg_iret (pc := 71) (dc_X2_signValue_0.1.2.1.2) rfl (by first | exact Nat.le_of_ble_eq_true rfl | omega) (by first | exact Nat.le_of_ble_eq_true rfl | omega) ?_
      first | exact hQ _ (by (try simp only [fn_val] at *) <;> first | omega | ((repeat' split) <;> omega) | grind) | exact hQ _ (by simp [fn_val, fn_plain])
    · refine sg_tsIn (pc := 1) (tgt := 77) (dc_X2_signValue_0.1.1.1.2) (by omega) (by omega) rfl (by decide) ?_
      refine sg_iload_n (pc := 77) (j := 0) (dc_X2_signValue_0.2.1.2.1) rfl rfl ?_
      refine sg_cS1 (pc := 78) (d' := d - 1) (mc' := 0) (ms' := 0) g (dc_X2_signValue_0.2.1.2.2) cb_X2_plainValueOf ml_X2_32 ms_X2_plainValueOf (Nat.le_of_ble_eq_true rfl) (by first | exact jl_d0 hd rfl | omega) (by first | exact Nat.le_of_ble_eq_true rfl | omega) (by first | exact Nat.le_of_ble_eq_true rfl | omega) ?_
      refine s_X2_plainValueOf g (by first | exact jl_d1 hd rfl | omega) (fun z78 h78 => sg_K1 ?_)
      refine sg_iret (pc := 81) (dc_X2_signValue_0.2.2.1.1) rfl (by first | exact Nat.le_of_ble_eq_true rfl | omega) (by first | exact Nat.le_of_ble_eq_true rfl | omega) ?_
      first | exact hQ _ (by (try simp only [fn_val] at *) <;> first | omega | ((repeat' split) <;> omega) | grind) | exact hQ _ (by simp [fn_val, fn_plain])
    · refine sg_tsIn (pc := 1) (tgt := 77) (dc_X2_signValue_0.1.1.1.2) (by omega) (by omega) rfl (by decide) ?_
      refine sg_iload_n (pc := 77) (j := 0) (dc_X2_signValue_0.2.1.2.1) rfl rfl ?_
      refine sg_cS1 (pc := 78) (d' := d - 1) (mc' := 0) (ms' := 0) g (dc_X2_signValue_0.2.1.2.2) cb_X2_plainValueOf ml_X2_32 ms_X2_plainValueOf (Nat.le_of_ble_eq_true rfl) (by first | exact jl_d0 hd rfl | omega) (by first | exact Nat.le_of_ble_eq_true rfl | omega) (by first | exact Nat.le_of_ble_eq_true rfl | omega) ?_
      refine s_X2_plainValueOf g (by first | exact jl_d1 hd rfl | omega) (fun z78 h78 => sg_K1 ?_)
      refine sg_iret (pc := 81) (dc_X2_signValue_0.2.2.1.1) rfl (by first | exact Nat.le_of_ble_eq_true rfl | omega) (by first | exact Nat.le_of_ble_eq_true rfl | omega) ?_
      first | exact hQ _ (by (try simp only [fn_val] at *) <;> first | omega | ((repeat' split) <;> omega) | grind) | exact hQ _ (by simp [fn_val, fn_plain])
    · refine sg_tsIn (pc := 1) (tgt := 77) (dc_X2_signValue_0.1.1.1.2) (by omega) (by omega) rfl (by decide) ?_
      refine sg_iload_n (pc := 77) (j := 0) (dc_X2_signValue_0.2.1.2.1) rfl rfl ?_
      refine sg_cS1 (pc := 78) (d' := d - 1) (mc' := 0) (ms' := 0) g (dc_X2_signValue_0.2.1.2.2) cb_X2_plainValueOf ml_X2_32 ms_X2_plainValueOf (Nat.le_of_ble_eq_true rfl) (by first | exact jl_d0 hd rfl | omega) (by first | exact Nat.le_of_ble_eq_true rfl | omega) (by first | exact Nat.le_of_ble_eq_true rfl | omega) ?_
      refine s_X2_plainValueOf g (by first | exact jl_d1 hd rfl | omega) (fun z78 h78 => sg_K1 ?_)
      refine sg_iret (pc := 81) (dc_X2_signValue_0.2.2.1.1) rfl (by first | exact Nat.le_of_ble_eq_true rfl | omega) (by first | exact Nat.le_of_ble_eq_true rfl | omega) ?_
      first | exact hQ _ (by (try simp only [fn_val] at *) <;> first | omega | ((repeat' split) <;> omega) | grind) | exact hQ _ (by simp [fn_val, fn_plain])
    · refine sg_tsIn (pc := 1) (tgt := 77) (dc_X2_signValue_0.1.1.1.2) (by omega) (by omega) rfl (by decide) ?_
      refine sg_iload_n (pc := 77) (j := 0) (dc_X2_signValue_0.2.1.2.1) rfl rfl ?_
      refine sg_cS1 (pc := 78) (d' := d - 1) (mc' := 0) (ms' := 0) g (dc_X2_signValue_0.2.1.2.2) cb_X2_plainValueOf ml_X2_32 ms_X2_plainValueOf (Nat.le_of_ble_eq_true rfl) (by first | exact jl_d0 hd rfl | omega) (by first | exact Nat.le_of_ble_eq_true rfl | omega) (by first | exact Nat.le_of_ble_eq_true rfl | omega) ?_
      refine s_X2_plainValueOf g (by first | exact jl_d1 hd rfl | omega) (fun z78 h78 => sg_K1 ?_)
      refine sg_iret (pc := 81) (dc_X2_signValue_0.2.2.1.1) rfl (by first | exact Nat.le_of_ble_eq_true rfl | omega) (by first | exact Nat.le_of_ble_eq_true rfl | omega) ?_
      first | exact hQ _ (by (try simp only [fn_val] at *) <;> first | omega | ((repeat' split) <;> omega) | grind) | exact hQ _ (by simp [fn_val, fn_plain])
    · refine sg_tsIn (pc := 1) (tgt := 77) (dc_X2_signValue_0.1.1.1.2) (by omega) (by omega) rfl (by decide) ?_
      refine sg_iload_n (pc := 77) (j := 0) (dc_X2_signValue_0.2.1.2.1) rfl rfl ?_
      refine sg_cS1 (pc := 78) (d' := d - 1) (mc' := 0) (ms' := 0) g (dc_X2_signValue_0.2.1.2.2) cb_X2_plainValueOf ml_X2_32 ms_X2_plainValueOf (Nat.le_of_ble_eq_true rfl) (by first | exact jl_d0 hd rfl | omega) (by first | exact Nat.le_of_ble_eq_true rfl | omega) (by first | exact Nat.le_of_ble_eq_true rfl | omega) ?_
      refine s_X2_plainValueOf g (by first | exact jl_d1 hd rfl | omega) (fun z78 h78 => sg_K1 ?_)
      refine sg_iret (pc := 81) (dc_X2_signValue_0.2.2.1.1) rfl (by first | exact Nat.le_of_ble_eq_true rfl | omega) (by first | exact Nat.le_of_ble_eq_true rfl | omega) ?_
      first | exact hQ _ (by (try simp only [fn_val] at *) <;> first | omega | ((repeat' split) <;> omega) | grind) | exact hQ _ (by simp [fn_val, fn_plain])
    · refine sg_tsIn (pc := 1) (tgt := 72) (dc_X2_signValue_0.1.1.1.2) (by omega) (by omega) rfl (by decide) ?_
      refine sg_iconst (pc := 72) (z := 1) (dc_X2_signValue_0.1.2.2.1) (by decide) ?_
      refine sg_iret (pc := 73) (dc_X2_signValue_0.1.2.2.2) rfl (by first | exact Nat.le_of_ble_eq_true rfl | omega) (by first | exact Nat.le_of_ble_eq_true rfl | omega) ?_
      first | exact hQ _ (by (try simp only [fn_val] at *) <;> first | omega | ((repeat' split) <;> omega) | grind) | exact hQ _ (by simp [fn_val, fn_plain])
    · refine sg_tsIn (pc := 1) (tgt := 77) (dc_X2_signValue_0.1.1.1.2) (by omega) (by omega) rfl (by decide) ?_
      refine sg_iload_n (pc := 77) (j := 0) (dc_X2_signValue_0.2.1.2.1) rfl rfl ?_
      refine sg_cS1 (pc := 78) (d' := d - 1) (mc' := 0) (ms' := 0) g (dc_X2_signValue_0.2.1.2.2) cb_X2_plainValueOf ml_X2_32 ms_X2_plainValueOf (Nat.le_of_ble_eq_true rfl) (by first | exact jl_d0 hd rfl | omega) (by first | exact Nat.le_of_ble_eq_true rfl | omega) (by first | exact Nat.le_of_ble_eq_true rfl | omega) ?_
      refine s_X2_plainValueOf g (by first | exact jl_d1 hd rfl | omega) (fun z78 h78 => sg_K1 ?_)
      refine sg_iret (pc := 81) (dc_X2_signValue_0.2.2.1.1) rfl (by first | exact Nat.le_of_ble_eq_true rfl | omega) (by first | exact Nat.le_of_ble_eq_true rfl | omega) ?_
      first | exact hQ _ (by (try simp only [fn_val] at *) <;> first | omega | ((repeat' split) <;> omega) | grind) | exact hQ _ (by simp [fn_val, fn_plain])
    · refine sg_tsIn (pc := 1) (tgt := 77) (dc_X2_signValue_0.1.1.1.2) (by omega) (by omega) rfl (by decide) ?_
      refine sg_iload_n (pc := 77) (j := 0) (dc_X2_signValue_0.2.1.2.1) rfl rfl ?_
      refine sg_cS1 (pc := 78) (d' := d - 1) (mc' := 0) (ms' := 0) g (dc_X2_signValue_0.2.1.2.2) cb_X2_plainValueOf ml_X2_32 ms_X2_plainValueOf (Nat.le_of_ble_eq_true rfl) (by first | exact jl_d0 hd rfl | omega) (by first | exact Nat.le_of_ble_eq_true rfl | omega) (by first | exact Nat.le_of_ble_eq_true rfl | omega) ?_
      refine s_X2_plainValueOf g (by first | exact jl_d1 hd rfl | omega) (fun z78 h78 => sg_K1 ?_)
      refine sg_iret (pc := 81) (dc_X2_signValue_0.2.2.1.1) rfl (by first | exact Nat.le_of_ble_eq_true rfl | omega) (by first | exact Nat.le_of_ble_eq_true rfl | omega) ?_
      first | exact hQ _ (by (try simp only [fn_val] at *) <;> first | omega | ((repeat' split) <;> omega) | grind) | exact hQ _ (by simp [fn_val, fn_plain])
    · refine sg_tsIn (pc := 1) (tgt := 74) (dc_X2_signValue_0.1.1.1.2) (by omega) (by omega) rfl (by decide) ?_
      refine sg_bipush (pc := 74) (z := -2) (dc_X2_signValue_0.2.1.1.1) (by decide) ?_
      refine sg_iret (pc := 76) (dc_X2_signValue_0.2.1.1.2) rfl (by first | exact Nat.le_of_ble_eq_true rfl | omega) (by first | exact Nat.le_of_ble_eq_true rfl | omega) ?_
      first | exact hQ _ (by (try simp only [fn_val] at *) <;> first | omega | ((repeat' split) <;> omega) | grind) | exact hQ _ (by simp [fn_val, fn_plain])
    · refine sg_tsIn (pc := 1) (tgt := 74) (dc_X2_signValue_0.1.1.1.2) (by omega) (by omega) rfl (by decide) ?_
      refine sg_bipush (pc := 74) (z := -2) (dc_X2_signValue_0.2.1.1.1) (by decide) ?_
      refine sg_iret (pc := 76) (dc_X2_signValue_0.2.1.1.2) rfl (by first | exact Nat.le_of_ble_eq_true rfl | omega) (by first | exact Nat.le_of_ble_eq_true rfl | omega) ?_
      first | exact hQ _ (by (try simp only [fn_val] at *) <;> first | omega | ((repeat' split) <;> omega) | grind) | exact hQ _ (by simp [fn_val, fn_plain])
    · refine sg_tsIn (pc := 1) (tgt := 74) (dc_X2_signValue_0.1.1.1.2) (by omega) (by omega) rfl (by decide) ?_
      refine sg_bipush (pc := 74) (z := -2) (dc_X2_signValue_0.2.1.1.1) (by decide) ?_
      refine sg_iret (pc := 76) (dc_X2_signValue_0.2.1.1.2) rfl (by first | exact Nat.le_of_ble_eq_true rfl | omega) (by first | exact Nat.le_of_ble_eq_true rfl | omega) ?_
      first | exact hQ _ (by (try simp only [fn_val] at *) <;> first | omega | ((repeat' split) <;> omega) | grind) | exact hQ _ (by simp [fn_val, fn_plain])

set_option maxRecDepth 100000 in
theorem s_X2_firstSpelled {w : sg_W} {Q : sg_O → sg_H → Prop} {h : sg_H} (g : sg_G w) {d : Nat} (hd : 4 ≤ d) {x : Int} (hQ : ∀ z : Int, 0 ≤ z → z ≤ 122 → Q (.inl (some (sg_i z))) h) : sg_C w mi_X2_firstSpelled d 0 0 [sg_i x] h Q := by
  refine sg_of pn_X2 (Nat.le_of_ble_eq_true rfl) ?_
  refine sg_iload_n (pc := 0) (j := 0) (dc_X2_firstSpelled_0.1.1.1) rfl rfl ?_
  refine sg_bipush (pc := 1) (z := 16) (dc_X2_firstSpelled_0.1.1.2) (by decide) ?_
  first | refine sg_idivP (pc := 3) (dc_X2_firstSpelled_0.1.2.1) (by omega) (by omega) (by omega) ?_ | refine sg_idiv (pc := 3) (dc_X2_firstSpelled_0.1.2.1) (by first | omega | assumption) ?_
  refine sg_bipush (pc := 4) (z := 16) (dc_X2_firstSpelled_0.1.2.2) (by decide) ?_
  refine sg_cS2 (pc := 6) (d' := d - 1) (mc' := 0) (ms' := 0) g (dc_X2_firstSpelled_0.2.1.1) cb_X2_digitOf ml_X2_43 ms_X2_digitOf (Nat.le_of_ble_eq_true rfl) (by first | exact jl_d0 hd rfl | omega) (by first | exact Nat.le_of_ble_eq_true rfl | omega) (by first | exact Nat.le_of_ble_eq_true rfl | omega) ?_
  refine s_X2_digitOf g (by first | exact jl_d1 hd rfl | omega) (fun z6 h6 => sg_K1 ?_)
  refine sg_iret (pc := 9) (dc_X2_firstSpelled_0.2.1.2) rfl (by first | exact Nat.le_of_ble_eq_true rfl | omega) (by first | exact Nat.le_of_ble_eq_true rfl | omega) ?_
  (try simp only [fn_digit, fn_radix] at *)
  exact hQ _ (by first | omega | (subst_vars; (repeat' split) <;> omega)) (by first | omega | (subst_vars; (repeat' split) <;> omega))

set_option maxRecDepth 100000 in
theorem s_X2_secondSpelled {w : sg_W} {Q : sg_O → sg_H → Prop} {h : sg_H} (g : sg_G w) {d : Nat} (hd : 4 ≤ d) {x : Int} (hQ : ∀ z : Int, 0 ≤ z → z ≤ 122 → Q (.inl (some (sg_i z))) h) : sg_C w mi_X2_secondSpelled d 0 0 [sg_i x] h Q := by
  refine sg_of pn_X2 (Nat.le_of_ble_eq_true rfl) ?_
  refine sg_iload_n (pc := 0) (j := 0) (dc_X2_secondSpelled_0.1.1.1) rfl rfl ?_
  refine sg_bipush (pc := 1) (z := 16) (dc_X2_secondSpelled_0.1.1.2) (by decide) ?_
  first | refine sg_iremP (pc := 3) (dc_X2_secondSpelled_0.1.2.1) (by omega) (by omega) ?_ | refine sg_irem (pc := 3) (dc_X2_secondSpelled_0.1.2.1) (by first | omega | assumption) ?_
  refine sg_bipush (pc := 4) (z := 16) (dc_X2_secondSpelled_0.1.2.2) (by decide) ?_
  refine sg_cS2 (pc := 6) (d' := d - 1) (mc' := 0) (ms' := 0) g (dc_X2_secondSpelled_0.2.1.1) cb_X2_digitOf ml_X2_43 ms_X2_digitOf (Nat.le_of_ble_eq_true rfl) (by first | exact jl_d0 hd rfl | omega) (by first | exact Nat.le_of_ble_eq_true rfl | omega) (by first | exact Nat.le_of_ble_eq_true rfl | omega) ?_
  refine s_X2_digitOf g (by first | exact jl_d1 hd rfl | omega) (fun z6 h6 => sg_K1 ?_)
  refine sg_iret (pc := 9) (dc_X2_secondSpelled_0.2.1.2) rfl (by first | exact Nat.le_of_ble_eq_true rfl | omega) (by first | exact Nat.le_of_ble_eq_true rfl | omega) ?_
  (try simp only [fn_digit, fn_radix] at *)
  exact hQ _ (by first | omega | (subst_vars; (repeat' split) <;> omega)) (by first | omega | (subst_vars; (repeat' split) <;> omega))

set_option maxRecDepth 100000 in
theorem s_X2_formOf {w : sg_W} {Q : sg_O → sg_H → Prop} {h : sg_H} (g : sg_G w) {d : Nat} (hd : 4 ≤ d) {x : Int} (hQ : ∀ z : Int, 0 ≤ z → z ≤ 122 → Q (.inl (some (sg_i z))) h) : sg_C w mi_X2_formOf d 0 0 [sg_i x] h Q := by
  refine sg_of pn_X2 (Nat.le_of_ble_eq_true rfl) ?_
  refine sg_iload_n (pc := 0) (j := 0) (dc_X2_formOf_0.1.1.1.1) rfl rfl ?_
  refine sg_iconst (pc := 1) (z := 0) (dc_X2_formOf_0.1.1.1.2) (by decide) ?_
  refine sg_cS2 (pc := 2) (d' := d - 1) (mc' := 0) (ms' := 0) g (dc_X2_formOf_0.1.1.2.1) cb_X2_isOf ml_X2_25 ms_X2_isOf (Nat.le_of_ble_eq_true rfl) (by first | exact jl_d0 hd rfl | omega) (by first | exact Nat.le_of_ble_eq_true rfl | omega) (by first | exact Nat.le_of_ble_eq_true rfl | omega) ?_
  refine s_X2_isOf g (by first | exact jl_d1 hd rfl | omega) (fun z2 h2 b2 => sg_K1 ?_)
  refine sg_if_eq (pc := 5) (tgt := 11) (dc_X2_formOf_0.1.1.2.2) (by decide) (fun c5 => ?_) (fun c5 => ?_)
  · refine sg_iload_n (pc := 11) (j := 0) (dc_X2_formOf_0.1.2.2.1) rfl rfl ?_
    refine sg_iconst (pc := 12) (z := 4) (dc_X2_formOf_0.1.2.2.2) (by decide) ?_
    refine sg_cS2 (pc := 13) (d' := d - 1) (mc' := 0) (ms' := 0) g (dc_X2_formOf_0.2.1.1.1) cb_X2_isOf ml_X2_25 ms_X2_isOf (Nat.le_of_ble_eq_true rfl) (by first | exact jl_d0 hd rfl | omega) (by first | exact Nat.le_of_ble_eq_true rfl | omega) (by first | exact Nat.le_of_ble_eq_true rfl | omega) ?_
    refine s_X2_isOf g (by first | exact jl_d1 hd rfl | omega) (fun z13 h13 b13 => sg_K1 ?_)
    refine sg_if_eq (pc := 16) (tgt := 22) (dc_X2_formOf_0.2.1.1.2) (by decide) (fun c16 => ?_) (fun c16 => ?_)
    · refine sg_iload_n (pc := 22) (j := 0) (dc_X2_formOf_0.2.2.1.1) rfl rfl ?_
      refine sg_iconst (pc := 23) (z := 1) (dc_X2_formOf_0.2.2.1.2) (by decide) ?_
      refine sg_cS2 (pc := 24) (d' := d - 1) (mc' := 0) (ms' := 0) g (dc_X2_formOf_0.2.2.2.1) cb_X2_isOf ml_X2_25 ms_X2_isOf (Nat.le_of_ble_eq_true rfl) (by first | exact jl_d0 hd rfl | omega) (by first | exact Nat.le_of_ble_eq_true rfl | omega) (by first | exact Nat.le_of_ble_eq_true rfl | omega) ?_
      refine s_X2_isOf g (by first | exact jl_d1 hd rfl | omega) (fun z24 h24 b24 => sg_K1 ?_)
      refine sg_if_eq (pc := 27) (tgt := 33) (dc_X2_formOf_0.2.2.2.2) (by decide) (fun c27 => ?_) (fun c27 => ?_)
      · refine sg_iload_n (pc := 33) (j := 0) (dc_X2_formOf_30.1.1.2.1) rfl rfl ?_
        refine sg_iconst (pc := 34) (z := 3) (dc_X2_formOf_30.1.1.2.2) (by decide) ?_
        refine sg_cS2 (pc := 35) (d' := d - 1) (mc' := 0) (ms' := 0) g (dc_X2_formOf_30.1.2.1.1) cb_X2_isOf ml_X2_25 ms_X2_isOf (Nat.le_of_ble_eq_true rfl) (by first | exact jl_d0 hd rfl | omega) (by first | exact Nat.le_of_ble_eq_true rfl | omega) (by first | exact Nat.le_of_ble_eq_true rfl | omega) ?_
        refine s_X2_isOf g (by first | exact jl_d1 hd rfl | omega) (fun z35 h35 b35 => sg_K1 ?_)
        refine sg_if_eq (pc := 38) (tgt := 46) (dc_X2_formOf_30.1.2.1.2) (by decide) (fun c38 => ?_) (fun c38 => ?_)
        · refine sg_bipush (pc := 46) (z := 45) (dc_X2_formOf_30.2.1.1.1) (by decide) ?_
          refine sg_cret (pc := 48) (dc_X2_formOf_30.2.1.1.2) rfl (by omega) (by omega) (by first | exact Nat.le_of_ble_eq_true rfl | omega) (by first | exact Nat.le_of_ble_eq_true rfl | omega) ?_
          exact hQ _ (by omega) (by omega)
        · refine sg_bipush (pc := 41) (z := 119) (dc_X2_formOf_30.1.2.2.1) (by decide) ?_
          refine sg_goto (pc := 43) (tgt := 48) (dc_X2_formOf_30.1.2.2.2) (by decide) ?_
          refine sg_cret (pc := 48) (dc_X2_formOf_30.2.1.1.2) rfl (by omega) (by omega) (by first | exact Nat.le_of_ble_eq_true rfl | omega) (by first | exact Nat.le_of_ble_eq_true rfl | omega) ?_
          exact hQ _ (by omega) (by omega)
      · refine sg_bipush (pc := 30) (z := 108) (dc_X2_formOf_30.1.1.1.1) (by decide) ?_
        refine sg_cret (pc := 32) (dc_X2_formOf_30.1.1.1.2) rfl (by omega) (by omega) (by first | exact Nat.le_of_ble_eq_true rfl | omega) (by first | exact Nat.le_of_ble_eq_true rfl | omega) ?_
        exact hQ _ (by omega) (by omega)
    · refine sg_bipush (pc := 19) (z := 117) (dc_X2_formOf_0.2.1.2.1) (by decide) ?_
      refine sg_cret (pc := 21) (dc_X2_formOf_0.2.1.2.2) rfl (by omega) (by omega) (by first | exact Nat.le_of_ble_eq_true rfl | omega) (by first | exact Nat.le_of_ble_eq_true rfl | omega) ?_
      exact hQ _ (by omega) (by omega)
  · refine sg_bipush (pc := 8) (z := 100) (dc_X2_formOf_0.1.2.1.1) (by decide) ?_
    refine sg_cret (pc := 10) (dc_X2_formOf_0.1.2.1.2) rfl (by omega) (by omega) (by first | exact Nat.le_of_ble_eq_true rfl | omega) (by first | exact Nat.le_of_ble_eq_true rfl | omega) ?_
    exact hQ _ (by omega) (by omega)

set_option maxRecDepth 100000 in
theorem s_X2_isSoundSign {w : sg_W} {Q : sg_O → sg_H → Prop} {h : sg_H} (g : sg_G w) {d : Nat} (hd : 4 ≤ d) {x : Int} (hQ : ∀ z : Int, (z = 0 ∨ z = 1) → Q (.inl (some (sg_i z))) h) : sg_C w mi_X2_isSoundSign d 0 0 [sg_i x] h Q := by
  refine sg_of pn_X2 (Nat.le_of_ble_eq_true rfl) ?_
  refine sg_iload_n (pc := 0) (j := 0) (dc_X2_isSoundSign_0.1.1.1.1) rfl rfl ?_
  refine sg_iconst (pc := 1) (z := 1) (dc_X2_isSoundSign_0.1.1.1.2) (by decide) ?_
  refine sg_cS2 (pc := 2) (d' := d - 1) (mc' := 0) (ms' := 0) g (dc_X2_isSoundSign_0.1.1.2.1) cb_X2_isOf ml_X2_25 ms_X2_isOf (Nat.le_of_ble_eq_true rfl) (by first | exact jl_d0 hd rfl | omega) (by first | exact Nat.le_of_ble_eq_true rfl | omega) (by first | exact Nat.le_of_ble_eq_true rfl | omega) ?_
  refine s_X2_isOf g (by first | exact jl_d1 hd rfl | omega) (fun z2 h2 b2 => sg_K1 ?_)
  refine sg_if_ne (pc := 5) (tgt := 16) (dc_X2_isSoundSign_0.1.1.2.2) (by decide) (fun c5 => ?_) (fun c5 => ?_)
  · refine sg_iconst (pc := 16) (z := 1) (dc_X2_isSoundSign_0.2.1.1.1) (by decide) ?_
    refine sg_goto (pc := 17) (tgt := 21) (dc_X2_isSoundSign_0.2.1.1.2) (by decide) ?_
    refine sg_istore_n (pc := 21) (j := 1) (dc_X2_isSoundSign_0.2.1.2.2) rfl (by decide) ?_
    refine sg_iload_n (pc := 22) (j := 0) (dc_X2_isSoundSign_0.2.2.1.1) rfl rfl ?_
    refine sg_iconst (pc := 23) (z := 2) (dc_X2_isSoundSign_0.2.2.1.2) (by decide) ?_
    refine sg_cS2 (pc := 24) (d' := d - 1) (mc' := 0) (ms' := 0) g (dc_X2_isSoundSign_0.2.2.2.1) cb_X2_isOf ml_X2_25 ms_X2_isOf (Nat.le_of_ble_eq_true rfl) (by first | exact jl_d0 hd rfl | omega) (by first | exact Nat.le_of_ble_eq_true rfl | omega) (by first | exact Nat.le_of_ble_eq_true rfl | omega) ?_
    refine s_X2_isOf g (by first | exact jl_d1 hd rfl | omega) (fun z24 h24 b24 => sg_K1 ?_)
    refine sg_iload_n (pc := 27) (j := 1) (dc_X2_isSoundSign_0.2.2.2.2) rfl rfl ?_
    refine sg_icmp_eq (pc := 28) (tgt := 33) (dc_X2_isSoundSign_28.1.1.1.1) (by decide) (fun c28 => ?_) (fun c28 => ?_)
    · refine sg_iload_n (pc := 33) (j := 0) (dc_X2_isSoundSign_28.1.1.2.2) rfl rfl ?_
      refine sg_cS1 (pc := 34) (d' := d - 1) (mc' := 0) (ms' := 0) g (dc_X2_isSoundSign_28.1.2.1.1) cb_X2_lowerOf ml_X2_47 ms_X2_lowerOf (Nat.le_of_ble_eq_true rfl) (by first | exact jl_d0 hd rfl | omega) (by first | exact Nat.le_of_ble_eq_true rfl | omega) (by first | exact Nat.le_of_ble_eq_true rfl | omega) ?_
      refine s_X2_lowerOf g (by first | exact jl_d1 hd rfl | omega) (fun z34 h34 => sg_K1 ?_)
      refine sg_istore_n (pc := 37) (j := 2) (dc_X2_isSoundSign_28.1.2.1.2) rfl (by decide) ?_
      refine sg_iload_n (pc := 38) (j := 0) (dc_X2_isSoundSign_28.1.2.2.1) rfl rfl ?_
      refine sg_iconst (pc := 39) (z := 4) (dc_X2_isSoundSign_28.1.2.2.2) (by decide) ?_
      refine sg_cS2 (pc := 40) (d' := d - 1) (mc' := 0) (ms' := 0) g (dc_X2_isSoundSign_28.2.1.1.1) cb_X2_isOf ml_X2_25 ms_X2_isOf (Nat.le_of_ble_eq_true rfl) (by first | exact jl_d0 hd rfl | omega) (by first | exact Nat.le_of_ble_eq_true rfl | omega) (by first | exact Nat.le_of_ble_eq_true rfl | omega) ?_
      refine s_X2_isOf g (by first | exact jl_d1 hd rfl | omega) (fun z40 h40 b40 => sg_K1 ?_)
      refine sg_if_eq (pc := 43) (tgt := 61) (dc_X2_isSoundSign_28.2.1.1.2) (by decide) (fun c43 => ?_) (fun c43 => ?_)
      · refine sg_iload_n (pc := 61) (j := 0) (dc_X2_isSoundSign_56.1.1.2.2) rfl rfl ?_
        refine sg_bipush (pc := 62) (z := 36) (dc_X2_isSoundSign_56.1.2.1.1) (by decide) ?_
        refine sg_cS2 (pc := 64) (d' := d - 1) (mc' := 0) (ms' := 0) g (dc_X2_isSoundSign_56.1.2.1.2) cb_X2_numberOf ml_X2_53 ms_X2_numberOf (Nat.le_of_ble_eq_true rfl) (by first | exact jl_d0 hd rfl | omega) (by first | exact Nat.le_of_ble_eq_true rfl | omega) (by first | exact Nat.le_of_ble_eq_true rfl | omega) ?_
        refine s_X2_numberOf g (by first | exact jl_d1 hd rfl | omega) (fun z64 h64 => sg_K1 ?_)
        refine sg_istore_n (pc := 67) (j := 3) (dc_X2_isSoundSign_56.1.2.2.1) rfl (by decide) ?_
        refine sg_iload_n (pc := 68) (j := 3) (dc_X2_isSoundSign_56.1.2.2.2) rfl rfl ?_
        refine sg_iconst (pc := 69) (z := -1) (dc_X2_isSoundSign_56.2.1.1.1) (by decide) ?_
        refine sg_icmp_eq (pc := 70) (tgt := 89) (dc_X2_isSoundSign_56.2.1.1.2) (by decide) (fun c70 => ?_) (fun c70 => ?_)
        · refine sg_iconst (pc := 89) (z := 1) (dc_X2_isSoundSign_86.1.1.2) (by decide) ?_
          refine sg_goto (pc := 90) (tgt := 94) (dc_X2_isSoundSign_86.1.2.1) (by decide) ?_
          refine sg_zret (pc := 94) (dc_X2_isSoundSign_86.2.1.1) rfl (by first | exact Or.inl rfl | exact Or.inr rfl | omega | assumption) (by first | exact Nat.le_of_ble_eq_true rfl | omega) (by first | exact Nat.le_of_ble_eq_true rfl | omega) ?_
          exact hQ _ (by first | exact Or.inl rfl | exact Or.inr rfl | omega | assumption)
        · refine sg_iload_n (pc := 73) (j := 3) (dc_X2_isSoundSign_56.2.1.2.1) rfl rfl ?_
          refine sg_bipush (pc := 74) (z := 36) (dc_X2_isSoundSign_56.2.1.2.2) (by decide) ?_
          refine sg_cS2 (pc := 76) (d' := d - 1) (mc' := 0) (ms' := 0) g (dc_X2_isSoundSign_56.2.2.1.1) cb_X2_digitOf ml_X2_43 ms_X2_digitOf (Nat.le_of_ble_eq_true rfl) (by first | exact jl_d0 hd rfl | omega) (by first | exact Nat.le_of_ble_eq_true rfl | omega) (by first | exact Nat.le_of_ble_eq_true rfl | omega) ?_
          refine s_X2_digitOf g (by first | exact jl_d1 hd rfl | omega) (fun z76 h76 => sg_K1 ?_)
          refine sg_cS1 (pc := 79) (d' := d - 1) (mc' := 0) (ms' := 0) g (dc_X2_isSoundSign_56.2.2.1.2) cb_X2_upperOf ml_X2_50 ms_X2_upperOf (Nat.le_of_ble_eq_true rfl) (by first | exact jl_d0 hd rfl | omega) (by first | exact Nat.le_of_ble_eq_true rfl | omega) (by first | exact Nat.le_of_ble_eq_true rfl | omega) ?_
          refine s_X2_upperOf g (by first | exact jl_d1 hd rfl | omega) (fun z79 h79 => sg_K1 ?_)
          refine sg_iload_n (pc := 82) (j := 0) (dc_X2_isSoundSign_56.2.2.2.1) rfl rfl ?_
          refine sg_cS1 (pc := 83) (d' := d - 1) (mc' := 0) (ms' := 0) g (dc_X2_isSoundSign_56.2.2.2.2) cb_X2_upperOf ml_X2_50 ms_X2_upperOf (Nat.le_of_ble_eq_true rfl) (by first | exact jl_d0 hd rfl | omega) (by first | exact Nat.le_of_ble_eq_true rfl | omega) (by first | exact Nat.le_of_ble_eq_true rfl | omega) ?_
          refine s_X2_upperOf g (by first | exact jl_d1 hd rfl | omega) (fun z83 h83 => sg_K1 ?_)
          refine sg_icmp_ne (pc := 86) (tgt := 93) (dc_X2_isSoundSign_86.1.1.1) (by decide) (fun c86 => ?_) (fun c86 => ?_)
          · refine sg_iconst (pc := 93) (z := 0) (dc_X2_isSoundSign_86.1.2.2) (by decide) ?_
            refine sg_zret (pc := 94) (dc_X2_isSoundSign_86.2.1.1) rfl (by first | exact Or.inl rfl | exact Or.inr rfl | omega | assumption) (by first | exact Nat.le_of_ble_eq_true rfl | omega) (by first | exact Nat.le_of_ble_eq_true rfl | omega) ?_
            exact hQ _ (by first | exact Or.inl rfl | exact Or.inr rfl | omega | assumption)
          · refine sg_iconst (pc := 89) (z := 1) (dc_X2_isSoundSign_86.1.1.2) (by decide) ?_
            refine sg_goto (pc := 90) (tgt := 94) (dc_X2_isSoundSign_86.1.2.1) (by decide) ?_
            refine sg_zret (pc := 94) (dc_X2_isSoundSign_86.2.1.1) rfl (by first | exact Or.inl rfl | exact Or.inr rfl | omega | assumption) (by first | exact Nat.le_of_ble_eq_true rfl | omega) (by first | exact Nat.le_of_ble_eq_true rfl | omega) ?_
            exact hQ _ (by first | exact Or.inl rfl | exact Or.inr rfl | omega | assumption)
      · refine sg_iload_n (pc := 46) (j := 2) (dc_X2_isSoundSign_28.2.1.2.1) rfl rfl ?_
        refine sg_iload_n (pc := 47) (j := 0) (dc_X2_isSoundSign_28.2.1.2.2) rfl rfl ?_
        refine sg_icmp_eq (pc := 48) (tgt := 59) (dc_X2_isSoundSign_28.2.2.1.1) (by decide) (fun c48 => ?_) (fun c48 => ?_)
        · refine sg_iconst (pc := 59) (z := 0) (dc_X2_isSoundSign_56.1.1.1.2) (by decide) ?_
          refine sg_zret (pc := 60) (dc_X2_isSoundSign_56.1.1.2.1) rfl (by first | exact Or.inl rfl | exact Or.inr rfl | omega | assumption) (by first | exact Nat.le_of_ble_eq_true rfl | omega) (by first | exact Nat.le_of_ble_eq_true rfl | omega) ?_
          exact hQ _ (by first | exact Or.inl rfl | exact Or.inr rfl | omega | assumption)
        · refine sg_iload_n (pc := 51) (j := 2) (dc_X2_isSoundSign_28.2.2.1.2) rfl rfl ?_
          refine sg_cS1 (pc := 52) (d' := d - 1) (mc' := 0) (ms' := 0) g (dc_X2_isSoundSign_28.2.2.2.1) cb_X2_upperOf ml_X2_50 ms_X2_upperOf (Nat.le_of_ble_eq_true rfl) (by first | exact jl_d0 hd rfl | omega) (by first | exact Nat.le_of_ble_eq_true rfl | omega) (by first | exact Nat.le_of_ble_eq_true rfl | omega) ?_
          refine s_X2_upperOf g (by first | exact jl_d1 hd rfl | omega) (fun z52 h52 => sg_K1 ?_)
          refine sg_iload_n (pc := 55) (j := 0) (dc_X2_isSoundSign_28.2.2.2.2) rfl rfl ?_
          refine sg_icmp_eq (pc := 56) (tgt := 61) (dc_X2_isSoundSign_56.1.1.1.1) (by decide) (fun c56 => ?_) (fun c56 => ?_)
          · refine sg_iload_n (pc := 61) (j := 0) (dc_X2_isSoundSign_56.1.1.2.2) rfl rfl ?_
            refine sg_bipush (pc := 62) (z := 36) (dc_X2_isSoundSign_56.1.2.1.1) (by decide) ?_
            refine sg_cS2 (pc := 64) (d' := d - 1) (mc' := 0) (ms' := 0) g (dc_X2_isSoundSign_56.1.2.1.2) cb_X2_numberOf ml_X2_53 ms_X2_numberOf (Nat.le_of_ble_eq_true rfl) (by first | exact jl_d0 hd rfl | omega) (by first | exact Nat.le_of_ble_eq_true rfl | omega) (by first | exact Nat.le_of_ble_eq_true rfl | omega) ?_
            refine s_X2_numberOf g (by first | exact jl_d1 hd rfl | omega) (fun z64 h64 => sg_K1 ?_)
            refine sg_istore_n (pc := 67) (j := 3) (dc_X2_isSoundSign_56.1.2.2.1) rfl (by decide) ?_
            refine sg_iload_n (pc := 68) (j := 3) (dc_X2_isSoundSign_56.1.2.2.2) rfl rfl ?_
            refine sg_iconst (pc := 69) (z := -1) (dc_X2_isSoundSign_56.2.1.1.1) (by decide) ?_
            refine sg_icmp_eq (pc := 70) (tgt := 89) (dc_X2_isSoundSign_56.2.1.1.2) (by decide) (fun c70 => ?_) (fun c70 => ?_)
            · refine sg_iconst (pc := 89) (z := 1) (dc_X2_isSoundSign_86.1.1.2) (by decide) ?_
              refine sg_goto (pc := 90) (tgt := 94) (dc_X2_isSoundSign_86.1.2.1) (by decide) ?_
              refine sg_zret (pc := 94) (dc_X2_isSoundSign_86.2.1.1) rfl (by first | exact Or.inl rfl | exact Or.inr rfl | omega | assumption) (by first | exact Nat.le_of_ble_eq_true rfl | omega) (by first | exact Nat.le_of_ble_eq_true rfl | omega) ?_
              exact hQ _ (by first | exact Or.inl rfl | exact Or.inr rfl | omega | assumption)
            · refine sg_iload_n (pc := 73) (j := 3) (dc_X2_isSoundSign_56.2.1.2.1) rfl rfl ?_
              refine sg_bipush (pc := 74) (z := 36) (dc_X2_isSoundSign_56.2.1.2.2) (by decide) ?_
              refine sg_cS2 (pc := 76) (d' := d - 1) (mc' := 0) (ms' := 0) g (dc_X2_isSoundSign_56.2.2.1.1) cb_X2_digitOf ml_X2_43 ms_X2_digitOf (Nat.le_of_ble_eq_true rfl) (by first | exact jl_d0 hd rfl | omega) (by first | exact Nat.le_of_ble_eq_true rfl | omega) (by first | exact Nat.le_of_ble_eq_true rfl | omega) ?_
              refine s_X2_digitOf g (by first | exact jl_d1 hd rfl | omega) (fun z76 h76 => sg_K1 ?_)
              refine sg_cS1 (pc := 79) (d' := d - 1) (mc' := 0) (ms' := 0) g (dc_X2_isSoundSign_56.2.2.1.2) cb_X2_upperOf ml_X2_50 ms_X2_upperOf (Nat.le_of_ble_eq_true rfl) (by first | exact jl_d0 hd rfl | omega) (by first | exact Nat.le_of_ble_eq_true rfl | omega) (by first | exact Nat.le_of_ble_eq_true rfl | omega) ?_
              refine s_X2_upperOf g (by first | exact jl_d1 hd rfl | omega) (fun z79 h79 => sg_K1 ?_)
              refine sg_iload_n (pc := 82) (j := 0) (dc_X2_isSoundSign_56.2.2.2.1) rfl rfl ?_
              refine sg_cS1 (pc := 83) (d' := d - 1) (mc' := 0) (ms' := 0) g (dc_X2_isSoundSign_56.2.2.2.2) cb_X2_upperOf ml_X2_50 ms_X2_upperOf (Nat.le_of_ble_eq_true rfl) (by first | exact jl_d0 hd rfl | omega) (by first | exact Nat.le_of_ble_eq_true rfl | omega) (by first | exact Nat.le_of_ble_eq_true rfl | omega) ?_
              refine s_X2_upperOf g (by first | exact jl_d1 hd rfl | omega) (fun z83 h83 => sg_K1 ?_)
              refine sg_icmp_ne (pc := 86) (tgt := 93) (dc_X2_isSoundSign_86.1.1.1) (by decide) (fun c86 => ?_) (fun c86 => ?_)
              · refine sg_iconst (pc := 93) (z := 0) (dc_X2_isSoundSign_86.1.2.2) (by decide) ?_
                refine sg_zret (pc := 94) (dc_X2_isSoundSign_86.2.1.1) rfl (by first | exact Or.inl rfl | exact Or.inr rfl | omega | assumption) (by first | exact Nat.le_of_ble_eq_true rfl | omega) (by first | exact Nat.le_of_ble_eq_true rfl | omega) ?_
                exact hQ _ (by first | exact Or.inl rfl | exact Or.inr rfl | omega | assumption)
              · refine sg_iconst (pc := 89) (z := 1) (dc_X2_isSoundSign_86.1.1.2) (by decide) ?_
                refine sg_goto (pc := 90) (tgt := 94) (dc_X2_isSoundSign_86.1.2.1) (by decide) ?_
                refine sg_zret (pc := 94) (dc_X2_isSoundSign_86.2.1.1) rfl (by first | exact Or.inl rfl | exact Or.inr rfl | omega | assumption) (by first | exact Nat.le_of_ble_eq_true rfl | omega) (by first | exact Nat.le_of_ble_eq_true rfl | omega) ?_
                exact hQ _ (by first | exact Or.inl rfl | exact Or.inr rfl | omega | assumption)
          · refine sg_iconst (pc := 59) (z := 0) (dc_X2_isSoundSign_56.1.1.1.2) (by decide) ?_
            refine sg_zret (pc := 60) (dc_X2_isSoundSign_56.1.1.2.1) rfl (by first | exact Or.inl rfl | exact Or.inr rfl | omega | assumption) (by first | exact Nat.le_of_ble_eq_true rfl | omega) (by first | exact Nat.le_of_ble_eq_true rfl | omega) ?_
            exact hQ _ (by first | exact Or.inl rfl | exact Or.inr rfl | omega | assumption)
    · refine sg_iconst (pc := 31) (z := 0) (dc_X2_isSoundSign_28.1.1.1.2) (by decide) ?_
      refine sg_zret (pc := 32) (dc_X2_isSoundSign_28.1.1.2.1) rfl (by first | exact Or.inl rfl | exact Or.inr rfl | omega | assumption) (by first | exact Nat.le_of_ble_eq_true rfl | omega) (by first | exact Nat.le_of_ble_eq_true rfl | omega) ?_
      exact hQ _ (by first | exact Or.inl rfl | exact Or.inr rfl | omega | assumption)
  · refine sg_iload_n (pc := 8) (j := 0) (dc_X2_isSoundSign_0.1.2.1.1) rfl rfl ?_
    refine sg_iconst (pc := 9) (z := 0) (dc_X2_isSoundSign_0.1.2.1.2) (by decide) ?_
    refine sg_cS2 (pc := 10) (d' := d - 1) (mc' := 0) (ms' := 0) g (dc_X2_isSoundSign_0.1.2.2.1) cb_X2_isOf ml_X2_25 ms_X2_isOf (Nat.le_of_ble_eq_true rfl) (by first | exact jl_d0 hd rfl | omega) (by first | exact Nat.le_of_ble_eq_true rfl | omega) (by first | exact Nat.le_of_ble_eq_true rfl | omega) ?_
    refine s_X2_isOf g (by first | exact jl_d1 hd rfl | omega) (fun z10 h10 b10 => sg_K1 ?_)
    refine sg_if_eq (pc := 13) (tgt := 20) (dc_X2_isSoundSign_0.1.2.2.2) (by decide) (fun c13 => ?_) (fun c13 => ?_)
    · refine sg_iconst (pc := 20) (z := 0) (dc_X2_isSoundSign_0.2.1.2.1) (by decide) ?_
      refine sg_istore_n (pc := 21) (j := 1) (dc_X2_isSoundSign_0.2.1.2.2) rfl (by decide) ?_
      refine sg_iload_n (pc := 22) (j := 0) (dc_X2_isSoundSign_0.2.2.1.1) rfl rfl ?_
      refine sg_iconst (pc := 23) (z := 2) (dc_X2_isSoundSign_0.2.2.1.2) (by decide) ?_
      refine sg_cS2 (pc := 24) (d' := d - 1) (mc' := 0) (ms' := 0) g (dc_X2_isSoundSign_0.2.2.2.1) cb_X2_isOf ml_X2_25 ms_X2_isOf (Nat.le_of_ble_eq_true rfl) (by first | exact jl_d0 hd rfl | omega) (by first | exact Nat.le_of_ble_eq_true rfl | omega) (by first | exact Nat.le_of_ble_eq_true rfl | omega) ?_
      refine s_X2_isOf g (by first | exact jl_d1 hd rfl | omega) (fun z24 h24 b24 => sg_K1 ?_)
      refine sg_iload_n (pc := 27) (j := 1) (dc_X2_isSoundSign_0.2.2.2.2) rfl rfl ?_
      refine sg_icmp_eq (pc := 28) (tgt := 33) (dc_X2_isSoundSign_28.1.1.1.1) (by decide) (fun c28 => ?_) (fun c28 => ?_)
      · refine sg_iload_n (pc := 33) (j := 0) (dc_X2_isSoundSign_28.1.1.2.2) rfl rfl ?_
        refine sg_cS1 (pc := 34) (d' := d - 1) (mc' := 0) (ms' := 0) g (dc_X2_isSoundSign_28.1.2.1.1) cb_X2_lowerOf ml_X2_47 ms_X2_lowerOf (Nat.le_of_ble_eq_true rfl) (by first | exact jl_d0 hd rfl | omega) (by first | exact Nat.le_of_ble_eq_true rfl | omega) (by first | exact Nat.le_of_ble_eq_true rfl | omega) ?_
        refine s_X2_lowerOf g (by first | exact jl_d1 hd rfl | omega) (fun z34 h34 => sg_K1 ?_)
        refine sg_istore_n (pc := 37) (j := 2) (dc_X2_isSoundSign_28.1.2.1.2) rfl (by decide) ?_
        refine sg_iload_n (pc := 38) (j := 0) (dc_X2_isSoundSign_28.1.2.2.1) rfl rfl ?_
        refine sg_iconst (pc := 39) (z := 4) (dc_X2_isSoundSign_28.1.2.2.2) (by decide) ?_
        refine sg_cS2 (pc := 40) (d' := d - 1) (mc' := 0) (ms' := 0) g (dc_X2_isSoundSign_28.2.1.1.1) cb_X2_isOf ml_X2_25 ms_X2_isOf (Nat.le_of_ble_eq_true rfl) (by first | exact jl_d0 hd rfl | omega) (by first | exact Nat.le_of_ble_eq_true rfl | omega) (by first | exact Nat.le_of_ble_eq_true rfl | omega) ?_
        refine s_X2_isOf g (by first | exact jl_d1 hd rfl | omega) (fun z40 h40 b40 => sg_K1 ?_)
        refine sg_if_eq (pc := 43) (tgt := 61) (dc_X2_isSoundSign_28.2.1.1.2) (by decide) (fun c43 => ?_) (fun c43 => ?_)
        · refine sg_iload_n (pc := 61) (j := 0) (dc_X2_isSoundSign_56.1.1.2.2) rfl rfl ?_
          refine sg_bipush (pc := 62) (z := 36) (dc_X2_isSoundSign_56.1.2.1.1) (by decide) ?_
          refine sg_cS2 (pc := 64) (d' := d - 1) (mc' := 0) (ms' := 0) g (dc_X2_isSoundSign_56.1.2.1.2) cb_X2_numberOf ml_X2_53 ms_X2_numberOf (Nat.le_of_ble_eq_true rfl) (by first | exact jl_d0 hd rfl | omega) (by first | exact Nat.le_of_ble_eq_true rfl | omega) (by first | exact Nat.le_of_ble_eq_true rfl | omega) ?_
          refine s_X2_numberOf g (by first | exact jl_d1 hd rfl | omega) (fun z64 h64 => sg_K1 ?_)
          refine sg_istore_n (pc := 67) (j := 3) (dc_X2_isSoundSign_56.1.2.2.1) rfl (by decide) ?_
          refine sg_iload_n (pc := 68) (j := 3) (dc_X2_isSoundSign_56.1.2.2.2) rfl rfl ?_
          refine sg_iconst (pc := 69) (z := -1) (dc_X2_isSoundSign_56.2.1.1.1) (by decide) ?_
          refine sg_icmp_eq (pc := 70) (tgt := 89) (dc_X2_isSoundSign_56.2.1.1.2) (by decide) (fun c70 => ?_) (fun c70 => ?_)
          · refine sg_iconst (pc := 89) (z := 1) (dc_X2_isSoundSign_86.1.1.2) (by decide) ?_
            refine sg_goto (pc := 90) (tgt := 94) (dc_X2_isSoundSign_86.1.2.1) (by decide) ?_
            refine sg_zret (pc := 94) (dc_X2_isSoundSign_86.2.1.1) rfl (by first | exact Or.inl rfl | exact Or.inr rfl | omega | assumption) (by first | exact Nat.le_of_ble_eq_true rfl | omega) (by first | exact Nat.le_of_ble_eq_true rfl | omega) ?_
            exact hQ _ (by first | exact Or.inl rfl | exact Or.inr rfl | omega | assumption)
          · refine sg_iload_n (pc := 73) (j := 3) (dc_X2_isSoundSign_56.2.1.2.1) rfl rfl ?_
            refine sg_bipush (pc := 74) (z := 36) (dc_X2_isSoundSign_56.2.1.2.2) (by decide) ?_
            refine sg_cS2 (pc := 76) (d' := d - 1) (mc' := 0) (ms' := 0) g (dc_X2_isSoundSign_56.2.2.1.1) cb_X2_digitOf ml_X2_43 ms_X2_digitOf (Nat.le_of_ble_eq_true rfl) (by first | exact jl_d0 hd rfl | omega) (by first | exact Nat.le_of_ble_eq_true rfl | omega) (by first | exact Nat.le_of_ble_eq_true rfl | omega) ?_
            refine s_X2_digitOf g (by first | exact jl_d1 hd rfl | omega) (fun z76 h76 => sg_K1 ?_)
            refine sg_cS1 (pc := 79) (d' := d - 1) (mc' := 0) (ms' := 0) g (dc_X2_isSoundSign_56.2.2.1.2) cb_X2_upperOf ml_X2_50 ms_X2_upperOf (Nat.le_of_ble_eq_true rfl) (by first | exact jl_d0 hd rfl | omega) (by first | exact Nat.le_of_ble_eq_true rfl | omega) (by first | exact Nat.le_of_ble_eq_true rfl | omega) ?_
            refine s_X2_upperOf g (by first | exact jl_d1 hd rfl | omega) (fun z79 h79 => sg_K1 ?_)
            refine sg_iload_n (pc := 82) (j := 0) (dc_X2_isSoundSign_56.2.2.2.1) rfl rfl ?_
            refine sg_cS1 (pc := 83) (d' := d - 1) (mc' := 0) (ms' := 0) g (dc_X2_isSoundSign_56.2.2.2.2) cb_X2_upperOf ml_X2_50 ms_X2_upperOf (Nat.le_of_ble_eq_true rfl) (by first | exact jl_d0 hd rfl | omega) (by first | exact Nat.le_of_ble_eq_true rfl | omega) (by first | exact Nat.le_of_ble_eq_true rfl | omega) ?_
            refine s_X2_upperOf g (by first | exact jl_d1 hd rfl | omega) (fun z83 h83 => sg_K1 ?_)
            refine sg_icmp_ne (pc := 86) (tgt := 93) (dc_X2_isSoundSign_86.1.1.1) (by decide) (fun c86 => ?_) (fun c86 => ?_)
            · refine sg_iconst (pc := 93) (z := 0) (dc_X2_isSoundSign_86.1.2.2) (by decide) ?_
              refine sg_zret (pc := 94) (dc_X2_isSoundSign_86.2.1.1) rfl (by first | exact Or.inl rfl | exact Or.inr rfl | omega | assumption) (by first | exact Nat.le_of_ble_eq_true rfl | omega) (by first | exact Nat.le_of_ble_eq_true rfl | omega) ?_
              exact hQ _ (by first | exact Or.inl rfl | exact Or.inr rfl | omega | assumption)
            · refine sg_iconst (pc := 89) (z := 1) (dc_X2_isSoundSign_86.1.1.2) (by decide) ?_
              refine sg_goto (pc := 90) (tgt := 94) (dc_X2_isSoundSign_86.1.2.1) (by decide) ?_
              refine sg_zret (pc := 94) (dc_X2_isSoundSign_86.2.1.1) rfl (by first | exact Or.inl rfl | exact Or.inr rfl | omega | assumption) (by first | exact Nat.le_of_ble_eq_true rfl | omega) (by first | exact Nat.le_of_ble_eq_true rfl | omega) ?_
              exact hQ _ (by first | exact Or.inl rfl | exact Or.inr rfl | omega | assumption)
        · refine sg_iload_n (pc := 46) (j := 2) (dc_X2_isSoundSign_28.2.1.2.1) rfl rfl ?_
          refine sg_iload_n (pc := 47) (j := 0) (dc_X2_isSoundSign_28.2.1.2.2) rfl rfl ?_
          refine sg_icmp_eq (pc := 48) (tgt := 59) (dc_X2_isSoundSign_28.2.2.1.1) (by decide) (fun c48 => ?_) (fun c48 => ?_)
          · refine sg_iconst (pc := 59) (z := 0) (dc_X2_isSoundSign_56.1.1.1.2) (by decide) ?_
            refine sg_zret (pc := 60) (dc_X2_isSoundSign_56.1.1.2.1) rfl (by first | exact Or.inl rfl | exact Or.inr rfl | omega | assumption) (by first | exact Nat.le_of_ble_eq_true rfl | omega) (by first | exact Nat.le_of_ble_eq_true rfl | omega) ?_
            exact hQ _ (by first | exact Or.inl rfl | exact Or.inr rfl | omega | assumption)
          · refine sg_iload_n (pc := 51) (j := 2) (dc_X2_isSoundSign_28.2.2.1.2) rfl rfl ?_
            refine sg_cS1 (pc := 52) (d' := d - 1) (mc' := 0) (ms' := 0) g (dc_X2_isSoundSign_28.2.2.2.1) cb_X2_upperOf ml_X2_50 ms_X2_upperOf (Nat.le_of_ble_eq_true rfl) (by first | exact jl_d0 hd rfl | omega) (by first | exact Nat.le_of_ble_eq_true rfl | omega) (by first | exact Nat.le_of_ble_eq_true rfl | omega) ?_
            refine s_X2_upperOf g (by first | exact jl_d1 hd rfl | omega) (fun z52 h52 => sg_K1 ?_)
            refine sg_iload_n (pc := 55) (j := 0) (dc_X2_isSoundSign_28.2.2.2.2) rfl rfl ?_
            refine sg_icmp_eq (pc := 56) (tgt := 61) (dc_X2_isSoundSign_56.1.1.1.1) (by decide) (fun c56 => ?_) (fun c56 => ?_)
            · refine sg_iload_n (pc := 61) (j := 0) (dc_X2_isSoundSign_56.1.1.2.2) rfl rfl ?_
              refine sg_bipush (pc := 62) (z := 36) (dc_X2_isSoundSign_56.1.2.1.1) (by decide) ?_
              refine sg_cS2 (pc := 64) (d' := d - 1) (mc' := 0) (ms' := 0) g (dc_X2_isSoundSign_56.1.2.1.2) cb_X2_numberOf ml_X2_53 ms_X2_numberOf (Nat.le_of_ble_eq_true rfl) (by first | exact jl_d0 hd rfl | omega) (by first | exact Nat.le_of_ble_eq_true rfl | omega) (by first | exact Nat.le_of_ble_eq_true rfl | omega) ?_
              refine s_X2_numberOf g (by first | exact jl_d1 hd rfl | omega) (fun z64 h64 => sg_K1 ?_)
              refine sg_istore_n (pc := 67) (j := 3) (dc_X2_isSoundSign_56.1.2.2.1) rfl (by decide) ?_
              refine sg_iload_n (pc := 68) (j := 3) (dc_X2_isSoundSign_56.1.2.2.2) rfl rfl ?_
              refine sg_iconst (pc := 69) (z := -1) (dc_X2_isSoundSign_56.2.1.1.1) (by decide) ?_
              refine sg_icmp_eq (pc := 70) (tgt := 89) (dc_X2_isSoundSign_56.2.1.1.2) (by decide) (fun c70 => ?_) (fun c70 => ?_)
              · refine sg_iconst (pc := 89) (z := 1) (dc_X2_isSoundSign_86.1.1.2) (by decide) ?_
                refine sg_goto (pc := 90) (tgt := 94) (dc_X2_isSoundSign_86.1.2.1) (by decide) ?_
                refine sg_zret (pc := 94) (dc_X2_isSoundSign_86.2.1.1) rfl (by first | exact Or.inl rfl | exact Or.inr rfl | omega | assumption) (by first | exact Nat.le_of_ble_eq_true rfl | omega) (by first | exact Nat.le_of_ble_eq_true rfl | omega) ?_
                exact hQ _ (by first | exact Or.inl rfl | exact Or.inr rfl | omega | assumption)
              · refine sg_iload_n (pc := 73) (j := 3) (dc_X2_isSoundSign_56.2.1.2.1) rfl rfl ?_
                refine sg_bipush (pc := 74) (z := 36) (dc_X2_isSoundSign_56.2.1.2.2) (by decide) ?_
                refine sg_cS2 (pc := 76) (d' := d - 1) (mc' := 0) (ms' := 0) g (dc_X2_isSoundSign_56.2.2.1.1) cb_X2_digitOf ml_X2_43 ms_X2_digitOf (Nat.le_of_ble_eq_true rfl) (by first | exact jl_d0 hd rfl | omega) (by first | exact Nat.le_of_ble_eq_true rfl | omega) (by first | exact Nat.le_of_ble_eq_true rfl | omega) ?_
                refine s_X2_digitOf g (by first | exact jl_d1 hd rfl | omega) (fun z76 h76 => sg_K1 ?_)
                refine sg_cS1 (pc := 79) (d' := d - 1) (mc' := 0) (ms' := 0) g (dc_X2_isSoundSign_56.2.2.1.2) cb_X2_upperOf ml_X2_50 ms_X2_upperOf (Nat.le_of_ble_eq_true rfl) (by first | exact jl_d0 hd rfl | omega) (by first | exact Nat.le_of_ble_eq_true rfl | omega) (by first | exact Nat.le_of_ble_eq_true rfl | omega) ?_
                refine s_X2_upperOf g (by first | exact jl_d1 hd rfl | omega) (fun z79 h79 => sg_K1 ?_)
                refine sg_iload_n (pc := 82) (j := 0) (dc_X2_isSoundSign_56.2.2.2.1) rfl rfl ?_
                refine sg_cS1 (pc := 83) (d' := d - 1) (mc' := 0) (ms' := 0) g (dc_X2_isSoundSign_56.2.2.2.2) cb_X2_upperOf ml_X2_50 ms_X2_upperOf (Nat.le_of_ble_eq_true rfl) (by first | exact jl_d0 hd rfl | omega) (by first | exact Nat.le_of_ble_eq_true rfl | omega) (by first | exact Nat.le_of_ble_eq_true rfl | omega) ?_
                refine s_X2_upperOf g (by first | exact jl_d1 hd rfl | omega) (fun z83 h83 => sg_K1 ?_)
                refine sg_icmp_ne (pc := 86) (tgt := 93) (dc_X2_isSoundSign_86.1.1.1) (by decide) (fun c86 => ?_) (fun c86 => ?_)
                · refine sg_iconst (pc := 93) (z := 0) (dc_X2_isSoundSign_86.1.2.2) (by decide) ?_
                  refine sg_zret (pc := 94) (dc_X2_isSoundSign_86.2.1.1) rfl (by first | exact Or.inl rfl | exact Or.inr rfl | omega | assumption) (by first | exact Nat.le_of_ble_eq_true rfl | omega) (by first | exact Nat.le_of_ble_eq_true rfl | omega) ?_
                  exact hQ _ (by first | exact Or.inl rfl | exact Or.inr rfl | omega | assumption)
                · refine sg_iconst (pc := 89) (z := 1) (dc_X2_isSoundSign_86.1.1.2) (by decide) ?_
                  refine sg_goto (pc := 90) (tgt := 94) (dc_X2_isSoundSign_86.1.2.1) (by decide) ?_
                  refine sg_zret (pc := 94) (dc_X2_isSoundSign_86.2.1.1) rfl (by first | exact Or.inl rfl | exact Or.inr rfl | omega | assumption) (by first | exact Nat.le_of_ble_eq_true rfl | omega) (by first | exact Nat.le_of_ble_eq_true rfl | omega) ?_
                  exact hQ _ (by first | exact Or.inl rfl | exact Or.inr rfl | omega | assumption)
            · refine sg_iconst (pc := 59) (z := 0) (dc_X2_isSoundSign_56.1.1.1.2) (by decide) ?_
              refine sg_zret (pc := 60) (dc_X2_isSoundSign_56.1.1.2.1) rfl (by first | exact Or.inl rfl | exact Or.inr rfl | omega | assumption) (by first | exact Nat.le_of_ble_eq_true rfl | omega) (by first | exact Nat.le_of_ble_eq_true rfl | omega) ?_
              exact hQ _ (by first | exact Or.inl rfl | exact Or.inr rfl | omega | assumption)
      · refine sg_iconst (pc := 31) (z := 0) (dc_X2_isSoundSign_28.1.1.1.2) (by decide) ?_
        refine sg_zret (pc := 32) (dc_X2_isSoundSign_28.1.1.2.1) rfl (by first | exact Or.inl rfl | exact Or.inr rfl | omega | assumption) (by first | exact Nat.le_of_ble_eq_true rfl | omega) (by first | exact Nat.le_of_ble_eq_true rfl | omega) ?_
        exact hQ _ (by first | exact Or.inl rfl | exact Or.inr rfl | omega | assumption)
    · refine sg_iconst (pc := 16) (z := 1) (dc_X2_isSoundSign_0.2.1.1.1) (by decide) ?_
      refine sg_goto (pc := 17) (tgt := 21) (dc_X2_isSoundSign_0.2.1.1.2) (by decide) ?_
      refine sg_istore_n (pc := 21) (j := 1) (dc_X2_isSoundSign_0.2.1.2.2) rfl (by decide) ?_
      refine sg_iload_n (pc := 22) (j := 0) (dc_X2_isSoundSign_0.2.2.1.1) rfl rfl ?_
      refine sg_iconst (pc := 23) (z := 2) (dc_X2_isSoundSign_0.2.2.1.2) (by decide) ?_
      refine sg_cS2 (pc := 24) (d' := d - 1) (mc' := 0) (ms' := 0) g (dc_X2_isSoundSign_0.2.2.2.1) cb_X2_isOf ml_X2_25 ms_X2_isOf (Nat.le_of_ble_eq_true rfl) (by first | exact jl_d0 hd rfl | omega) (by first | exact Nat.le_of_ble_eq_true rfl | omega) (by first | exact Nat.le_of_ble_eq_true rfl | omega) ?_
      refine s_X2_isOf g (by first | exact jl_d1 hd rfl | omega) (fun z24 h24 b24 => sg_K1 ?_)
      refine sg_iload_n (pc := 27) (j := 1) (dc_X2_isSoundSign_0.2.2.2.2) rfl rfl ?_
      refine sg_icmp_eq (pc := 28) (tgt := 33) (dc_X2_isSoundSign_28.1.1.1.1) (by decide) (fun c28 => ?_) (fun c28 => ?_)
      · refine sg_iload_n (pc := 33) (j := 0) (dc_X2_isSoundSign_28.1.1.2.2) rfl rfl ?_
        refine sg_cS1 (pc := 34) (d' := d - 1) (mc' := 0) (ms' := 0) g (dc_X2_isSoundSign_28.1.2.1.1) cb_X2_lowerOf ml_X2_47 ms_X2_lowerOf (Nat.le_of_ble_eq_true rfl) (by first | exact jl_d0 hd rfl | omega) (by first | exact Nat.le_of_ble_eq_true rfl | omega) (by first | exact Nat.le_of_ble_eq_true rfl | omega) ?_
        refine s_X2_lowerOf g (by first | exact jl_d1 hd rfl | omega) (fun z34 h34 => sg_K1 ?_)
        refine sg_istore_n (pc := 37) (j := 2) (dc_X2_isSoundSign_28.1.2.1.2) rfl (by decide) ?_
        refine sg_iload_n (pc := 38) (j := 0) (dc_X2_isSoundSign_28.1.2.2.1) rfl rfl ?_
        refine sg_iconst (pc := 39) (z := 4) (dc_X2_isSoundSign_28.1.2.2.2) (by decide) ?_
        refine sg_cS2 (pc := 40) (d' := d - 1) (mc' := 0) (ms' := 0) g (dc_X2_isSoundSign_28.2.1.1.1) cb_X2_isOf ml_X2_25 ms_X2_isOf (Nat.le_of_ble_eq_true rfl) (by first | exact jl_d0 hd rfl | omega) (by first | exact Nat.le_of_ble_eq_true rfl | omega) (by first | exact Nat.le_of_ble_eq_true rfl | omega) ?_
        refine s_X2_isOf g (by first | exact jl_d1 hd rfl | omega) (fun z40 h40 b40 => sg_K1 ?_)
        refine sg_if_eq (pc := 43) (tgt := 61) (dc_X2_isSoundSign_28.2.1.1.2) (by decide) (fun c43 => ?_) (fun c43 => ?_)
        · refine sg_iload_n (pc := 61) (j := 0) (dc_X2_isSoundSign_56.1.1.2.2) rfl rfl ?_
          refine sg_bipush (pc := 62) (z := 36) (dc_X2_isSoundSign_56.1.2.1.1) (by decide) ?_
          refine sg_cS2 (pc := 64) (d' := d - 1) (mc' := 0) (ms' := 0) g (dc_X2_isSoundSign_56.1.2.1.2) cb_X2_numberOf ml_X2_53 ms_X2_numberOf (Nat.le_of_ble_eq_true rfl) (by first | exact jl_d0 hd rfl | omega) (by first | exact Nat.le_of_ble_eq_true rfl | omega) (by first | exact Nat.le_of_ble_eq_true rfl | omega) ?_
          refine s_X2_numberOf g (by first | exact jl_d1 hd rfl | omega) (fun z64 h64 => sg_K1 ?_)
          refine sg_istore_n (pc := 67) (j := 3) (dc_X2_isSoundSign_56.1.2.2.1) rfl (by decide) ?_
          refine sg_iload_n (pc := 68) (j := 3) (dc_X2_isSoundSign_56.1.2.2.2) rfl rfl ?_
          refine sg_iconst (pc := 69) (z := -1) (dc_X2_isSoundSign_56.2.1.1.1) (by decide) ?_
          refine sg_icmp_eq (pc := 70) (tgt := 89) (dc_X2_isSoundSign_56.2.1.1.2) (by decide) (fun c70 => ?_) (fun c70 => ?_)
          · refine sg_iconst (pc := 89) (z := 1) (dc_X2_isSoundSign_86.1.1.2) (by decide) ?_
            refine sg_goto (pc := 90) (tgt := 94) (dc_X2_isSoundSign_86.1.2.1) (by decide) ?_
            refine sg_zret (pc := 94) (dc_X2_isSoundSign_86.2.1.1) rfl (by first | exact Or.inl rfl | exact Or.inr rfl | omega | assumption) (by first | exact Nat.le_of_ble_eq_true rfl | omega) (by first | exact Nat.le_of_ble_eq_true rfl | omega) ?_
            exact hQ _ (by first | exact Or.inl rfl | exact Or.inr rfl | omega | assumption)
          · refine sg_iload_n (pc := 73) (j := 3) (dc_X2_isSoundSign_56.2.1.2.1) rfl rfl ?_
            refine sg_bipush (pc := 74) (z := 36) (dc_X2_isSoundSign_56.2.1.2.2) (by decide) ?_
            refine sg_cS2 (pc := 76) (d' := d - 1) (mc' := 0) (ms' := 0) g (dc_X2_isSoundSign_56.2.2.1.1) cb_X2_digitOf ml_X2_43 ms_X2_digitOf (Nat.le_of_ble_eq_true rfl) (by first | exact jl_d0 hd rfl | omega) (by first | exact Nat.le_of_ble_eq_true rfl | omega) (by first | exact Nat.le_of_ble_eq_true rfl | omega) ?_
            refine s_X2_digitOf g (by first | exact jl_d1 hd rfl | omega) (fun z76 h76 => sg_K1 ?_)
            refine sg_cS1 (pc := 79) (d' := d - 1) (mc' := 0) (ms' := 0) g (dc_X2_isSoundSign_56.2.2.1.2) cb_X2_upperOf ml_X2_50 ms_X2_upperOf (Nat.le_of_ble_eq_true rfl) (by first | exact jl_d0 hd rfl | omega) (by first | exact Nat.le_of_ble_eq_true rfl | omega) (by first | exact Nat.le_of_ble_eq_true rfl | omega) ?_
            refine s_X2_upperOf g (by first | exact jl_d1 hd rfl | omega) (fun z79 h79 => sg_K1 ?_)
            refine sg_iload_n (pc := 82) (j := 0) (dc_X2_isSoundSign_56.2.2.2.1) rfl rfl ?_
            refine sg_cS1 (pc := 83) (d' := d - 1) (mc' := 0) (ms' := 0) g (dc_X2_isSoundSign_56.2.2.2.2) cb_X2_upperOf ml_X2_50 ms_X2_upperOf (Nat.le_of_ble_eq_true rfl) (by first | exact jl_d0 hd rfl | omega) (by first | exact Nat.le_of_ble_eq_true rfl | omega) (by first | exact Nat.le_of_ble_eq_true rfl | omega) ?_
            refine s_X2_upperOf g (by first | exact jl_d1 hd rfl | omega) (fun z83 h83 => sg_K1 ?_)
            refine sg_icmp_ne (pc := 86) (tgt := 93) (dc_X2_isSoundSign_86.1.1.1) (by decide) (fun c86 => ?_) (fun c86 => ?_)
            · refine sg_iconst (pc := 93) (z := 0) (dc_X2_isSoundSign_86.1.2.2) (by decide) ?_
              refine sg_zret (pc := 94) (dc_X2_isSoundSign_86.2.1.1) rfl (by first | exact Or.inl rfl | exact Or.inr rfl | omega | assumption) (by first | exact Nat.le_of_ble_eq_true rfl | omega) (by first | exact Nat.le_of_ble_eq_true rfl | omega) ?_
              exact hQ _ (by first | exact Or.inl rfl | exact Or.inr rfl | omega | assumption)
            · refine sg_iconst (pc := 89) (z := 1) (dc_X2_isSoundSign_86.1.1.2) (by decide) ?_
              refine sg_goto (pc := 90) (tgt := 94) (dc_X2_isSoundSign_86.1.2.1) (by decide) ?_
              refine sg_zret (pc := 94) (dc_X2_isSoundSign_86.2.1.1) rfl (by first | exact Or.inl rfl | exact Or.inr rfl | omega | assumption) (by first | exact Nat.le_of_ble_eq_true rfl | omega) (by first | exact Nat.le_of_ble_eq_true rfl | omega) ?_
              exact hQ _ (by first | exact Or.inl rfl | exact Or.inr rfl | omega | assumption)
        · refine sg_iload_n (pc := 46) (j := 2) (dc_X2_isSoundSign_28.2.1.2.1) rfl rfl ?_
          refine sg_iload_n (pc := 47) (j := 0) (dc_X2_isSoundSign_28.2.1.2.2) rfl rfl ?_
          refine sg_icmp_eq (pc := 48) (tgt := 59) (dc_X2_isSoundSign_28.2.2.1.1) (by decide) (fun c48 => ?_) (fun c48 => ?_)
          · refine sg_iconst (pc := 59) (z := 0) (dc_X2_isSoundSign_56.1.1.1.2) (by decide) ?_
            refine sg_zret (pc := 60) (dc_X2_isSoundSign_56.1.1.2.1) rfl (by first | exact Or.inl rfl | exact Or.inr rfl | omega | assumption) (by first | exact Nat.le_of_ble_eq_true rfl | omega) (by first | exact Nat.le_of_ble_eq_true rfl | omega) ?_
            exact hQ _ (by first | exact Or.inl rfl | exact Or.inr rfl | omega | assumption)
          · refine sg_iload_n (pc := 51) (j := 2) (dc_X2_isSoundSign_28.2.2.1.2) rfl rfl ?_
            refine sg_cS1 (pc := 52) (d' := d - 1) (mc' := 0) (ms' := 0) g (dc_X2_isSoundSign_28.2.2.2.1) cb_X2_upperOf ml_X2_50 ms_X2_upperOf (Nat.le_of_ble_eq_true rfl) (by first | exact jl_d0 hd rfl | omega) (by first | exact Nat.le_of_ble_eq_true rfl | omega) (by first | exact Nat.le_of_ble_eq_true rfl | omega) ?_
            refine s_X2_upperOf g (by first | exact jl_d1 hd rfl | omega) (fun z52 h52 => sg_K1 ?_)
            refine sg_iload_n (pc := 55) (j := 0) (dc_X2_isSoundSign_28.2.2.2.2) rfl rfl ?_
            refine sg_icmp_eq (pc := 56) (tgt := 61) (dc_X2_isSoundSign_56.1.1.1.1) (by decide) (fun c56 => ?_) (fun c56 => ?_)
            · refine sg_iload_n (pc := 61) (j := 0) (dc_X2_isSoundSign_56.1.1.2.2) rfl rfl ?_
              refine sg_bipush (pc := 62) (z := 36) (dc_X2_isSoundSign_56.1.2.1.1) (by decide) ?_
              refine sg_cS2 (pc := 64) (d' := d - 1) (mc' := 0) (ms' := 0) g (dc_X2_isSoundSign_56.1.2.1.2) cb_X2_numberOf ml_X2_53 ms_X2_numberOf (Nat.le_of_ble_eq_true rfl) (by first | exact jl_d0 hd rfl | omega) (by first | exact Nat.le_of_ble_eq_true rfl | omega) (by first | exact Nat.le_of_ble_eq_true rfl | omega) ?_
              refine s_X2_numberOf g (by first | exact jl_d1 hd rfl | omega) (fun z64 h64 => sg_K1 ?_)
              refine sg_istore_n (pc := 67) (j := 3) (dc_X2_isSoundSign_56.1.2.2.1) rfl (by decide) ?_
              refine sg_iload_n (pc := 68) (j := 3) (dc_X2_isSoundSign_56.1.2.2.2) rfl rfl ?_
              refine sg_iconst (pc := 69) (z := -1) (dc_X2_isSoundSign_56.2.1.1.1) (by decide) ?_
              refine sg_icmp_eq (pc := 70) (tgt := 89) (dc_X2_isSoundSign_56.2.1.1.2) (by decide) (fun c70 => ?_) (fun c70 => ?_)
              · refine sg_iconst (pc := 89) (z := 1) (dc_X2_isSoundSign_86.1.1.2) (by decide) ?_
                refine sg_goto (pc := 90) (tgt := 94) (dc_X2_isSoundSign_86.1.2.1) (by decide) ?_
                refine sg_zret (pc := 94) (dc_X2_isSoundSign_86.2.1.1) rfl (by first | exact Or.inl rfl | exact Or.inr rfl | omega | assumption) (by first | exact Nat.le_of_ble_eq_true rfl | omega) (by first | exact Nat.le_of_ble_eq_true rfl | omega) ?_
                exact hQ _ (by first | exact Or.inl rfl | exact Or.inr rfl | omega | assumption)
              · refine sg_iload_n (pc := 73) (j := 3) (dc_X2_isSoundSign_56.2.1.2.1) rfl rfl ?_
                refine sg_bipush (pc := 74) (z := 36) (dc_X2_isSoundSign_56.2.1.2.2) (by decide) ?_
                refine sg_cS2 (pc := 76) (d' := d - 1) (mc' := 0) (ms' := 0) g (dc_X2_isSoundSign_56.2.2.1.1) cb_X2_digitOf ml_X2_43 ms_X2_digitOf (Nat.le_of_ble_eq_true rfl) (by first | exact jl_d0 hd rfl | omega) (by first | exact Nat.le_of_ble_eq_true rfl | omega) (by first | exact Nat.le_of_ble_eq_true rfl | omega) ?_
                refine s_X2_digitOf g (by first | exact jl_d1 hd rfl | omega) (fun z76 h76 => sg_K1 ?_)
                refine sg_cS1 (pc := 79) (d' := d - 1) (mc' := 0) (ms' := 0) g (dc_X2_isSoundSign_56.2.2.1.2) cb_X2_upperOf ml_X2_50 ms_X2_upperOf (Nat.le_of_ble_eq_true rfl) (by first | exact jl_d0 hd rfl | omega) (by first | exact Nat.le_of_ble_eq_true rfl | omega) (by first | exact Nat.le_of_ble_eq_true rfl | omega) ?_
                refine s_X2_upperOf g (by first | exact jl_d1 hd rfl | omega) (fun z79 h79 => sg_K1 ?_)
                refine sg_iload_n (pc := 82) (j := 0) (dc_X2_isSoundSign_56.2.2.2.1) rfl rfl ?_
                refine sg_cS1 (pc := 83) (d' := d - 1) (mc' := 0) (ms' := 0) g (dc_X2_isSoundSign_56.2.2.2.2) cb_X2_upperOf ml_X2_50 ms_X2_upperOf (Nat.le_of_ble_eq_true rfl) (by first | exact jl_d0 hd rfl | omega) (by first | exact Nat.le_of_ble_eq_true rfl | omega) (by first | exact Nat.le_of_ble_eq_true rfl | omega) ?_
                refine s_X2_upperOf g (by first | exact jl_d1 hd rfl | omega) (fun z83 h83 => sg_K1 ?_)
                refine sg_icmp_ne (pc := 86) (tgt := 93) (dc_X2_isSoundSign_86.1.1.1) (by decide) (fun c86 => ?_) (fun c86 => ?_)
                · refine sg_iconst (pc := 93) (z := 0) (dc_X2_isSoundSign_86.1.2.2) (by decide) ?_
                  refine sg_zret (pc := 94) (dc_X2_isSoundSign_86.2.1.1) rfl (by first | exact Or.inl rfl | exact Or.inr rfl | omega | assumption) (by first | exact Nat.le_of_ble_eq_true rfl | omega) (by first | exact Nat.le_of_ble_eq_true rfl | omega) ?_
                  exact hQ _ (by first | exact Or.inl rfl | exact Or.inr rfl | omega | assumption)
                · refine sg_iconst (pc := 89) (z := 1) (dc_X2_isSoundSign_86.1.1.2) (by decide) ?_
                  refine sg_goto (pc := 90) (tgt := 94) (dc_X2_isSoundSign_86.1.2.1) (by decide) ?_
                  refine sg_zret (pc := 94) (dc_X2_isSoundSign_86.2.1.1) rfl (by first | exact Or.inl rfl | exact Or.inr rfl | omega | assumption) (by first | exact Nat.le_of_ble_eq_true rfl | omega) (by first | exact Nat.le_of_ble_eq_true rfl | omega) ?_
                  exact hQ _ (by first | exact Or.inl rfl | exact Or.inr rfl | omega | assumption)
            · refine sg_iconst (pc := 59) (z := 0) (dc_X2_isSoundSign_56.1.1.1.2) (by decide) ?_
              refine sg_zret (pc := 60) (dc_X2_isSoundSign_56.1.1.2.1) rfl (by first | exact Or.inl rfl | exact Or.inr rfl | omega | assumption) (by first | exact Nat.le_of_ble_eq_true rfl | omega) (by first | exact Nat.le_of_ble_eq_true rfl | omega) ?_
              exact hQ _ (by first | exact Or.inl rfl | exact Or.inr rfl | omega | assumption)
      · refine sg_iconst (pc := 31) (z := 0) (dc_X2_isSoundSign_28.1.1.1.2) (by decide) ?_
        refine sg_zret (pc := 32) (dc_X2_isSoundSign_28.1.1.2.1) rfl (by first | exact Or.inl rfl | exact Or.inr rfl | omega | assumption) (by first | exact Nat.le_of_ble_eq_true rfl | omega) (by first | exact Nat.le_of_ble_eq_true rfl | omega) ?_
        exact hQ _ (by first | exact Or.inl rfl | exact Or.inr rfl | omega | assumption)

set_option maxRecDepth 100000 in
theorem s_X4_highOf {w : sg_W} {Q : sg_O → sg_H → Prop} {h : sg_H} (g : sg_G w) {d : Nat} (hd : 1 ≤ d) {c : Int} (hQ : ∀ z : Int, (65536 ≤ c ∧ c ≤ 1114111 → z = 55296 + (c - 65536) / 1024) → Q (.inl (some (sg_i z))) h) : sg_C w mi_X4_highOf d 0 0 [sg_i c] h Q := by
  refine sg_of pn_X4 (Nat.le_of_ble_eq_true rfl) ?_
  refine sg_ldc (pc := 0) (z := 55296) g (dc_X4_highOf_0.1.1.1) cn_X4_12 (by decide) ?_
  refine sg_iload_n (pc := 2) (j := 0) (dc_X4_highOf_0.1.1.2) rfl rfl ?_
  refine sg_ldc (pc := 3) (z := 65536) g (dc_X4_highOf_0.1.2.1) cn_X4_11 (by decide) ?_
  first | refine sg_isubB (pc := 5) (dc_X4_highOf_0.1.2.2) (by omega) (by omega) ?_ | refine sg_isub (pc := 5) (dc_X4_highOf_0.1.2.2) ?_
  refine sg_sipush (pc := 6) (z := 1024) (dc_X4_highOf_0.2.1.1) (by decide) ?_
  first | refine sg_idivP (pc := 9) (dc_X4_highOf_0.2.1.2) (by omega) (by omega) (by omega) ?_ | refine sg_idiv (pc := 9) (dc_X4_highOf_0.2.1.2) (by first | omega | assumption) ?_
  first | refine sg_iaddB (pc := 10) (dc_X4_highOf_0.2.2.1) (by omega) (by omega) ?_ | refine sg_iadd (pc := 10) (dc_X4_highOf_0.2.2.1) ?_
  refine sg_iret (pc := 11) (dc_X4_highOf_0.2.2.2) rfl (by first | exact Nat.le_of_ble_eq_true rfl | omega) (by first | exact Nat.le_of_ble_eq_true rfl | omega) ?_
  exact hQ _ (fun r => by first | rfl | omega | (simp (disch := omega) only [sg_w_id, Int.tdiv_eq_ediv_of_nonneg, Int.tmod_eq_emod_of_nonneg] <;> omega))

set_option maxRecDepth 100000 in
theorem s_X4_lowOf {w : sg_W} {Q : sg_O → sg_H → Prop} {h : sg_H} (g : sg_G w) {d : Nat} (hd : 1 ≤ d) {c : Int} (hQ : ∀ z : Int, (65536 ≤ c ∧ c ≤ 1114111 → z = 56320 + (c - 65536) % 1024) → Q (.inl (some (sg_i z))) h) : sg_C w mi_X4_lowOf d 0 0 [sg_i c] h Q := by
  refine sg_of pn_X4 (Nat.le_of_ble_eq_true rfl) ?_
  refine sg_ldc (pc := 0) (z := 56320) g (dc_X4_lowOf_0.1.1.1) cn_X4_13 (by decide) ?_
  refine sg_iload_n (pc := 2) (j := 0) (dc_X4_lowOf_0.1.1.2) rfl rfl ?_
  refine sg_ldc (pc := 3) (z := 65536) g (dc_X4_lowOf_0.1.2.1) cn_X4_11 (by decide) ?_
  first | refine sg_isubB (pc := 5) (dc_X4_lowOf_0.1.2.2) (by omega) (by omega) ?_ | refine sg_isub (pc := 5) (dc_X4_lowOf_0.1.2.2) ?_
  refine sg_sipush (pc := 6) (z := 1024) (dc_X4_lowOf_0.2.1.1) (by decide) ?_
  first | refine sg_iremP (pc := 9) (dc_X4_lowOf_0.2.1.2) (by omega) (by omega) ?_ | refine sg_irem (pc := 9) (dc_X4_lowOf_0.2.1.2) (by first | omega | assumption) ?_
  first | refine sg_iaddB (pc := 10) (dc_X4_lowOf_0.2.2.1) (by omega) (by omega) ?_ | refine sg_iadd (pc := 10) (dc_X4_lowOf_0.2.2.1) ?_
  refine sg_iret (pc := 11) (dc_X4_lowOf_0.2.2.2) rfl (by first | exact Nat.le_of_ble_eq_true rfl | omega) (by first | exact Nat.le_of_ble_eq_true rfl | omega) ?_
  exact hQ _ (fun r => by first | rfl | omega | (simp (disch := omega) only [sg_w_id, Int.tdiv_eq_ediv_of_nonneg, Int.tmod_eq_emod_of_nonneg] <;> omega))

set_option maxRecDepth 100000 in
theorem s_X4_codeOf {w : sg_W} {Q : sg_O → sg_H → Prop} {h : sg_H} (g : sg_G w) {d : Nat} (hd : 1 ≤ d) {a b : Int} (hQ : ∀ z : Int, (55296 ≤ a ∧ a < 56320 → 56320 ≤ b ∧ b < 57344 → z = 65536 + (a - 55296) * 1024 + (b - 56320)) → Q (.inl (some (sg_i z))) h) : sg_C w mi_X4_codeOf d 0 0 [sg_i a, sg_i b] h Q := by
  refine sg_of pn_X4 (Nat.le_of_ble_eq_true rfl) ?_
  refine sg_ldc (pc := 0) (z := 65536) g (dc_X4_codeOf_0.1.1.1.1) cn_X4_11 (by decide) ?_
  refine sg_iload_n (pc := 2) (j := 0) (dc_X4_codeOf_0.1.1.1.2) rfl rfl ?_
  refine sg_ldc (pc := 3) (z := 55296) g (dc_X4_codeOf_0.1.1.2.1) cn_X4_12 (by decide) ?_
  first | refine sg_isubB (pc := 5) (dc_X4_codeOf_0.1.1.2.2) (by omega) (by omega) ?_ | refine sg_isub (pc := 5) (dc_X4_codeOf_0.1.1.2.2) ?_
  refine sg_sipush (pc := 6) (z := 1024) (dc_X4_codeOf_0.1.2.1.1) (by decide) ?_
  first | refine sg_imulB (pc := 9) (dc_X4_codeOf_0.1.2.1.2) (by omega) (by omega) ?_ | refine sg_imul (pc := 9) (dc_X4_codeOf_0.1.2.1.2) ?_
  first | refine sg_iaddB (pc := 10) (dc_X4_codeOf_0.1.2.2.1) (by omega) (by omega) ?_ | refine sg_iadd (pc := 10) (dc_X4_codeOf_0.1.2.2.1) ?_
  refine sg_iload_n (pc := 11) (j := 1) (dc_X4_codeOf_0.1.2.2.2) rfl rfl ?_
  refine sg_ldc (pc := 12) (z := 56320) g (dc_X4_codeOf_0.2.1.1.1) cn_X4_13 (by decide) ?_
  first | refine sg_isubB (pc := 14) (dc_X4_codeOf_0.2.1.1.2) (by omega) (by omega) ?_ | refine sg_isub (pc := 14) (dc_X4_codeOf_0.2.1.1.2) ?_
  first | refine sg_iaddB (pc := 15) (dc_X4_codeOf_0.2.1.2.1) (by omega) (by omega) ?_ | refine sg_iadd (pc := 15) (dc_X4_codeOf_0.2.1.2.1) ?_
  refine sg_iret (pc := 16) (dc_X4_codeOf_0.2.1.2.2) rfl (by first | exact Nat.le_of_ble_eq_true rfl | omega) (by first | exact Nat.le_of_ble_eq_true rfl | omega) ?_
  exact hQ _ (fun r r2 => by first | rfl | omega | (simp (disch := omega) only [sg_w_id] <;> omega))

set_option maxRecDepth 100000 in
theorem s_X4_turned {w : sg_W} {Q : sg_O → sg_H → Prop} {h : sg_H} (g : sg_G w) {d : Nat} (hd : 1 ≤ d) {u : Int} (hQ : ∀ z : Int, (0 ≤ u ∧ u < 65536 → z = u % 256 * 256 + u / 256) → Q (.inl (some (sg_i z))) h) : sg_C w mi_X4_turned d 0 0 [sg_i u] h Q := by
  refine sg_of pn_X4 (Nat.le_of_ble_eq_true rfl) ?_
  refine sg_iload_n (pc := 0) (j := 0) (dc_X4_turned_0.1.1.1.1) rfl rfl ?_
  refine sg_sipush (pc := 1) (z := 256) (dc_X4_turned_0.1.1.1.2) (by decide) ?_
  first | refine sg_iremP (pc := 4) (dc_X4_turned_0.1.1.2.1) (by omega) (by omega) ?_ | refine sg_irem (pc := 4) (dc_X4_turned_0.1.1.2.1) (by first | omega | assumption) ?_
  refine sg_sipush (pc := 5) (z := 256) (dc_X4_turned_0.1.1.2.2) (by decide) ?_
  first | refine sg_imulB (pc := 8) (dc_X4_turned_0.1.2.1.1) (by omega) (by omega) ?_ | refine sg_imul (pc := 8) (dc_X4_turned_0.1.2.1.1) ?_
  refine sg_iload_n (pc := 9) (j := 0) (dc_X4_turned_0.1.2.1.2) rfl rfl ?_
  refine sg_sipush (pc := 10) (z := 256) (dc_X4_turned_0.1.2.2.1) (by decide) ?_
  first | refine sg_idivP (pc := 13) (dc_X4_turned_0.1.2.2.2) (by omega) (by omega) (by omega) ?_ | refine sg_idiv (pc := 13) (dc_X4_turned_0.1.2.2.2) (by first | omega | assumption) ?_
  first | refine sg_iaddB (pc := 14) (dc_X4_turned_0.2.1.1.1) (by omega) (by omega) ?_ | refine sg_iadd (pc := 14) (dc_X4_turned_0.2.1.1.1) ?_
  refine sg_iret (pc := 15) (dc_X4_turned_0.2.1.1.2) rfl (by first | exact Nat.le_of_ble_eq_true rfl | omega) (by first | exact Nat.le_of_ble_eq_true rfl | omega) ?_
  exact hQ _ (fun r => by first | rfl | omega | (simp (disch := omega) only [sg_w_id, Int.tdiv_eq_ediv_of_nonneg, Int.tmod_eq_emod_of_nonneg] <;> omega))

set_option maxRecDepth 100000 in
theorem s_X4_isCounted {w : sg_W} {Q : sg_O → sg_H → Prop} {h : sg_H} (g : sg_G w) {d : Nat} (hd : 3 ≤ d) {c t : Int} (hQ : ∀ z : Int, (z = 0 ∨ z = 1) → Q (.inl (some (sg_i z))) h) : sg_C w mi_X4_isCounted d 0 0 [sg_i c, sg_i t] h Q := by
  refine sg_of pn_X4 (Nat.le_of_ble_eq_true rfl) ?_
  refine sg_iload_n (pc := 0) (j := 1) (dc_X4_isCounted_0.1.1.1.1) rfl rfl ?_
  by_cases cs : t < 1 ∨ 3 < t
  · refine sg_tsOut (pc := 1) (tgt := 40) (dc_X4_isCounted_0.1.1.1.2) cs (by decide) ?_
    refine sg_iconst (pc := 40) (z := 0) (dc_X4_isCounted_0.2.1.2.1) (by decide) ?_
    refine sg_zret (pc := 41) (dc_X4_isCounted_0.2.1.2.2) rfl (by first | exact Or.inl rfl | exact Or.inr rfl | omega | assumption) (by first | exact Nat.le_of_ble_eq_true rfl | omega) (by first | exact Nat.le_of_ble_eq_true rfl | omega) ?_
    exact hQ _ (by first | exact Or.inl rfl | exact Or.inr rfl | omega | assumption)
  · rcases (show t = 1 ∨ t = 2 ∨ t = 3 by omega) with rfl | rfl | rfl
    · refine sg_tsIn (pc := 1) (tgt := 28) (dc_X4_isCounted_0.1.1.1.2) (by omega) (by omega) rfl (by decide) ?_
      refine sg_iconst (pc := 28) (z := 1) (dc_X4_isCounted_0.1.1.2.1) (by decide) ?_
      refine sg_zret (pc := 29) (dc_X4_isCounted_0.1.1.2.2) rfl (by first | exact Or.inl rfl | exact Or.inr rfl | omega | assumption) (by first | exact Nat.le_of_ble_eq_true rfl | omega) (by first | exact Nat.le_of_ble_eq_true rfl | omega) ?_
      exact hQ _ (by first | exact Or.inl rfl | exact Or.inr rfl | omega | assumption)
    · refine sg_tsIn (pc := 1) (tgt := 30) (dc_X4_isCounted_0.1.1.1.2) (by omega) (by omega) rfl (by decide) ?_
      refine sg_iload_n (pc := 30) (j := 0) (dc_X4_isCounted_0.1.2.1.1) rfl rfl ?_
      refine sg_cS1 (pc := 31) (d' := d - 1) (mc' := 0) (ms' := 0) g (dc_X4_isCounted_0.1.2.1.2) cb_X4_isWideCode ml_X4_23 ms_X4_isWideCode (Nat.le_of_ble_eq_true rfl) (by first | exact jl_d0 hd rfl | omega) (by first | exact Nat.le_of_ble_eq_true rfl | omega) (by first | exact Nat.le_of_ble_eq_true rfl | omega) ?_
      refine s_X4_isWideCode g (by first | exact jl_d1 hd rfl | omega) (fun z31 h31 b31 => sg_K1 ?_)
      refine sg_zret (pc := 34) (dc_X4_isCounted_0.1.2.2.1) rfl (by first | exact Or.inl rfl | exact Or.inr rfl | omega | assumption) (by first | exact Nat.le_of_ble_eq_true rfl | omega) (by first | exact Nat.le_of_ble_eq_true rfl | omega) ?_
      exact hQ _ (by first | exact Or.inl rfl | exact Or.inr rfl | omega | assumption)
    · refine sg_tsIn (pc := 1) (tgt := 35) (dc_X4_isCounted_0.1.1.1.2) (by omega) (by omega) rfl (by decide) ?_
      refine sg_iload_n (pc := 35) (j := 0) (dc_X4_isCounted_0.1.2.2.2) rfl rfl ?_
      refine sg_cS1 (pc := 36) (d' := d - 1) (mc' := 0) (ms' := 0) g (dc_X4_isCounted_0.2.1.1.1) cb_X4_isHalf ml_X4_65 ms_X4_isHalf (Nat.le_of_ble_eq_true rfl) (by first | exact jl_d0 hd rfl | omega) (by first | exact Nat.le_of_ble_eq_true rfl | omega) (by first | exact Nat.le_of_ble_eq_true rfl | omega) ?_
      refine s_X4_isHalf g (by first | exact jl_d1 hd rfl | omega) (fun z36 h36 b36 => sg_K1 ?_)
      refine sg_zret (pc := 39) (dc_X4_isCounted_0.2.1.1.2) rfl (by first | exact Or.inl rfl | exact Or.inr rfl | omega | assumption) (by first | exact Nat.le_of_ble_eq_true rfl | omega) (by first | exact Nat.le_of_ble_eq_true rfl | omega) ?_
      exact hQ _ (by first | exact Or.inl rfl | exact Or.inr rfl | omega | assumption)

set_option maxRecDepth 100000 in
theorem s_X4_codeFrom {w : sg_W} {Q : sg_O → sg_H → Prop} {h : sg_H} (g : sg_G w) {d : Nat} (hd : 3 ≤ d) {B a : Nat} (hx : ck_X h B) (hl : ck_L B a 1) {p : Int} (hQ : ∀ z : Int, (∀ n, ck_N h a n → 0 ≤ p → p < n → 0 ≤ z ∧ z ≤ 1114111) → Q (.inl (some (sg_i z))) h) : sg_C w mi_X4_codeFrom d 0 0 [sg_r a, sg_i p] h Q := by
  refine sg_of pn_X4 (Nat.le_of_ble_eq_true rfl) ?_
  refine sg_aload_n (pc := 0) (j := 0) (dc_X4_codeFrom_0.1.1.1.1) rfl rfl ?_
  refine sg_iload_n (pc := 1) (j := 1) (dc_X4_codeFrom_0.1.1.1.2) rfl rfl ?_
  refine sg_cE1 (pc := 2) (d' := d - 1) (mc' := 0) (ms' := 0) 3 g (dc_X4_codeFrom_0.1.1.2.1) cb_X0_get ml_X4_39 mn_X0_get rfl mv_X0_get (Nat.le_of_ble_eq_true rfl) (ck_lc (by assumption) (by first | assumption | exact ck_rev)) (Nat.le_of_ble_eq_true rfl) (by first | exact jl_d0 hd rfl | omega) (by first | exact Nat.le_of_ble_eq_true rfl | omega) (by first | exact Nat.le_of_ble_eq_true rfl | omega) ?_
  refine s_X0_get g (by first | exact jl_d1 hd rfl | omega) (by assumption) (by first | assumption | exact ck_rev) (fun z2 G2 v2 => sg_K1 ?_)
  refine sg_istore_n (pc := 5) (j := 2) (dc_X4_codeFrom_0.1.1.2.2) rfl (by decide) ?_
  refine sg_iload_n (pc := 6) (j := 2) (dc_X4_codeFrom_0.1.2.1.1) rfl rfl ?_
  refine sg_cS1 (pc := 7) (d' := d - 1) (mc' := 0) (ms' := 0) g (dc_X4_codeFrom_0.1.2.1.2) cb_X4_isHigh ml_X4_15 ms_X4_isHigh (Nat.le_of_ble_eq_true rfl) (by first | exact jl_d0 hd rfl | omega) (by first | exact Nat.le_of_ble_eq_true rfl | omega) (by first | exact Nat.le_of_ble_eq_true rfl | omega) ?_
  refine s_X4_isHigh g (by first | exact jl_d1 hd rfl | omega) (fun z7 h7 b7 => sg_K1 ?_)
  (try simp only [fn_high, fn_low] at h7)
  refine sg_if_eq (pc := 10) (tgt := 38) (dc_X4_codeFrom_0.1.2.2.1) (by decide) (fun c10 => ?_) (fun c10 => ?_)
  · refine sg_iload_n (pc := 38) (j := 2) (dc_X4_codeFrom_28.2.2.1) rfl rfl ?_
    refine sg_iret (pc := 39) (dc_X4_codeFrom_28.2.2.2) rfl (by first | exact Nat.le_of_ble_eq_true rfl | omega) (by first | exact Nat.le_of_ble_eq_true rfl | omega) ?_
    exact hQ _ (fun n2 q1 q2 q3 => by have q4 := ck_v1.mp (v2 n2 q1 q2 q3); omega)
  · refine sg_aload_n (pc := 13) (j := 0) (dc_X4_codeFrom_0.1.2.2.2) rfl rfl ?_
    refine sg_iload_n (pc := 14) (j := 1) (dc_X4_codeFrom_0.2.1.1.1) rfl rfl ?_
    refine sg_iconst (pc := 15) (z := 1) (dc_X4_codeFrom_0.2.1.1.2) (by decide) ?_
    first | refine sg_iaddB (pc := 16) (dc_X4_codeFrom_0.2.1.2.1) (by omega) (by omega) ?_ | refine sg_iadd (pc := 16) (dc_X4_codeFrom_0.2.1.2.1) ?_
    refine sg_cE1 (pc := 17) (d' := d - 1) (mc' := 0) (ms' := 0) 3 g (dc_X4_codeFrom_0.2.1.2.2) cb_X0_get ml_X4_39 mn_X0_get rfl mv_X0_get (Nat.le_of_ble_eq_true rfl) (ck_lc (by assumption) (by first | assumption | exact ck_rev)) (Nat.le_of_ble_eq_true rfl) (by first | exact jl_d0 hd rfl | omega) (by first | exact Nat.le_of_ble_eq_true rfl | omega) (by first | exact Nat.le_of_ble_eq_true rfl | omega) ?_
    refine s_X0_get g (by first | exact jl_d1 hd rfl | omega) (by assumption) (by first | assumption | exact ck_rev) (fun z17 G17 v17 => sg_K1 ?_)
    refine sg_cS1 (pc := 20) (d' := d - 1) (mc' := 0) (ms' := 0) g (dc_X4_codeFrom_0.2.2.1.1) cb_X4_isLow ml_X4_19 ms_X4_isLow (Nat.le_of_ble_eq_true rfl) (by first | exact jl_d0 hd rfl | omega) (by first | exact Nat.le_of_ble_eq_true rfl | omega) (by first | exact Nat.le_of_ble_eq_true rfl | omega) ?_
    refine s_X4_isLow g (by first | exact jl_d1 hd rfl | omega) (fun z20 h20 b20 => sg_K1 ?_)
    (try simp only [fn_high, fn_low] at h20)
    refine sg_if_eq (pc := 23) (tgt := 38) (dc_X4_codeFrom_0.2.2.1.2) (by decide) (fun c23 => ?_) (fun c23 => ?_)
    · refine sg_iload_n (pc := 38) (j := 2) (dc_X4_codeFrom_28.2.2.1) rfl rfl ?_
      refine sg_iret (pc := 39) (dc_X4_codeFrom_28.2.2.2) rfl (by first | exact Nat.le_of_ble_eq_true rfl | omega) (by first | exact Nat.le_of_ble_eq_true rfl | omega) ?_
      exact hQ _ (fun n2 q1 q2 q3 => by have q4 := ck_v1.mp (v2 n2 q1 q2 q3); omega)
    · refine sg_iload_n (pc := 26) (j := 2) (dc_X4_codeFrom_0.2.2.2.1) rfl rfl ?_
      refine sg_aload_n (pc := 27) (j := 0) (dc_X4_codeFrom_0.2.2.2.2) rfl rfl ?_
      refine sg_iload_n (pc := 28) (j := 1) (dc_X4_codeFrom_28.1.1.1) rfl rfl ?_
      refine sg_iconst (pc := 29) (z := 1) (dc_X4_codeFrom_28.1.1.2) (by decide) ?_
      first | refine sg_iaddB (pc := 30) (dc_X4_codeFrom_28.1.2.1) (by omega) (by omega) ?_ | refine sg_iadd (pc := 30) (dc_X4_codeFrom_28.1.2.1) ?_
      refine sg_cE1 (pc := 31) (d' := d - 1) (mc' := 0) (ms' := 0) 3 g (dc_X4_codeFrom_28.1.2.2) cb_X0_get ml_X4_39 mn_X0_get rfl mv_X0_get (Nat.le_of_ble_eq_true rfl) (ck_lc (by assumption) (by first | assumption | exact ck_rev)) (Nat.le_of_ble_eq_true rfl) (by first | exact jl_d0 hd rfl | omega) (by first | exact Nat.le_of_ble_eq_true rfl | omega) (by first | exact Nat.le_of_ble_eq_true rfl | omega) ?_
      refine s_X0_get g (by first | exact jl_d1 hd rfl | omega) (by assumption) (by first | assumption | exact ck_rev) (fun z31 G31 v31 => sg_K1 ?_)
      refine sg_cS2 (pc := 34) (d' := d - 1) (mc' := 0) (ms' := 0) g (dc_X4_codeFrom_28.2.1.1) cb_X4_codeOf ml_X4_42 ms_X4_codeOf (Nat.le_of_ble_eq_true rfl) (by first | exact jl_d0 hd rfl | omega) (by first | exact Nat.le_of_ble_eq_true rfl | omega) (by first | exact Nat.le_of_ble_eq_true rfl | omega) ?_
      refine s_X4_codeOf g (by first | exact jl_d1 hd rfl | omega) (fun z34 h34 => sg_K1 ?_)
      refine sg_iret (pc := 37) (dc_X4_codeFrom_28.2.1.2) rfl (by first | exact Nat.le_of_ble_eq_true rfl | omega) (by first | exact Nat.le_of_ble_eq_true rfl | omega) ?_
      exact hQ _ (fun n2 q1 q2 q3 => by have q4 := ck_v1.mp (v2 n2 q1 q2 q3); omega)

set_option maxRecDepth 100000 in
theorem s_X4_isCodeBegin {w : sg_W} {Q : sg_O → sg_H → Prop} {h : sg_H} (g : sg_G w) {d : Nat} (hd : 3 ≤ d) {B a : Nat} (hx : ck_X h B) (hl : ck_L B a 1) {p : Int} (hQ : ∀ z : Int, (z = 0 ∨ z = 1) → Q (.inl (some (sg_i z))) h) : sg_C w mi_X4_isCodeBegin d 0 0 [sg_r a, sg_i p] h Q := by
  refine sg_of pn_X4 (Nat.le_of_ble_eq_true rfl) ?_
  obtain ⟨-, -, -, -, c40, -⟩ := ck_ln hx hl
  refine sg_iload_n (pc := 0) (j := 1) (dc_X4_isCodeBegin_0.1.1.1.1) rfl rfl ?_
  refine sg_if_eq (pc := 1) (tgt := 28) (dc_X4_isCodeBegin_0.1.1.1.2) (by decide) (fun c1 => ?_) (fun c1 => ?_)
  · refine sg_iconst (pc := 28) (z := 1) (dc_X4_isCodeBegin_0.2.2.2.1) (by decide) ?_
    refine sg_goto (pc := 29) (tgt := 33) (dc_X4_isCodeBegin_0.2.2.2.2) (by decide) ?_
    refine sg_zret (pc := 33) (dc_X4_isCodeBegin_32.2) rfl (by first | exact Or.inl rfl | exact Or.inr rfl | omega | assumption) (by first | exact Nat.le_of_ble_eq_true rfl | omega) (by first | exact Nat.le_of_ble_eq_true rfl | omega) ?_
    exact hQ _ (by first | exact Or.inl rfl | exact Or.inr rfl | omega | assumption)
  · refine sg_aload_n (pc := 4) (j := 0) (dc_X4_isCodeBegin_0.1.1.2.1) rfl rfl ?_
    refine sg_iload_n (pc := 5) (j := 1) (dc_X4_isCodeBegin_0.1.1.2.2) rfl rfl ?_
    refine sg_cE1 (pc := 6) (d' := d - 1) (mc' := 0) (ms' := 0) 3 g (dc_X4_isCodeBegin_0.1.2.1.1) cb_X0_get ml_X4_39 mn_X0_get rfl mv_X0_get (Nat.le_of_ble_eq_true rfl) (ck_lc (by assumption) (by first | assumption | exact ck_rev)) (Nat.le_of_ble_eq_true rfl) (by first | exact jl_d0 hd rfl | omega) (by first | exact Nat.le_of_ble_eq_true rfl | omega) (by first | exact Nat.le_of_ble_eq_true rfl | omega) ?_
    refine s_X0_get g (by first | exact jl_d1 hd rfl | omega) (by assumption) (by first | assumption | exact ck_rev) (fun z6 G6 v6 => sg_K1 ?_)
    refine sg_cS1 (pc := 9) (d' := d - 1) (mc' := 0) (ms' := 0) g (dc_X4_isCodeBegin_0.1.2.1.2) cb_X4_isLow ml_X4_19 ms_X4_isLow (Nat.le_of_ble_eq_true rfl) (by first | exact jl_d0 hd rfl | omega) (by first | exact Nat.le_of_ble_eq_true rfl | omega) (by first | exact Nat.le_of_ble_eq_true rfl | omega) ?_
    refine s_X4_isLow g (by first | exact jl_d1 hd rfl | omega) (fun z9 h9 b9 => sg_K1 ?_)
    refine sg_if_eq (pc := 12) (tgt := 28) (dc_X4_isCodeBegin_0.1.2.2.1) (by decide) (fun c12 => ?_) (fun c12 => ?_)
    · refine sg_iconst (pc := 28) (z := 1) (dc_X4_isCodeBegin_0.2.2.2.1) (by decide) ?_
      refine sg_goto (pc := 29) (tgt := 33) (dc_X4_isCodeBegin_0.2.2.2.2) (by decide) ?_
      refine sg_zret (pc := 33) (dc_X4_isCodeBegin_32.2) rfl (by first | exact Or.inl rfl | exact Or.inr rfl | omega | assumption) (by first | exact Nat.le_of_ble_eq_true rfl | omega) (by first | exact Nat.le_of_ble_eq_true rfl | omega) ?_
      exact hQ _ (by first | exact Or.inl rfl | exact Or.inr rfl | omega | assumption)
    · refine sg_aload_n (pc := 15) (j := 0) (dc_X4_isCodeBegin_0.1.2.2.2) rfl rfl ?_
      refine sg_iload_n (pc := 16) (j := 1) (dc_X4_isCodeBegin_0.2.1.1.1) rfl rfl ?_
      refine sg_iconst (pc := 17) (z := 1) (dc_X4_isCodeBegin_0.2.1.1.2) (by decide) ?_
      first | refine sg_isubB (pc := 18) (dc_X4_isCodeBegin_0.2.1.2.1) (by omega) (by omega) ?_ | refine sg_isub (pc := 18) (dc_X4_isCodeBegin_0.2.1.2.1) ?_
      refine sg_cE1 (pc := 19) (d' := d - 1) (mc' := 0) (ms' := 0) 3 g (dc_X4_isCodeBegin_0.2.1.2.2) cb_X0_get ml_X4_39 mn_X0_get rfl mv_X0_get (Nat.le_of_ble_eq_true rfl) (ck_lc (by assumption) (by first | assumption | exact ck_rev)) (Nat.le_of_ble_eq_true rfl) (by first | exact jl_d0 hd rfl | omega) (by first | exact Nat.le_of_ble_eq_true rfl | omega) (by first | exact Nat.le_of_ble_eq_true rfl | omega) ?_
      refine s_X0_get g (by first | exact jl_d1 hd rfl | omega) (by assumption) (by first | assumption | exact ck_rev) (fun z19 G19 v19 => sg_K1 ?_)
      refine sg_cS1 (pc := 22) (d' := d - 1) (mc' := 0) (ms' := 0) g (dc_X4_isCodeBegin_0.2.2.1.1) cb_X4_isHigh ml_X4_15 ms_X4_isHigh (Nat.le_of_ble_eq_true rfl) (by first | exact jl_d0 hd rfl | omega) (by first | exact Nat.le_of_ble_eq_true rfl | omega) (by first | exact Nat.le_of_ble_eq_true rfl | omega) ?_
      refine s_X4_isHigh g (by first | exact jl_d1 hd rfl | omega) (fun z22 h22 b22 => sg_K1 ?_)
      refine sg_if_ne (pc := 25) (tgt := 32) (dc_X4_isCodeBegin_0.2.2.1.2) (by decide) (fun c25 => ?_) (fun c25 => ?_)
      · refine sg_iconst (pc := 32) (z := 0) (dc_X4_isCodeBegin_32.1) (by decide) ?_
        refine sg_zret (pc := 33) (dc_X4_isCodeBegin_32.2) rfl (by first | exact Or.inl rfl | exact Or.inr rfl | omega | assumption) (by first | exact Nat.le_of_ble_eq_true rfl | omega) (by first | exact Nat.le_of_ble_eq_true rfl | omega) ?_
        exact hQ _ (by first | exact Or.inl rfl | exact Or.inr rfl | omega | assumption)
      · refine sg_iconst (pc := 28) (z := 1) (dc_X4_isCodeBegin_0.2.2.2.1) (by decide) ?_
        refine sg_goto (pc := 29) (tgt := 33) (dc_X4_isCodeBegin_0.2.2.2.2) (by decide) ?_
        refine sg_zret (pc := 33) (dc_X4_isCodeBegin_32.2) rfl (by first | exact Or.inl rfl | exact Or.inr rfl | omega | assumption) (by first | exact Nat.le_of_ble_eq_true rfl | omega) (by first | exact Nat.le_of_ble_eq_true rfl | omega) ?_
        exact hQ _ (by first | exact Or.inl rfl | exact Or.inr rfl | omega | assumption)

set_option maxRecDepth 100000 in
theorem s_X4_howMany {w : sg_W} {Q : sg_O → sg_H → Prop} {h : sg_H} (g : sg_G w) {d : Nat} (hd : 5 ≤ d) {B a : Nat} (hx : ck_X h B) (hl : ck_L B a 1) {t : Int} (hQ : ∀ z : Int, Q (.inl (some (sg_i z))) h) : sg_C w mi_X4_howMany d 0 0 [sg_r a, sg_i t] h Q := by
  refine sg_of pn_X4 (Nat.le_of_ble_eq_true rfl) ?_
  obtain ⟨-, -, -, -, c40, -⟩ := ck_ln hx hl
  refine sg_iload_n (pc := 0) (j := 1) (dc_X4_howMany_0.1.1.1.1) rfl rfl ?_
  refine sg_if_ne (pc := 1) (tgt := 9) (dc_X4_howMany_0.1.1.1.2) (by decide) (fun c1 => ?_) (fun c1 => ?_)
  · refine sg_iconst (pc := 9) (z := 0) (dc_X4_howMany_0.1.2.1.2) (by decide) ?_
    refine sg_istore_n (pc := 10) (j := 2) (dc_X4_howMany_0.1.2.2.1) rfl (by decide) ?_
    refine sg_iconst (pc := 11) (z := 0) (dc_X4_howMany_0.1.2.2.2) (by decide) ?_
    refine sg_istore_n (pc := 12) (j := 3) (dc_X4_howMany_0.2.1.1.1) rfl (by decide) ?_
    have loop13 : ∀ (N : Nat) (p s : Int), (0 ≤ p) → (40 - p).toNat < N → sg_R w mi_X4_howMany d 0 0 Q 13 [(3, sg_i p), (2, sg_i s), (0, sg_r a), (1, sg_i t)] [] h 0 0 := by
      intro N
      induction N with
      | zero => intro p s p0 hm; exact absurd hm (Nat.not_lt_zero _)
      | succ N ih =>
        intro p s p0 hm
        refine sg_iload_n (pc := 13) (j := 3) (dc_X4_howMany_0.2.1.1.2) rfl rfl ?_
        refine sg_aload_n (pc := 14) (j := 0) (dc_X4_howMany_0.2.1.2.1) rfl rfl ?_
        refine sg_cE0 (pc := 15) (d' := d - 1) (mc' := 0) (ms' := 0) 3 g (dc_X4_howMany_0.2.1.2.2) cb_X0_size ml_X4_46 mn_X0_size rfl mv_X0_size (Nat.le_of_ble_eq_true rfl) (ck_lc (by assumption) (by first | assumption | exact ck_rev)) (Nat.le_of_ble_eq_true rfl) (by first | exact jl_d0 hd rfl | omega) (by first | exact Nat.le_of_ble_eq_true rfl | omega) (by first | exact Nat.le_of_ble_eq_true rfl | omega) ?_
        refine s_X0_size g (by first | exact jl_d1 hd rfl | omega) (by assumption) (by first | assumption | exact ck_rev) (fun z15 l15 u15 N15 => sg_K1 ?_)
        refine sg_icmp_ge (pc := 18) (tgt := 50) (dc_X4_howMany_0.2.2.1.1) (by decide) (fun c18 => ?_) (fun c18 => ?_)
        · refine sg_iload_n (pc := 50) (j := 2) (dc_X4_howMany_26.2.1.2.1) rfl rfl ?_
          refine sg_iret (pc := 51) (dc_X4_howMany_26.2.1.2.2) rfl (by first | exact Nat.le_of_ble_eq_true rfl | omega) (by first | exact Nat.le_of_ble_eq_true rfl | omega) ?_
          exact hQ _
        · refine sg_aload_n (pc := 21) (j := 0) (dc_X4_howMany_0.2.2.1.2) rfl rfl ?_
          refine sg_iload_n (pc := 22) (j := 3) (dc_X4_howMany_0.2.2.2.1) rfl rfl ?_
          refine sg_cS2 (pc := 23) (d' := d - 1) (mc' := 0) (ms' := 0) g (dc_X4_howMany_0.2.2.2.2) cb_X4_isCodeBegin ml_X4_50 ms_X4_isCodeBegin (Nat.le_of_ble_eq_true rfl) (by first | exact jl_d0 hd rfl | omega) (by first | exact Nat.le_of_ble_eq_true rfl | omega) (by first | exact Nat.le_of_ble_eq_true rfl | omega) ?_
          refine s_X4_isCodeBegin g (by first | exact jl_d1 hd rfl | omega) (by assumption) (by assumption) (fun z23 b23 => sg_K1 ?_)
          refine sg_if_eq (pc := 26) (tgt := 44) (dc_X4_howMany_26.1.1.1.1) (by decide) (fun c26 => ?_) (fun c26 => ?_)
          · first | refine sg_iincB (pc := 44) (dc_X4_howMany_26.2.1.1.1) rfl (by decide) (by decide) (by omega) (by omega) ?_ | refine sg_iinc (pc := 44) (dc_X4_howMany_26.2.1.1.1) rfl (by decide) (by decide) ?_
            refine sg_goto (pc := 47) (tgt := 13) (dc_X4_howMany_26.2.1.1.2) (by decide) ?_
            refine sg_lsub (lv' := [(3, _), (2, _), (0, _), (1, _)]) ⟨rfl, rfl, rfl, rfl, trivial⟩ ?_
            exact ih _ _ (by omega) (by first | exact jl_m1 hm (by omega) | exact jl_m2 hm (by omega) | omega)
          · refine sg_aload_n (pc := 29) (j := 0) (dc_X4_howMany_26.1.1.1.2) rfl rfl ?_
            refine sg_iload_n (pc := 30) (j := 3) (dc_X4_howMany_26.1.1.2.1) rfl rfl ?_
            refine sg_cS2 (pc := 31) (d' := d - 1) (mc' := 0) (ms' := 0) g (dc_X4_howMany_26.1.1.2.2) cb_X4_codeFrom ml_X4_57 ms_X4_codeFrom (Nat.le_of_ble_eq_true rfl) (by first | exact jl_d0 hd rfl | omega) (by first | exact Nat.le_of_ble_eq_true rfl | omega) (by first | exact Nat.le_of_ble_eq_true rfl | omega) ?_
            refine s_X4_codeFrom g (by first | exact jl_d1 hd rfl | omega) (by assumption) (by assumption) (fun z31 v31 => sg_K1 ?_)
            refine sg_iload_n (pc := 34) (j := 1) (dc_X4_howMany_26.1.2.1.1) rfl rfl ?_
            refine sg_cS2 (pc := 35) (d' := d - 1) (mc' := 0) (ms' := 0) g (dc_X4_howMany_26.1.2.1.2) cb_X4_isCounted ml_X4_61 ms_X4_isCounted (Nat.le_of_ble_eq_true rfl) (by first | exact jl_d0 hd rfl | omega) (by first | exact Nat.le_of_ble_eq_true rfl | omega) (by first | exact Nat.le_of_ble_eq_true rfl | omega) ?_
            refine s_X4_isCounted g (by first | exact jl_d1 hd rfl | omega) (fun z35 b35 => sg_K1 ?_)
            refine sg_if_eq (pc := 38) (tgt := 44) (dc_X4_howMany_26.1.2.2.1) (by decide) (fun c38 => ?_) (fun c38 => ?_)
            · first | refine sg_iincB (pc := 44) (dc_X4_howMany_26.2.1.1.1) rfl (by decide) (by decide) (by omega) (by omega) ?_ | refine sg_iinc (pc := 44) (dc_X4_howMany_26.2.1.1.1) rfl (by decide) (by decide) ?_
              refine sg_goto (pc := 47) (tgt := 13) (dc_X4_howMany_26.2.1.1.2) (by decide) ?_
              refine sg_lsub (lv' := [(3, _), (2, _), (0, _), (1, _)]) ⟨rfl, rfl, rfl, rfl, trivial⟩ ?_
              exact ih _ _ (by omega) (by first | exact jl_m1 hm (by omega) | exact jl_m2 hm (by omega) | omega)
            · first | refine sg_iincB (pc := 41) (dc_X4_howMany_26.1.2.2.2) rfl (by decide) (by decide) (by omega) (by omega) ?_ | refine sg_iinc (pc := 41) (dc_X4_howMany_26.1.2.2.2) rfl (by decide) (by decide) ?_
              first | refine sg_iincB (pc := 44) (dc_X4_howMany_26.2.1.1.1) rfl (by decide) (by decide) (by omega) (by omega) ?_ | refine sg_iinc (pc := 44) (dc_X4_howMany_26.2.1.1.1) rfl (by decide) (by decide) ?_
              refine sg_goto (pc := 47) (tgt := 13) (dc_X4_howMany_26.2.1.1.2) (by decide) ?_
              refine sg_lsub (lv' := [(3, _), (2, _), (0, _), (1, _)]) ⟨rfl, rfl, rfl, rfl, trivial⟩ ?_
              exact ih _ _ (by omega) (by first | exact jl_m1 hm (by omega) | exact jl_m2 hm (by omega) | omega)
    refine sg_lsub (lv' := [(3, _), (2, _), (0, _), (1, _)]) ⟨rfl, rfl, rfl, rfl, trivial⟩ ?_
    exact loop13 _ _ _ (by omega) (Nat.lt_succ_self _)
  · refine sg_aload_n (pc := 4) (j := 0) (dc_X4_howMany_0.1.1.2.1) rfl rfl ?_
    refine sg_cE0 (pc := 5) (d' := d - 1) (mc' := 0) (ms' := 0) 3 g (dc_X4_howMany_0.1.1.2.2) cb_X0_size ml_X4_46 mn_X0_size rfl mv_X0_size (Nat.le_of_ble_eq_true rfl) (ck_lc (by assumption) (by first | assumption | exact ck_rev)) (Nat.le_of_ble_eq_true rfl) (by first | exact jl_d0 hd rfl | omega) (by first | exact Nat.le_of_ble_eq_true rfl | omega) (by first | exact Nat.le_of_ble_eq_true rfl | omega) ?_
    refine s_X0_size g (by first | exact jl_d1 hd rfl | omega) (by assumption) (by first | assumption | exact ck_rev) (fun z5 l5 u5 N5 => sg_K1 ?_)
    refine sg_iret (pc := 8) (dc_X4_howMany_0.1.2.1.1) rfl (by first | exact Nat.le_of_ble_eq_true rfl | omega) (by first | exact Nat.le_of_ble_eq_true rfl | omega) ?_
    exact hQ _

set_option maxRecDepth 100000 in
theorem s_X4_standsAt {w : sg_W} {Q : sg_O → sg_H → Prop} {h : sg_H} (g : sg_G w) {d : Nat} (hd : 3 ≤ d) {B a : Nat} (hx : ck_X h B) (hl : ck_L B a 1) {p t : Int} (hQ : ∀ z : Int, (z = 0 ∨ z = 1) → Q (.inl (some (sg_i z))) h) : sg_C w mi_X4_standsAt d 0 0 [sg_r a, sg_i p, sg_i t] h Q := by
  refine sg_of pn_X4 (Nat.le_of_ble_eq_true rfl) ?_
  obtain ⟨-, -, -, -, c40, -⟩ := ck_ln hx hl
  refine sg_iload_n (pc := 0) (j := 2) (dc_X4_standsAt_0.1.1.1.1) rfl rfl ?_
  refine sg_cS1 (pc := 1) (d' := d - 1) (mc' := 0) (ms' := 0) g (dc_X4_standsAt_0.1.1.1.2) cb_X4_isWideCode ml_X4_23 ms_X4_isWideCode (Nat.le_of_ble_eq_true rfl) (by first | exact jl_d0 hd rfl | omega) (by first | exact Nat.le_of_ble_eq_true rfl | omega) (by first | exact Nat.le_of_ble_eq_true rfl | omega) ?_
  refine s_X4_isWideCode g (by first | exact jl_d1 hd rfl | omega) (fun z1 h1 b1 => sg_K1 ?_)
  refine sg_if_ne (pc := 4) (tgt := 22) (dc_X4_standsAt_0.1.1.2.1) (by decide) (fun c4 => ?_) (fun c4 => ?_)
  · refine sg_aload_n (pc := 22) (j := 0) (dc_X4_standsAt_0.2.2.1.1) rfl rfl ?_
    refine sg_iload_n (pc := 23) (j := 1) (dc_X4_standsAt_0.2.2.1.2) rfl rfl ?_
    refine sg_cE1 (pc := 24) (d' := d - 1) (mc' := 0) (ms' := 0) 3 g (dc_X4_standsAt_0.2.2.2.1) cb_X0_get ml_X4_39 mn_X0_get rfl mv_X0_get (Nat.le_of_ble_eq_true rfl) (ck_lc (by assumption) (by first | assumption | exact ck_rev)) (Nat.le_of_ble_eq_true rfl) (by first | exact jl_d0 hd rfl | omega) (by first | exact Nat.le_of_ble_eq_true rfl | omega) (by first | exact Nat.le_of_ble_eq_true rfl | omega) ?_
    refine s_X0_get g (by first | exact jl_d1 hd rfl | omega) (by assumption) (by first | assumption | exact ck_rev) (fun z24 G24 v24 => sg_K1 ?_)
    refine sg_iload_n (pc := 27) (j := 2) (dc_X4_standsAt_0.2.2.2.2) rfl rfl ?_
    refine sg_cS1 (pc := 28) (d' := d - 1) (mc' := 0) (ms' := 0) g (dc_X4_standsAt_28.1.1.1.1) cb_X4_highOf ml_X4_26 ms_X4_highOf (Nat.le_of_ble_eq_true rfl) (by first | exact jl_d0 hd rfl | omega) (by first | exact Nat.le_of_ble_eq_true rfl | omega) (by first | exact Nat.le_of_ble_eq_true rfl | omega) ?_
    refine s_X4_highOf g (by first | exact jl_d1 hd rfl | omega) (fun z28 h28 => sg_K1 ?_)
    refine sg_icmp_ne (pc := 31) (tgt := 52) (dc_X4_standsAt_28.1.1.1.2) (by decide) (fun c31 => ?_) (fun c31 => ?_)
    · refine sg_iconst (pc := 52) (z := 0) (dc_X4_standsAt_28.2.2.1.1) (by decide) ?_
      refine sg_zret (pc := 53) (dc_X4_standsAt_28.2.2.1.2) rfl (by first | exact Or.inl rfl | exact Or.inr rfl | omega | assumption) (by first | exact Nat.le_of_ble_eq_true rfl | omega) (by first | exact Nat.le_of_ble_eq_true rfl | omega) ?_
      exact hQ _ (by first | exact Or.inl rfl | exact Or.inr rfl | omega | assumption)
    · refine sg_aload_n (pc := 34) (j := 0) (dc_X4_standsAt_28.1.1.2.1) rfl rfl ?_
      refine sg_iload_n (pc := 35) (j := 1) (dc_X4_standsAt_28.1.1.2.2) rfl rfl ?_
      refine sg_iconst (pc := 36) (z := 1) (dc_X4_standsAt_28.1.2.1.1) (by decide) ?_
      first | refine sg_iaddB (pc := 37) (dc_X4_standsAt_28.1.2.1.2) (by omega) (by omega) ?_ | refine sg_iadd (pc := 37) (dc_X4_standsAt_28.1.2.1.2) ?_
      refine sg_cE1 (pc := 38) (d' := d - 1) (mc' := 0) (ms' := 0) 3 g (dc_X4_standsAt_28.1.2.2.1) cb_X0_get ml_X4_39 mn_X0_get rfl mv_X0_get (Nat.le_of_ble_eq_true rfl) (ck_lc (by assumption) (by first | assumption | exact ck_rev)) (Nat.le_of_ble_eq_true rfl) (by first | exact jl_d0 hd rfl | omega) (by first | exact Nat.le_of_ble_eq_true rfl | omega) (by first | exact Nat.le_of_ble_eq_true rfl | omega) ?_
      refine s_X0_get g (by first | exact jl_d1 hd rfl | omega) (by assumption) (by first | assumption | exact ck_rev) (fun z38 G38 v38 => sg_K1 ?_)
      refine sg_iload_n (pc := 41) (j := 2) (dc_X4_standsAt_28.1.2.2.2) rfl rfl ?_
      refine sg_cS1 (pc := 42) (d' := d - 1) (mc' := 0) (ms' := 0) g (dc_X4_standsAt_28.2.1.1.1) cb_X4_lowOf ml_X4_36 ms_X4_lowOf (Nat.le_of_ble_eq_true rfl) (by first | exact jl_d0 hd rfl | omega) (by first | exact Nat.le_of_ble_eq_true rfl | omega) (by first | exact Nat.le_of_ble_eq_true rfl | omega) ?_
      refine s_X4_lowOf g (by first | exact jl_d1 hd rfl | omega) (fun z42 h42 => sg_K1 ?_)
      refine sg_icmp_ne (pc := 45) (tgt := 52) (dc_X4_standsAt_28.2.1.1.2) (by decide) (fun c45 => ?_) (fun c45 => ?_)
      · refine sg_iconst (pc := 52) (z := 0) (dc_X4_standsAt_28.2.2.1.1) (by decide) ?_
        refine sg_zret (pc := 53) (dc_X4_standsAt_28.2.2.1.2) rfl (by first | exact Or.inl rfl | exact Or.inr rfl | omega | assumption) (by first | exact Nat.le_of_ble_eq_true rfl | omega) (by first | exact Nat.le_of_ble_eq_true rfl | omega) ?_
        exact hQ _ (by first | exact Or.inl rfl | exact Or.inr rfl | omega | assumption)
      · refine sg_iconst (pc := 48) (z := 1) (dc_X4_standsAt_28.2.1.2.1) (by decide) ?_
        refine sg_goto (pc := 49) (tgt := 53) (dc_X4_standsAt_28.2.1.2.2) (by decide) ?_
        refine sg_zret (pc := 53) (dc_X4_standsAt_28.2.2.1.2) rfl (by first | exact Or.inl rfl | exact Or.inr rfl | omega | assumption) (by first | exact Nat.le_of_ble_eq_true rfl | omega) (by first | exact Nat.le_of_ble_eq_true rfl | omega) ?_
        exact hQ _ (by first | exact Or.inl rfl | exact Or.inr rfl | omega | assumption)
  · refine sg_aload_n (pc := 7) (j := 0) (dc_X4_standsAt_0.1.1.2.2) rfl rfl ?_
    refine sg_iload_n (pc := 8) (j := 1) (dc_X4_standsAt_0.1.2.1.1) rfl rfl ?_
    refine sg_cE1 (pc := 9) (d' := d - 1) (mc' := 0) (ms' := 0) 3 g (dc_X4_standsAt_0.1.2.1.2) cb_X0_get ml_X4_39 mn_X0_get rfl mv_X0_get (Nat.le_of_ble_eq_true rfl) (ck_lc (by assumption) (by first | assumption | exact ck_rev)) (Nat.le_of_ble_eq_true rfl) (by first | exact jl_d0 hd rfl | omega) (by first | exact Nat.le_of_ble_eq_true rfl | omega) (by first | exact Nat.le_of_ble_eq_true rfl | omega) ?_
    refine s_X0_get g (by first | exact jl_d1 hd rfl | omega) (by assumption) (by first | assumption | exact ck_rev) (fun z9 G9 v9 => sg_K1 ?_)
    refine sg_iload_n (pc := 12) (j := 2) (dc_X4_standsAt_0.1.2.2.1) rfl rfl ?_
    refine sg_icmp_ne (pc := 13) (tgt := 20) (dc_X4_standsAt_0.1.2.2.2) (by decide) (fun c13 => ?_) (fun c13 => ?_)
    · refine sg_iconst (pc := 20) (z := 0) (dc_X4_standsAt_0.2.1.2.1) (by decide) ?_
      refine sg_zret (pc := 21) (dc_X4_standsAt_0.2.1.2.2) rfl (by first | exact Or.inl rfl | exact Or.inr rfl | omega | assumption) (by first | exact Nat.le_of_ble_eq_true rfl | omega) (by first | exact Nat.le_of_ble_eq_true rfl | omega) ?_
      exact hQ _ (by first | exact Or.inl rfl | exact Or.inr rfl | omega | assumption)
    · refine sg_iconst (pc := 16) (z := 1) (dc_X4_standsAt_0.2.1.1.1) (by decide) ?_
      refine sg_goto (pc := 17) (tgt := 21) (dc_X4_standsAt_0.2.1.1.2) (by decide) ?_
      refine sg_zret (pc := 21) (dc_X4_standsAt_0.2.1.2.2) rfl (by first | exact Or.inl rfl | exact Or.inr rfl | omega | assumption) (by first | exact Nat.le_of_ble_eq_true rfl | omega) (by first | exact Nat.le_of_ble_eq_true rfl | omega) ?_
      exact hQ _ (by first | exact Or.inl rfl | exact Or.inr rfl | omega | assumption)

set_option maxRecDepth 100000 in
theorem s_X4_areSentAgain {w : sg_W} {Q : sg_O → sg_H → Prop} {h : sg_H} (g : sg_G w) {d : Nat} (hd : 5 ≤ d) {B a : Nat} (hx : ck_X h B) (hl : ck_L B a 1) (hQ : ∀ z : Int, (z = 0 ∨ z = 1) → Q (.inl (some (sg_i z))) h) : sg_C w mi_X4_areSentAgain d 0 0 [sg_r a] h Q := by
  refine sg_of pn_X4 (Nat.le_of_ble_eq_true rfl) ?_
  obtain ⟨-, -, -, -, c40, -⟩ := ck_ln hx hl
  refine sg_iconst (pc := 0) (z := 0) (dc_X4_areSentAgain_0.1.1.1.1) (by decide) ?_
  refine sg_istore_n (pc := 1) (j := 1) (dc_X4_areSentAgain_0.1.1.1.2) rfl (by decide) ?_
  refine sg_iconst (pc := 2) (z := 0) (dc_X4_areSentAgain_0.1.1.2.1) (by decide) ?_
  refine sg_istore_n (pc := 3) (j := 2) (dc_X4_areSentAgain_0.1.1.2.2) rfl (by decide) ?_
  have loop4 : ∀ (N : Nat) (p s : Int), (0 ≤ p) → (40 - p).toNat < N → sg_R w mi_X4_areSentAgain d 0 0 Q 4 [(2, sg_i p), (1, sg_i s), (0, sg_r a)] [] h 0 0 := by
    intro N
    induction N with
    | zero => intro p s p0 hm; exact absurd hm (Nat.not_lt_zero _)
    | succ N ih =>
      intro p s p0 hm
      refine sg_iload_n (pc := 4) (j := 2) (dc_X4_areSentAgain_0.1.2.1.1) rfl rfl ?_
      refine sg_aload_n (pc := 5) (j := 0) (dc_X4_areSentAgain_0.1.2.1.2) rfl rfl ?_
      refine sg_cE0 (pc := 6) (d' := d - 1) (mc' := 0) (ms' := 0) 3 g (dc_X4_areSentAgain_0.1.2.2.1) cb_X0_size ml_X4_46 mn_X0_size rfl mv_X0_size (Nat.le_of_ble_eq_true rfl) (ck_lc (by assumption) (by first | assumption | exact ck_rev)) (Nat.le_of_ble_eq_true rfl) (by first | exact jl_d0 hd rfl | omega) (by first | exact Nat.le_of_ble_eq_true rfl | omega) (by first | exact Nat.le_of_ble_eq_true rfl | omega) ?_
      refine s_X0_size g (by first | exact jl_d1 hd rfl | omega) (by assumption) (by first | assumption | exact ck_rev) (fun z6 l6 u6 N6 => sg_K1 ?_)
      refine sg_icmp_ge (pc := 9) (tgt := 50) (dc_X4_areSentAgain_0.1.2.2.2) (by decide) (fun c9 => ?_) (fun c9 => ?_)
      · refine sg_iload_n (pc := 50) (j := 1) (dc_X4_areSentAgain_26.2.2.2.1) rfl rfl ?_
        refine sg_aload_n (pc := 51) (j := 0) (dc_X4_areSentAgain_26.2.2.2.2) rfl rfl ?_
        refine sg_cE0 (pc := 52) (d' := d - 1) (mc' := 0) (ms' := 0) 3 g (dc_X4_areSentAgain_52.1.1.1) cb_X0_size ml_X4_46 mn_X0_size rfl mv_X0_size (Nat.le_of_ble_eq_true rfl) (ck_lc (by assumption) (by first | assumption | exact ck_rev)) (Nat.le_of_ble_eq_true rfl) (by first | exact jl_d0 hd rfl | omega) (by first | exact Nat.le_of_ble_eq_true rfl | omega) (by first | exact Nat.le_of_ble_eq_true rfl | omega) ?_
        refine s_X0_size g (by first | exact jl_d1 hd rfl | omega) (by assumption) (by first | assumption | exact ck_rev) (fun z52 l52 u52 N52 => sg_K1 ?_)
        refine sg_icmp_ne (pc := 55) (tgt := 62) (dc_X4_areSentAgain_52.1.1.2) (by decide) (fun c55 => ?_) (fun c55 => ?_)
        · refine sg_iconst (pc := 62) (z := 0) (dc_X4_areSentAgain_52.2.1.1) (by decide) ?_
          refine sg_zret (pc := 63) (dc_X4_areSentAgain_52.2.1.2) rfl (by first | exact Or.inl rfl | exact Or.inr rfl | omega | assumption) (by first | exact Nat.le_of_ble_eq_true rfl | omega) (by first | exact Nat.le_of_ble_eq_true rfl | omega) ?_
          exact hQ _ (by first | exact Or.inl rfl | exact Or.inr rfl | omega | assumption)
        · refine sg_iconst (pc := 58) (z := 1) (dc_X4_areSentAgain_52.1.2.1) (by decide) ?_
          refine sg_goto (pc := 59) (tgt := 63) (dc_X4_areSentAgain_52.1.2.2) (by decide) ?_
          refine sg_zret (pc := 63) (dc_X4_areSentAgain_52.2.1.2) rfl (by first | exact Or.inl rfl | exact Or.inr rfl | omega | assumption) (by first | exact Nat.le_of_ble_eq_true rfl | omega) (by first | exact Nat.le_of_ble_eq_true rfl | omega) ?_
          exact hQ _ (by first | exact Or.inl rfl | exact Or.inr rfl | omega | assumption)
      · refine sg_aload_n (pc := 12) (j := 0) (dc_X4_areSentAgain_0.2.1.1.1) rfl rfl ?_
        refine sg_iload_n (pc := 13) (j := 2) (dc_X4_areSentAgain_0.2.1.1.2) rfl rfl ?_
        refine sg_cS2 (pc := 14) (d' := d - 1) (mc' := 0) (ms' := 0) g (dc_X4_areSentAgain_0.2.1.2.1) cb_X4_isCodeBegin ml_X4_50 ms_X4_isCodeBegin (Nat.le_of_ble_eq_true rfl) (by first | exact jl_d0 hd rfl | omega) (by first | exact Nat.le_of_ble_eq_true rfl | omega) (by first | exact Nat.le_of_ble_eq_true rfl | omega) ?_
        refine s_X4_isCodeBegin g (by first | exact jl_d1 hd rfl | omega) (by assumption) (by assumption) (fun z14 b14 => sg_K1 ?_)
        refine sg_if_eq (pc := 17) (tgt := 44) (dc_X4_areSentAgain_0.2.1.2.2) (by decide) (fun c17 => ?_) (fun c17 => ?_)
        · first | refine sg_iincB (pc := 44) (dc_X4_areSentAgain_26.2.2.1.1) rfl (by decide) (by decide) (by omega) (by omega) ?_ | refine sg_iinc (pc := 44) (dc_X4_areSentAgain_26.2.2.1.1) rfl (by decide) (by decide) ?_
          refine sg_goto (pc := 47) (tgt := 4) (dc_X4_areSentAgain_26.2.2.1.2) (by decide) ?_
          refine sg_lsub (lv' := [(2, _), (1, _), (0, _)]) ⟨rfl, rfl, rfl, trivial⟩ ?_
          exact ih _ _ (by omega) (by first | exact jl_m1 hm (by omega) | exact jl_m2 hm (by omega) | omega)
        · refine sg_aload_n (pc := 20) (j := 0) (dc_X4_areSentAgain_0.2.2.1.1) rfl rfl ?_
          refine sg_iload_n (pc := 21) (j := 2) (dc_X4_areSentAgain_0.2.2.1.2) rfl rfl ?_
          refine sg_cS2 (pc := 22) (d' := d - 1) (mc' := 0) (ms' := 0) g (dc_X4_areSentAgain_0.2.2.2.1) cb_X4_codeFrom ml_X4_57 ms_X4_codeFrom (Nat.le_of_ble_eq_true rfl) (by first | exact jl_d0 hd rfl | omega) (by first | exact Nat.le_of_ble_eq_true rfl | omega) (by first | exact Nat.le_of_ble_eq_true rfl | omega) ?_
          refine s_X4_codeFrom g (by first | exact jl_d1 hd rfl | omega) (by assumption) (by assumption) (fun z22 v22 => sg_K1 ?_)
          refine sg_istore_n (pc := 25) (j := 3) (dc_X4_areSentAgain_0.2.2.2.2) rfl (by decide) ?_
          refine sg_aload_n (pc := 26) (j := 0) (dc_X4_areSentAgain_26.1.1.1.1) rfl rfl ?_
          refine sg_iload_n (pc := 27) (j := 1) (dc_X4_areSentAgain_26.1.1.1.2) rfl rfl ?_
          refine sg_iload_n (pc := 28) (j := 3) (dc_X4_areSentAgain_26.1.1.2.1) rfl rfl ?_
          refine sg_cS3 (pc := 29) (d' := d - 1) (mc' := 0) (ms' := 0) g (dc_X4_areSentAgain_26.1.1.2.2) cb_X4_standsAt ml_X4_68 ms_X4_standsAt (Nat.le_of_ble_eq_true rfl) (by first | exact jl_d0 hd rfl | omega) (by first | exact Nat.le_of_ble_eq_true rfl | omega) (by first | exact Nat.le_of_ble_eq_true rfl | omega) ?_
          refine s_X4_standsAt g (by first | exact jl_d1 hd rfl | omega) (by assumption) (by assumption) (fun z29 b29 => sg_K1 ?_)
          refine sg_if_ne (pc := 32) (tgt := 37) (dc_X4_areSentAgain_26.1.2.1.1) (by decide) (fun c32 => ?_) (fun c32 => ?_)
          · refine sg_iload_n (pc := 37) (j := 1) (dc_X4_areSentAgain_26.1.2.2.2) rfl rfl ?_
            refine sg_iload_n (pc := 38) (j := 3) (dc_X4_areSentAgain_26.2.1.1.1) rfl rfl ?_
            refine sg_cS1 (pc := 39) (d' := d - 1) (mc' := 0) (ms' := 0) g (dc_X4_areSentAgain_26.2.1.1.2) cb_X4_unitsOf ml_X4_72 ms_X4_unitsOf (Nat.le_of_ble_eq_true rfl) (by first | exact jl_d0 hd rfl | omega) (by first | exact Nat.le_of_ble_eq_true rfl | omega) (by first | exact Nat.le_of_ble_eq_true rfl | omega) ?_
            refine s_X4_unitsOf g (by first | exact jl_d1 hd rfl | omega) (fun z39 h39 => sg_K1 ?_)
            first | refine sg_iaddB (pc := 42) (dc_X4_areSentAgain_26.2.1.2.1) (by omega) (by omega) ?_ | refine sg_iadd (pc := 42) (dc_X4_areSentAgain_26.2.1.2.1) ?_
            refine sg_istore_n (pc := 43) (j := 1) (dc_X4_areSentAgain_26.2.1.2.2) rfl (by decide) ?_
            first | refine sg_iincB (pc := 44) (dc_X4_areSentAgain_26.2.2.1.1) rfl (by decide) (by decide) (by omega) (by omega) ?_ | refine sg_iinc (pc := 44) (dc_X4_areSentAgain_26.2.2.1.1) rfl (by decide) (by decide) ?_
            refine sg_goto (pc := 47) (tgt := 4) (dc_X4_areSentAgain_26.2.2.1.2) (by decide) ?_
            refine sg_lsub (lv' := [(2, _), (1, _), (0, _)]) ⟨rfl, rfl, rfl, trivial⟩ ?_
            exact ih _ _ (by omega) (by first | exact jl_m1 hm (by omega) | exact jl_m2 hm (by omega) | omega)
          · refine sg_iconst (pc := 35) (z := 0) (dc_X4_areSentAgain_26.1.2.1.2) (by decide) ?_
            refine sg_zret (pc := 36) (dc_X4_areSentAgain_26.1.2.2.1) rfl (by first | exact Or.inl rfl | exact Or.inr rfl | omega | assumption) (by first | exact Nat.le_of_ble_eq_true rfl | omega) (by first | exact Nat.le_of_ble_eq_true rfl | omega) ?_
            exact hQ _ (by first | exact Or.inl rfl | exact Or.inr rfl | omega | assumption)
  refine sg_lsub (lv' := [(2, _), (1, _), (0, _)]) ⟨rfl, rfl, rfl, trivial⟩ ?_
  exact loop4 _ _ _ (by omega) (Nat.lt_succ_self _)

set_option maxRecDepth 100000 in
theorem s_X3_howManySigns {w : sg_W} {Q : sg_O → sg_H → Prop} {h : sg_H} (g : sg_G w) {d : Nat} (hd : 2 ≤ d) {B a : Nat} (hx : ck_X h B) (hs : ck_S B a) (hQ : ∀ z : Int, Q (.inl (some (sg_i z))) h) : sg_C w mi_X3_howManySigns d 0 0 [sg_r a] h Q := by
  refine sg_of pn_X3 (Nat.le_of_ble_eq_true rfl) ?_
  obtain ⟨hS0, hS1, hS2⟩ := ck_sl hx hs
  refine sg_iconst (pc := 0) (z := 0) (dc_X3_howManySigns_0.1.1.1.1) (by decide) ?_
  refine sg_istore_n (pc := 1) (j := 1) (dc_X3_howManySigns_0.1.1.1.2) rfl (by decide) ?_
  refine sg_iconst (pc := 2) (z := 0) (dc_X3_howManySigns_0.1.1.2.1) (by decide) ?_
  refine sg_istore_n (pc := 3) (j := 2) (dc_X3_howManySigns_0.1.1.2.2) rfl (by decide) ?_
  have loop4 : ∀ (N : Nat) (p s : Int), (0 ≤ p) → (4 - p).toNat < N → sg_R w mi_X3_howManySigns d 0 0 Q 4 [(2, sg_i p), (1, sg_i s), (0, sg_r a)] [] h 0 0 := by
    intro N
    induction N with
    | zero => intro p s p0 hm; exact absurd hm (Nat.not_lt_zero _)
    | succ N ih =>
      intro p s p0 hm
      refine sg_iload_n (pc := 4) (j := 2) (dc_X3_howManySigns_0.1.2.1.1) rfl rfl ?_
      refine sg_iconst (pc := 5) (z := 4) (dc_X3_howManySigns_0.1.2.1.2) (by decide) ?_
      refine sg_icmp_ge (pc := 6) (tgt := 27) (dc_X3_howManySigns_0.1.2.2.1) (by decide) (fun c6 => ?_) (fun c6 => ?_)
      · refine sg_iload_n (pc := 27) (j := 1) (dc_X3_howManySigns_24.1.2) rfl rfl ?_
        refine sg_iret (pc := 28) (dc_X3_howManySigns_24.2.1) rfl (by first | exact Nat.le_of_ble_eq_true rfl | omega) (by first | exact Nat.le_of_ble_eq_true rfl | omega) ?_
        exact hQ _
      · refine sg_iload_n (pc := 9) (j := 1) (dc_X3_howManySigns_0.1.2.2.2) rfl rfl ?_
        refine sg_aload_n (pc := 10) (j := 0) (dc_X3_howManySigns_0.2.1.1.1) rfl rfl ?_
        refine sg_getf (pc := 11) g (dc_X3_howManySigns_0.2.1.1.2) fk_X3_11 hS0 rfl rfl ?_
        refine sg_iload_n (pc := 14) (j := 2) (dc_X3_howManySigns_0.2.1.2.1) rfl rfl ?_
        obtain ⟨b15, e15, l15⟩ := ck_row (p := p) hs (by omega) (by omega)
        refine sg_aald (pc := 15) (dc_X3_howManySigns_0.2.1.2.2) hS1 (by decide) (by omega) e15 ?_
        refine sg_cE0 (pc := 16) (d' := d - 1) (mc' := 0) (ms' := 0) 3 g (dc_X3_howManySigns_0.2.2.1.1) cb_X0_size ml_X3_23 mn_X0_size rfl mv_X0_size (Nat.le_of_ble_eq_true rfl) (ck_lc (by assumption) (by first | assumption | exact ck_rev)) (Nat.le_of_ble_eq_true rfl) (by first | exact jl_d0 hd rfl | omega) (by first | exact Nat.le_of_ble_eq_true rfl | omega) (by first | exact Nat.le_of_ble_eq_true rfl | omega) ?_
        refine s_X0_size g (by first | exact jl_d1 hd rfl | omega) (by assumption) (by first | assumption | exact ck_rev) (fun z16 l16 u16 N16 => sg_K1 ?_)
        first | refine sg_iaddB (pc := 19) (dc_X3_howManySigns_0.2.2.1.2) (by omega) (by omega) ?_ | refine sg_iadd (pc := 19) (dc_X3_howManySigns_0.2.2.1.2) ?_
        refine sg_istore_n (pc := 20) (j := 1) (dc_X3_howManySigns_0.2.2.2.1) rfl (by decide) ?_
        first | refine sg_iincB (pc := 21) (dc_X3_howManySigns_0.2.2.2.2) rfl (by decide) (by decide) (by omega) (by omega) ?_ | refine sg_iinc (pc := 21) (dc_X3_howManySigns_0.2.2.2.2) rfl (by decide) (by decide) ?_
        refine sg_goto (pc := 24) (tgt := 4) (dc_X3_howManySigns_24.1.1) (by decide) ?_
        refine sg_lsub (lv' := [(2, _), (1, _), (0, _)]) ⟨rfl, rfl, rfl, trivial⟩ ?_
        exact ih _ _ (by omega) (by first | exact jl_m1 hm (by omega) | exact jl_m2 hm (by omega) | omega)
  refine sg_lsub (lv' := [(2, _), (1, _), (0, _)]) ⟨rfl, rfl, rfl, trivial⟩ ?_
  exact loop4 _ _ _ (by omega) (Nat.lt_succ_self _)

set_option maxRecDepth 100000 in
theorem s_X3_howManyUnits {w : sg_W} {Q : sg_O → sg_H → Prop} {h : sg_H} (g : sg_G w) {d : Nat} (hd : 2 ≤ d) {B a : Nat} (hx : ck_X h B) (hs : ck_S B a) (hQ : ∀ z : Int, Q (.inl (some (sg_i z))) h) : sg_C w mi_X3_howManyUnits d 0 0 [sg_r a] h Q := by
  refine sg_of pn_X3 (Nat.le_of_ble_eq_true rfl) ?_
  obtain ⟨hS0, hS1, hS2⟩ := ck_sl hx hs
  refine sg_iconst (pc := 0) (z := 0) (dc_X3_howManyUnits_0.1.1.1.1) (by decide) ?_
  refine sg_istore_n (pc := 1) (j := 1) (dc_X3_howManyUnits_0.1.1.1.2) rfl (by decide) ?_
  refine sg_iconst (pc := 2) (z := 0) (dc_X3_howManyUnits_0.1.1.2.1) (by decide) ?_
  refine sg_istore_n (pc := 3) (j := 2) (dc_X3_howManyUnits_0.1.1.2.2) rfl (by decide) ?_
  have loop4 : ∀ (N : Nat) (p s : Int), (0 ≤ p) → (2 - p).toNat < N → sg_R w mi_X3_howManyUnits d 0 0 Q 4 [(2, sg_i p), (1, sg_i s), (0, sg_r a)] [] h 0 0 := by
    intro N
    induction N with
    | zero => intro p s p0 hm; exact absurd hm (Nat.not_lt_zero _)
    | succ N ih =>
      intro p s p0 hm
      refine sg_iload_n (pc := 4) (j := 2) (dc_X3_howManyUnits_0.1.2.1.1) rfl rfl ?_
      refine sg_iconst (pc := 5) (z := 2) (dc_X3_howManyUnits_0.1.2.1.2) (by decide) ?_
      refine sg_icmp_ge (pc := 6) (tgt := 27) (dc_X3_howManyUnits_0.1.2.2.1) (by decide) (fun c6 => ?_) (fun c6 => ?_)
      · refine sg_iload_n (pc := 27) (j := 1) (dc_X3_howManyUnits_24.1.2) rfl rfl ?_
        refine sg_iret (pc := 28) (dc_X3_howManyUnits_24.2.1) rfl (by first | exact Nat.le_of_ble_eq_true rfl | omega) (by first | exact Nat.le_of_ble_eq_true rfl | omega) ?_
        exact hQ _
      · refine sg_iload_n (pc := 9) (j := 1) (dc_X3_howManyUnits_0.1.2.2.2) rfl rfl ?_
        refine sg_aload_n (pc := 10) (j := 0) (dc_X3_howManyUnits_0.2.1.1.1) rfl rfl ?_
        refine sg_getf (pc := 11) g (dc_X3_howManyUnits_0.2.1.1.2) fk_X3_17 hS0 rfl rfl ?_
        refine sg_iload_n (pc := 14) (j := 2) (dc_X3_howManyUnits_0.2.1.2.1) rfl rfl ?_
        obtain ⟨b15, e15, l15⟩ := ck_trk (p := p) hs (by omega) (by omega)
        refine sg_aald (pc := 15) (dc_X3_howManyUnits_0.2.1.2.2) hS2 (by decide) (by omega) e15 ?_
        refine sg_cE0 (pc := 16) (d' := d - 1) (mc' := 0) (ms' := 0) 3 g (dc_X3_howManyUnits_0.2.2.1.1) cb_X0_size ml_X3_23 mn_X0_size rfl mv_X0_size (Nat.le_of_ble_eq_true rfl) (ck_lc (by assumption) (by first | assumption | exact ck_rev)) (Nat.le_of_ble_eq_true rfl) (by first | exact jl_d0 hd rfl | omega) (by first | exact Nat.le_of_ble_eq_true rfl | omega) (by first | exact Nat.le_of_ble_eq_true rfl | omega) ?_
        refine s_X0_size g (by first | exact jl_d1 hd rfl | omega) (by assumption) (by first | assumption | exact ck_rev) (fun z16 l16 u16 N16 => sg_K1 ?_)
        first | refine sg_iaddB (pc := 19) (dc_X3_howManyUnits_0.2.2.1.2) (by omega) (by omega) ?_ | refine sg_iadd (pc := 19) (dc_X3_howManyUnits_0.2.2.1.2) ?_
        refine sg_istore_n (pc := 20) (j := 1) (dc_X3_howManyUnits_0.2.2.2.1) rfl (by decide) ?_
        first | refine sg_iincB (pc := 21) (dc_X3_howManyUnits_0.2.2.2.2) rfl (by decide) (by decide) (by omega) (by omega) ?_ | refine sg_iinc (pc := 21) (dc_X3_howManyUnits_0.2.2.2.2) rfl (by decide) (by decide) ?_
        refine sg_goto (pc := 24) (tgt := 4) (dc_X3_howManyUnits_24.1.1) (by decide) ?_
        refine sg_lsub (lv' := [(2, _), (1, _), (0, _)]) ⟨rfl, rfl, rfl, trivial⟩ ?_
        exact ih _ _ (by omega) (by first | exact jl_m1 hm (by omega) | exact jl_m2 hm (by omega) | omega)
  refine sg_lsub (lv' := [(2, _), (1, _), (0, _)]) ⟨rfl, rfl, rfl, trivial⟩ ?_
  exact loop4 _ _ _ (by omega) (Nat.lt_succ_self _)

set_option maxRecDepth 100000 in
theorem s_X1_size {w : sg_W} {Q : sg_O → sg_H → Prop} {h : sg_H} (g : sg_G w) {d : Nat} (hd : 1 ≤ d) {B : Nat} (hx : ck_X h B) (hQ : ∀ z : Int, Q (.inl (some (sg_i z))) h) : sg_C w mi_X1_size d 0 0 [sg_r (B + 16)] h Q := by
  refine sg_of pn_X1 (Nat.le_of_ble_eq_true rfl) ?_
  obtain ⟨z, vs, hP, hV, hvl, hvs⟩ := ck_psx hx
  refine sg_aload_n (pc := 0) (j := 0) (dc_X1_size_0.1.1) rfl rfl ?_
  refine sg_getf (pc := 1) g (dc_X1_size_0.1.2) fk_X1_18 hP rfl rfl ?_
  refine sg_iret (pc := 4) (dc_X1_size_0.2.1) rfl (by first | exact Nat.le_of_ble_eq_true rfl | omega) (by first | exact Nat.le_of_ble_eq_true rfl | omega) ?_
  exact hQ _

