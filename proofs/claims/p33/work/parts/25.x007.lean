set_option maxRecDepth 100000 in
theorem s_X4_isCounted {w : sg_W} {Q : sg_O → sg_H → Prop} {h : sg_H} (g : sg_G w) {d : Nat} (hd : 3 ≤ d) {c t : Int} (hQ : ∀ z : Int, (z = 0 ∨ z = 1) → Q (.inl (some (sg_i z))) h) : sg_C w mi_X4_isCounted d 0 0 [sg_i c, sg_i t] h Q := by
  refine sg_of pn_X4 (Nat.le_of_ble_eq_true rfl) ?_
  refine sg_iload_n (pc := 0) (j := 1) (dc_X4_isCounted_0.1.1.1.1) rfl rfl ?_
  by_cases cs : t < 1 ∨ 3 < t
  · refine sg_tsOut (pc := 1) (tgt := 40) (dc_X4_isCounted_0.1.1.1.2) cs (by decide) ?_
    refine sg_iconst (pc := 40) (z := 0) (dc_X4_isCounted_0.2.1.2.1) (by decide) ?_
    refine sg_zret (pc := 41) (dc_X4_isCounted_0.2.1.2.2) rfl (by first | exact Or.inl rfl | exact Or.inr rfl | omega | assumption) (by first | exact Nat.le_of_ble_eq_true rfl | omega) (by first | exact Nat.le_of_ble_eq_true rfl | omega) ?_
    exact hQ _ (by first | exact Or.inl rfl | exact Or.inr rfl | omega | assumption)
  · rcases (show t = 1 ∨ t = 2 ∨ t = 3 by omega) with rfl | rfl | rfl
    · refine sg_tsIn (pc := 1) (tgt := 28) (dc_X4_isCounted_0.1.1.1.2) (by omega) (by omega) rfl (by decide) ?_
      refine sg_iconst (pc := 28) (z := 1) (dc_X4_isCounted_0.1.1.2.1) (by decide) ?_
      refine sg_zret (pc := 29) (dc_X4_isCounted_0.1.1.2.2) rfl (by first | exact Or.inl rfl | exact Or.inr rfl | omega | assumption) (by first | exact Nat.le_of_ble_eq_true rfl | omega) (by first | exact Nat.le_of_ble_eq_true rfl | omega) ?_
      exact hQ _ (by first | exact Or.inl rfl | exact Or.inr rfl | omega | assumption)
    · refine sg_tsIn (pc := 1) (tgt := 30) (dc_X4_isCounted_0.1.1.1.2) (by omega) (by omega) rfl (by decide) ?_
      refine sg_iload_n (pc := 30) (j := 0) (dc_X4_isCounted_0.1.2.1.1) rfl rfl ?_
      refine sg_cS1 (pc := 31) (d' := d - 1) (mc' := 0) (ms' := 0) g (dc_X4_isCounted_0.1.2.1.2) cb_X4_isWideCode ml_X4_23 ms_X4_isWideCode (Nat.le_of_ble_eq_true rfl) (by first | exact jl_d0 hd rfl | omega) (by first | exact Nat.le_of_ble_eq_true rfl | omega) (by first | exact Nat.le_of_ble_eq_true rfl | omega) ?_
      refine s_X4_isWideCode g (by first | exact jl_d1 hd rfl | omega) (fun z31 h31 b31 => sg_K1 ?_)
      refine sg_zret (pc := 34) (dc_X4_isCounted_0.1.2.2.1) rfl (by first | exact Or.inl rfl | exact Or.inr rfl | omega | assumption) (by first | exact Nat.le_of_ble_eq_true rfl | omega) (by first | exact Nat.le_of_ble_eq_true rfl | omega) ?_
      exact hQ _ (by first | exact Or.inl rfl | exact Or.inr rfl | omega | assumption)
    · refine sg_tsIn (pc := 1) (tgt := 35) (dc_X4_isCounted_0.1.1.1.2) (by omega) (by omega) rfl (by decide) ?_
      refine sg_iload_n (pc := 35) (j := 0) (dc_X4_isCounted_0.1.2.2.2) rfl rfl ?_
      refine sg_cS1 (pc := 36) (d' := d - 1) (mc' := 0) (ms' := 0) g (dc_X4_isCounted_0.2.1.1.1) cb_X4_isHalf ml_X4_65 ms_X4_isHalf (Nat.le_of_ble_eq_true rfl) (by first | exact jl_d0 hd rfl | omega) (by first | exact Nat.le_of_ble_eq_true rfl | omega) (by first | exact Nat.le_of_ble_eq_true rfl | omega) ?_
      refine s_X4_isHalf g (by first | exact jl_d1 hd rfl | omega) (fun z36 h36 b36 => sg_K1 ?_)
      refine sg_zret (pc := 39) (dc_X4_isCounted_0.2.1.1.2) rfl (by first | exact Or.inl rfl | exact Or.inr rfl | omega | assumption) (by first | exact Nat.le_of_ble_eq_true rfl | omega) (by first | exact Nat.le_of_ble_eq_true rfl | omega) ?_
      exact hQ _ (by first | exact Or.inl rfl | exact Or.inr rfl | omega | assumption)

