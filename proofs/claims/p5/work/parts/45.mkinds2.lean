theorem fk_0 (x : Int) : fn_isOf x 0 = fn_dig x := by simp [fn_isOf]
theorem fk_1 (x : Int) : fn_isOf x 1 = fn_letter x := by simp [fn_isOf]
theorem fk_2 (x : Int) : fn_isOf x 2 = fn_lod x := by simp [fn_isOf]
theorem fk_3 (x : Int) : fn_isOf x 3 = fn_white x := by simp [fn_isOf]
theorem fk_4 (x : Int) : fn_isOf x 4 = fn_great x := by simp [fn_isOf]
set_option maxRecDepth 100000 in
set_option maxHeartbeats 1000000 in
theorem s_X7_isKind_0 {w : sg_W} {Q : sg_O → sg_H → Prop} {h : sg_H} (g : sg_G w) {d : Nat} (hd : 2 ≤ d) {x : Int} (hk : md_K w h) (hQ : ∀ z : Int, z = fn_isOf x 0 → (z = 0 ∨ z = 1) → Q (.inl (some (sg_i z))) h) : sg_C w mi_X7_isKind d 0 0 [sg_i x, sg_i 0] h Q := by
  refine sg_of pn_X7 (Nat.le_of_ble_eq_true rfl) ?_
  obtain ⟨K, k0, k1, k2, k3, k4, z, l, hK, h0, h1, h2, h3, h4⟩ := hk.1
  refine sg_iload_n (pc := 0) (j := 1) (dc_X7_isKind_0.1.1.1.1) rfl rfl ?_
  refine sg_iconst (pc := 1) (z := 2) (dc_X7_isKind_0.1.1.1.2) (by decide) ?_
  refine sg_icmp_ne (pc := 2) (tgt := 27) (dc_X7_isKind_0.1.1.2.1) (by decide) (fun cu => ?_) (fun cu => absurd cu (by omega))
  refine sg_iconst (pc := 27) (z := 0) (dc_X7_isKind_0.2.2.2.2) (by decide) ?_
  refine sg_istore_n (pc := 28) (j := 2) (dc_X7_isKind_28.1.1.1.1) rfl (by decide) ?_
  refine sg_iload_n (pc := 29) (j := 2) (dc_X7_isKind_28.1.1.1.2) rfl rfl ?_
  refine sg_gets (v := sg_r K) (pc := 30) g (dc_X7_isKind_28.1.1.2.1) z rfl kl_X7_30 ?_
  refine sg_iload_n (pc := 33) (j := 1) (dc_X7_isKind_28.1.1.2.2) rfl rfl ?_
  refine sg_aald (pc := 34) (dc_X7_isKind_28.1.2.1.1) hK (by decide) (by decide) (v := sg_r k0) rfl ?_
  refine sg_alenN (N := 2) (pc := 35) (dc_X7_isKind_28.1.2.1.2) h0.2 (by decide) rfl (by omega) ?_
  refine sg_icmp_ge (pc := 36) (tgt := 70) (dc_X7_isKind_28.1.2.2.1) (by decide) (fun cu => absurd cu (by omega)) (fun cu => ?_)
  refine sg_iload_n (pc := 39) (j := 0) (dc_X7_isKind_28.1.2.2.2) rfl rfl ?_
  refine sg_gets (v := sg_r K) (pc := 40) g (dc_X7_isKind_28.2.1.1.1) z rfl kl_X7_30 ?_
  refine sg_iload_n (pc := 43) (j := 1) (dc_X7_isKind_28.2.1.1.2) rfl rfl ?_
  refine sg_aald (pc := 44) (dc_X7_isKind_28.2.1.2.1) hK (by decide) (by decide) (v := sg_r k0) rfl ?_
  refine sg_iload_n (pc := 45) (j := 2) (dc_X7_isKind_28.2.1.2.2) rfl rfl ?_
  refine sg_iald (pc := 46) (dc_X7_isKind_28.2.2.1.1) h0.2 (by decide) (by decide) (v := sg_i 48) rfl ?_
  refine sg_gets (v := sg_r K) (pc := 47) g (dc_X7_isKind_28.2.2.1.2) z rfl kl_X7_30 ?_
  refine sg_iload_n (pc := 50) (j := 1) (dc_X7_isKind_28.2.2.2.1) rfl rfl ?_
  refine sg_aald (pc := 51) (dc_X7_isKind_28.2.2.2.2) hK (by decide) (by decide) (v := sg_r k0) rfl ?_
  refine sg_iload_n (pc := 52) (j := 2) (dc_X7_isKind_52.1.1.1.1) rfl rfl ?_
  refine sg_iconst (pc := 53) (z := 1) (dc_X7_isKind_52.1.1.1.2) (by decide) ?_
  first | refine sg_iaddB (pc := 54) (dc_X7_isKind_52.1.1.2.1) (by omega) (by omega) ?_ | refine sg_iadd (pc := 54) (dc_X7_isKind_52.1.1.2.1) ?_
  refine sg_iald (pc := 55) (dc_X7_isKind_52.1.1.2.2) h0.2 (by decide) (by decide) (v := sg_i 57) rfl ?_
  refine sg_cS3 (pc := 56) (d' := d - 1) (mc' := 0) (ms' := 0) g (dc_X7_isKind_52.1.2.1.1) cb_X7_isOf ml_X7_22 ms_X7_isOf (Nat.le_of_ble_eq_true rfl) (by first | exact jl_d0 hd rfl | omega) (by first | exact Nat.le_of_ble_eq_true rfl | omega) (by first | exact Nat.le_of_ble_eq_true rfl | omega) ?_
  refine s_X7_isOf g (by first | exact jl_d1 hd rfl | omega) (fun z0 e0 b0 => sg_K1 ?_)
  refine sg_if_eq (pc := 59) (tgt := 64) (dc_X7_isKind_52.1.2.1.2) (by decide) (fun q0 => ?_) (fun q0 => ?_)
  · have r0 : ¬ (48 ≤ x ∧ x ≤ 57) := fun h => by rw [e0] at q0; unfold fn_betw at q0; rw [if_pos h] at q0; exact absurd q0 (by decide)
    first | refine sg_iincB (pc := 64) (dc_X7_isKind_52.2.1.1.1) rfl (by decide) (by decide) (by omega) (by omega) ?_ | refine sg_iinc (pc := 64) (dc_X7_isKind_52.2.1.1.1) rfl (by decide) (by decide) ?_
    refine sg_goto (pc := 67) (tgt := 29) (dc_X7_isKind_52.2.1.1.2) (by decide) ?_
    refine sg_iload_n (pc := 29) (j := 2) (dc_X7_isKind_28.1.1.1.2) rfl rfl ?_
    refine sg_gets (v := sg_r K) (pc := 30) g (dc_X7_isKind_28.1.1.2.1) z rfl kl_X7_30 ?_
    refine sg_iload_n (pc := 33) (j := 1) (dc_X7_isKind_28.1.1.2.2) rfl rfl ?_
    refine sg_aald (pc := 34) (dc_X7_isKind_28.1.2.1.1) hK (by decide) (by decide) (v := sg_r k0) rfl ?_
    refine sg_alenN (N := 2) (pc := 35) (dc_X7_isKind_28.1.2.1.2) h0.2 (by decide) rfl (by omega) ?_
    refine sg_icmp_ge (pc := 36) (tgt := 70) (dc_X7_isKind_28.1.2.2.1) (by decide) (fun cu => ?_) (fun cu => absurd cu (by omega))
    refine sg_iconst (pc := 70) (z := 0) (dc_X7_isKind_52.2.1.2.1) (by decide) ?_
    refine sg_zret (pc := 71) (dc_X7_isKind_52.2.1.2.2) rfl (by first | exact Or.inl rfl | exact Or.inr rfl | omega | assumption) (by first | exact Nat.le_of_ble_eq_true rfl | omega) (by first | exact Nat.le_of_ble_eq_true rfl | omega) ?_
    exact hQ _ (by rw [fk_0]; unfold fn_dig; rw [if_neg r0]) (Or.inl rfl)
  · have r0 : 48 ≤ x ∧ x ≤ 57 := Classical.byContradiction (fun h => q0 (by rw [e0]; unfold fn_betw; rw [if_neg h]))
    refine sg_iconst (pc := 62) (z := 1) (dc_X7_isKind_52.1.2.2.1) (by decide) ?_
    refine sg_zret (pc := 63) (dc_X7_isKind_52.1.2.2.2) rfl (by first | exact Or.inl rfl | exact Or.inr rfl | omega | assumption) (by first | exact Nat.le_of_ble_eq_true rfl | omega) (by first | exact Nat.le_of_ble_eq_true rfl | omega) ?_
    exact hQ _ (by rw [fk_0]; unfold fn_dig; rw [if_pos (r0)]) (Or.inr rfl)

set_option maxRecDepth 100000 in
set_option maxHeartbeats 1000000 in
theorem s_X7_isKind_1 {w : sg_W} {Q : sg_O → sg_H → Prop} {h : sg_H} (g : sg_G w) {d : Nat} (hd : 2 ≤ d) {x : Int} (hk : md_K w h) (hQ : ∀ z : Int, z = fn_isOf x 1 → (z = 0 ∨ z = 1) → Q (.inl (some (sg_i z))) h) : sg_C w mi_X7_isKind d 0 0 [sg_i x, sg_i 1] h Q := by
  refine sg_of pn_X7 (Nat.le_of_ble_eq_true rfl) ?_
  obtain ⟨K, k0, k1, k2, k3, k4, z, l, hK, h0, h1, h2, h3, h4⟩ := hk.1
  refine sg_iload_n (pc := 0) (j := 1) (dc_X7_isKind_0.1.1.1.1) rfl rfl ?_
  refine sg_iconst (pc := 1) (z := 2) (dc_X7_isKind_0.1.1.1.2) (by decide) ?_
  refine sg_icmp_ne (pc := 2) (tgt := 27) (dc_X7_isKind_0.1.1.2.1) (by decide) (fun cu => ?_) (fun cu => absurd cu (by omega))
  refine sg_iconst (pc := 27) (z := 0) (dc_X7_isKind_0.2.2.2.2) (by decide) ?_
  refine sg_istore_n (pc := 28) (j := 2) (dc_X7_isKind_28.1.1.1.1) rfl (by decide) ?_
  refine sg_iload_n (pc := 29) (j := 2) (dc_X7_isKind_28.1.1.1.2) rfl rfl ?_
  refine sg_gets (v := sg_r K) (pc := 30) g (dc_X7_isKind_28.1.1.2.1) z rfl kl_X7_30 ?_
  refine sg_iload_n (pc := 33) (j := 1) (dc_X7_isKind_28.1.1.2.2) rfl rfl ?_
  refine sg_aald (pc := 34) (dc_X7_isKind_28.1.2.1.1) hK (by decide) (by decide) (v := sg_r k1) rfl ?_
  refine sg_alenN (N := 16) (pc := 35) (dc_X7_isKind_28.1.2.1.2) h1.2 (by decide) rfl (by omega) ?_
  refine sg_icmp_ge (pc := 36) (tgt := 70) (dc_X7_isKind_28.1.2.2.1) (by decide) (fun cu => absurd cu (by omega)) (fun cu => ?_)
  refine sg_iload_n (pc := 39) (j := 0) (dc_X7_isKind_28.1.2.2.2) rfl rfl ?_
  refine sg_gets (v := sg_r K) (pc := 40) g (dc_X7_isKind_28.2.1.1.1) z rfl kl_X7_30 ?_
  refine sg_iload_n (pc := 43) (j := 1) (dc_X7_isKind_28.2.1.1.2) rfl rfl ?_
  refine sg_aald (pc := 44) (dc_X7_isKind_28.2.1.2.1) hK (by decide) (by decide) (v := sg_r k1) rfl ?_
  refine sg_iload_n (pc := 45) (j := 2) (dc_X7_isKind_28.2.1.2.2) rfl rfl ?_
  refine sg_iald (pc := 46) (dc_X7_isKind_28.2.2.1.1) h1.2 (by decide) (by decide) (v := sg_i 65) rfl ?_
  refine sg_gets (v := sg_r K) (pc := 47) g (dc_X7_isKind_28.2.2.1.2) z rfl kl_X7_30 ?_
  refine sg_iload_n (pc := 50) (j := 1) (dc_X7_isKind_28.2.2.2.1) rfl rfl ?_
  refine sg_aald (pc := 51) (dc_X7_isKind_28.2.2.2.2) hK (by decide) (by decide) (v := sg_r k1) rfl ?_
  refine sg_iload_n (pc := 52) (j := 2) (dc_X7_isKind_52.1.1.1.1) rfl rfl ?_
  refine sg_iconst (pc := 53) (z := 1) (dc_X7_isKind_52.1.1.1.2) (by decide) ?_
  first | refine sg_iaddB (pc := 54) (dc_X7_isKind_52.1.1.2.1) (by omega) (by omega) ?_ | refine sg_iadd (pc := 54) (dc_X7_isKind_52.1.1.2.1) ?_
  refine sg_iald (pc := 55) (dc_X7_isKind_52.1.1.2.2) h1.2 (by decide) (by decide) (v := sg_i 90) rfl ?_
  refine sg_cS3 (pc := 56) (d' := d - 1) (mc' := 0) (ms' := 0) g (dc_X7_isKind_52.1.2.1.1) cb_X7_isOf ml_X7_22 ms_X7_isOf (Nat.le_of_ble_eq_true rfl) (by first | exact jl_d0 hd rfl | omega) (by first | exact Nat.le_of_ble_eq_true rfl | omega) (by first | exact Nat.le_of_ble_eq_true rfl | omega) ?_
  refine s_X7_isOf g (by first | exact jl_d1 hd rfl | omega) (fun z0 e0 b0 => sg_K1 ?_)
  refine sg_if_eq (pc := 59) (tgt := 64) (dc_X7_isKind_52.1.2.1.2) (by decide) (fun q0 => ?_) (fun q0 => ?_)
  · have r0 : ¬ (65 ≤ x ∧ x ≤ 90) := fun h => by rw [e0] at q0; unfold fn_betw at q0; rw [if_pos h] at q0; exact absurd q0 (by decide)
    first | refine sg_iincB (pc := 64) (dc_X7_isKind_52.2.1.1.1) rfl (by decide) (by decide) (by omega) (by omega) ?_ | refine sg_iinc (pc := 64) (dc_X7_isKind_52.2.1.1.1) rfl (by decide) (by decide) ?_
    refine sg_goto (pc := 67) (tgt := 29) (dc_X7_isKind_52.2.1.1.2) (by decide) ?_
    refine sg_iload_n (pc := 29) (j := 2) (dc_X7_isKind_28.1.1.1.2) rfl rfl ?_
    refine sg_gets (v := sg_r K) (pc := 30) g (dc_X7_isKind_28.1.1.2.1) z rfl kl_X7_30 ?_
    refine sg_iload_n (pc := 33) (j := 1) (dc_X7_isKind_28.1.1.2.2) rfl rfl ?_
    refine sg_aald (pc := 34) (dc_X7_isKind_28.1.2.1.1) hK (by decide) (by decide) (v := sg_r k1) rfl ?_
    refine sg_alenN (N := 16) (pc := 35) (dc_X7_isKind_28.1.2.1.2) h1.2 (by decide) rfl (by omega) ?_
    refine sg_icmp_ge (pc := 36) (tgt := 70) (dc_X7_isKind_28.1.2.2.1) (by decide) (fun cu => absurd cu (by omega)) (fun cu => ?_)
    refine sg_iload_n (pc := 39) (j := 0) (dc_X7_isKind_28.1.2.2.2) rfl rfl ?_
    refine sg_gets (v := sg_r K) (pc := 40) g (dc_X7_isKind_28.2.1.1.1) z rfl kl_X7_30 ?_
    refine sg_iload_n (pc := 43) (j := 1) (dc_X7_isKind_28.2.1.1.2) rfl rfl ?_
    refine sg_aald (pc := 44) (dc_X7_isKind_28.2.1.2.1) hK (by decide) (by decide) (v := sg_r k1) rfl ?_
    refine sg_iload_n (pc := 45) (j := 2) (dc_X7_isKind_28.2.1.2.2) rfl rfl ?_
    refine sg_iald (pc := 46) (dc_X7_isKind_28.2.2.1.1) h1.2 (by decide) (by decide) (v := sg_i 97) rfl ?_
    refine sg_gets (v := sg_r K) (pc := 47) g (dc_X7_isKind_28.2.2.1.2) z rfl kl_X7_30 ?_
    refine sg_iload_n (pc := 50) (j := 1) (dc_X7_isKind_28.2.2.2.1) rfl rfl ?_
    refine sg_aald (pc := 51) (dc_X7_isKind_28.2.2.2.2) hK (by decide) (by decide) (v := sg_r k1) rfl ?_
    refine sg_iload_n (pc := 52) (j := 2) (dc_X7_isKind_52.1.1.1.1) rfl rfl ?_
    refine sg_iconst (pc := 53) (z := 1) (dc_X7_isKind_52.1.1.1.2) (by decide) ?_
    first | refine sg_iaddB (pc := 54) (dc_X7_isKind_52.1.1.2.1) (by omega) (by omega) ?_ | refine sg_iadd (pc := 54) (dc_X7_isKind_52.1.1.2.1) ?_
    refine sg_iald (pc := 55) (dc_X7_isKind_52.1.1.2.2) h1.2 (by decide) (by decide) (v := sg_i 122) rfl ?_
    refine sg_cS3 (pc := 56) (d' := d - 1) (mc' := 0) (ms' := 0) g (dc_X7_isKind_52.1.2.1.1) cb_X7_isOf ml_X7_22 ms_X7_isOf (Nat.le_of_ble_eq_true rfl) (by first | exact jl_d0 hd rfl | omega) (by first | exact Nat.le_of_ble_eq_true rfl | omega) (by first | exact Nat.le_of_ble_eq_true rfl | omega) ?_
    refine s_X7_isOf g (by first | exact jl_d1 hd rfl | omega) (fun z2 e2 b2 => sg_K1 ?_)
    refine sg_if_eq (pc := 59) (tgt := 64) (dc_X7_isKind_52.1.2.1.2) (by decide) (fun q2 => ?_) (fun q2 => ?_)
    · have r2 : ¬ (97 ≤ x ∧ x ≤ 122) := fun h => by rw [e2] at q2; unfold fn_betw at q2; rw [if_pos h] at q2; exact absurd q2 (by decide)
      first | refine sg_iincB (pc := 64) (dc_X7_isKind_52.2.1.1.1) rfl (by decide) (by decide) (by omega) (by omega) ?_ | refine sg_iinc (pc := 64) (dc_X7_isKind_52.2.1.1.1) rfl (by decide) (by decide) ?_
      refine sg_goto (pc := 67) (tgt := 29) (dc_X7_isKind_52.2.1.1.2) (by decide) ?_
      refine sg_iload_n (pc := 29) (j := 2) (dc_X7_isKind_28.1.1.1.2) rfl rfl ?_
      refine sg_gets (v := sg_r K) (pc := 30) g (dc_X7_isKind_28.1.1.2.1) z rfl kl_X7_30 ?_
      refine sg_iload_n (pc := 33) (j := 1) (dc_X7_isKind_28.1.1.2.2) rfl rfl ?_
      refine sg_aald (pc := 34) (dc_X7_isKind_28.1.2.1.1) hK (by decide) (by decide) (v := sg_r k1) rfl ?_
      refine sg_alenN (N := 16) (pc := 35) (dc_X7_isKind_28.1.2.1.2) h1.2 (by decide) rfl (by omega) ?_
      refine sg_icmp_ge (pc := 36) (tgt := 70) (dc_X7_isKind_28.1.2.2.1) (by decide) (fun cu => absurd cu (by omega)) (fun cu => ?_)
      refine sg_iload_n (pc := 39) (j := 0) (dc_X7_isKind_28.1.2.2.2) rfl rfl ?_
      refine sg_gets (v := sg_r K) (pc := 40) g (dc_X7_isKind_28.2.1.1.1) z rfl kl_X7_30 ?_
      refine sg_iload_n (pc := 43) (j := 1) (dc_X7_isKind_28.2.1.1.2) rfl rfl ?_
      refine sg_aald (pc := 44) (dc_X7_isKind_28.2.1.2.1) hK (by decide) (by decide) (v := sg_r k1) rfl ?_
      refine sg_iload_n (pc := 45) (j := 2) (dc_X7_isKind_28.2.1.2.2) rfl rfl ?_
      refine sg_iald (pc := 46) (dc_X7_isKind_28.2.2.1.1) h1.2 (by decide) (by decide) (v := sg_i 170) rfl ?_
      refine sg_gets (v := sg_r K) (pc := 47) g (dc_X7_isKind_28.2.2.1.2) z rfl kl_X7_30 ?_
      refine sg_iload_n (pc := 50) (j := 1) (dc_X7_isKind_28.2.2.2.1) rfl rfl ?_
      refine sg_aald (pc := 51) (dc_X7_isKind_28.2.2.2.2) hK (by decide) (by decide) (v := sg_r k1) rfl ?_
      refine sg_iload_n (pc := 52) (j := 2) (dc_X7_isKind_52.1.1.1.1) rfl rfl ?_
      refine sg_iconst (pc := 53) (z := 1) (dc_X7_isKind_52.1.1.1.2) (by decide) ?_
      first | refine sg_iaddB (pc := 54) (dc_X7_isKind_52.1.1.2.1) (by omega) (by omega) ?_ | refine sg_iadd (pc := 54) (dc_X7_isKind_52.1.1.2.1) ?_
      refine sg_iald (pc := 55) (dc_X7_isKind_52.1.1.2.2) h1.2 (by decide) (by decide) (v := sg_i 170) rfl ?_
      refine sg_cS3 (pc := 56) (d' := d - 1) (mc' := 0) (ms' := 0) g (dc_X7_isKind_52.1.2.1.1) cb_X7_isOf ml_X7_22 ms_X7_isOf (Nat.le_of_ble_eq_true rfl) (by first | exact jl_d0 hd rfl | omega) (by first | exact Nat.le_of_ble_eq_true rfl | omega) (by first | exact Nat.le_of_ble_eq_true rfl | omega) ?_
      refine s_X7_isOf g (by first | exact jl_d1 hd rfl | omega) (fun z4 e4 b4 => sg_K1 ?_)
      refine sg_if_eq (pc := 59) (tgt := 64) (dc_X7_isKind_52.1.2.1.2) (by decide) (fun q4 => ?_) (fun q4 => ?_)
      · have r4 : ¬ (170 ≤ x ∧ x ≤ 170) := fun h => by rw [e4] at q4; unfold fn_betw at q4; rw [if_pos h] at q4; exact absurd q4 (by decide)
        first | refine sg_iincB (pc := 64) (dc_X7_isKind_52.2.1.1.1) rfl (by decide) (by decide) (by omega) (by omega) ?_ | refine sg_iinc (pc := 64) (dc_X7_isKind_52.2.1.1.1) rfl (by decide) (by decide) ?_
        refine sg_goto (pc := 67) (tgt := 29) (dc_X7_isKind_52.2.1.1.2) (by decide) ?_
        refine sg_iload_n (pc := 29) (j := 2) (dc_X7_isKind_28.1.1.1.2) rfl rfl ?_
        refine sg_gets (v := sg_r K) (pc := 30) g (dc_X7_isKind_28.1.1.2.1) z rfl kl_X7_30 ?_
        refine sg_iload_n (pc := 33) (j := 1) (dc_X7_isKind_28.1.1.2.2) rfl rfl ?_
        refine sg_aald (pc := 34) (dc_X7_isKind_28.1.2.1.1) hK (by decide) (by decide) (v := sg_r k1) rfl ?_
        refine sg_alenN (N := 16) (pc := 35) (dc_X7_isKind_28.1.2.1.2) h1.2 (by decide) rfl (by omega) ?_
        refine sg_icmp_ge (pc := 36) (tgt := 70) (dc_X7_isKind_28.1.2.2.1) (by decide) (fun cu => absurd cu (by omega)) (fun cu => ?_)
        refine sg_iload_n (pc := 39) (j := 0) (dc_X7_isKind_28.1.2.2.2) rfl rfl ?_
        refine sg_gets (v := sg_r K) (pc := 40) g (dc_X7_isKind_28.2.1.1.1) z rfl kl_X7_30 ?_
        refine sg_iload_n (pc := 43) (j := 1) (dc_X7_isKind_28.2.1.1.2) rfl rfl ?_
        refine sg_aald (pc := 44) (dc_X7_isKind_28.2.1.2.1) hK (by decide) (by decide) (v := sg_r k1) rfl ?_
        refine sg_iload_n (pc := 45) (j := 2) (dc_X7_isKind_28.2.1.2.2) rfl rfl ?_
        refine sg_iald (pc := 46) (dc_X7_isKind_28.2.2.1.1) h1.2 (by decide) (by decide) (v := sg_i 181) rfl ?_
        refine sg_gets (v := sg_r K) (pc := 47) g (dc_X7_isKind_28.2.2.1.2) z rfl kl_X7_30 ?_
        refine sg_iload_n (pc := 50) (j := 1) (dc_X7_isKind_28.2.2.2.1) rfl rfl ?_
        refine sg_aald (pc := 51) (dc_X7_isKind_28.2.2.2.2) hK (by decide) (by decide) (v := sg_r k1) rfl ?_
        refine sg_iload_n (pc := 52) (j := 2) (dc_X7_isKind_52.1.1.1.1) rfl rfl ?_
        refine sg_iconst (pc := 53) (z := 1) (dc_X7_isKind_52.1.1.1.2) (by decide) ?_
        first | refine sg_iaddB (pc := 54) (dc_X7_isKind_52.1.1.2.1) (by omega) (by omega) ?_ | refine sg_iadd (pc := 54) (dc_X7_isKind_52.1.1.2.1) ?_
        refine sg_iald (pc := 55) (dc_X7_isKind_52.1.1.2.2) h1.2 (by decide) (by decide) (v := sg_i 181) rfl ?_
        refine sg_cS3 (pc := 56) (d' := d - 1) (mc' := 0) (ms' := 0) g (dc_X7_isKind_52.1.2.1.1) cb_X7_isOf ml_X7_22 ms_X7_isOf (Nat.le_of_ble_eq_true rfl) (by first | exact jl_d0 hd rfl | omega) (by first | exact Nat.le_of_ble_eq_true rfl | omega) (by first | exact Nat.le_of_ble_eq_true rfl | omega) ?_
        refine s_X7_isOf g (by first | exact jl_d1 hd rfl | omega) (fun z6 e6 b6 => sg_K1 ?_)
        refine sg_if_eq (pc := 59) (tgt := 64) (dc_X7_isKind_52.1.2.1.2) (by decide) (fun q6 => ?_) (fun q6 => ?_)
        · have r6 : ¬ (181 ≤ x ∧ x ≤ 181) := fun h => by rw [e6] at q6; unfold fn_betw at q6; rw [if_pos h] at q6; exact absurd q6 (by decide)
          first | refine sg_iincB (pc := 64) (dc_X7_isKind_52.2.1.1.1) rfl (by decide) (by decide) (by omega) (by omega) ?_ | refine sg_iinc (pc := 64) (dc_X7_isKind_52.2.1.1.1) rfl (by decide) (by decide) ?_
          refine sg_goto (pc := 67) (tgt := 29) (dc_X7_isKind_52.2.1.1.2) (by decide) ?_
          refine sg_iload_n (pc := 29) (j := 2) (dc_X7_isKind_28.1.1.1.2) rfl rfl ?_
          refine sg_gets (v := sg_r K) (pc := 30) g (dc_X7_isKind_28.1.1.2.1) z rfl kl_X7_30 ?_
          refine sg_iload_n (pc := 33) (j := 1) (dc_X7_isKind_28.1.1.2.2) rfl rfl ?_
          refine sg_aald (pc := 34) (dc_X7_isKind_28.1.2.1.1) hK (by decide) (by decide) (v := sg_r k1) rfl ?_
          refine sg_alenN (N := 16) (pc := 35) (dc_X7_isKind_28.1.2.1.2) h1.2 (by decide) rfl (by omega) ?_
          refine sg_icmp_ge (pc := 36) (tgt := 70) (dc_X7_isKind_28.1.2.2.1) (by decide) (fun cu => absurd cu (by omega)) (fun cu => ?_)
          refine sg_iload_n (pc := 39) (j := 0) (dc_X7_isKind_28.1.2.2.2) rfl rfl ?_
          refine sg_gets (v := sg_r K) (pc := 40) g (dc_X7_isKind_28.2.1.1.1) z rfl kl_X7_30 ?_
          refine sg_iload_n (pc := 43) (j := 1) (dc_X7_isKind_28.2.1.1.2) rfl rfl ?_
          refine sg_aald (pc := 44) (dc_X7_isKind_28.2.1.2.1) hK (by decide) (by decide) (v := sg_r k1) rfl ?_
          refine sg_iload_n (pc := 45) (j := 2) (dc_X7_isKind_28.2.1.2.2) rfl rfl ?_
          refine sg_iald (pc := 46) (dc_X7_isKind_28.2.2.1.1) h1.2 (by decide) (by decide) (v := sg_i 186) rfl ?_
          refine sg_gets (v := sg_r K) (pc := 47) g (dc_X7_isKind_28.2.2.1.2) z rfl kl_X7_30 ?_
          refine sg_iload_n (pc := 50) (j := 1) (dc_X7_isKind_28.2.2.2.1) rfl rfl ?_
          refine sg_aald (pc := 51) (dc_X7_isKind_28.2.2.2.2) hK (by decide) (by decide) (v := sg_r k1) rfl ?_
          refine sg_iload_n (pc := 52) (j := 2) (dc_X7_isKind_52.1.1.1.1) rfl rfl ?_
          refine sg_iconst (pc := 53) (z := 1) (dc_X7_isKind_52.1.1.1.2) (by decide) ?_
          first | refine sg_iaddB (pc := 54) (dc_X7_isKind_52.1.1.2.1) (by omega) (by omega) ?_ | refine sg_iadd (pc := 54) (dc_X7_isKind_52.1.1.2.1) ?_
          refine sg_iald (pc := 55) (dc_X7_isKind_52.1.1.2.2) h1.2 (by decide) (by decide) (v := sg_i 186) rfl ?_
          refine sg_cS3 (pc := 56) (d' := d - 1) (mc' := 0) (ms' := 0) g (dc_X7_isKind_52.1.2.1.1) cb_X7_isOf ml_X7_22 ms_X7_isOf (Nat.le_of_ble_eq_true rfl) (by first | exact jl_d0 hd rfl | omega) (by first | exact Nat.le_of_ble_eq_true rfl | omega) (by first | exact Nat.le_of_ble_eq_true rfl | omega) ?_
          refine s_X7_isOf g (by first | exact jl_d1 hd rfl | omega) (fun z8 e8 b8 => sg_K1 ?_)
          refine sg_if_eq (pc := 59) (tgt := 64) (dc_X7_isKind_52.1.2.1.2) (by decide) (fun q8 => ?_) (fun q8 => ?_)
          · have r8 : ¬ (186 ≤ x ∧ x ≤ 186) := fun h => by rw [e8] at q8; unfold fn_betw at q8; rw [if_pos h] at q8; exact absurd q8 (by decide)
            first | refine sg_iincB (pc := 64) (dc_X7_isKind_52.2.1.1.1) rfl (by decide) (by decide) (by omega) (by omega) ?_ | refine sg_iinc (pc := 64) (dc_X7_isKind_52.2.1.1.1) rfl (by decide) (by decide) ?_
            refine sg_goto (pc := 67) (tgt := 29) (dc_X7_isKind_52.2.1.1.2) (by decide) ?_
            refine sg_iload_n (pc := 29) (j := 2) (dc_X7_isKind_28.1.1.1.2) rfl rfl ?_
            refine sg_gets (v := sg_r K) (pc := 30) g (dc_X7_isKind_28.1.1.2.1) z rfl kl_X7_30 ?_
            refine sg_iload_n (pc := 33) (j := 1) (dc_X7_isKind_28.1.1.2.2) rfl rfl ?_
            refine sg_aald (pc := 34) (dc_X7_isKind_28.1.2.1.1) hK (by decide) (by decide) (v := sg_r k1) rfl ?_
            refine sg_alenN (N := 16) (pc := 35) (dc_X7_isKind_28.1.2.1.2) h1.2 (by decide) rfl (by omega) ?_
            refine sg_icmp_ge (pc := 36) (tgt := 70) (dc_X7_isKind_28.1.2.2.1) (by decide) (fun cu => absurd cu (by omega)) (fun cu => ?_)
            refine sg_iload_n (pc := 39) (j := 0) (dc_X7_isKind_28.1.2.2.2) rfl rfl ?_
            refine sg_gets (v := sg_r K) (pc := 40) g (dc_X7_isKind_28.2.1.1.1) z rfl kl_X7_30 ?_
            refine sg_iload_n (pc := 43) (j := 1) (dc_X7_isKind_28.2.1.1.2) rfl rfl ?_
            refine sg_aald (pc := 44) (dc_X7_isKind_28.2.1.2.1) hK (by decide) (by decide) (v := sg_r k1) rfl ?_
            refine sg_iload_n (pc := 45) (j := 2) (dc_X7_isKind_28.2.1.2.2) rfl rfl ?_
            refine sg_iald (pc := 46) (dc_X7_isKind_28.2.2.1.1) h1.2 (by decide) (by decide) (v := sg_i 192) rfl ?_
            refine sg_gets (v := sg_r K) (pc := 47) g (dc_X7_isKind_28.2.2.1.2) z rfl kl_X7_30 ?_
            refine sg_iload_n (pc := 50) (j := 1) (dc_X7_isKind_28.2.2.2.1) rfl rfl ?_
            refine sg_aald (pc := 51) (dc_X7_isKind_28.2.2.2.2) hK (by decide) (by decide) (v := sg_r k1) rfl ?_
            refine sg_iload_n (pc := 52) (j := 2) (dc_X7_isKind_52.1.1.1.1) rfl rfl ?_
            refine sg_iconst (pc := 53) (z := 1) (dc_X7_isKind_52.1.1.1.2) (by decide) ?_
            first | refine sg_iaddB (pc := 54) (dc_X7_isKind_52.1.1.2.1) (by omega) (by omega) ?_ | refine sg_iadd (pc := 54) (dc_X7_isKind_52.1.1.2.1) ?_
            refine sg_iald (pc := 55) (dc_X7_isKind_52.1.1.2.2) h1.2 (by decide) (by decide) (v := sg_i 214) rfl ?_
            refine sg_cS3 (pc := 56) (d' := d - 1) (mc' := 0) (ms' := 0) g (dc_X7_isKind_52.1.2.1.1) cb_X7_isOf ml_X7_22 ms_X7_isOf (Nat.le_of_ble_eq_true rfl) (by first | exact jl_d0 hd rfl | omega) (by first | exact Nat.le_of_ble_eq_true rfl | omega) (by first | exact Nat.le_of_ble_eq_true rfl | omega) ?_
            refine s_X7_isOf g (by first | exact jl_d1 hd rfl | omega) (fun z10 e10 b10 => sg_K1 ?_)
            refine sg_if_eq (pc := 59) (tgt := 64) (dc_X7_isKind_52.1.2.1.2) (by decide) (fun q10 => ?_) (fun q10 => ?_)
            · have r10 : ¬ (192 ≤ x ∧ x ≤ 214) := fun h => by rw [e10] at q10; unfold fn_betw at q10; rw [if_pos h] at q10; exact absurd q10 (by decide)
              first | refine sg_iincB (pc := 64) (dc_X7_isKind_52.2.1.1.1) rfl (by decide) (by decide) (by omega) (by omega) ?_ | refine sg_iinc (pc := 64) (dc_X7_isKind_52.2.1.1.1) rfl (by decide) (by decide) ?_
              refine sg_goto (pc := 67) (tgt := 29) (dc_X7_isKind_52.2.1.1.2) (by decide) ?_
              refine sg_iload_n (pc := 29) (j := 2) (dc_X7_isKind_28.1.1.1.2) rfl rfl ?_
              refine sg_gets (v := sg_r K) (pc := 30) g (dc_X7_isKind_28.1.1.2.1) z rfl kl_X7_30 ?_
              refine sg_iload_n (pc := 33) (j := 1) (dc_X7_isKind_28.1.1.2.2) rfl rfl ?_
              refine sg_aald (pc := 34) (dc_X7_isKind_28.1.2.1.1) hK (by decide) (by decide) (v := sg_r k1) rfl ?_
              refine sg_alenN (N := 16) (pc := 35) (dc_X7_isKind_28.1.2.1.2) h1.2 (by decide) rfl (by omega) ?_
              refine sg_icmp_ge (pc := 36) (tgt := 70) (dc_X7_isKind_28.1.2.2.1) (by decide) (fun cu => absurd cu (by omega)) (fun cu => ?_)
              refine sg_iload_n (pc := 39) (j := 0) (dc_X7_isKind_28.1.2.2.2) rfl rfl ?_
              refine sg_gets (v := sg_r K) (pc := 40) g (dc_X7_isKind_28.2.1.1.1) z rfl kl_X7_30 ?_
              refine sg_iload_n (pc := 43) (j := 1) (dc_X7_isKind_28.2.1.1.2) rfl rfl ?_
              refine sg_aald (pc := 44) (dc_X7_isKind_28.2.1.2.1) hK (by decide) (by decide) (v := sg_r k1) rfl ?_
              refine sg_iload_n (pc := 45) (j := 2) (dc_X7_isKind_28.2.1.2.2) rfl rfl ?_
              refine sg_iald (pc := 46) (dc_X7_isKind_28.2.2.1.1) h1.2 (by decide) (by decide) (v := sg_i 216) rfl ?_
              refine sg_gets (v := sg_r K) (pc := 47) g (dc_X7_isKind_28.2.2.1.2) z rfl kl_X7_30 ?_
              refine sg_iload_n (pc := 50) (j := 1) (dc_X7_isKind_28.2.2.2.1) rfl rfl ?_
              refine sg_aald (pc := 51) (dc_X7_isKind_28.2.2.2.2) hK (by decide) (by decide) (v := sg_r k1) rfl ?_
              refine sg_iload_n (pc := 52) (j := 2) (dc_X7_isKind_52.1.1.1.1) rfl rfl ?_
              refine sg_iconst (pc := 53) (z := 1) (dc_X7_isKind_52.1.1.1.2) (by decide) ?_
              first | refine sg_iaddB (pc := 54) (dc_X7_isKind_52.1.1.2.1) (by omega) (by omega) ?_ | refine sg_iadd (pc := 54) (dc_X7_isKind_52.1.1.2.1) ?_
              refine sg_iald (pc := 55) (dc_X7_isKind_52.1.1.2.2) h1.2 (by decide) (by decide) (v := sg_i 246) rfl ?_
              refine sg_cS3 (pc := 56) (d' := d - 1) (mc' := 0) (ms' := 0) g (dc_X7_isKind_52.1.2.1.1) cb_X7_isOf ml_X7_22 ms_X7_isOf (Nat.le_of_ble_eq_true rfl) (by first | exact jl_d0 hd rfl | omega) (by first | exact Nat.le_of_ble_eq_true rfl | omega) (by first | exact Nat.le_of_ble_eq_true rfl | omega) ?_
              refine s_X7_isOf g (by first | exact jl_d1 hd rfl | omega) (fun z12 e12 b12 => sg_K1 ?_)
              refine sg_if_eq (pc := 59) (tgt := 64) (dc_X7_isKind_52.1.2.1.2) (by decide) (fun q12 => ?_) (fun q12 => ?_)
              · have r12 : ¬ (216 ≤ x ∧ x ≤ 246) := fun h => by rw [e12] at q12; unfold fn_betw at q12; rw [if_pos h] at q12; exact absurd q12 (by decide)
                first | refine sg_iincB (pc := 64) (dc_X7_isKind_52.2.1.1.1) rfl (by decide) (by decide) (by omega) (by omega) ?_ | refine sg_iinc (pc := 64) (dc_X7_isKind_52.2.1.1.1) rfl (by decide) (by decide) ?_
                refine sg_goto (pc := 67) (tgt := 29) (dc_X7_isKind_52.2.1.1.2) (by decide) ?_
                refine sg_iload_n (pc := 29) (j := 2) (dc_X7_isKind_28.1.1.1.2) rfl rfl ?_
                refine sg_gets (v := sg_r K) (pc := 30) g (dc_X7_isKind_28.1.1.2.1) z rfl kl_X7_30 ?_
                refine sg_iload_n (pc := 33) (j := 1) (dc_X7_isKind_28.1.1.2.2) rfl rfl ?_
                refine sg_aald (pc := 34) (dc_X7_isKind_28.1.2.1.1) hK (by decide) (by decide) (v := sg_r k1) rfl ?_
                refine sg_alenN (N := 16) (pc := 35) (dc_X7_isKind_28.1.2.1.2) h1.2 (by decide) rfl (by omega) ?_
                refine sg_icmp_ge (pc := 36) (tgt := 70) (dc_X7_isKind_28.1.2.2.1) (by decide) (fun cu => absurd cu (by omega)) (fun cu => ?_)
                refine sg_iload_n (pc := 39) (j := 0) (dc_X7_isKind_28.1.2.2.2) rfl rfl ?_
                refine sg_gets (v := sg_r K) (pc := 40) g (dc_X7_isKind_28.2.1.1.1) z rfl kl_X7_30 ?_
                refine sg_iload_n (pc := 43) (j := 1) (dc_X7_isKind_28.2.1.1.2) rfl rfl ?_
                refine sg_aald (pc := 44) (dc_X7_isKind_28.2.1.2.1) hK (by decide) (by decide) (v := sg_r k1) rfl ?_
                refine sg_iload_n (pc := 45) (j := 2) (dc_X7_isKind_28.2.1.2.2) rfl rfl ?_
                refine sg_iald (pc := 46) (dc_X7_isKind_28.2.2.1.1) h1.2 (by decide) (by decide) (v := sg_i 248) rfl ?_
                refine sg_gets (v := sg_r K) (pc := 47) g (dc_X7_isKind_28.2.2.1.2) z rfl kl_X7_30 ?_
                refine sg_iload_n (pc := 50) (j := 1) (dc_X7_isKind_28.2.2.2.1) rfl rfl ?_
                refine sg_aald (pc := 51) (dc_X7_isKind_28.2.2.2.2) hK (by decide) (by decide) (v := sg_r k1) rfl ?_
                refine sg_iload_n (pc := 52) (j := 2) (dc_X7_isKind_52.1.1.1.1) rfl rfl ?_
                refine sg_iconst (pc := 53) (z := 1) (dc_X7_isKind_52.1.1.1.2) (by decide) ?_
                first | refine sg_iaddB (pc := 54) (dc_X7_isKind_52.1.1.2.1) (by omega) (by omega) ?_ | refine sg_iadd (pc := 54) (dc_X7_isKind_52.1.1.2.1) ?_
                refine sg_iald (pc := 55) (dc_X7_isKind_52.1.1.2.2) h1.2 (by decide) (by decide) (v := sg_i 255) rfl ?_
                refine sg_cS3 (pc := 56) (d' := d - 1) (mc' := 0) (ms' := 0) g (dc_X7_isKind_52.1.2.1.1) cb_X7_isOf ml_X7_22 ms_X7_isOf (Nat.le_of_ble_eq_true rfl) (by first | exact jl_d0 hd rfl | omega) (by first | exact Nat.le_of_ble_eq_true rfl | omega) (by first | exact Nat.le_of_ble_eq_true rfl | omega) ?_
                refine s_X7_isOf g (by first | exact jl_d1 hd rfl | omega) (fun z14 e14 b14 => sg_K1 ?_)
                refine sg_if_eq (pc := 59) (tgt := 64) (dc_X7_isKind_52.1.2.1.2) (by decide) (fun q14 => ?_) (fun q14 => ?_)
                · have r14 : ¬ (248 ≤ x ∧ x ≤ 255) := fun h => by rw [e14] at q14; unfold fn_betw at q14; rw [if_pos h] at q14; exact absurd q14 (by decide)
                  first | refine sg_iincB (pc := 64) (dc_X7_isKind_52.2.1.1.1) rfl (by decide) (by decide) (by omega) (by omega) ?_ | refine sg_iinc (pc := 64) (dc_X7_isKind_52.2.1.1.1) rfl (by decide) (by decide) ?_
                  refine sg_goto (pc := 67) (tgt := 29) (dc_X7_isKind_52.2.1.1.2) (by decide) ?_
                  refine sg_iload_n (pc := 29) (j := 2) (dc_X7_isKind_28.1.1.1.2) rfl rfl ?_
                  refine sg_gets (v := sg_r K) (pc := 30) g (dc_X7_isKind_28.1.1.2.1) z rfl kl_X7_30 ?_
                  refine sg_iload_n (pc := 33) (j := 1) (dc_X7_isKind_28.1.1.2.2) rfl rfl ?_
                  refine sg_aald (pc := 34) (dc_X7_isKind_28.1.2.1.1) hK (by decide) (by decide) (v := sg_r k1) rfl ?_
                  refine sg_alenN (N := 16) (pc := 35) (dc_X7_isKind_28.1.2.1.2) h1.2 (by decide) rfl (by omega) ?_
                  refine sg_icmp_ge (pc := 36) (tgt := 70) (dc_X7_isKind_28.1.2.2.1) (by decide) (fun cu => ?_) (fun cu => absurd cu (by omega))
                  refine sg_iconst (pc := 70) (z := 0) (dc_X7_isKind_52.2.1.2.1) (by decide) ?_
                  refine sg_zret (pc := 71) (dc_X7_isKind_52.2.1.2.2) rfl (by first | exact Or.inl rfl | exact Or.inr rfl | omega | assumption) (by first | exact Nat.le_of_ble_eq_true rfl | omega) (by first | exact Nat.le_of_ble_eq_true rfl | omega) ?_
                  refine hQ _ (by
                    rw [fk_1]
                    unfold fn_letter
                    rw [if_neg]
                    rintro (h | h | h | h | h | h | h | h)
                    · exact r0 h
                    · exact r2 h
                    · exact r4 ⟨Int.le_of_eq h.symm, Int.le_of_eq h⟩
                    · exact r6 ⟨Int.le_of_eq h.symm, Int.le_of_eq h⟩
                    · exact r8 ⟨Int.le_of_eq h.symm, Int.le_of_eq h⟩
                    · exact r10 h
                    · exact r12 h
                    · exact r14 h) (Or.inl rfl)
                · have r14 : 248 ≤ x ∧ x ≤ 255 := Classical.byContradiction (fun h => q14 (by rw [e14]; unfold fn_betw; rw [if_neg h]))
                  refine sg_iconst (pc := 62) (z := 1) (dc_X7_isKind_52.1.2.2.1) (by decide) ?_
                  refine sg_zret (pc := 63) (dc_X7_isKind_52.1.2.2.2) rfl (by first | exact Or.inl rfl | exact Or.inr rfl | omega | assumption) (by first | exact Nat.le_of_ble_eq_true rfl | omega) (by first | exact Nat.le_of_ble_eq_true rfl | omega) ?_
                  exact hQ _ (by rw [fk_1]; unfold fn_letter; rw [if_pos (Or.inr (Or.inr (Or.inr (Or.inr (Or.inr (Or.inr (Or.inr (r14))))))))]) (Or.inr rfl)
              · have r12 : 216 ≤ x ∧ x ≤ 246 := Classical.byContradiction (fun h => q12 (by rw [e12]; unfold fn_betw; rw [if_neg h]))
                refine sg_iconst (pc := 62) (z := 1) (dc_X7_isKind_52.1.2.2.1) (by decide) ?_
                refine sg_zret (pc := 63) (dc_X7_isKind_52.1.2.2.2) rfl (by first | exact Or.inl rfl | exact Or.inr rfl | omega | assumption) (by first | exact Nat.le_of_ble_eq_true rfl | omega) (by first | exact Nat.le_of_ble_eq_true rfl | omega) ?_
                exact hQ _ (by rw [fk_1]; unfold fn_letter; rw [if_pos (Or.inr (Or.inr (Or.inr (Or.inr (Or.inr (Or.inr (Or.inl r12)))))))]) (Or.inr rfl)
            · have r10 : 192 ≤ x ∧ x ≤ 214 := Classical.byContradiction (fun h => q10 (by rw [e10]; unfold fn_betw; rw [if_neg h]))
              refine sg_iconst (pc := 62) (z := 1) (dc_X7_isKind_52.1.2.2.1) (by decide) ?_
              refine sg_zret (pc := 63) (dc_X7_isKind_52.1.2.2.2) rfl (by first | exact Or.inl rfl | exact Or.inr rfl | omega | assumption) (by first | exact Nat.le_of_ble_eq_true rfl | omega) (by first | exact Nat.le_of_ble_eq_true rfl | omega) ?_
              exact hQ _ (by rw [fk_1]; unfold fn_letter; rw [if_pos (Or.inr (Or.inr (Or.inr (Or.inr (Or.inr (Or.inl r10))))))]) (Or.inr rfl)
          · have r8 : 186 ≤ x ∧ x ≤ 186 := Classical.byContradiction (fun h => q8 (by rw [e8]; unfold fn_betw; rw [if_neg h]))
            refine sg_iconst (pc := 62) (z := 1) (dc_X7_isKind_52.1.2.2.1) (by decide) ?_
            refine sg_zret (pc := 63) (dc_X7_isKind_52.1.2.2.2) rfl (by first | exact Or.inl rfl | exact Or.inr rfl | omega | assumption) (by first | exact Nat.le_of_ble_eq_true rfl | omega) (by first | exact Nat.le_of_ble_eq_true rfl | omega) ?_
            exact hQ _ (by rw [fk_1]; unfold fn_letter; rw [if_pos (Or.inr (Or.inr (Or.inr (Or.inr (Or.inl (Int.le_antisymm r8.2 r8.1))))))]) (Or.inr rfl)
        · have r6 : 181 ≤ x ∧ x ≤ 181 := Classical.byContradiction (fun h => q6 (by rw [e6]; unfold fn_betw; rw [if_neg h]))
          refine sg_iconst (pc := 62) (z := 1) (dc_X7_isKind_52.1.2.2.1) (by decide) ?_
          refine sg_zret (pc := 63) (dc_X7_isKind_52.1.2.2.2) rfl (by first | exact Or.inl rfl | exact Or.inr rfl | omega | assumption) (by first | exact Nat.le_of_ble_eq_true rfl | omega) (by first | exact Nat.le_of_ble_eq_true rfl | omega) ?_
          exact hQ _ (by rw [fk_1]; unfold fn_letter; rw [if_pos (Or.inr (Or.inr (Or.inr (Or.inl (Int.le_antisymm r6.2 r6.1)))))]) (Or.inr rfl)
      · have r4 : 170 ≤ x ∧ x ≤ 170 := Classical.byContradiction (fun h => q4 (by rw [e4]; unfold fn_betw; rw [if_neg h]))
        refine sg_iconst (pc := 62) (z := 1) (dc_X7_isKind_52.1.2.2.1) (by decide) ?_
        refine sg_zret (pc := 63) (dc_X7_isKind_52.1.2.2.2) rfl (by first | exact Or.inl rfl | exact Or.inr rfl | omega | assumption) (by first | exact Nat.le_of_ble_eq_true rfl | omega) (by first | exact Nat.le_of_ble_eq_true rfl | omega) ?_
        exact hQ _ (by rw [fk_1]; unfold fn_letter; rw [if_pos (Or.inr (Or.inr (Or.inl (Int.le_antisymm r4.2 r4.1))))]) (Or.inr rfl)
    · have r2 : 97 ≤ x ∧ x ≤ 122 := Classical.byContradiction (fun h => q2 (by rw [e2]; unfold fn_betw; rw [if_neg h]))
      refine sg_iconst (pc := 62) (z := 1) (dc_X7_isKind_52.1.2.2.1) (by decide) ?_
      refine sg_zret (pc := 63) (dc_X7_isKind_52.1.2.2.2) rfl (by first | exact Or.inl rfl | exact Or.inr rfl | omega | assumption) (by first | exact Nat.le_of_ble_eq_true rfl | omega) (by first | exact Nat.le_of_ble_eq_true rfl | omega) ?_
      exact hQ _ (by rw [fk_1]; unfold fn_letter; rw [if_pos (Or.inr (Or.inl r2))]) (Or.inr rfl)
  · have r0 : 65 ≤ x ∧ x ≤ 90 := Classical.byContradiction (fun h => q0 (by rw [e0]; unfold fn_betw; rw [if_neg h]))
    refine sg_iconst (pc := 62) (z := 1) (dc_X7_isKind_52.1.2.2.1) (by decide) ?_
    refine sg_zret (pc := 63) (dc_X7_isKind_52.1.2.2.2) rfl (by first | exact Or.inl rfl | exact Or.inr rfl | omega | assumption) (by first | exact Nat.le_of_ble_eq_true rfl | omega) (by first | exact Nat.le_of_ble_eq_true rfl | omega) ?_
    exact hQ _ (by rw [fk_1]; unfold fn_letter; rw [if_pos (Or.inl r0)]) (Or.inr rfl)

set_option maxRecDepth 100000 in
set_option maxHeartbeats 1000000 in
theorem s_X7_isKind_3 {w : sg_W} {Q : sg_O → sg_H → Prop} {h : sg_H} (g : sg_G w) {d : Nat} (hd : 2 ≤ d) {x : Int} (hk : md_K w h) (hQ : ∀ z : Int, z = fn_isOf x 3 → (z = 0 ∨ z = 1) → Q (.inl (some (sg_i z))) h) : sg_C w mi_X7_isKind d 0 0 [sg_i x, sg_i 3] h Q := by
  refine sg_of pn_X7 (Nat.le_of_ble_eq_true rfl) ?_
  obtain ⟨K, k0, k1, k2, k3, k4, z, l, hK, h0, h1, h2, h3, h4⟩ := hk.1
  refine sg_iload_n (pc := 0) (j := 1) (dc_X7_isKind_0.1.1.1.1) rfl rfl ?_
  refine sg_iconst (pc := 1) (z := 2) (dc_X7_isKind_0.1.1.1.2) (by decide) ?_
  refine sg_icmp_ne (pc := 2) (tgt := 27) (dc_X7_isKind_0.1.1.2.1) (by decide) (fun cu => ?_) (fun cu => absurd cu (by omega))
  refine sg_iconst (pc := 27) (z := 0) (dc_X7_isKind_0.2.2.2.2) (by decide) ?_
  refine sg_istore_n (pc := 28) (j := 2) (dc_X7_isKind_28.1.1.1.1) rfl (by decide) ?_
  refine sg_iload_n (pc := 29) (j := 2) (dc_X7_isKind_28.1.1.1.2) rfl rfl ?_
  refine sg_gets (v := sg_r K) (pc := 30) g (dc_X7_isKind_28.1.1.2.1) z rfl kl_X7_30 ?_
  refine sg_iload_n (pc := 33) (j := 1) (dc_X7_isKind_28.1.1.2.2) rfl rfl ?_
  refine sg_aald (pc := 34) (dc_X7_isKind_28.1.2.1.1) hK (by decide) (by decide) (v := sg_r k3) rfl ?_
  refine sg_alenN (N := 4) (pc := 35) (dc_X7_isKind_28.1.2.1.2) h3.2 (by decide) rfl (by omega) ?_
  refine sg_icmp_ge (pc := 36) (tgt := 70) (dc_X7_isKind_28.1.2.2.1) (by decide) (fun cu => absurd cu (by omega)) (fun cu => ?_)
  refine sg_iload_n (pc := 39) (j := 0) (dc_X7_isKind_28.1.2.2.2) rfl rfl ?_
  refine sg_gets (v := sg_r K) (pc := 40) g (dc_X7_isKind_28.2.1.1.1) z rfl kl_X7_30 ?_
  refine sg_iload_n (pc := 43) (j := 1) (dc_X7_isKind_28.2.1.1.2) rfl rfl ?_
  refine sg_aald (pc := 44) (dc_X7_isKind_28.2.1.2.1) hK (by decide) (by decide) (v := sg_r k3) rfl ?_
  refine sg_iload_n (pc := 45) (j := 2) (dc_X7_isKind_28.2.1.2.2) rfl rfl ?_
  refine sg_iald (pc := 46) (dc_X7_isKind_28.2.2.1.1) h3.2 (by decide) (by decide) (v := sg_i 9) rfl ?_
  refine sg_gets (v := sg_r K) (pc := 47) g (dc_X7_isKind_28.2.2.1.2) z rfl kl_X7_30 ?_
  refine sg_iload_n (pc := 50) (j := 1) (dc_X7_isKind_28.2.2.2.1) rfl rfl ?_
  refine sg_aald (pc := 51) (dc_X7_isKind_28.2.2.2.2) hK (by decide) (by decide) (v := sg_r k3) rfl ?_
  refine sg_iload_n (pc := 52) (j := 2) (dc_X7_isKind_52.1.1.1.1) rfl rfl ?_
  refine sg_iconst (pc := 53) (z := 1) (dc_X7_isKind_52.1.1.1.2) (by decide) ?_
  first | refine sg_iaddB (pc := 54) (dc_X7_isKind_52.1.1.2.1) (by omega) (by omega) ?_ | refine sg_iadd (pc := 54) (dc_X7_isKind_52.1.1.2.1) ?_
  refine sg_iald (pc := 55) (dc_X7_isKind_52.1.1.2.2) h3.2 (by decide) (by decide) (v := sg_i 13) rfl ?_
  refine sg_cS3 (pc := 56) (d' := d - 1) (mc' := 0) (ms' := 0) g (dc_X7_isKind_52.1.2.1.1) cb_X7_isOf ml_X7_22 ms_X7_isOf (Nat.le_of_ble_eq_true rfl) (by first | exact jl_d0 hd rfl | omega) (by first | exact Nat.le_of_ble_eq_true rfl | omega) (by first | exact Nat.le_of_ble_eq_true rfl | omega) ?_
  refine s_X7_isOf g (by first | exact jl_d1 hd rfl | omega) (fun z0 e0 b0 => sg_K1 ?_)
  refine sg_if_eq (pc := 59) (tgt := 64) (dc_X7_isKind_52.1.2.1.2) (by decide) (fun q0 => ?_) (fun q0 => ?_)
  · have r0 : ¬ (9 ≤ x ∧ x ≤ 13) := fun h => by rw [e0] at q0; unfold fn_betw at q0; rw [if_pos h] at q0; exact absurd q0 (by decide)
    first | refine sg_iincB (pc := 64) (dc_X7_isKind_52.2.1.1.1) rfl (by decide) (by decide) (by omega) (by omega) ?_ | refine sg_iinc (pc := 64) (dc_X7_isKind_52.2.1.1.1) rfl (by decide) (by decide) ?_
    refine sg_goto (pc := 67) (tgt := 29) (dc_X7_isKind_52.2.1.1.2) (by decide) ?_
    refine sg_iload_n (pc := 29) (j := 2) (dc_X7_isKind_28.1.1.1.2) rfl rfl ?_
    refine sg_gets (v := sg_r K) (pc := 30) g (dc_X7_isKind_28.1.1.2.1) z rfl kl_X7_30 ?_
    refine sg_iload_n (pc := 33) (j := 1) (dc_X7_isKind_28.1.1.2.2) rfl rfl ?_
    refine sg_aald (pc := 34) (dc_X7_isKind_28.1.2.1.1) hK (by decide) (by decide) (v := sg_r k3) rfl ?_
    refine sg_alenN (N := 4) (pc := 35) (dc_X7_isKind_28.1.2.1.2) h3.2 (by decide) rfl (by omega) ?_
    refine sg_icmp_ge (pc := 36) (tgt := 70) (dc_X7_isKind_28.1.2.2.1) (by decide) (fun cu => absurd cu (by omega)) (fun cu => ?_)
    refine sg_iload_n (pc := 39) (j := 0) (dc_X7_isKind_28.1.2.2.2) rfl rfl ?_
    refine sg_gets (v := sg_r K) (pc := 40) g (dc_X7_isKind_28.2.1.1.1) z rfl kl_X7_30 ?_
    refine sg_iload_n (pc := 43) (j := 1) (dc_X7_isKind_28.2.1.1.2) rfl rfl ?_
    refine sg_aald (pc := 44) (dc_X7_isKind_28.2.1.2.1) hK (by decide) (by decide) (v := sg_r k3) rfl ?_
    refine sg_iload_n (pc := 45) (j := 2) (dc_X7_isKind_28.2.1.2.2) rfl rfl ?_
    refine sg_iald (pc := 46) (dc_X7_isKind_28.2.2.1.1) h3.2 (by decide) (by decide) (v := sg_i 28) rfl ?_
    refine sg_gets (v := sg_r K) (pc := 47) g (dc_X7_isKind_28.2.2.1.2) z rfl kl_X7_30 ?_
    refine sg_iload_n (pc := 50) (j := 1) (dc_X7_isKind_28.2.2.2.1) rfl rfl ?_
    refine sg_aald (pc := 51) (dc_X7_isKind_28.2.2.2.2) hK (by decide) (by decide) (v := sg_r k3) rfl ?_
    refine sg_iload_n (pc := 52) (j := 2) (dc_X7_isKind_52.1.1.1.1) rfl rfl ?_
    refine sg_iconst (pc := 53) (z := 1) (dc_X7_isKind_52.1.1.1.2) (by decide) ?_
    first | refine sg_iaddB (pc := 54) (dc_X7_isKind_52.1.1.2.1) (by omega) (by omega) ?_ | refine sg_iadd (pc := 54) (dc_X7_isKind_52.1.1.2.1) ?_
    refine sg_iald (pc := 55) (dc_X7_isKind_52.1.1.2.2) h3.2 (by decide) (by decide) (v := sg_i 32) rfl ?_
    refine sg_cS3 (pc := 56) (d' := d - 1) (mc' := 0) (ms' := 0) g (dc_X7_isKind_52.1.2.1.1) cb_X7_isOf ml_X7_22 ms_X7_isOf (Nat.le_of_ble_eq_true rfl) (by first | exact jl_d0 hd rfl | omega) (by first | exact Nat.le_of_ble_eq_true rfl | omega) (by first | exact Nat.le_of_ble_eq_true rfl | omega) ?_
    refine s_X7_isOf g (by first | exact jl_d1 hd rfl | omega) (fun z2 e2 b2 => sg_K1 ?_)
    refine sg_if_eq (pc := 59) (tgt := 64) (dc_X7_isKind_52.1.2.1.2) (by decide) (fun q2 => ?_) (fun q2 => ?_)
    · have r2 : ¬ (28 ≤ x ∧ x ≤ 32) := fun h => by rw [e2] at q2; unfold fn_betw at q2; rw [if_pos h] at q2; exact absurd q2 (by decide)
      first | refine sg_iincB (pc := 64) (dc_X7_isKind_52.2.1.1.1) rfl (by decide) (by decide) (by omega) (by omega) ?_ | refine sg_iinc (pc := 64) (dc_X7_isKind_52.2.1.1.1) rfl (by decide) (by decide) ?_
      refine sg_goto (pc := 67) (tgt := 29) (dc_X7_isKind_52.2.1.1.2) (by decide) ?_
      refine sg_iload_n (pc := 29) (j := 2) (dc_X7_isKind_28.1.1.1.2) rfl rfl ?_
      refine sg_gets (v := sg_r K) (pc := 30) g (dc_X7_isKind_28.1.1.2.1) z rfl kl_X7_30 ?_
      refine sg_iload_n (pc := 33) (j := 1) (dc_X7_isKind_28.1.1.2.2) rfl rfl ?_
      refine sg_aald (pc := 34) (dc_X7_isKind_28.1.2.1.1) hK (by decide) (by decide) (v := sg_r k3) rfl ?_
      refine sg_alenN (N := 4) (pc := 35) (dc_X7_isKind_28.1.2.1.2) h3.2 (by decide) rfl (by omega) ?_
      refine sg_icmp_ge (pc := 36) (tgt := 70) (dc_X7_isKind_28.1.2.2.1) (by decide) (fun cu => ?_) (fun cu => absurd cu (by omega))
      refine sg_iconst (pc := 70) (z := 0) (dc_X7_isKind_52.2.1.2.1) (by decide) ?_
      refine sg_zret (pc := 71) (dc_X7_isKind_52.2.1.2.2) rfl (by first | exact Or.inl rfl | exact Or.inr rfl | omega | assumption) (by first | exact Nat.le_of_ble_eq_true rfl | omega) (by first | exact Nat.le_of_ble_eq_true rfl | omega) ?_
      refine hQ _ (by
        rw [fk_3]
        unfold fn_white
        rw [if_neg]
        rintro (h | h)
        · exact r0 h
        · exact r2 h) (Or.inl rfl)
    · have r2 : 28 ≤ x ∧ x ≤ 32 := Classical.byContradiction (fun h => q2 (by rw [e2]; unfold fn_betw; rw [if_neg h]))
      refine sg_iconst (pc := 62) (z := 1) (dc_X7_isKind_52.1.2.2.1) (by decide) ?_
      refine sg_zret (pc := 63) (dc_X7_isKind_52.1.2.2.2) rfl (by first | exact Or.inl rfl | exact Or.inr rfl | omega | assumption) (by first | exact Nat.le_of_ble_eq_true rfl | omega) (by first | exact Nat.le_of_ble_eq_true rfl | omega) ?_
      exact hQ _ (by rw [fk_3]; unfold fn_white; rw [if_pos (Or.inr (r2))]) (Or.inr rfl)
  · have r0 : 9 ≤ x ∧ x ≤ 13 := Classical.byContradiction (fun h => q0 (by rw [e0]; unfold fn_betw; rw [if_neg h]))
    refine sg_iconst (pc := 62) (z := 1) (dc_X7_isKind_52.1.2.2.1) (by decide) ?_
    refine sg_zret (pc := 63) (dc_X7_isKind_52.1.2.2.2) rfl (by first | exact Or.inl rfl | exact Or.inr rfl | omega | assumption) (by first | exact Nat.le_of_ble_eq_true rfl | omega) (by first | exact Nat.le_of_ble_eq_true rfl | omega) ?_
    exact hQ _ (by rw [fk_3]; unfold fn_white; rw [if_pos (Or.inl r0)]) (Or.inr rfl)

set_option maxRecDepth 100000 in
set_option maxHeartbeats 1000000 in
theorem s_X7_isKind_4 {w : sg_W} {Q : sg_O → sg_H → Prop} {h : sg_H} (g : sg_G w) {d : Nat} (hd : 2 ≤ d) {x : Int} (hk : md_K w h) (hQ : ∀ z : Int, z = fn_isOf x 4 → (z = 0 ∨ z = 1) → Q (.inl (some (sg_i z))) h) : sg_C w mi_X7_isKind d 0 0 [sg_i x, sg_i 4] h Q := by
  refine sg_of pn_X7 (Nat.le_of_ble_eq_true rfl) ?_
  obtain ⟨K, k0, k1, k2, k3, k4, z, l, hK, h0, h1, h2, h3, h4⟩ := hk.1
  refine sg_iload_n (pc := 0) (j := 1) (dc_X7_isKind_0.1.1.1.1) rfl rfl ?_
  refine sg_iconst (pc := 1) (z := 2) (dc_X7_isKind_0.1.1.1.2) (by decide) ?_
  refine sg_icmp_ne (pc := 2) (tgt := 27) (dc_X7_isKind_0.1.1.2.1) (by decide) (fun cu => ?_) (fun cu => absurd cu (by omega))
  refine sg_iconst (pc := 27) (z := 0) (dc_X7_isKind_0.2.2.2.2) (by decide) ?_
  refine sg_istore_n (pc := 28) (j := 2) (dc_X7_isKind_28.1.1.1.1) rfl (by decide) ?_
  refine sg_iload_n (pc := 29) (j := 2) (dc_X7_isKind_28.1.1.1.2) rfl rfl ?_
  refine sg_gets (v := sg_r K) (pc := 30) g (dc_X7_isKind_28.1.1.2.1) z rfl kl_X7_30 ?_
  refine sg_iload_n (pc := 33) (j := 1) (dc_X7_isKind_28.1.1.2.2) rfl rfl ?_
  refine sg_aald (pc := 34) (dc_X7_isKind_28.1.2.1.1) hK (by decide) (by decide) (v := sg_r k4) rfl ?_
  refine sg_alenN (N := 6) (pc := 35) (dc_X7_isKind_28.1.2.1.2) h4.2 (by decide) rfl (by omega) ?_
  refine sg_icmp_ge (pc := 36) (tgt := 70) (dc_X7_isKind_28.1.2.2.1) (by decide) (fun cu => absurd cu (by omega)) (fun cu => ?_)
  refine sg_iload_n (pc := 39) (j := 0) (dc_X7_isKind_28.1.2.2.2) rfl rfl ?_
  refine sg_gets (v := sg_r K) (pc := 40) g (dc_X7_isKind_28.2.1.1.1) z rfl kl_X7_30 ?_
  refine sg_iload_n (pc := 43) (j := 1) (dc_X7_isKind_28.2.1.1.2) rfl rfl ?_
  refine sg_aald (pc := 44) (dc_X7_isKind_28.2.1.2.1) hK (by decide) (by decide) (v := sg_r k4) rfl ?_
  refine sg_iload_n (pc := 45) (j := 2) (dc_X7_isKind_28.2.1.2.2) rfl rfl ?_
  refine sg_iald (pc := 46) (dc_X7_isKind_28.2.2.1.1) h4.2 (by decide) (by decide) (v := sg_i 65) rfl ?_
  refine sg_gets (v := sg_r K) (pc := 47) g (dc_X7_isKind_28.2.2.1.2) z rfl kl_X7_30 ?_
  refine sg_iload_n (pc := 50) (j := 1) (dc_X7_isKind_28.2.2.2.1) rfl rfl ?_
  refine sg_aald (pc := 51) (dc_X7_isKind_28.2.2.2.2) hK (by decide) (by decide) (v := sg_r k4) rfl ?_
  refine sg_iload_n (pc := 52) (j := 2) (dc_X7_isKind_52.1.1.1.1) rfl rfl ?_
  refine sg_iconst (pc := 53) (z := 1) (dc_X7_isKind_52.1.1.1.2) (by decide) ?_
  first | refine sg_iaddB (pc := 54) (dc_X7_isKind_52.1.1.2.1) (by omega) (by omega) ?_ | refine sg_iadd (pc := 54) (dc_X7_isKind_52.1.1.2.1) ?_
  refine sg_iald (pc := 55) (dc_X7_isKind_52.1.1.2.2) h4.2 (by decide) (by decide) (v := sg_i 90) rfl ?_
  refine sg_cS3 (pc := 56) (d' := d - 1) (mc' := 0) (ms' := 0) g (dc_X7_isKind_52.1.2.1.1) cb_X7_isOf ml_X7_22 ms_X7_isOf (Nat.le_of_ble_eq_true rfl) (by first | exact jl_d0 hd rfl | omega) (by first | exact Nat.le_of_ble_eq_true rfl | omega) (by first | exact Nat.le_of_ble_eq_true rfl | omega) ?_
  refine s_X7_isOf g (by first | exact jl_d1 hd rfl | omega) (fun z0 e0 b0 => sg_K1 ?_)
  refine sg_if_eq (pc := 59) (tgt := 64) (dc_X7_isKind_52.1.2.1.2) (by decide) (fun q0 => ?_) (fun q0 => ?_)
  · have r0 : ¬ (65 ≤ x ∧ x ≤ 90) := fun h => by rw [e0] at q0; unfold fn_betw at q0; rw [if_pos h] at q0; exact absurd q0 (by decide)
    first | refine sg_iincB (pc := 64) (dc_X7_isKind_52.2.1.1.1) rfl (by decide) (by decide) (by omega) (by omega) ?_ | refine sg_iinc (pc := 64) (dc_X7_isKind_52.2.1.1.1) rfl (by decide) (by decide) ?_
    refine sg_goto (pc := 67) (tgt := 29) (dc_X7_isKind_52.2.1.1.2) (by decide) ?_
    refine sg_iload_n (pc := 29) (j := 2) (dc_X7_isKind_28.1.1.1.2) rfl rfl ?_
    refine sg_gets (v := sg_r K) (pc := 30) g (dc_X7_isKind_28.1.1.2.1) z rfl kl_X7_30 ?_
    refine sg_iload_n (pc := 33) (j := 1) (dc_X7_isKind_28.1.1.2.2) rfl rfl ?_
    refine sg_aald (pc := 34) (dc_X7_isKind_28.1.2.1.1) hK (by decide) (by decide) (v := sg_r k4) rfl ?_
    refine sg_alenN (N := 6) (pc := 35) (dc_X7_isKind_28.1.2.1.2) h4.2 (by decide) rfl (by omega) ?_
    refine sg_icmp_ge (pc := 36) (tgt := 70) (dc_X7_isKind_28.1.2.2.1) (by decide) (fun cu => absurd cu (by omega)) (fun cu => ?_)
    refine sg_iload_n (pc := 39) (j := 0) (dc_X7_isKind_28.1.2.2.2) rfl rfl ?_
    refine sg_gets (v := sg_r K) (pc := 40) g (dc_X7_isKind_28.2.1.1.1) z rfl kl_X7_30 ?_
    refine sg_iload_n (pc := 43) (j := 1) (dc_X7_isKind_28.2.1.1.2) rfl rfl ?_
    refine sg_aald (pc := 44) (dc_X7_isKind_28.2.1.2.1) hK (by decide) (by decide) (v := sg_r k4) rfl ?_
    refine sg_iload_n (pc := 45) (j := 2) (dc_X7_isKind_28.2.1.2.2) rfl rfl ?_
    refine sg_iald (pc := 46) (dc_X7_isKind_28.2.2.1.1) h4.2 (by decide) (by decide) (v := sg_i 192) rfl ?_
    refine sg_gets (v := sg_r K) (pc := 47) g (dc_X7_isKind_28.2.2.1.2) z rfl kl_X7_30 ?_
    refine sg_iload_n (pc := 50) (j := 1) (dc_X7_isKind_28.2.2.2.1) rfl rfl ?_
    refine sg_aald (pc := 51) (dc_X7_isKind_28.2.2.2.2) hK (by decide) (by decide) (v := sg_r k4) rfl ?_
    refine sg_iload_n (pc := 52) (j := 2) (dc_X7_isKind_52.1.1.1.1) rfl rfl ?_
    refine sg_iconst (pc := 53) (z := 1) (dc_X7_isKind_52.1.1.1.2) (by decide) ?_
    first | refine sg_iaddB (pc := 54) (dc_X7_isKind_52.1.1.2.1) (by omega) (by omega) ?_ | refine sg_iadd (pc := 54) (dc_X7_isKind_52.1.1.2.1) ?_
    refine sg_iald (pc := 55) (dc_X7_isKind_52.1.1.2.2) h4.2 (by decide) (by decide) (v := sg_i 214) rfl ?_
    refine sg_cS3 (pc := 56) (d' := d - 1) (mc' := 0) (ms' := 0) g (dc_X7_isKind_52.1.2.1.1) cb_X7_isOf ml_X7_22 ms_X7_isOf (Nat.le_of_ble_eq_true rfl) (by first | exact jl_d0 hd rfl | omega) (by first | exact Nat.le_of_ble_eq_true rfl | omega) (by first | exact Nat.le_of_ble_eq_true rfl | omega) ?_
    refine s_X7_isOf g (by first | exact jl_d1 hd rfl | omega) (fun z2 e2 b2 => sg_K1 ?_)
    refine sg_if_eq (pc := 59) (tgt := 64) (dc_X7_isKind_52.1.2.1.2) (by decide) (fun q2 => ?_) (fun q2 => ?_)
    · have r2 : ¬ (192 ≤ x ∧ x ≤ 214) := fun h => by rw [e2] at q2; unfold fn_betw at q2; rw [if_pos h] at q2; exact absurd q2 (by decide)
      first | refine sg_iincB (pc := 64) (dc_X7_isKind_52.2.1.1.1) rfl (by decide) (by decide) (by omega) (by omega) ?_ | refine sg_iinc (pc := 64) (dc_X7_isKind_52.2.1.1.1) rfl (by decide) (by decide) ?_
      refine sg_goto (pc := 67) (tgt := 29) (dc_X7_isKind_52.2.1.1.2) (by decide) ?_
      refine sg_iload_n (pc := 29) (j := 2) (dc_X7_isKind_28.1.1.1.2) rfl rfl ?_
      refine sg_gets (v := sg_r K) (pc := 30) g (dc_X7_isKind_28.1.1.2.1) z rfl kl_X7_30 ?_
      refine sg_iload_n (pc := 33) (j := 1) (dc_X7_isKind_28.1.1.2.2) rfl rfl ?_
      refine sg_aald (pc := 34) (dc_X7_isKind_28.1.2.1.1) hK (by decide) (by decide) (v := sg_r k4) rfl ?_
      refine sg_alenN (N := 6) (pc := 35) (dc_X7_isKind_28.1.2.1.2) h4.2 (by decide) rfl (by omega) ?_
      refine sg_icmp_ge (pc := 36) (tgt := 70) (dc_X7_isKind_28.1.2.2.1) (by decide) (fun cu => absurd cu (by omega)) (fun cu => ?_)
      refine sg_iload_n (pc := 39) (j := 0) (dc_X7_isKind_28.1.2.2.2) rfl rfl ?_
      refine sg_gets (v := sg_r K) (pc := 40) g (dc_X7_isKind_28.2.1.1.1) z rfl kl_X7_30 ?_
      refine sg_iload_n (pc := 43) (j := 1) (dc_X7_isKind_28.2.1.1.2) rfl rfl ?_
      refine sg_aald (pc := 44) (dc_X7_isKind_28.2.1.2.1) hK (by decide) (by decide) (v := sg_r k4) rfl ?_
      refine sg_iload_n (pc := 45) (j := 2) (dc_X7_isKind_28.2.1.2.2) rfl rfl ?_
      refine sg_iald (pc := 46) (dc_X7_isKind_28.2.2.1.1) h4.2 (by decide) (by decide) (v := sg_i 216) rfl ?_
      refine sg_gets (v := sg_r K) (pc := 47) g (dc_X7_isKind_28.2.2.1.2) z rfl kl_X7_30 ?_
      refine sg_iload_n (pc := 50) (j := 1) (dc_X7_isKind_28.2.2.2.1) rfl rfl ?_
      refine sg_aald (pc := 51) (dc_X7_isKind_28.2.2.2.2) hK (by decide) (by decide) (v := sg_r k4) rfl ?_
      refine sg_iload_n (pc := 52) (j := 2) (dc_X7_isKind_52.1.1.1.1) rfl rfl ?_
      refine sg_iconst (pc := 53) (z := 1) (dc_X7_isKind_52.1.1.1.2) (by decide) ?_
      first | refine sg_iaddB (pc := 54) (dc_X7_isKind_52.1.1.2.1) (by omega) (by omega) ?_ | refine sg_iadd (pc := 54) (dc_X7_isKind_52.1.1.2.1) ?_
      refine sg_iald (pc := 55) (dc_X7_isKind_52.1.1.2.2) h4.2 (by decide) (by decide) (v := sg_i 222) rfl ?_
      refine sg_cS3 (pc := 56) (d' := d - 1) (mc' := 0) (ms' := 0) g (dc_X7_isKind_52.1.2.1.1) cb_X7_isOf ml_X7_22 ms_X7_isOf (Nat.le_of_ble_eq_true rfl) (by first | exact jl_d0 hd rfl | omega) (by first | exact Nat.le_of_ble_eq_true rfl | omega) (by first | exact Nat.le_of_ble_eq_true rfl | omega) ?_
      refine s_X7_isOf g (by first | exact jl_d1 hd rfl | omega) (fun z4 e4 b4 => sg_K1 ?_)
      refine sg_if_eq (pc := 59) (tgt := 64) (dc_X7_isKind_52.1.2.1.2) (by decide) (fun q4 => ?_) (fun q4 => ?_)
      · have r4 : ¬ (216 ≤ x ∧ x ≤ 222) := fun h => by rw [e4] at q4; unfold fn_betw at q4; rw [if_pos h] at q4; exact absurd q4 (by decide)
        first | refine sg_iincB (pc := 64) (dc_X7_isKind_52.2.1.1.1) rfl (by decide) (by decide) (by omega) (by omega) ?_ | refine sg_iinc (pc := 64) (dc_X7_isKind_52.2.1.1.1) rfl (by decide) (by decide) ?_
        refine sg_goto (pc := 67) (tgt := 29) (dc_X7_isKind_52.2.1.1.2) (by decide) ?_
        refine sg_iload_n (pc := 29) (j := 2) (dc_X7_isKind_28.1.1.1.2) rfl rfl ?_
        refine sg_gets (v := sg_r K) (pc := 30) g (dc_X7_isKind_28.1.1.2.1) z rfl kl_X7_30 ?_
        refine sg_iload_n (pc := 33) (j := 1) (dc_X7_isKind_28.1.1.2.2) rfl rfl ?_
        refine sg_aald (pc := 34) (dc_X7_isKind_28.1.2.1.1) hK (by decide) (by decide) (v := sg_r k4) rfl ?_
        refine sg_alenN (N := 6) (pc := 35) (dc_X7_isKind_28.1.2.1.2) h4.2 (by decide) rfl (by omega) ?_
        refine sg_icmp_ge (pc := 36) (tgt := 70) (dc_X7_isKind_28.1.2.2.1) (by decide) (fun cu => ?_) (fun cu => absurd cu (by omega))
        refine sg_iconst (pc := 70) (z := 0) (dc_X7_isKind_52.2.1.2.1) (by decide) ?_
        refine sg_zret (pc := 71) (dc_X7_isKind_52.2.1.2.2) rfl (by first | exact Or.inl rfl | exact Or.inr rfl | omega | assumption) (by first | exact Nat.le_of_ble_eq_true rfl | omega) (by first | exact Nat.le_of_ble_eq_true rfl | omega) ?_
        refine hQ _ (by
          rw [fk_4]
          unfold fn_great
          rw [if_neg]
          rintro (h | h | h)
          · exact r0 h
          · exact r2 h
          · exact r4 h) (Or.inl rfl)
      · have r4 : 216 ≤ x ∧ x ≤ 222 := Classical.byContradiction (fun h => q4 (by rw [e4]; unfold fn_betw; rw [if_neg h]))
        refine sg_iconst (pc := 62) (z := 1) (dc_X7_isKind_52.1.2.2.1) (by decide) ?_
        refine sg_zret (pc := 63) (dc_X7_isKind_52.1.2.2.2) rfl (by first | exact Or.inl rfl | exact Or.inr rfl | omega | assumption) (by first | exact Nat.le_of_ble_eq_true rfl | omega) (by first | exact Nat.le_of_ble_eq_true rfl | omega) ?_
        exact hQ _ (by rw [fk_4]; unfold fn_great; rw [if_pos (Or.inr (Or.inr (r4)))]) (Or.inr rfl)
    · have r2 : 192 ≤ x ∧ x ≤ 214 := Classical.byContradiction (fun h => q2 (by rw [e2]; unfold fn_betw; rw [if_neg h]))
      refine sg_iconst (pc := 62) (z := 1) (dc_X7_isKind_52.1.2.2.1) (by decide) ?_
      refine sg_zret (pc := 63) (dc_X7_isKind_52.1.2.2.2) rfl (by first | exact Or.inl rfl | exact Or.inr rfl | omega | assumption) (by first | exact Nat.le_of_ble_eq_true rfl | omega) (by first | exact Nat.le_of_ble_eq_true rfl | omega) ?_
      exact hQ _ (by rw [fk_4]; unfold fn_great; rw [if_pos (Or.inr (Or.inl r2))]) (Or.inr rfl)
  · have r0 : 65 ≤ x ∧ x ≤ 90 := Classical.byContradiction (fun h => q0 (by rw [e0]; unfold fn_betw; rw [if_neg h]))
    refine sg_iconst (pc := 62) (z := 1) (dc_X7_isKind_52.1.2.2.1) (by decide) ?_
    refine sg_zret (pc := 63) (dc_X7_isKind_52.1.2.2.2) rfl (by first | exact Or.inl rfl | exact Or.inr rfl | omega | assumption) (by first | exact Nat.le_of_ble_eq_true rfl | omega) (by first | exact Nat.le_of_ble_eq_true rfl | omega) ?_
    exact hQ _ (by rw [fk_4]; unfold fn_great; rw [if_pos (Or.inl r0)]) (Or.inr rfl)

theorem s_X7_isKind1 {w : sg_W} {Q : sg_O → sg_H → Prop} {h : sg_H} (g : sg_G w) {d : Nat} (hd : 2 ≤ d) {x y : Int} (hk : md_K w h) (y0 : 0 ≤ y) (y1 : y ≤ 4) (y2 : y ≠ 2) (hQ : ∀ z : Int, z = fn_isOf x y → (z = 0 ∨ z = 1) → Q (.inl (some (sg_i z))) h) : sg_C w mi_X7_isKind d 0 0 [sg_i x, sg_i y] h Q := by
  rcases (show y = 0 ∨ y = 1 ∨ y = 3 ∨ y = 4 by omega) with rfl | rfl | rfl | rfl
  · exact s_X7_isKind_0 g hd hk hQ
  · exact s_X7_isKind_1 g hd hk hQ
  · exact s_X7_isKind_3 g hd hk hQ
  · exact s_X7_isKind_4 g hd hk hQ

set_option maxRecDepth 100000 in
theorem s_X7_isKind_2 {w : sg_W} {Q : sg_O → sg_H → Prop} {h : sg_H} (g : sg_G w) {d : Nat} (hd : 3 ≤ d) {x : Int} (hk : md_K w h) (hQ : ∀ z : Int, z = fn_isOf x 2 → (z = 0 ∨ z = 1) → Q (.inl (some (sg_i z))) h) : sg_C w mi_X7_isKind d 0 0 [sg_i x, sg_i 2] h Q := by
  refine sg_of pn_X7 (Nat.le_of_ble_eq_true rfl) ?_
  refine sg_iload_n (pc := 0) (j := 1) (dc_X7_isKind_0.1.1.1.1) rfl rfl ?_
  refine sg_iconst (pc := 1) (z := 2) (dc_X7_isKind_0.1.1.1.2) (by decide) ?_
  refine sg_icmp_ne (pc := 2) (tgt := 27) (dc_X7_isKind_0.1.1.2.1) (by decide) (fun cu => absurd cu (by omega)) (fun cu => ?_)
  refine sg_iload_n (pc := 5) (j := 0) (dc_X7_isKind_0.1.1.2.2) rfl rfl ?_
  refine sg_iconst (pc := 6) (z := 0) (dc_X7_isKind_0.1.2.1.1) (by decide) ?_
  refine sg_cS2 (pc := 7) (d' := d - 1) (mc' := 0) (ms' := 0) g (dc_X7_isKind_0.1.2.1.2) cb_X7_isKind ml_X7_26 ms_X7_isKind (Nat.le_of_ble_eq_true rfl) (by first | exact jl_d0 hd rfl | omega) (by first | exact Nat.le_of_ble_eq_true rfl | omega) (by first | exact Nat.le_of_ble_eq_true rfl | omega) ?_
  refine s_X7_isKind1 g (by first | exact jl_d1 hd rfl | omega) hk (by decide) (by decide) (by decide) (fun z7 e7 b7 => sg_K1 ?_)
  refine sg_if_ne (pc := 10) (tgt := 21) (dc_X7_isKind_0.1.2.2.1) (by decide) (fun c10 => ?_) (fun c10 => ?_)
  · refine sg_iconst (pc := 21) (z := 1) (dc_X7_isKind_0.2.1.2.2) (by decide) ?_
    refine sg_goto (pc := 22) (tgt := 26) (dc_X7_isKind_0.2.2.1.1) (by decide) ?_
    refine sg_zret (pc := 26) (dc_X7_isKind_0.2.2.2.1) rfl (by first | exact Or.inl rfl | exact Or.inr rfl | omega | assumption) (by first | exact Nat.le_of_ble_eq_true rfl | omega) (by first | exact Nat.le_of_ble_eq_true rfl | omega) ?_
    exact hQ _ (by have e1 := fk_0 x; have e2 := fk_1 x; have e3 := fk_2 x; unfold fn_lod at e3; split at e3 <;> omega) (by first | exact Or.inl rfl | exact Or.inr rfl | omega | assumption)
  · refine sg_iload_n (pc := 13) (j := 0) (dc_X7_isKind_0.1.2.2.2) rfl rfl ?_
    refine sg_iconst (pc := 14) (z := 1) (dc_X7_isKind_0.2.1.1.1) (by decide) ?_
    refine sg_cS2 (pc := 15) (d' := d - 1) (mc' := 0) (ms' := 0) g (dc_X7_isKind_0.2.1.1.2) cb_X7_isKind ml_X7_26 ms_X7_isKind (Nat.le_of_ble_eq_true rfl) (by first | exact jl_d0 hd rfl | omega) (by first | exact Nat.le_of_ble_eq_true rfl | omega) (by first | exact Nat.le_of_ble_eq_true rfl | omega) ?_
    refine s_X7_isKind1 g (by first | exact jl_d1 hd rfl | omega) hk (by decide) (by decide) (by decide) (fun z15 e15 b15 => sg_K1 ?_)
    refine sg_if_eq (pc := 18) (tgt := 25) (dc_X7_isKind_0.2.1.2.1) (by decide) (fun c18 => ?_) (fun c18 => ?_)
    · refine sg_iconst (pc := 25) (z := 0) (dc_X7_isKind_0.2.2.1.2) (by decide) ?_
      refine sg_zret (pc := 26) (dc_X7_isKind_0.2.2.2.1) rfl (by first | exact Or.inl rfl | exact Or.inr rfl | omega | assumption) (by first | exact Nat.le_of_ble_eq_true rfl | omega) (by first | exact Nat.le_of_ble_eq_true rfl | omega) ?_
      exact hQ _ (by have e1 := fk_0 x; have e2 := fk_1 x; have e3 := fk_2 x; unfold fn_lod at e3; split at e3 <;> omega) (by first | exact Or.inl rfl | exact Or.inr rfl | omega | assumption)
    · refine sg_iconst (pc := 21) (z := 1) (dc_X7_isKind_0.2.1.2.2) (by decide) ?_
      refine sg_goto (pc := 22) (tgt := 26) (dc_X7_isKind_0.2.2.1.1) (by decide) ?_
      refine sg_zret (pc := 26) (dc_X7_isKind_0.2.2.2.1) rfl (by first | exact Or.inl rfl | exact Or.inr rfl | omega | assumption) (by first | exact Nat.le_of_ble_eq_true rfl | omega) (by first | exact Nat.le_of_ble_eq_true rfl | omega) ?_
      exact hQ _ (by have e1 := fk_0 x; have e2 := fk_1 x; have e3 := fk_2 x; unfold fn_lod at e3; split at e3 <;> omega) (by first | exact Or.inl rfl | exact Or.inr rfl | omega | assumption)

theorem s_X7_isKind {w : sg_W} {Q : sg_O → sg_H → Prop} {h : sg_H} (g : sg_G w) {d : Nat} (hd : 3 ≤ d) {x y : Int} (hk : md_K w h) (y0 : 0 ≤ y) (y1 : y ≤ 4) (hQ : ∀ z : Int, z = fn_isOf x y → (z = 0 ∨ z = 1) → Q (.inl (some (sg_i z))) h) : sg_C w mi_X7_isKind d 0 0 [sg_i x, sg_i y] h Q := by
  by_cases c : y = 2
  · subst c
    exact s_X7_isKind_2 g hd hk hQ
  · exact s_X7_isKind1 g (by first | exact jl_d1 hd rfl | omega) hk y0 y1 c hQ

set_option maxRecDepth 100000 in
theorem s_X7_lowerOf {w : sg_W} {Q : sg_O → sg_H → Prop} {h : sg_H} (g : sg_G w) {d : Nat} (hd : 4 ≤ d) {x : Int} (hk : md_K w h) (hQ : ∀ z : Int, z = fn_lower x → Q (.inl (some (sg_i z))) h) : sg_C w mi_X7_lowerOf d 0 0 [sg_i x] h Q := by
  refine sg_of pn_X7 (Nat.le_of_ble_eq_true rfl) ?_
  refine sg_iload_n (pc := 0) (j := 0) (dc_X7_lowerOf_0.1.1.1.1) rfl rfl ?_
  refine sg_iconst (pc := 1) (z := 4) (dc_X7_lowerOf_0.1.1.1.2) (by decide) ?_
  refine sg_cS2 (pc := 2) (d' := d - 1) (mc' := 0) (ms' := 0) g (dc_X7_lowerOf_0.1.1.2.1) cb_X7_isKind ml_X7_26 ms_X7_isKind (Nat.le_of_ble_eq_true rfl) (by first | exact jl_d0 hd rfl | omega) (by first | exact Nat.le_of_ble_eq_true rfl | omega) (by first | exact Nat.le_of_ble_eq_true rfl | omega) ?_
  refine s_X7_isKind g (by first | exact jl_d1 hd rfl | omega) (by assumption) (by omega) (by omega) (fun z2 e2 b2 => sg_K1 ?_)
  refine sg_if_eq (pc := 5) (tgt := 15) (dc_X7_lowerOf_0.1.1.2.2) (by decide) (fun c5 => ?_) (fun c5 => ?_)
  · refine sg_iload_n (pc := 15) (j := 0) (dc_X7_lowerOf_0.2.1.1.1) rfl rfl ?_
    refine sg_iret (pc := 16) (dc_X7_lowerOf_0.2.1.1.2) rfl (by first | exact Nat.le_of_ble_eq_true rfl | omega) (by first | exact Nat.le_of_ble_eq_true rfl | omega) ?_
    exact hQ _ (by have e1 := fk_4 x; unfold fn_lower; split <;> omega)
  · have rg : 65 ≤ x ∧ x ≤ 222 := by have e1 := fk_4 x; unfold fn_great at e1; split at e1 <;> omega
    refine sg_iload_n (pc := 8) (j := 0) (dc_X7_lowerOf_0.1.2.1.1) rfl rfl ?_
    refine sg_bipush (pc := 9) (z := 32) (dc_X7_lowerOf_0.1.2.1.2) (by decide) ?_
    first | refine sg_iaddB (pc := 11) (dc_X7_lowerOf_0.1.2.2.1) (by omega) (by omega) ?_ | refine sg_iadd (pc := 11) (dc_X7_lowerOf_0.1.2.2.1) ?_
    refine sg_goto (pc := 12) (tgt := 16) (dc_X7_lowerOf_0.1.2.2.2) (by decide) ?_
    refine sg_iret (pc := 16) (dc_X7_lowerOf_0.2.1.1.2) rfl (by first | exact Nat.le_of_ble_eq_true rfl | omega) (by first | exact Nat.le_of_ble_eq_true rfl | omega) ?_
    exact hQ _ (by have e1 := fk_4 x; unfold fn_lower; split <;> omega)

set_option maxRecDepth 100000 in
theorem s_X7_kindsOf {w : sg_W} {Q : sg_O → sg_H → Prop} {h : sg_H} (g : sg_G w) {d : Nat} (hd : 4 ≤ d) {x : Int} (hk : md_K w h) (hQ : ∀ z : Int, z = fn_kinds x → Q (.inl (some (sg_i z))) h) : sg_C w mi_X7_kindsOf d 0 0 [sg_i x] h Q := by
  refine sg_of pn_X7 (Nat.le_of_ble_eq_true rfl) ?_
  refine sg_iconst (pc := 0) (z := 0) (dc_X7_kindsOf_0.1.1.1.1) (by decide) ?_
  refine sg_istore_n (pc := 1) (j := 1) (dc_X7_kindsOf_0.1.1.1.2) rfl (by decide) ?_
  refine sg_iconst (pc := 2) (z := 0) (dc_X7_kindsOf_0.1.1.2.1) (by decide) ?_
  refine sg_istore_n (pc := 3) (j := 2) (dc_X7_kindsOf_0.1.1.2.2) rfl (by decide) ?_
  have loop4 : ∀ (N : Nat) (k s : Int), ((k = 0 ∧ s = 0) ∨ (k = 1 ∧ s = fn_isOf x 0) ∨ (k = 2 ∧ s = fn_isOf x 0 + 2 * fn_isOf x 1) ∨ (k = 3 ∧ s = fn_isOf x 0 + 2 * fn_isOf x 1 + 4 * fn_isOf x 2) ∨ (k = 4 ∧ s = fn_isOf x 0 + 2 * fn_isOf x 1 + 4 * fn_isOf x 2 + 8 * fn_isOf x 3) ∨ (k = 5 ∧ s = fn_kinds x)) → (5 - k).toNat < N → sg_R w mi_X7_kindsOf d 0 0 Q 4 [(2, sg_i k), (1, sg_i s), (0, sg_i x)] [] h 0 0 := by
    intro N
    induction N with
    | zero => intro k s k0 hm; exact absurd hm (Nat.not_lt_zero _)
    | succ N ih =>
      intro k s k0 hm
      have ls := fk_lsl
      have lz := fk_02 x
      have lq : fn_kinds x = fn_isOf x 0 + 2 * fn_isOf x 1 + 4 * fn_isOf x 2 + 8 * fn_isOf x 3 + 16 * fn_isOf x 4 := rfl
      rcases k0 with ⟨rfl, rfl⟩ | ⟨rfl, rfl⟩ | ⟨rfl, rfl⟩ | ⟨rfl, rfl⟩ | ⟨rfl, rfl⟩ | ⟨rfl, rfl⟩
      all_goals
        refine sg_iload_n (pc := 4) (j := 2) (dc_X7_kindsOf_0.1.2.1.1) rfl rfl ?_
        refine sg_iconst (pc := 5) (z := 5) (dc_X7_kindsOf_0.1.2.1.2) (by decide) ?_
        refine sg_icmp_ge (pc := 6) (tgt := 28) (dc_X7_kindsOf_0.1.2.2.1) (by decide) (fun c6 => ?_) (fun c6 => ?_)
        · refine sg_iload_n (pc := 28) (j := 1) (dc_X7_kindsOf_22.2.1) rfl rfl ?_
          refine sg_iret (pc := 29) (dc_X7_kindsOf_22.2.2) rfl (by first | exact Nat.le_of_ble_eq_true rfl | omega) (by first | exact Nat.le_of_ble_eq_true rfl | omega) ?_
          exact hQ _ (by omega)
        · refine sg_iload_n (pc := 9) (j := 1) (dc_X7_kindsOf_0.1.2.2.2) rfl rfl ?_
          refine sg_iload_n (pc := 10) (j := 0) (dc_X7_kindsOf_0.2.1.1.1) rfl rfl ?_
          refine sg_iload_n (pc := 11) (j := 2) (dc_X7_kindsOf_0.2.1.1.2) rfl rfl ?_
          refine sg_cS2 (pc := 12) (d' := d - 1) (mc' := 0) (ms' := 0) g (dc_X7_kindsOf_0.2.1.2.1) cb_X7_isKind ml_X7_26 ms_X7_isKind (Nat.le_of_ble_eq_true rfl) (by first | exact jl_d0 hd rfl | omega) (by first | exact Nat.le_of_ble_eq_true rfl | omega) (by first | exact Nat.le_of_ble_eq_true rfl | omega) ?_
          refine s_X7_isKind g (by first | exact jl_d1 hd rfl | omega) (by assumption) (by omega) (by omega) (fun z12 e12 b12 => sg_K1 ?_)
          refine sg_cS1 (pc := 15) (d' := d - 1) (mc' := 0) (ms' := 0) g (dc_X7_kindsOf_0.2.1.2.2) cb_X7_one ml_X7_92 ms_X7_one (Nat.le_of_ble_eq_true rfl) (by first | exact jl_d0 hd rfl | omega) (by first | exact Nat.le_of_ble_eq_true rfl | omega) (by first | exact Nat.le_of_ble_eq_true rfl | omega) ?_
          refine s_X7_one g (by first | exact jl_d1 hd rfl | omega) (fun z15 h15 b15 => sg_K1 ?_)
          (try simp only [fm_one] at h15)
          refine sg_iload_n (pc := 18) (j := 2) (dc_X7_kindsOf_0.2.2.1.1) rfl rfl ?_
          have lt := fk_lsa (z := z15) (by omega)
          refine sg_ishl (pc := 19) (dc_X7_kindsOf_0.2.2.1.2) ?_
          first | refine sg_iaddB (pc := 20) (dc_X7_kindsOf_0.2.2.2.1) (by omega) (by omega) ?_ | refine sg_iadd (pc := 20) (dc_X7_kindsOf_0.2.2.2.1) ?_
          refine sg_istore_n (pc := 21) (j := 1) (dc_X7_kindsOf_0.2.2.2.2) rfl (by decide) ?_
          first | refine sg_iincB (pc := 22) (dc_X7_kindsOf_22.1.1) rfl (by decide) (by decide) (by omega) (by omega) ?_ | refine sg_iinc (pc := 22) (dc_X7_kindsOf_22.1.1) rfl (by decide) (by decide) ?_
          refine sg_goto (pc := 25) (tgt := 4) (dc_X7_kindsOf_22.1.2) (by decide) ?_
          refine sg_lsub (lv' := [(2, _), (1, _), (0, _)]) ⟨rfl, rfl, rfl, trivial⟩ ?_
          exact ih _ _ (by first | exact Or.inr (Or.inl ⟨by decide, by omega⟩) | exact Or.inr (Or.inr (Or.inl ⟨by decide, by omega⟩)) | exact Or.inr (Or.inr (Or.inr (Or.inl ⟨by decide, by omega⟩))) | exact Or.inr (Or.inr (Or.inr (Or.inr (Or.inl ⟨by decide, by omega⟩)))) | exact Or.inr (Or.inr (Or.inr (Or.inr (Or.inr ⟨by decide, by omega⟩)))) | omega) (by first | exact jl_m1 hm (by omega) | exact jl_m2 hm (by omega) | omega)
  refine sg_lsub (lv' := [(2, _), (1, _), (0, _)]) ⟨rfl, rfl, rfl, trivial⟩ ?_
  exact loop4 _ _ _ (by omega) (Nat.lt_succ_self _)

