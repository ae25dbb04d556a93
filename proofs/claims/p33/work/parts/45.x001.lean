set_option maxRecDepth 100000 in
set_option maxHeartbeats 1000000 in
theorem s_X7_isKind_1 {w : sg_W} {Q : sg_O → sg_H → Prop} {h : sg_H} (g : sg_G w) {d : Nat} (hd : 2 ≤ d) {x : Int} (hk : md_K w h) (hQ : ∀ z : Int, z = fn_isOf x 1 → (z = 0 ∨ z = 1) → Q (.inl (some (sg_i z))) h) : sg_C w mi_X7_isKind d 0 0 [sg_i x, sg_i 1] h Q := by
  refine sg_of pn_X7 (Nat.le_of_ble_eq_true rfl) ?_
  obtain ⟨K, k0, k1, k2, k3, k4, z, l, hK, h0, h1, h2, h3, h4⟩ := hk.1
  refine sg_iload_n (pc := 0) (j := 1) (dc_X7_isKind_0.1.1.1.1) rfl rfl ?_
  refine sg_iconst (pc := 1) (z := 2) (dc_X7_isKind_0.1.1.1.2) (by decide) ?_
  refine sg_icmp_ne (pc := 2) (tgt := 27) (dc_X7_isKind_0.1.1.2.1) (by decide) (fun cu => ?_) (fun cu => absurd cu (by omega))
  refine sg_iconst (pc := 27) (z := 0) (dc_X7_isKind_0.2.2.2.2) (by decide) ?_
  refine sg_istore_n (pc := 28) (j := 2) (dc_X7_isKind_28.1.1.1.1) rfl (by decide) ?_
  refine sg_iload_n (pc := 29) (j := 2) (dc_X7_isKind_28.1.1.1.2) rfl rfl ?_
  refine sg_gets (v := sg_r K) (pc := 30) g (dc_X7_isKind_28.1.1.2.1) z rfl kl_X7_30 ?_
  refine sg_iload_n (pc := 33) (j := 1) (dc_X7_isKind_28.1.1.2.2) rfl rfl ?_
  refine sg_aald (pc := 34) (dc_X7_isKind_28.1.2.1.1) hK (by decide) (by decide) (v := sg_r k1) rfl ?_
  refine sg_alenN (N := 16) (pc := 35) (dc_X7_isKind_28.1.2.1.2) h1.2 (by decide) rfl (by omega) ?_
  refine sg_icmp_ge (pc := 36) (tgt := 70) (dc_X7_isKind_28.1.2.2.1) (by decide) (fun cu => absurd cu (by omega)) (fun cu => ?_)
  refine sg_iload_n (pc := 39) (j := 0) (dc_X7_isKind_28.1.2.2.2) rfl rfl ?_
  refine sg_gets (v := sg_r K) (pc := 40) g (dc_X7_isKind_28.2.1.1.1) z rfl kl_X7_30 ?_
  refine sg_iload_n (pc := 43) (j := 1) (dc_X7_isKind_28.2.1.1.2) rfl rfl ?_
  refine sg_aald (pc := 44) (dc_X7_isKind_28.2.1.2.1) hK (by decide) (by decide) (v := sg_r k1) rfl ?_
  refine sg_iload_n (pc := 45) (j := 2) (dc_X7_isKind_28.2.1.2.2) rfl rfl ?_
  refine sg_iald (pc := 46) (dc_X7_isKind_28.2.2.1.1) h1.2 (by decide) (by decide) (v := sg_i 65) rfl ?_
  refine sg_gets (v := sg_r K) (pc := 47) g (dc_X7_isKind_28.2.2.1.2) z rfl kl_X7_30 ?_
  refine sg_iload_n (pc := 50) (j := 1) (dc_X7_isKind_28.2.2.2.1) rfl rfl ?_
  refine sg_aald (pc := 51) (dc_X7_isKind_28.2.2.2.2) hK (by decide) (by decide) (v := sg_r k1) rfl ?_
  refine sg_iload_n (pc := 52) (j := 2) (dc_X7_isKind_52.1.1.1.1) rfl rfl ?_
  refine sg_iconst (pc := 53) (z := 1) (dc_X7_isKind_52.1.1.1.2) (by decide) ?_
  first | refine sg_iaddB (pc := 54) (dc_X7_isKind_52.1.1.2.1) (by omega) (by omega) ?_ | refine sg_iadd (pc := 54) (dc_X7_isKind_52.1.1.2.1) ?_
  refine sg_iald (pc := 55) (dc_X7_isKind_52.1.1.2.2) h1.2 (by decide) (by decide) (v := sg_i 90) rfl ?_
  refine sg_cS3 (pc := 56) (d' := d - 1) (mc' := 0) (ms' := 0) g (dc_X7_isKind_52.1.2.1.1) cb_X7_isOf ml_X7_22 ms_X7_isOf (Nat.le_of_ble_eq_true rfl) (by first | exact jl_d0 hd rfl | omega) (by first | exact Nat.le_of_ble_eq_true rfl | omega) (by first | exact Nat.le_of_ble_eq_true rfl | omega) ?_
  refine s_X7_isOf g (by first | exact jl_d1 hd rfl | omega) (fun z0 e0 b0 => sg_K1 ?_)
  refine sg_if_eq (pc := 59) (tgt := 64) (dc_X7_isKind_52.1.2.1.2) (by decide) (fun q0 => ?_) (fun q0 => ?_)
  · have r0 : ¬ (65 ≤ x ∧ x ≤ 90) := fun h => by rw [e0] at q0; unfold fn_betw at q0; rw [if_pos h] at q0; exact absurd q0 (by decide)
    first | refine sg_iincB (pc := 64) (dc_X7_isKind_52.2.1.1.1) rfl (by decide) (by decide) (by omega) (by omega) ?_ | refine sg_iinc (pc := 64) (dc_X7_isKind_52.2.1.1.1) rfl (by decide) (by decide) ?_
    refine sg_goto (pc := 67) (tgt := 29) (dc_X7_isKind_52.2.1.1.2) (by decide) ?_
    refine sg_iload_n (pc := 29) (j := 2) (dc_X7_isKind_28.1.1.1.2) rfl rfl ?_
    refine sg_gets (v := sg_r K) (pc := 30) g (dc_X7_isKind_28.1.1.2.1) z rfl kl_X7_30 ?_
    refine sg_iload_n (pc := 33) (j := 1) (dc_X7_isKind_28.1.1.2.2) rfl rfl ?_
    refine sg_aald (pc := 34) (dc_X7_isKind_28.1.2.1.1) hK (by decide) (by decide) (v := sg_r k1) rfl ?_
    refine sg_alenN (N := 16) (pc := 35) (dc_X7_isKind_28.1.2.1.2) h1.2 (by decide) rfl (by omega) ?_
    refine sg_icmp_ge (pc := 36) (tgt := 70) (dc_X7_isKind_28.1.2.2.1) (by decide) (fun cu => absurd cu (by omega)) (fun cu => ?_)
    refine sg_iload_n (pc := 39) (j := 0) (dc_X7_isKind_28.1.2.2.2) rfl rfl ?_
    refine sg_gets (v := sg_r K) (pc := 40) g (dc_X7_isKind_28.2.1.1.1) z rfl kl_X7_30 ?_
    refine sg_iload_n (pc := 43) (j := 1) (dc_X7_isKind_28.2.1.1.2) rfl rfl ?_
    refine sg_aald (pc := 44) (dc_X7_isKind_28.2.1.2.1) hK (by decide) (by decide) (v := sg_r k1) rfl ?_
    refine sg_iload_n (pc := 45) (j := 2) (dc_X7_isKind_28.2.1.2.2) rfl rfl ?_
    refine sg_iald (pc := 46) (dc_X7_isKind_28.2.2.1.1) h1.2 (by decide) (by decide) (v := sg_i 97) rfl ?_
    refine sg_gets (v := sg_r K) (pc := 47) g (dc_X7_isKind_28.2.2.1.2) z rfl kl_X7_30 ?_
    refine sg_iload_n (pc := 50) (j := 1) (dc_X7_isKind_28.2.2.2.1) rfl rfl ?_
    refine sg_aald (pc := 51) (dc_X7_isKind_28.2.2.2.2) hK (by decide) (by decide) (v := sg_r k1) rfl ?_
    refine sg_iload_n (pc := 52) (j := 2) (dc_X7_isKind_52.1.1.1.1) rfl rfl ?_
    refine sg_iconst (pc := 53) (z := 1) (dc_X7_isKind_52.1.1.1.2) (by decide) ?_
    first | refine sg_iaddB (pc := 54) (dc_X7_isKind_52.1.1.2.1) (by omega) (by omega) ?_ | refine sg_iadd (pc := 54) (dc_X7_isKind_52.1.1.2.1) ?_
    refine sg_iald (pc := 55) (dc_X7_isKind_52.1.1.2.2) h1.2 (by decide) (by decide) (v := sg_i 122) rfl ?_
    refine sg_cS3 (pc := 56) (d' := d - 1) (mc' := 0) (ms' := 0) g (dc_X7_isKind_52.1.2.1.1) cb_X7_isOf ml_X7_22 ms_X7_isOf (Nat.le_of_ble_eq_true rfl) (by first | exact jl_d0 hd rfl | omega) (by first | exact Nat.le_of_ble_eq_true rfl | omega) (by first | exact Nat.le_of_ble_eq_true rfl | omega) ?_
    refine s_X7_isOf g (by first | exact jl_d1 hd rfl | omega) (fun z2 e2 b2 => sg_K1 ?_)
    refine sg_if_eq (pc := 59) (tgt := 64) (dc_X7_isKind_52.1.2.1.2) (by decide) (fun q2 => ?_) (fun q2 => ?_)
    · have r2 : ¬ (97 ≤ x ∧ x ≤ 122) := fun h => by rw [e2] at q2; unfold fn_betw at q2; rw [if_pos h] at q2; exact absurd q2 (by decide)
      first | refine sg_iincB (pc := 64) (dc_X7_isKind_52.2.1.1.1) rfl (by decide) (by decide) (by omega) (by omega) ?_ | refine sg_iinc (pc := 64) (dc_X7_isKind_52.2.1.1.1) rfl (by decide) (by decide) ?_
      refine sg_goto (pc := 67) (tgt := 29) (dc_X7_isKind_52.2.1.1.2) (by decide) ?_
      refine sg_iload_n (pc := 29) (j := 2) (dc_X7_isKind_28.1.1.1.2) rfl rfl ?_
      refine sg_gets (v := sg_r K) (pc := 30) g (dc_X7_isKind_28.1.1.2.1) z rfl kl_X7_30 ?_
      refine sg_iload_n (pc := 33) (j := 1) (dc_X7_isKind_28.1.1.2.2) rfl rfl ?_
      refine sg_aald (pc := 34) (dc_X7_isKind_28.1.2.1.1) hK (by decide) (by decide) (v := sg_r k1) rfl ?_
      refine sg_alenN (N := 16) (pc := 35) (dc_X7_isKind_28.1.2.1.2) h1.2 (by decide) rfl (by omega) ?_
      refine sg_icmp_ge (pc := 36) (tgt := 70) (dc_X7_isKind_28.1.2.2.1) (by decide) (fun cu => absurd cu (by omega)) (fun cu => ?_)
      refine sg_iload_n (pc := 39) (j := 0) (dc_X7_isKind_28.1.2.2.2) rfl rfl ?_
      refine sg_gets (v := sg_r K) (pc := 40) g (dc_X7_isKind_28.2.1.1.1) z rfl kl_X7_30 ?_
      refine sg_iload_n (pc := 43) (j := 1) (dc_X7_isKind_28.2.1.1.2) rfl rfl ?_
      refine sg_aald (pc := 44) (dc_X7_isKind_28.2.1.2.1) hK (by decide) (by decide) (v := sg_r k1) rfl ?_
      refine sg_iload_n (pc := 45) (j := 2) (dc_X7_isKind_28.2.1.2.2) rfl rfl ?_
      refine sg_iald (pc := 46) (dc_X7_isKind_28.2.2.1.1) h1.2 (by decide) (by decide) (v := sg_i 170) rfl ?_
      refine sg_gets (v := sg_r K) (pc := 47) g (dc_X7_isKind_28.2.2.1.2) z rfl kl_X7_30 ?_
      refine sg_iload_n (pc := 50) (j := 1) (dc_X7_isKind_28.2.2.2.1) rfl rfl ?_
      refine sg_aald (pc := 51) (dc_X7_isKind_28.2.2.2.2) hK (by decide) (by decide) (v := sg_r k1) rfl ?_
      refine sg_iload_n (pc := 52) (j := 2) (dc_X7_isKind_52.1.1.1.1) rfl rfl ?_
      refine sg_iconst (pc := 53) (z := 1) (dc_X7_isKind_52.1.1.1.2) (by decide) ?_
      first | refine sg_iaddB (pc := 54) (dc_X7_isKind_52.1.1.2.1) (by omega) (by omega) ?_ | refine sg_iadd (pc := 54) (dc_X7_isKind_52.1.1.2.1) ?_
      refine sg_iald (pc := 55) (dc_X7_isKind_52.1.1.2.2) h1.2 (by decide) (by decide) (v := sg_i 170) rfl ?_
      refine sg_cS3 (pc := 56) (d' := d - 1) (mc' := 0) (ms' := 0) g (dc_X7_isKind_52.1.2.1.1) cb_X7_isOf ml_X7_22 ms_X7_isOf (Nat.le_of_ble_eq_true rfl) (by first | exact jl_d0 hd rfl | omega) (by first | exact Nat.le_of_ble_eq_true rfl | omega) (by first | exact Nat.le_of_ble_eq_true rfl | omega) ?_
      refine s_X7_isOf g (by first | exact jl_d1 hd rfl | omega) (fun z4 e4 b4 => sg_K1 ?_)
      refine sg_if_eq (pc := 59) (tgt := 64) (dc_X7_isKind_52.1.2.1.2) (by decide) (fun q4 => ?_) (fun q4 => ?_)
      · have r4 : ¬ (170 ≤ x ∧ x ≤ 170) := fun h => by rw [e4] at q4; unfold fn_betw at q4; rw [if_pos h] at q4; exact absurd q4 (by decide)
        first | refine sg_iincB (pc := 64) (dc_X7_isKind_52.2.1.1.1) rfl (by decide) (by decide) (by omega) (by omega) ?_ | refine sg_iinc (pc := 64) (dc_X7_isKind_52.2.1.1.1) rfl (by decide) (by decide) ?_
        refine sg_goto (pc := 67) (tgt := 29) (dc_X7_isKind_52.2.1.1.2) (by decide) ?_
        refine sg_iload_n (pc := 29) (j := 2) (dc_X7_isKind_28.1.1.1.2) rfl rfl ?_
        refine sg_gets (v := sg_r K) (pc := 30) g (dc_X7_isKind_28.1.1.2.1) z rfl kl_X7_30 ?_
        refine sg_iload_n (pc := 33) (j := 1) (dc_X7_isKind_28.1.1.2.2) rfl rfl ?_
        refine sg_aald (pc := 34) (dc_X7_isKind_28.1.2.1.1) hK (by decide) (by decide) (v := sg_r k1) rfl ?_
        refine sg_alenN (N := 16) (pc := 35) (dc_X7_isKind_28.1.2.1.2) h1.2 (by decide) rfl (by omega) ?_
        refine sg_icmp_ge (pc := 36) (tgt := 70) (dc_X7_isKind_28.1.2.2.1) (by decide) (fun cu => absurd cu (by omega)) (fun cu => ?_)
        refine sg_iload_n (pc := 39) (j := 0) (dc_X7_isKind_28.1.2.2.2) rfl rfl ?_
        refine sg_gets (v := sg_r K) (pc := 40) g (dc_X7_isKind_28.2.1.1.1) z rfl kl_X7_30 ?_
        refine sg_iload_n (pc := 43) (j := 1) (dc_X7_isKind_28.2.1.1.2) rfl rfl ?_
        refine sg_aald (pc := 44) (dc_X7_isKind_28.2.1.2.1) hK (by decide) (by decide) (v := sg_r k1) rfl ?_
        refine sg_iload_n (pc := 45) (j := 2) (dc_X7_isKind_28.2.1.2.2) rfl rfl ?_
        refine sg_iald (pc := 46) (dc_X7_isKind_28.2.2.1.1) h1.2 (by decide) (by decide) (v := sg_i 181) rfl ?_
        refine sg_gets (v := sg_r K) (pc := 47) g (dc_X7_isKind_28.2.2.1.2) z rfl kl_X7_30 ?_
        refine sg_iload_n (pc := 50) (j := 1) (dc_X7_isKind_28.2.2.2.1) rfl rfl ?_
        refine sg_aald (pc := 51) (dc_X7_isKind_28.2.2.2.2) hK (by decide) (by decide) (v := sg_r k1) rfl ?_
        refine sg_iload_n (pc := 52) (j := 2) (dc_X7_isKind_52.1.1.1.1) rfl rfl ?_
        refine sg_iconst (pc := 53) (z := 1) (dc_X7_isKind_52.1.1.1.2) (by decide) ?_
        first | refine sg_iaddB (pc := 54) (dc_X7_isKind_52.1.1.2.1) (by omega) (by omega) ?_ | refine sg_iadd (pc := 54) (dc_X7_isKind_52.1.1.2.1) ?_
        refine sg_iald (pc := 55) (dc_X7_isKind_52.1.1.2.2) h1.2 (by decide) (by decide) (v := sg_i 181) rfl ?_
        refine sg_cS3 (pc := 56) (d' := d - 1) (mc' := 0) (ms' := 0) g (dc_X7_isKind_52.1.2.1.1) cb_X7_isOf ml_X7_22 ms_X7_isOf (Nat.le_of_ble_eq_true rfl) (by first | exact jl_d0 hd rfl | omega) (by first | exact Nat.le_of_ble_eq_true rfl | omega) (by first | exact Nat.le_of_ble_eq_true rfl | omega) ?_
        refine s_X7_isOf g (by first | exact jl_d1 hd rfl | omega) (fun z6 e6 b6 => sg_K1 ?_)
        refine sg_if_eq (pc := 59) (tgt := 64) (dc_X7_isKind_52.1.2.1.2) (by decide) (fun q6 => ?_) (fun q6 => ?_)
        · have r6 : ¬ (181 ≤ x ∧ x ≤ 181) := fun h => by rw [e6] at q6; unfold fn_betw at q6; rw [if_pos h] at q6; exact absurd q6 (by decide)
          first | refine sg_iincB (pc := 64) (dc_X7_isKind_52.2.1.1.1) rfl (by decide) (by decide) (by omega) (by omega) ?_ | refine sg_iinc (pc := 64) (dc_X7_isKind_52.2.1.1.1) rfl (by decide) (by decide) ?_
          refine sg_goto (pc := 67) (tgt := 29) (dc_X7_isKind_52.2.1.1.2) (by decide) ?_
          refine sg_iload_n (pc := 29) (j := 2) (dc_X7_isKind_28.1.1.1.2) rfl rfl ?_
          refine sg_gets (v := sg_r K) (pc := 30) g (dc_X7_isKind_28.1.1.2.1) z rfl kl_X7_30 ?_
          refine sg_iload_n (pc := 33) (j := 1) (dc_X7_isKind_28.1.1.2.2) rfl rfl ?_
          refine sg_aald (pc := 34) (dc_X7_isKind_28.1.2.1.1) hK (by decide) (by decide) (v := sg_r k1) rfl ?_
          refine sg_alenN (N := 16) (pc := 35) (dc_X7_isKind_28.1.2.1.2) h1.2 (by decide) rfl (by omega) ?_
          refine sg_icmp_ge (pc := 36) (tgt := 70) (dc_X7_isKind_28.1.2.2.1) (by decide) (fun cu => absurd cu (by omega)) (fun cu => ?_)
          refine sg_iload_n (pc := 39) (j := 0) (dc_X7_isKind_28.1.2.2.2) rfl rfl ?_
          refine sg_gets (v := sg_r K) (pc := 40) g (dc_X7_isKind_28.2.1.1.1) z rfl kl_X7_30 ?_
          refine sg_iload_n (pc := 43) (j := 1) (dc_X7_isKind_28.2.1.1.2) rfl rfl ?_
          refine sg_aald (pc := 44) (dc_X7_isKind_28.2.1.2.1) hK (by decide) (by decide) (v := sg_r k1) rfl ?_
          refine sg_iload_n (pc := 45) (j := 2) (dc_X7_isKind_28.2.1.2.2) rfl rfl ?_
          refine sg_iald (pc := 46) (dc_X7_isKind_28.2.2.1.1) h1.2 (by decide) (by decide) (v := sg_i 186) rfl ?_
          refine sg_gets (v := sg_r K) (pc := 47) g (dc_X7_isKind_28.2.2.1.2) z rfl kl_X7_30 ?_
          refine sg_iload_n (pc := 50) (j := 1) (dc_X7_isKind_28.2.2.2.1) rfl rfl ?_
          refine sg_aald (pc := 51) (dc_X7_isKind_28.2.2.2.2) hK (by decide) (by decide) (v := sg_r k1) rfl ?_
          refine sg_iload_n (pc := 52) (j := 2) (dc_X7_isKind_52.1.1.1.1) rfl rfl ?_
          refine sg_iconst (pc := 53) (z := 1) (dc_X7_isKind_52.1.1.1.2) (by decide) ?_
          first | refine sg_iaddB (pc := 54) (dc_X7_isKind_52.1.1.2.1) (by omega) (by omega) ?_ | refine sg_iadd (pc := 54) (dc_X7_isKind_52.1.1.2.1) ?_
          refine sg_iald (pc := 55) (dc_X7_isKind_52.1.1.2.2) h1.2 (by decide) (by decide) (v := sg_i 186) rfl ?_
          refine sg_cS3 (pc := 56) (d' := d - 1) (mc' := 0) (ms' := 0) g (dc_X7_isKind_52.1.2.1.1) cb_X7_isOf ml_X7_22 ms_X7_isOf (Nat.le_of_ble_eq_true rfl) (by first | exact jl_d0 hd rfl | omega) (by first | exact Nat.le_of_ble_eq_true rfl | omega) (by first | exact Nat.le_of_ble_eq_true rfl | omega) ?_
          refine s_X7_isOf g (by first | exact jl_d1 hd rfl | omega) (fun z8 e8 b8 => sg_K1 ?_)
          refine sg_if_eq (pc := 59) (tgt := 64) (dc_X7_isKind_52.1.2.1.2) (by decide) (fun q8 => ?_) (fun q8 => ?_)
          · have r8 : ¬ (186 ≤ x ∧ x ≤ 186) := fun h => by rw [e8] at q8; unfold fn_betw at q8; rw [if_pos h] at q8; exact absurd q8 (by decide)
            first | refine sg_iincB (pc := 64) (dc_X7_isKind_52.2.1.1.1) rfl (by decide) (by decide) (by omega) (by omega) ?_ | refine sg_iinc (pc := 64) (dc_X7_isKind_52.2.1.1.1) rfl (by decide) (by decide) ?_
            refine sg_goto (pc := 67) (tgt := 29) (dc_X7_isKind_52.2.1.1.2) (by decide) ?_
            refine sg_iload_n (pc := 29) (j := 2) (dc_X7_isKind_28.1.1.1.2) rfl rfl ?_
            refine sg_gets (v := sg_r K) (pc := 30) g (dc_X7_isKind_28.1.1.2.1) z rfl kl_X7_30 ?_
            refine sg_iload_n (pc := 33) (j := 1) (dc_X7_isKind_28.1.1.2.2) rfl rfl ?_
            refine sg_aald (pc := 34) (dc_X7_isKind_28.1.2.1.1) hK (by decide) (by decide) (v := sg_r k1) rfl ?_
            refine sg_alenN (N := 16) (pc := 35) (dc_X7_isKind_28.1.2.1.2) h1.2 (by decide) rfl (by omega) ?_
            refine sg_icmp_ge (pc := 36) (tgt := 70) (dc_X7_isKind_28.1.2.2.1) (by decide) (fun cu => absurd cu (by omega)) (fun cu => ?_)
            refine sg_iload_n (pc := 39) (j := 0) (dc_X7_isKind_28.1.2.2.2) rfl rfl ?_
            refine sg_gets (v := sg_r K) (pc := 40) g (dc_X7_isKind_28.2.1.1.1) z rfl kl_X7_30 ?_
            refine sg_iload_n (pc := 43) (j := 1) (dc_X7_isKind_28.2.1.1.2) rfl rfl ?_
            refine sg_aald (pc := 44) (dc_X7_isKind_28.2.1.2.1) hK (by decide) (by decide) (v := sg_r k1) rfl ?_
            refine sg_iload_n (pc := 45) (j := 2) (dc_X7_isKind_28.2.1.2.2) rfl rfl ?_
            refine sg_iald (pc := 46) (dc_X7_isKind_28.2.2.1.1) h1.2 (by decide) (by decide) (v := sg_i 192) rfl ?_
            refine sg_gets (v := sg_r K) (pc := 47) g (dc_X7_isKind_28.2.2.1.2) z rfl kl_X7_30 ?_
            refine sg_iload_n (pc := 50) (j := 1) (dc_X7_isKind_28.2.2.2.1) rfl rfl ?_
            refine sg_aald (pc := 51) (dc_X7_isKind_28.2.2.2.2) hK (by decide) (by decide) (v := sg_r k1) rfl ?_
            refine sg_iload_n (pc := 52) (j := 2) (dc_X7_isKind_52.1.1.1.1) rfl rfl ?_
            refine sg_iconst (pc := 53) (z := 1) (dc_X7_isKind_52.1.1.1.2) (by decide) ?_
            first | refine sg_iaddB (pc := 54) (dc_X7_isKind_52.1.1.2.1) (by omega) (by omega) ?_ | refine sg_iadd (pc := 54) (dc_X7_isKind_52.1.1.2.1) ?_
            refine sg_iald (pc := 55) (dc_X7_isKind_52.1.1.2.2) h1.2 (by decide) (by decide) (v := sg_i 214) rfl ?_
            refine sg_cS3 (pc := 56) (d' := d - 1) (mc' := 0) (ms' := 0) g (dc_X7_isKind_52.1.2.1.1) cb_X7_isOf ml_X7_22 ms_X7_isOf (Nat.le_of_ble_eq_true rfl) (by first | exact jl_d0 hd rfl | omega) (by first | exact Nat.le_of_ble_eq_true rfl | omega) (by first | exact Nat.le_of_ble_eq_true rfl | omega) ?_
            refine s_X7_isOf g (by first | exact jl_d1 hd rfl | omega) (fun z10 e10 b10 => sg_K1 ?_)
            refine sg_if_eq (pc := 59) (tgt := 64) (dc_X7_isKind_52.1.2.1.2) (by decide) (fun q10 => ?_) (fun q10 => ?_)
            · have r10 : ¬ (192 ≤ x ∧ x ≤ 214) := fun h => by rw [e10] at q10; unfold fn_betw at q10; rw [if_pos h] at q10; exact absurd q10 (by decide)
              first | refine sg_iincB (pc := 64) (dc_X7_isKind_52.2.1.1.1) rfl (by decide) (by decide) (by omega) (by omega) ?_ | refine sg_iinc (pc := 64) (dc_X7_isKind_52.2.1.1.1) rfl (by decide) (by decide) ?_
              refine sg_goto (pc := 67) (tgt := 29) (dc_X7_isKind_52.2.1.1.2) (by decide) ?_
              refine sg_iload_n (pc := 29) (j := 2) (dc_X7_isKind_28.1.1.1.2) rfl rfl ?_
              refine sg_gets (v := sg_r K) (pc := 30) g (dc_X7_isKind_28.1.1.2.1) z rfl kl_X7_30 ?_
              refine sg_iload_n (pc := 33) (j := 1) (dc_X7_isKind_28.1.1.2.2) rfl rfl ?_
              refine sg_aald (pc := 34) (dc_X7_isKind_28.1.2.1.1) hK (by decide) (by decide) (v := sg_r k1) rfl ?_
              refine sg_alenN (N := 16) (pc := 35) (dc_X7_isKind_28.1.2.1.2) h1.2 (by decide) rfl (by omega) ?_
              refine sg_icmp_ge (pc := 36) (tgt := 70) (dc_X7_isKind_28.1.2.2.1) (by decide) (fun cu => absurd cu (by omega)) (fun cu => ?_)
              refine sg_iload_n (pc := 39) (j := 0) (dc_X7_isKind_28.1.2.2.2) rfl rfl ?_
              refine sg_gets (v := sg_r K) (pc := 40) g (dc_X7_isKind_28.2.1.1.1) z rfl kl_X7_30 ?_
              refine sg_iload_n (pc := 43) (j := 1) (dc_X7_isKind_28.2.1.1.2) rfl rfl ?_
              refine sg_aald (pc := 44) (dc_X7_isKind_28.2.1.2.1) hK (by decide) (by decide) (v := sg_r k1) rfl ?_
              refine sg_iload_n (pc := 45) (j := 2) (dc_X7_isKind_28.2.1.2.2) rfl rfl ?_
              refine sg_iald (pc := 46) (dc_X7_isKind_28.2.2.1.1) h1.2 (by decide) (by decide) (v := sg_i 216) rfl ?_
              refine sg_gets (v := sg_r K) (pc := 47) g (dc_X7_isKind_28.2.2.1.2) z rfl kl_X7_30 ?_
              refine sg_iload_n (pc := 50) (j := 1) (dc_X7_isKind_28.2.2.2.1) rfl rfl ?_
              refine sg_aald (pc := 51) (dc_X7_isKind_28.2.2.2.2) hK (by decide) (by decide) (v := sg_r k1) rfl ?_
              refine sg_iload_n (pc := 52) (j := 2) (dc_X7_isKind_52.1.1.1.1) rfl rfl ?_
              refine sg_iconst (pc := 53) (z := 1) (dc_X7_isKind_52.1.1.1.2) (by decide) ?_
              first | refine sg_iaddB (pc := 54) (dc_X7_isKind_52.1.1.2.1) (by omega) (by omega) ?_ | refine sg_iadd (pc := 54) (dc_X7_isKind_52.1.1.2.1) ?_
              refine sg_iald (pc := 55) (dc_X7_isKind_52.1.1.2.2) h1.2 (by decide) (by decide) (v := sg_i 246) rfl ?_
              refine sg_cS3 (pc := 56) (d' := d - 1) (mc' := 0) (ms' := 0) g (dc_X7_isKind_52.1.2.1.1) cb_X7_isOf ml_X7_22 ms_X7_isOf (Nat.le_of_ble_eq_true rfl) (by first | exact jl_d0 hd rfl | omega) (by first | exact Nat.le_of_ble_eq_true rfl | omega) (by first | exact Nat.le_of_ble_eq_true rfl | omega) ?_
              refine s_X7_isOf g (by first | exact jl_d1 hd rfl | omega) (fun z12 e12 b12 => sg_K1 ?_)
              refine sg_if_eq (pc := 59) (tgt := 64) (dc_X7_isKind_52.1.2.1.2) (by decide) (fun q12 => ?_) (fun q12 => ?_)
              · have r12 : ¬ (216 ≤ x ∧ x ≤ 246) := fun h => by rw [e12] at q12; unfold fn_betw at q12; rw [if_pos h] at q12; exact absurd q12 (by decide)
                first | refine sg_iincB (pc := 64) (dc_X7_isKind_52.2.1.1.1) rfl (by decide) (by decide) (by omega) (by omega) ?_ | refine sg_iinc (pc := 64) (dc_X7_isKind_52.2.1.1.1) rfl (by decide) (by decide) ?_
                refine sg_goto (pc := 67) (tgt := 29) (dc_X7_isKind_52.2.1.1.2) (by decide) ?_
                refine sg_iload_n (pc := 29) (j := 2) (dc_X7_isKind_28.1.1.1.2) rfl rfl ?_
                refine sg_gets (v := sg_r K) (pc := 30) g (dc_X7_isKind_28.1.1.2.1) z rfl kl_X7_30 ?_
                refine sg_iload_n (pc := 33) (j := 1) (dc_X7_isKind_28.1.1.2.2) rfl rfl ?_
                refine sg_aald (pc := 34) (dc_X7_isKind_28.1.2.1.1) hK (by decide) (by decide) (v := sg_r k1) rfl ?_
                refine sg_alenN (N := 16) (pc := 35) (dc_X7_isKind_28.1.2.1.2) h1.2 (by decide) rfl (by omega) ?_
                refine sg_icmp_ge (pc := 36) (tgt := 70) (dc_X7_isKind_28.1.2.2.1) (by decide) (fun cu => absurd cu (by omega)) (fun cu => ?_)
                refine sg_iload_n (pc := 39) (j := 0) (dc_X7_isKind_28.1.2.2.2) rfl rfl ?_
                refine sg_gets (v := sg_r K) (pc := 40) g (dc_X7_isKind_28.2.1.1.1) z rfl kl_X7_30 ?_
                refine sg_iload_n (pc := 43) (j := 1) (dc_X7_isKind_28.2.1.1.2) rfl rfl ?_
                refine sg_aald (pc := 44) (dc_X7_isKind_28.2.1.2.1) hK (by decide) (by decide) (v := sg_r k1) rfl ?_
                refine sg_iload_n (pc := 45) (j := 2) (dc_X7_isKind_28.2.1.2.2) rfl rfl ?_
                refine sg_iald (pc := 46) (dc_X7_isKind_28.2.2.1.1) h1.2 (by decide) (by decide) (v := sg_i 248) rfl ?_
                refine sg_gets (v := sg_r K) (pc := 47) g (dc_X7_isKind_28.2.2.1.2) z rfl kl_X7_30 ?_
                refine sg_iload_n (pc := 50) (j := 1) (dc_X7_isKind_28.2.2.2.1) rfl rfl ?_
                refine sg_aald (pc := 51) (dc_X7_isKind_28.2.2.2.2) hK (by decide) (by decide) (v := sg_r k1) rfl ?_
                refine sg_iload_n (pc := 52) (j := 2) (dc_X7_isKind_52.1.1.1.1) rfl rfl ?_
                refine sg_iconst (pc := 53) (z := 1) (dc_X7_isKind_52.1.1.1.2) (by decide) ?_
                first | refine sg_iaddB (pc := 54) (dc_X7_isKind_52.1.1.2.1) (by omega) (by omega) ?_ | refine sg_iadd (pc := 54) (dc_X7_isKind_52.1.1.2.1) ?_
                refine sg_iald (pc := 55) (dc_X7_isKind_52.1.1.2.2) h1.2 (by decide) (by decide) (v := sg_i 255) rfl ?_
                refine sg_cS3 (pc := 56) (d' := d - 1) (mc' := 0) (ms' := 0) g (dc_X7_isKind_52.1.2.1.1) cb_X7_isOf ml_X7_22 ms_X7_isOf (Nat.le_of_ble_eq_true rfl) (by first | exact jl_d0 hd rfl | omega) (by first | exact Nat.le_of_ble_eq_true rfl | omega) (by first | exact Nat.le_of_ble_eq_true rfl | omega) ?_
                refine s_X7_isOf g (by first | exact jl_d1 hd rfl | omega) (fun z14 e14 b14 => sg_K1 ?_)
                refine sg_if_eq (pc := 59) (tgt := 64) (dc_X7_isKind_52.1.2.1.2) (by decide) (fun q14 => ?_) (fun q14 => ?_)
                · have r14 : ¬ (248 ≤ x ∧ x ≤ 255) := fun h => by rw [e14] at q14; unfold fn_betw at q14; rw [if_pos h] at q14; exact absurd q14 (by decide)
                  first | refine sg_iincB (pc := 64) (dc_X7_isKind_52.2.1.1.1) rfl (by decide) (by decide) (by omega) (by omega) ?_ | refine sg_iinc (pc := 64) (dc_X7_isKind_52.2.1.1.1) rfl (by decide) (by decide) ?_
                  refine sg_goto (pc := 67) (tgt := 29) (dc_X7_isKind_52.2.1.1.2) (by decide) ?_
                  refine sg_iload_n (pc := 29) (j := 2) (dc_X7_isKind_28.1.1.1.2) rfl rfl ?_
                  refine sg_gets (v := sg_r K) (pc := 30) g (dc_X7_isKind_28.1.1.2.1) z rfl kl_X7_30 ?_
                  refine sg_iload_n (pc := 33) (j := 1) (dc_X7_isKind_28.1.1.2.2) rfl rfl ?_
                  refine sg_aald (pc := 34) (dc_X7_isKind_28.1.2.1.1) hK (by decide) (by decide) (v := sg_r k1) rfl ?_
                  refine sg_alenN (N := 16) (pc := 35) (dc_X7_isKind_28.1.2.1.2) h1.2 (by decide) rfl (by omega) ?_
                  refine sg_icmp_ge (pc := 36) (tgt := 70) (dc_X7_isKind_28.1.2.2.1) (by decide) (fun cu => ?_) (fun cu => absurd cu (by omega))
                  refine sg_iconst (pc := 70) (z := 0) (dc_X7_isKind_52.2.1.2.1) (by decide) ?_
                  refine sg_zret (pc := 71) (dc_X7_isKind_52.2.1.2.2) rfl (by first | exact Or.inl rfl | exact Or.inr rfl | omega | assumption) (by first | exact Nat.le_of_ble_eq_true rfl | omega) (by first | exact Nat.le_of_ble_eq_true rfl | omega) ?_
                  refine hQ _ (by
                    rw [fk_1]
                    unfold fn_letter
                    rw [if_neg]
                    rintro (h | h | h | h | h | h | h | h)
                    · exact r0 h
                    · exact r2 h
                    · exact r4 ⟨Int.le_of_eq h.symm, Int.le_of_eq h⟩
                    · exact r6 ⟨Int.le_of_eq h.symm, Int.le_of_eq h⟩
                    · exact r8 ⟨Int.le_of_eq h.symm, Int.le_of_eq h⟩
                    · exact r10 h
                    · exact r12 h
                    · exact r14 h) (Or.inl rfl)
                · have r14 : 248 ≤ x ∧ x ≤ 255 := Classical.byContradiction (fun h => q14 (by rw [e14]; unfold fn_betw; rw [if_neg h]))
                  refine sg_iconst (pc := 62) (z := 1) (dc_X7_isKind_52.1.2.2.1) (by decide) ?_
                  refine sg_zret (pc := 63) (dc_X7_isKind_52.1.2.2.2) rfl (by first | exact Or.inl rfl | exact Or.inr rfl | omega | assumption) (by first | exact Nat.le_of_ble_eq_true rfl | omega) (by first | exact Nat.le_of_ble_eq_true rfl | omega) ?_
                  exact hQ _ (by rw [fk_1]; unfold fn_letter; rw [if_pos (Or.inr (Or.inr (Or.inr (Or.inr (Or.inr (Or.inr (Or.inr (r14))))))))]) (Or.inr rfl)
              · have r12 : 216 ≤ x ∧ x ≤ 246 := Classical.byContradiction (fun h => q12 (by rw [e12]; unfold fn_betw; rw [if_neg h]))
                refine sg_iconst (pc := 62) (z := 1) (dc_X7_isKind_52.1.2.2.1) (by decide) ?_
                refine sg_zret (pc := 63) (dc_X7_isKind_52.1.2.2.2) rfl (by first | exact Or.inl rfl | exact Or.inr rfl | omega | assumption) (by first | exact Nat.le_of_ble_eq_true rfl | omega) (by first | exact Nat.le_of_ble_eq_true rfl | omega) ?_
                exact hQ _ (by rw [fk_1]; unfold fn_letter; rw [if_pos (Or.inr (Or.inr (Or.inr (Or.inr (Or.inr (Or.inr (Or.inl r12)))))))]) (Or.inr rfl)
            · have r10 : 192 ≤ x ∧ x ≤ 214 := Classical.byContradiction (fun h => q10 (by rw [e10]; unfold fn_betw; rw [if_neg h]))
              refine sg_iconst (pc := 62) (z := 1) (dc_X7_isKind_52.1.2.2.1) (by decide) ?_
              refine sg_zret (pc := 63) (dc_X7_isKind_52.1.2.2.2) rfl (by first | exact Or.inl rfl | exact Or.inr rfl | omega | assumption) (by first | exact Nat.le_of_ble_eq_true rfl | omega) (by first | exact Nat.le_of_ble_eq_true rfl | omega) ?_
              exact hQ _ (by rw [fk_1]; unfold fn_letter; rw [if_pos (Or.inr (Or.inr (Or.inr (Or.inr (Or.inr (Or.inl r10))))))]) (Or.inr rfl)
          · have r8 : 186 ≤ x ∧ x ≤ 186 := Classical.byContradiction (fun h => q8 (by rw [e8]; unfold fn_betw; rw [if_neg h]))
            refine sg_iconst (pc := 62) (z := 1) (dc_X7_isKind_52.1.2.2.1) (by decide) ?_
            refine sg_zret (pc := 63) (dc_X7_isKind_52.1.2.2.2) rfl (by first | exact Or.inl rfl | exact Or.inr rfl | omega | assumption) (by first | exact Nat.le_of_ble_eq_true rfl | omega) (by first | exact Nat.le_of_ble_eq_true rfl | omega) ?_
            exact hQ _ (by rw [fk_1]; unfold fn_letter; rw [if_pos (Or.inr (Or.inr (Or.inr (Or.inr (Or.inl (Int.le_antisymm r8.2 r8.1))))))]) (Or.inr rfl)
        · have r6 : 181 ≤ x ∧ x ≤ 181 := Classical.byContradiction (fun h => q6 (by rw [e6]; unfold fn_betw; rw [if_neg h]))
          refine sg_iconst (pc := 62) (z := 1) (dc_X7_isKind_52.1.2.2.1) (by decide) ?_
          refine sg_zret (pc := 63) (dc_X7_isKind_52.1.2.2.2) rfl (by first | exact Or.inl rfl | exact Or.inr rfl | omega | assumption) (by first | exact Nat.le_of_ble_eq_true rfl | omega) (by first | exact Nat.le_of_ble_eq_true rfl | omega) ?_
          exact hQ _ (by rw [fk_1]; unfold fn_letter; rw [if_pos (Or.inr (Or.inr (Or.inr (Or.inl (Int.le_antisymm r6.2 r6.1)))))]) (Or.inr rfl)
      · have r4 : 170 ≤ x ∧ x ≤ 170 := Classical.byContradiction (fun h => q4 (by rw [e4]; unfold fn_betw; rw [if_neg h]))
        refine sg_iconst (pc := 62) (z := 1) (dc_X7_isKind_52.1.2.2.1) (by decide) ?_
        refine sg_zret (pc := 63) (dc_X7_isKind_52.1.2.2.2) rfl (by first | exact Or.inl rfl | exact Or.inr rfl | omega | assumption) (by first | exact Nat.le_of_ble_eq_true rfl | omega) (by first | exact Nat.le_of_ble_eq_true rfl | omega) ?_
        exact hQ _ (by rw [fk_1]; unfold fn_letter; rw [if_pos (Or.inr (Or.inr (Or.inl (Int.le_antisymm r4.2 r4.1))))]) (Or.inr rfl)
    · have r2 : 97 ≤ x ∧ x ≤ 122 := Classical.byContradiction (fun h => q2 (by rw [e2]; unfold fn_betw; rw [if_neg h]))
      refine sg_iconst (pc := 62) (z := 1) (dc_X7_isKind_52.1.2.2.1) (by decide) ?_
      refine sg_zret (pc := 63) (dc_X7_isKind_52.1.2.2.2) rfl (by first | exact Or.inl rfl | exact Or.inr rfl | omega | assumption) (by first | exact Nat.le_of_ble_eq_true rfl | omega) (by first | exact Nat.le_of_ble_eq_true rfl | omega) ?_
      exact hQ _ (by rw [fk_1]; unfold fn_letter; rw [if_pos (Or.inr (Or.inl r2))]) (Or.inr rfl)
  · have r0 : 65 ≤ x ∧ x ≤ 90 := Classical.byContradiction (fun h => q0 (by rw [e0]; unfold fn_betw; rw [if_neg h]))
    refine sg_iconst (pc := 62) (z := 1) (dc_X7_isKind_52.1.2.2.1) (by decide) ?_
    refine sg_zret (pc := 63) (dc_X7_isKind_52.1.2.2.2) rfl (by first | exact Or.inl rfl | exact Or.inr rfl | omega | assumption) (by first | exact Nat.le_of_ble_eq_true rfl | omega) (by first | exact Nat.le_of_ble_eq_true rfl | omega) ?_
    exact hQ _ (by rw [fk_1]; unfold fn_letter; rw [if_pos (Or.inl r0)]) (Or.inr rfl)

