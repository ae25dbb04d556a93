set_option maxRecDepth 100000 in
theorem f_X2_shifted {w : sg_W} {Q : sg_O → sg_H → Prop} {h : sg_H} (g : sg_G w) {d : Nat} (hd : 3 ≤ d) {x r m : Int} (x0 : 0 ≤ x) (x1 : x ≤ 999999) (r0 : 2 ≤ r ∧ r ≤ 36) (m0 : 0 ≤ m ∧ m ≤ 100) (hQ : ∀ z : Int, z = x / r ^ m.toNat → Q (.inl (some (sg_i z))) h) : sg_C w mi_X2_shifted d 0 0 [sg_i x, sg_i r, sg_i m] h Q := by
  refine sg_of pn_X2 (Nat.le_of_ble_eq_true rfl) ?_
  refine sg_iload_n (pc := 0) (j := 1) (dc_X2_shifted_0.1.1.1.1) rfl rfl ?_
  refine sg_cS1 (pc := 1) (d' := d - 1) (mc' := 0) (ms' := 0) g (dc_X2_shifted_0.1.1.1.2) cb_X2_isRadix ml_X2_36 ms_X2_isRadix (Nat.le_of_ble_eq_true rfl) (by first | exact jl_d0 hd rfl | omega) (by first | exact Nat.le_of_ble_eq_true rfl | omega) (by first | exact Nat.le_of_ble_eq_true rfl | omega) ?_
  refine s_X2_isRadix g (by first | exact jl_d1 hd rfl | omega) (fun z1 h1 b1 => sg_K1 ?_)
  (try simp only [fn_radix] at h1)
  refine sg_if_ne (pc := 4) (tgt := 9) (dc_X2_shifted_0.1.1.2.1) (by decide) (fun c4 => ?_) (fun c4 => ?_)
  · refine sg_iload_n (pc := 9) (j := 0) (dc_X2_shifted_0.1.2.1.2) rfl rfl ?_
    refine sg_istore_n (pc := 10) (j := 3) (dc_X2_shifted_0.1.2.2.1) rfl (by decide) ?_
    refine sg_iconst (pc := 11) (z := 0) (dc_X2_shifted_0.1.2.2.2) (by decide) ?_
    refine sg_istore (pc := 12) (dc_X2_shifted_0.2.1.1.1) (by decide) ?_
    have loop14 : ∀ (N : Nat) (k s : Int), (0 ≤ k ∧ k ≤ m) → (s = x / r ^ k.toNat) → (m - k).toNat < N → sg_R w mi_X2_shifted d 0 0 Q 14 [(4, sg_i k), (3, sg_i s), (0, sg_i x), (1, sg_i r), (2, sg_i m)] [] h 0 0 := by
      intro N
      induction N with
      | zero => intro k s k0 s0 hm; exact absurd hm (Nat.not_lt_zero _)
      | succ N ih =>
        intro k s k0 s0 hm
        have pd := fs_dp (k := k.toNat) (r := r) x0 (by omega)
        rw [← s0] at pd
        refine sg_iload (pc := 14) (dc_X2_shifted_0.2.1.1.2) rfl ?_
        refine sg_iload_n (pc := 16) (j := 2) (dc_X2_shifted_0.2.1.2.1) rfl rfl ?_
        refine sg_icmp_ge (pc := 17) (tgt := 30) (dc_X2_shifted_0.2.1.2.2) (by decide) (fun c17 => ?_) (fun c17 => ?_)
        · refine sg_iload_n (pc := 30) (j := 3) (dc_X2_shifted_24.2.1) rfl rfl ?_
          refine sg_iret (pc := 31) (dc_X2_shifted_24.2.2) rfl (by first | exact Nat.le_of_ble_eq_true rfl | omega) (by first | exact Nat.le_of_ble_eq_true rfl | omega) ?_
          first | exact hQ _ (by rw [s0, show k = m by omega]) | (exfalso; omega)
        · refine sg_iload_n (pc := 20) (j := 3) (dc_X2_shifted_0.2.2.1.1) rfl rfl ?_
          refine sg_iload_n (pc := 21) (j := 1) (dc_X2_shifted_0.2.2.1.2) rfl rfl ?_
          first | refine sg_idivP (pc := 22) (dc_X2_shifted_0.2.2.2.1) (by omega) (by omega) (by omega) ?_ | refine sg_idiv (pc := 22) (dc_X2_shifted_0.2.2.2.1) (by first | omega | assumption) ?_
          refine sg_istore_n (pc := 23) (j := 3) (dc_X2_shifted_0.2.2.2.2) rfl (by decide) ?_
          first | refine sg_iincB (pc := 24) (dc_X2_shifted_24.1.1) rfl (by decide) (by decide) (by omega) (by omega) ?_ | refine sg_iinc (pc := 24) (dc_X2_shifted_24.1.1) rfl (by decide) (by decide) ?_
          refine sg_goto (pc := 27) (tgt := 14) (dc_X2_shifted_24.1.2) (by decide) ?_
          refine sg_lsub (lv' := [(4, _), (3, _), (0, _), (1, _), (2, _)]) ⟨rfl, rfl, rfl, rfl, rfl, trivial⟩ ?_
          exact ih _ _ (by omega) (by rw [show (k + 1).toNat = k.toNat + 1 by omega, ← fs_dv x0 (by omega), s0]) (by first | exact jl_m1 hm (by omega) | exact jl_m2 hm (by omega) | omega)
    refine sg_lsub (lv' := [(4, _), (3, _), (0, _), (1, _), (2, _)]) ⟨rfl, rfl, rfl, rfl, rfl, trivial⟩ ?_
    exact loop14 _ _ _ (by omega) (by simp) (Nat.lt_succ_self _)
  · refine sg_iconst (pc := 7) (z := 0) (dc_X2_shifted_0.1.1.2.2) (by decide) ?_
    refine sg_iret (pc := 8) (dc_X2_shifted_0.1.2.1.1) rfl (by first | exact Nat.le_of_ble_eq_true rfl | omega) (by first | exact Nat.le_of_ble_eq_true rfl | omega) ?_
    first | exact hQ _ (by rw [s0, show k = m by omega]) | (exfalso; omega)

