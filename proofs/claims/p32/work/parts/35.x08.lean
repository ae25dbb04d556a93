set_option maxRecDepth 100000 in
theorem f_X2_digitsOf {w : sg_W} {Q : sg_O → sg_H → Prop} {h : sg_H} (g : sg_G w) {d : Nat} (hd : 4 ≤ d) {x r : Int} (x0 : 0 ≤ x) (x1 : x ≤ 999999) (r0 : 2 ≤ r ∧ r ≤ 36) (hQ : ∀ z : Int, 1 ≤ z → z ≤ 20 → fs_dn x r z.toNat → Q (.inl (some (sg_i z))) h) : sg_C w mi_X2_digitsOf d 0 0 [sg_i x, sg_i r] h Q := by
  refine sg_of pn_X2 (Nat.le_of_ble_eq_true rfl) ?_
  refine sg_iconst (pc := 0) (z := 1) (dc_X2_digitsOf_0.1.1.1.1) (by decide) ?_
  refine sg_istore_n (pc := 1) (j := 2) (dc_X2_digitsOf_0.1.1.1.2) rfl (by decide) ?_
  have loop2 : ∀ (N : Nat) (k : Int), (1 ≤ k ∧ k ≤ 20) → (∀ j : Nat, 1 ≤ j → (j : Int) < k → x / r ^ j ≠ 0) → (20 - k).toNat < N → sg_R w mi_X2_digitsOf d 0 0 Q 2 [(2, sg_i k), (0, sg_i x), (1, sg_i r)] [] h 0 0 := by
    intro N
    induction N with
    | zero => intro k k0 k1 hm; exact absurd hm (Nat.not_lt_zero _)
    | succ N ih =>
      intro k k0 k1 hm
      refine sg_iload_n (pc := 2) (j := 2) (dc_X2_digitsOf_0.1.1.2.1) rfl rfl ?_
      refine sg_bipush (pc := 3) (z := 20) (dc_X2_digitsOf_0.1.1.2.2) (by decide) ?_
      refine sg_icmp_ge (pc := 5) (tgt := 23) (dc_X2_digitsOf_0.1.2.1.1) (by decide) (fun c5 => ?_) (fun c5 => ?_)
      · refine sg_iload_n (pc := 23) (j := 2) (dc_X2_digitsOf_0.2.2.1.1) rfl rfl ?_
        refine sg_iret (pc := 24) (dc_X2_digitsOf_0.2.2.1.2) rfl (by first | exact Nat.le_of_ble_eq_true rfl | omega) (by first | exact Nat.le_of_ble_eq_true rfl | omega) ?_
        first | exact hQ _ (by omega) (by omega) ⟨by omega, by rw [show k.toNat = 20 by omega]; exact fs_d20 x0 x1 (by omega), fun j j0 j1 => k1 j j0 (by omega)⟩ | exact hQ _ (by omega) (by omega) ⟨by omega, by have := fs_dp (k := k.toNat) (r := r) x0 (by omega); omega, fun j j0 j1 => k1 j j0 (by omega)⟩
      · refine sg_iload_n (pc := 8) (j := 0) (dc_X2_digitsOf_0.1.2.1.2) rfl rfl ?_
        refine sg_iload_n (pc := 9) (j := 1) (dc_X2_digitsOf_0.1.2.2.1) rfl rfl ?_
        refine sg_iload_n (pc := 10) (j := 2) (dc_X2_digitsOf_0.1.2.2.2) rfl rfl ?_
        refine sg_cS3 (pc := 11) (d' := d - 1) (mc' := 0) (ms' := 0) g (dc_X2_digitsOf_0.2.1.1.1) cb_X2_shifted ml_X2_39 ms_X2_shifted (Nat.le_of_ble_eq_true rfl) (by first | exact jl_d0 hd rfl | omega) (by first | exact Nat.le_of_ble_eq_true rfl | omega) (by first | exact Nat.le_of_ble_eq_true rfl | omega) ?_
        refine f_X2_shifted g (by first | exact jl_d1 hd rfl | omega) (by omega) (by omega) (by omega) (by omega) (fun z11 h11 => sg_K1 ?_)
        refine sg_if_le (pc := 14) (tgt := 23) (dc_X2_digitsOf_0.2.1.1.2) (by decide) (fun c14 => ?_) (fun c14 => ?_)
        · refine sg_iload_n (pc := 23) (j := 2) (dc_X2_digitsOf_0.2.2.1.1) rfl rfl ?_
          refine sg_iret (pc := 24) (dc_X2_digitsOf_0.2.2.1.2) rfl (by first | exact Nat.le_of_ble_eq_true rfl | omega) (by first | exact Nat.le_of_ble_eq_true rfl | omega) ?_
          first | exact hQ _ (by omega) (by omega) ⟨by omega, by rw [show k.toNat = 20 by omega]; exact fs_d20 x0 x1 (by omega), fun j j0 j1 => k1 j j0 (by omega)⟩ | exact hQ _ (by omega) (by omega) ⟨by omega, by have := fs_dp (k := k.toNat) (r := r) x0 (by omega); omega, fun j j0 j1 => k1 j j0 (by omega)⟩
        · first | refine sg_iincB (pc := 17) (dc_X2_digitsOf_0.2.1.2.1) rfl (by decide) (by decide) (by omega) (by omega) ?_ | refine sg_iinc (pc := 17) (dc_X2_digitsOf_0.2.1.2.1) rfl (by decide) (by decide) ?_
          refine sg_goto (pc := 20) (tgt := 2) (dc_X2_digitsOf_0.2.1.2.2) (by decide) ?_
          refine sg_lsub (lv' := [(2, _), (0, _), (1, _)]) ⟨rfl, rfl, rfl, trivial⟩ ?_
          exact ih _ (by omega) (fun j j0 j1 => by
            by_cases q : j = k.toNat
            · subst q; omega
            · exact k1 j j0 (by omega)) (by first | exact jl_m1 hm (by omega) | exact jl_m2 hm (by omega) | omega)
  refine sg_lsub (lv' := [(2, _), (0, _), (1, _)]) ⟨rfl, rfl, rfl, trivial⟩ ?_
  exact loop2 _ _ (by omega) (fun j j0 j1 => absurd j1 (by omega)) (Nat.lt_succ_self _)

