set_option maxRecDepth 100000 in
theorem f_X7_areAlike {w : sg_W} {Q : sg_O → sg_H → Prop} {h : sg_H} (g : sg_G w) {d : Nat} (hd : 6 ≤ d) {M : Nat} {row other : Int} (hv : 0 ≤ row ∧ row < 4 ∧ 0 ≤ other ∧ other < 4) {A : fa_A} {L Z : List Int} (hA : md_ab h M = A) (hL : fa_L A row.toNat = L) (hN : fa_L A other.toNat = Z) (hx : md_M w h M) (hQ : ∀ v : Int, ((v = 0 ∧ ¬ fs_al L Z) ∨ (v = 1 ∧ fs_al L Z)) → Q (.inl (some (sg_i v))) h) : sg_C w mi_X7_areAlike d 0 0 [sg_r M, sg_i row, sg_i other] h Q := by
  refine sg_of pn_X7 (Nat.le_of_ble_eq_true rfl) ?_
  have y0 := md_Y0 hx
  have hk := hx.2.1
  refine sg_aload_n (pc := 0) (j := 0) (dc_X7_areAlike_0.1.1.1.1) rfl rfl ?_
  refine md_grw (pc := 1) g (dc_X7_areAlike_0.1.1.1.2) fk_X7_9 (by assumption) (fun r1 => ?_)
  refine sg_iload_n (pc := 4) (j := 1) (dc_X7_areAlike_0.1.1.2.1) rfl rfl ?_
  first | refine md_alX (pc := 5) (dc_X7_areAlike_0.1.1.2.2) hA (by assumption) (by assumption) (by omega) (by omega) (fun X5 l5 => ?_) | refine md_alXt (pc := 5) (dc_X7_areAlike_0.1.1.2.2) hA (by assumption) (by assumption) (by omega) (by omega) (fun X5 l5 => ?_)
  refine md_xlen (pc := 6) (dc_X7_areAlike_0.1.2.1.1) (by assumption) (by omega) ?_
  refine sg_aload_n (pc := 7) (j := 0) (dc_X7_areAlike_0.1.2.1.2) rfl rfl ?_
  refine md_grw (pc := 8) g (dc_X7_areAlike_0.1.2.2.1) fk_X7_9 (by assumption) (fun r8 => ?_)
  refine sg_iload_n (pc := 11) (j := 2) (dc_X7_areAlike_0.1.2.2.2) rfl rfl ?_
  first | refine md_alX (pc := 12) (dc_X7_areAlike_0.2.1.1.1) hA (by assumption) (by assumption) (by omega) (by omega) (fun X12 l12 => ?_) | refine md_alXt (pc := 12) (dc_X7_areAlike_0.2.1.1.1) hA (by assumption) (by assumption) (by omega) (by omega) (fun X12 l12 => ?_)
  refine md_xlen (pc := 13) (dc_X7_areAlike_0.2.1.1.2) (by assumption) (by omega) ?_
  refine sg_icmp_ne (pc := 14) (tgt := 21) (dc_X7_areAlike_0.2.1.2.1) (by decide) (fun c14 => ?_) (fun c14 => ?_)
  · refine sg_iconst (pc := 21) (z := 0) (dc_X7_areAlike_0.2.2.1.2) (by decide) ?_
    refine sg_istore_n (pc := 22) (j := 3) (dc_X7_areAlike_0.2.2.2.1) rfl (by decide) ?_
    refine sg_iconst (pc := 23) (z := 0) (dc_X7_areAlike_0.2.2.2.2) (by decide) ?_
    refine sg_istore (pc := 24) (dc_X7_areAlike_24.1.1.1.1) (by decide) ?_
    have loop26 : ∀ (N : Nat) (p s : Int), (0 ≤ p) → ((s = 0 ∧ ¬ fs_al L Z) ∨ (s = 1 ∧ p ≤ (L.length : Int) ∧ L.length = Z.length ∧ ∀ j : Nat, (j : Int) < p → fn_upper (L.getD j 0) = fn_upper (Z.getD j 0))) → ((L.length : Int) - p).toNat < N → sg_R w mi_X7_areAlike d 0 0 Q 26 [(4, sg_i p), (3, sg_i s), (0, sg_r M), (1, sg_i row), (2, sg_i other)] [] h 0 0 := by
      intro N
      induction N with
      | zero => intro p s p0 s0 hm; exact absurd hm (Nat.not_lt_zero _)
      | succ N ih =>
        intro p s p0 s0 hm
        refine sg_iload_n (pc := 26) (j := 3) (dc_X7_areAlike_24.1.1.1.2) rfl rfl ?_
        refine sg_if_eq (pc := 27) (tgt := 81) (dc_X7_areAlike_24.1.1.2.1) (by decide) (fun c27 => ?_) (fun c27 => ?_)
        · refine sg_iload_n (pc := 81) (j := 3) (dc_X7_areAlike_51.2.2.2.2) rfl rfl ?_
          refine sg_zret (pc := 82) dc_X7_areAlike_82 rfl (by first | exact Or.inl rfl | exact Or.inr rfl | omega | assumption) (by first | exact Nat.le_of_ble_eq_true rfl | omega) (by first | exact Nat.le_of_ble_eq_true rfl | omega) ?_
          exact hQ _ (s0.elim Or.inl (fun u => Or.inr ⟨u.1, u.2.2.1, fun j j0 => u.2.2.2 j (by omega)⟩))
        · refine sg_iload (pc := 30) (dc_X7_areAlike_24.1.1.2.2) rfl ?_
          refine sg_aload_n (pc := 32) (j := 0) (dc_X7_areAlike_24.1.2.1.1) rfl rfl ?_
          refine md_grw (pc := 33) g (dc_X7_areAlike_24.1.2.1.2) fk_X7_9 (by assumption) (fun r33 => ?_)
          refine sg_iload_n (pc := 36) (j := 1) (dc_X7_areAlike_24.1.2.2.1) rfl rfl ?_
          first | refine md_alX (pc := 37) (dc_X7_areAlike_24.1.2.2.2) hA (by assumption) (by assumption) (by omega) (by omega) (fun X37 l37 => ?_) | refine md_alXt (pc := 37) (dc_X7_areAlike_24.1.2.2.2) hA (by assumption) (by assumption) (by omega) (by omega) (fun X37 l37 => ?_)
          refine md_xlen (pc := 38) (dc_X7_areAlike_24.2.1.1.1) (by assumption) (by omega) ?_
          refine sg_icmp_ge (pc := 39) (tgt := 81) (dc_X7_areAlike_24.2.1.1.2) (by decide) (fun c39 => ?_) (fun c39 => ?_)
          · refine sg_iload_n (pc := 81) (j := 3) (dc_X7_areAlike_51.2.2.2.2) rfl rfl ?_
            refine sg_zret (pc := 82) dc_X7_areAlike_82 rfl (by first | exact Or.inl rfl | exact Or.inr rfl | omega | assumption) (by first | exact Nat.le_of_ble_eq_true rfl | omega) (by first | exact Nat.le_of_ble_eq_true rfl | omega) ?_
            exact hQ _ (s0.elim Or.inl (fun u => Or.inr ⟨u.1, u.2.2.1, fun j j0 => u.2.2.2 j (by omega)⟩))
          · refine sg_aload_n (pc := 42) (j := 0) (dc_X7_areAlike_24.2.1.2.1) rfl rfl ?_
            refine md_grw (pc := 43) g (dc_X7_areAlike_24.2.1.2.2) fk_X7_9 (by assumption) (fun r43 => ?_)
            refine sg_iload_n (pc := 46) (j := 1) (dc_X7_areAlike_24.2.2.1.1) rfl rfl ?_
            first | refine md_alX (pc := 47) (dc_X7_areAlike_24.2.2.1.2) hA (by assumption) (by assumption) (by omega) (by omega) (fun X47 l47 => ?_) | refine md_alXt (pc := 47) (dc_X7_areAlike_24.2.2.1.2) hA (by assumption) (by assumption) (by omega) (by omega) (fun X47 l47 => ?_)
            refine sg_iload (pc := 48) (dc_X7_areAlike_24.2.2.2.1) rfl ?_
            refine md_xld (pc := 50) (dc_X7_areAlike_24.2.2.2.2) (by assumption) (by omega) (by omega) (fun g50 => ?_)
            refine sg_cS1 (pc := 51) (d' := d - 1) (mc' := 0) (ms' := 0) g (dc_X7_areAlike_51.1.1.1.1) cb_X7_upperOf ml_X7_86 ms_X7_upperOf (Nat.le_of_ble_eq_true rfl) (by first | exact jl_d0 hd rfl | omega) (by first | exact Nat.le_of_ble_eq_true rfl | omega) (by first | exact Nat.le_of_ble_eq_true rfl | omega) ?_
            refine s_X7_upperOf g (by first | exact jl_d1 hd rfl | omega) (fun z51 h51 => sg_K1 ?_)
            (try simp only [fm_no, fm_one, fn_betw, fn_sign, fn_radix, fn_high, fn_low] at h51)
            refine sg_aload_n (pc := 54) (j := 0) (dc_X7_areAlike_51.1.1.1.2) rfl rfl ?_
            refine md_grw (pc := 55) g (dc_X7_areAlike_51.1.1.2.1) fk_X7_9 (by assumption) (fun r55 => ?_)
            refine sg_iload_n (pc := 58) (j := 2) (dc_X7_areAlike_51.1.1.2.2) rfl rfl ?_
            first | refine md_alX (pc := 59) (dc_X7_areAlike_51.1.2.1.1) hA (by assumption) (by assumption) (by omega) (by omega) (fun X59 l59 => ?_) | refine md_alXt (pc := 59) (dc_X7_areAlike_51.1.2.1.1) hA (by assumption) (by assumption) (by omega) (by omega) (fun X59 l59 => ?_)
            refine sg_iload (pc := 60) (dc_X7_areAlike_51.1.2.1.2) rfl ?_
            have nl59 : L.length = Z.length := s0.elim (fun q => absurd q.1 (by omega)) (fun u => u.2.2.1)
            refine md_xld (pc := 62) (dc_X7_areAlike_51.1.2.2.1) (by assumption) (by omega) (by omega) (fun g62 => ?_)
            refine sg_cS1 (pc := 63) (d' := d - 1) (mc' := 0) (ms' := 0) g (dc_X7_areAlike_51.1.2.2.2) cb_X7_upperOf ml_X7_86 ms_X7_upperOf (Nat.le_of_ble_eq_true rfl) (by first | exact jl_d0 hd rfl | omega) (by first | exact Nat.le_of_ble_eq_true rfl | omega) (by first | exact Nat.le_of_ble_eq_true rfl | omega) ?_
            refine s_X7_upperOf g (by first | exact jl_d1 hd rfl | omega) (fun z63 h63 => sg_K1 ?_)
            (try simp only [fm_no, fm_one, fn_betw, fn_sign, fn_radix, fn_high, fn_low] at h63)
            refine sg_icmp_ne (pc := 66) (tgt := 73) (dc_X7_areAlike_51.2.1.1.1) (by decide) (fun c66 => ?_) (fun c66 => ?_)
            · refine sg_iconst (pc := 73) (z := 0) (dc_X7_areAlike_51.2.1.2.2) (by decide) ?_
              refine sg_istore_n (pc := 74) (j := 3) (dc_X7_areAlike_51.2.2.1.1) rfl (by decide) ?_
              first | refine sg_iincB (pc := 75) (dc_X7_areAlike_51.2.2.1.2) rfl (by decide) (by decide) (by omega) (by omega) ?_ | refine sg_iinc (pc := 75) (dc_X7_areAlike_51.2.2.1.2) rfl (by decide) (by decide) ?_
              refine sg_goto (pc := 78) (tgt := 26) (dc_X7_areAlike_51.2.2.2.1) (by decide) ?_
              refine sg_lsub (lv' := [(4, _), (3, _), (0, _), (1, _), (2, _)]) ⟨rfl, rfl, rfl, rfl, rfl, trivial⟩ ?_
              exact ih _ _ (by omega) (by
                obtain ⟨u1, u2, u3, u4⟩ : s = 1 ∧ p ≤ (L.length : Int) ∧ L.length = Z.length ∧ ∀ j : Nat, (j : Int) < p → fn_upper (L.getD j 0) = fn_upper (Z.getD j 0) := s0.elim (fun q => absurd q.1 (by omega)) id
                first
                  | exact Or.inr ⟨rfl, by omega, u3, fun j j0 => by
                      by_cases q : j = p.toNat
                      · subst q; omega
                      · exact u4 j (by omega)⟩
                  | exact Or.inl ⟨rfl, fun q => by have := q.2 p.toNat (by omega); omega⟩) (by first | exact jl_m1 hm (by omega) | exact jl_m2 hm (by omega) | omega)
            · refine sg_iconst (pc := 69) (z := 1) (dc_X7_areAlike_51.2.1.1.2) (by decide) ?_
              refine sg_goto (pc := 70) (tgt := 74) (dc_X7_areAlike_51.2.1.2.1) (by decide) ?_
              refine sg_istore_n (pc := 74) (j := 3) (dc_X7_areAlike_51.2.2.1.1) rfl (by decide) ?_
              first | refine sg_iincB (pc := 75) (dc_X7_areAlike_51.2.2.1.2) rfl (by decide) (by decide) (by omega) (by omega) ?_ | refine sg_iinc (pc := 75) (dc_X7_areAlike_51.2.2.1.2) rfl (by decide) (by decide) ?_
              refine sg_goto (pc := 78) (tgt := 26) (dc_X7_areAlike_51.2.2.2.1) (by decide) ?_
              refine sg_lsub (lv' := [(4, _), (3, _), (0, _), (1, _), (2, _)]) ⟨rfl, rfl, rfl, rfl, rfl, trivial⟩ ?_
              exact ih _ _ (by omega) (by
                obtain ⟨u1, u2, u3, u4⟩ : s = 1 ∧ p ≤ (L.length : Int) ∧ L.length = Z.length ∧ ∀ j : Nat, (j : Int) < p → fn_upper (L.getD j 0) = fn_upper (Z.getD j 0) := s0.elim (fun q => absurd q.1 (by omega)) id
                first
                  | exact Or.inr ⟨rfl, by omega, u3, fun j j0 => by
                      by_cases q : j = p.toNat
                      · subst q; omega
                      · exact u4 j (by omega)⟩
                  | exact Or.inl ⟨rfl, fun q => by have := q.2 p.toNat (by omega); omega⟩) (by first | exact jl_m1 hm (by omega) | exact jl_m2 hm (by omega) | omega)
    refine sg_lsub (lv' := [(4, _), (3, _), (0, _), (1, _), (2, _)]) ⟨rfl, rfl, rfl, rfl, rfl, trivial⟩ ?_
    exact loop26 _ _ _ (by omega) (by first | exact Or.inr ⟨rfl, by omega, by omega, fun j j0 => absurd j0 (by omega)⟩ | exact Or.inl ⟨rfl, fun q => by have := q.1; omega⟩) (Nat.lt_succ_self _)
  · refine sg_iconst (pc := 17) (z := 1) (dc_X7_areAlike_0.2.1.2.2) (by decide) ?_
    refine sg_goto (pc := 18) (tgt := 22) (dc_X7_areAlike_0.2.2.1.1) (by decide) ?_
    refine sg_istore_n (pc := 22) (j := 3) (dc_X7_areAlike_0.2.2.2.1) rfl (by decide) ?_
    refine sg_iconst (pc := 23) (z := 0) (dc_X7_areAlike_0.2.2.2.2) (by decide) ?_
    refine sg_istore (pc := 24) (dc_X7_areAlike_24.1.1.1.1) (by decide) ?_
    have loop26 : ∀ (N : Nat) (p s : Int), (0 ≤ p) → ((s = 0 ∧ ¬ fs_al L Z) ∨ (s = 1 ∧ p ≤ (L.length : Int) ∧ L.length = Z.length ∧ ∀ j : Nat, (j : Int) < p → fn_upper (L.getD j 0) = fn_upper (Z.getD j 0))) → ((L.length : Int) - p).toNat < N → sg_R w mi_X7_areAlike d 0 0 Q 26 [(4, sg_i p), (3, sg_i s), (0, sg_r M), (1, sg_i row), (2, sg_i other)] [] h 0 0 := by
      intro N
      induction N with
      | zero => intro p s p0 s0 hm; exact absurd hm (Nat.not_lt_zero _)
      | succ N ih =>
        intro p s p0 s0 hm
        refine sg_iload_n (pc := 26) (j := 3) (dc_X7_areAlike_24.1.1.1.2) rfl rfl ?_
        refine sg_if_eq (pc := 27) (tgt := 81) (dc_X7_areAlike_24.1.1.2.1) (by decide) (fun c27 => ?_) (fun c27 => ?_)
        · refine sg_iload_n (pc := 81) (j := 3) (dc_X7_areAlike_51.2.2.2.2) rfl rfl ?_
          refine sg_zret (pc := 82) dc_X7_areAlike_82 rfl (by first | exact Or.inl rfl | exact Or.inr rfl | omega | assumption) (by first | exact Nat.le_of_ble_eq_true rfl | omega) (by first | exact Nat.le_of_ble_eq_true rfl | omega) ?_
          exact hQ _ (s0.elim Or.inl (fun u => Or.inr ⟨u.1, u.2.2.1, fun j j0 => u.2.2.2 j (by omega)⟩))
        · refine sg_iload (pc := 30) (dc_X7_areAlike_24.1.1.2.2) rfl ?_
          refine sg_aload_n (pc := 32) (j := 0) (dc_X7_areAlike_24.1.2.1.1) rfl rfl ?_
          refine md_grw (pc := 33) g (dc_X7_areAlike_24.1.2.1.2) fk_X7_9 (by assumption) (fun r33 => ?_)
          refine sg_iload_n (pc := 36) (j := 1) (dc_X7_areAlike_24.1.2.2.1) rfl rfl ?_
          first | refine md_alX (pc := 37) (dc_X7_areAlike_24.1.2.2.2) hA (by assumption) (by assumption) (by omega) (by omega) (fun X37 l37 => ?_) | refine md_alXt (pc := 37) (dc_X7_areAlike_24.1.2.2.2) hA (by assumption) (by assumption) (by omega) (by omega) (fun X37 l37 => ?_)
          refine md_xlen (pc := 38) (dc_X7_areAlike_24.2.1.1.1) (by assumption) (by omega) ?_
          refine sg_icmp_ge (pc := 39) (tgt := 81) (dc_X7_areAlike_24.2.1.1.2) (by decide) (fun c39 => ?_) (fun c39 => ?_)
          · refine sg_iload_n (pc := 81) (j := 3) (dc_X7_areAlike_51.2.2.2.2) rfl rfl ?_
            refine sg_zret (pc := 82) dc_X7_areAlike_82 rfl (by first | exact Or.inl rfl | exact Or.inr rfl | omega | assumption) (by first | exact Nat.le_of_ble_eq_true rfl | omega) (by first | exact Nat.le_of_ble_eq_true rfl | omega) ?_
            exact hQ _ (s0.elim Or.inl (fun u => Or.inr ⟨u.1, u.2.2.1, fun j j0 => u.2.2.2 j (by omega)⟩))
          · refine sg_aload_n (pc := 42) (j := 0) (dc_X7_areAlike_24.2.1.2.1) rfl rfl ?_
            refine md_grw (pc := 43) g (dc_X7_areAlike_24.2.1.2.2) fk_X7_9 (by assumption) (fun r43 => ?_)
            refine sg_iload_n (pc := 46) (j := 1) (dc_X7_areAlike_24.2.2.1.1) rfl rfl ?_
            first | refine md_alX (pc := 47) (dc_X7_areAlike_24.2.2.1.2) hA (by assumption) (by assumption) (by omega) (by omega) (fun X47 l47 => ?_) | refine md_alXt (pc := 47) (dc_X7_areAlike_24.2.2.1.2) hA (by assumption) (by assumption) (by omega) (by omega) (fun X47 l47 => ?_)
            refine sg_iload (pc := 48) (dc_X7_areAlike_24.2.2.2.1) rfl ?_
            refine md_xld (pc := 50) (dc_X7_areAlike_24.2.2.2.2) (by assumption) (by omega) (by omega) (fun g50 => ?_)
            refine sg_cS1 (pc := 51) (d' := d - 1) (mc' := 0) (ms' := 0) g (dc_X7_areAlike_51.1.1.1.1) cb_X7_upperOf ml_X7_86 ms_X7_upperOf (Nat.le_of_ble_eq_true rfl) (by first | exact jl_d0 hd rfl | omega) (by first | exact Nat.le_of_ble_eq_true rfl | omega) (by first | exact Nat.le_of_ble_eq_true rfl | omega) ?_
            refine s_X7_upperOf g (by first | exact jl_d1 hd rfl | omega) (fun z51 h51 => sg_K1 ?_)
            (try simp only [fm_no, fm_one, fn_betw, fn_sign, fn_radix, fn_high, fn_low] at h51)
            refine sg_aload_n (pc := 54) (j := 0) (dc_X7_areAlike_51.1.1.1.2) rfl rfl ?_
            refine md_grw (pc := 55) g (dc_X7_areAlike_51.1.1.2.1) fk_X7_9 (by assumption) (fun r55 => ?_)
            refine sg_iload_n (pc := 58) (j := 2) (dc_X7_areAlike_51.1.1.2.2) rfl rfl ?_
            first | refine md_alX (pc := 59) (dc_X7_areAlike_51.1.2.1.1) hA (by assumption) (by assumption) (by omega) (by omega) (fun X59 l59 => ?_) | refine md_alXt (pc := 59) (dc_X7_areAlike_51.1.2.1.1) hA (by assumption) (by assumption) (by omega) (by omega) (fun X59 l59 => ?_)
            refine sg_iload (pc := 60) (dc_X7_areAlike_51.1.2.1.2) rfl ?_
            have nl59 : L.length = Z.length := s0.elim (fun q => absurd q.1 (by omega)) (fun u => u.2.2.1)
            refine md_xld (pc := 62) (dc_X7_areAlike_51.1.2.2.1) (by assumption) (by omega) (by omega) (fun g62 => ?_)
            refine sg_cS1 (pc := 63) (d' := d - 1) (mc' := 0) (ms' := 0) g (dc_X7_areAlike_51.1.2.2.2) cb_X7_upperOf ml_X7_86 ms_X7_upperOf (Nat.le_of_ble_eq_true rfl) (by first | exact jl_d0 hd rfl | omega) (by first | exact Nat.le_of_ble_eq_true rfl | omega) (by first | exact Nat.le_of_ble_eq_true rfl | omega) ?_
            refine s_X7_upperOf g (by first | exact jl_d1 hd rfl | omega) (fun z63 h63 => sg_K1 ?_)
            (try simp only [fm_no, fm_one, fn_betw, fn_sign, fn_radix, fn_high, fn_low] at h63)
            refine sg_icmp_ne (pc := 66) (tgt := 73) (dc_X7_areAlike_51.2.1.1.1) (by decide) (fun c66 => ?_) (fun c66 => ?_)
            · refine sg_iconst (pc := 73) (z := 0) (dc_X7_areAlike_51.2.1.2.2) (by decide) ?_
              refine sg_istore_n (pc := 74) (j := 3) (dc_X7_areAlike_51.2.2.1.1) rfl (by decide) ?_
              first | refine sg_iincB (pc := 75) (dc_X7_areAlike_51.2.2.1.2) rfl (by decide) (by decide) (by omega) (by omega) ?_ | refine sg_iinc (pc := 75) (dc_X7_areAlike_51.2.2.1.2) rfl (by decide) (by decide) ?_
              refine sg_goto (pc := 78) (tgt := 26) (dc_X7_areAlike_51.2.2.2.1) (by decide) ?_
              refine sg_lsub (lv' := [(4, _), (3, _), (0, _), (1, _), (2, _)]) ⟨rfl, rfl, rfl, rfl, rfl, trivial⟩ ?_
              exact ih _ _ (by omega) (by
                obtain ⟨u1, u2, u3, u4⟩ : s = 1 ∧ p ≤ (L.length : Int) ∧ L.length = Z.length ∧ ∀ j : Nat, (j : Int) < p → fn_upper (L.getD j 0) = fn_upper (Z.getD j 0) := s0.elim (fun q => absurd q.1 (by omega)) id
                first
                  | exact Or.inr ⟨rfl, by omega, u3, fun j j0 => by
                      by_cases q : j = p.toNat
                      · subst q; omega
                      · exact u4 j (by omega)⟩
                  | exact Or.inl ⟨rfl, fun q => by have := q.2 p.toNat (by omega); omega⟩) (by first | exact jl_m1 hm (by omega) | exact jl_m2 hm (by omega) | omega)
            · refine sg_iconst (pc := 69) (z := 1) (dc_X7_areAlike_51.2.1.1.2) (by decide) ?_
              refine sg_goto (pc := 70) (tgt := 74) (dc_X7_areAlike_51.2.1.2.1) (by decide) ?_
              refine sg_istore_n (pc := 74) (j := 3) (dc_X7_areAlike_51.2.2.1.1) rfl (by decide) ?_
              first | refine sg_iincB (pc := 75) (dc_X7_areAlike_51.2.2.1.2) rfl (by decide) (by decide) (by omega) (by omega) ?_ | refine sg_iinc (pc := 75) (dc_X7_areAlike_51.2.2.1.2) rfl (by decide) (by decide) ?_
              refine sg_goto (pc := 78) (tgt := 26) (dc_X7_areAlike_51.2.2.2.1) (by decide) ?_
              refine sg_lsub (lv' := [(4, _), (3, _), (0, _), (1, _), (2, _)]) ⟨rfl, rfl, rfl, rfl, rfl, trivial⟩ ?_
              exact ih _ _ (by omega) (by
                obtain ⟨u1, u2, u3, u4⟩ : s = 1 ∧ p ≤ (L.length : Int) ∧ L.length = Z.length ∧ ∀ j : Nat, (j : Int) < p → fn_upper (L.getD j 0) = fn_upper (Z.getD j 0) := s0.elim (fun q => absurd q.1 (by omega)) id
                first
                  | exact Or.inr ⟨rfl, by omega, u3, fun j j0 => by
                      by_cases q : j = p.toNat
                      · subst q; omega
                      · exact u4 j (by omega)⟩
                  | exact Or.inl ⟨rfl, fun q => by have := q.2 p.toNat (by omega); omega⟩) (by first | exact jl_m1 hm (by omega) | exact jl_m2 hm (by omega) | omega)
    refine sg_lsub (lv' := [(4, _), (3, _), (0, _), (1, _), (2, _)]) ⟨rfl, rfl, rfl, rfl, rfl, trivial⟩ ?_
    exact loop26 _ _ _ (by omega) (by first | exact Or.inr ⟨rfl, by omega, by omega, fun j j0 => absurd j0 (by omega)⟩ | exact Or.inl ⟨rfl, fun q => by have := q.1; omega⟩) (Nat.lt_succ_self _)

set_option maxRecDepth 100000 in
theorem f_X7_isAlike {w : sg_W} {Q : sg_O → sg_H → Prop} {h : sg_H} (g : sg_G w) {d : Nat} (hd : 9 ≤ d) {M : Nat} {row other : Int} {A : fa_A} {L Z : List Int} (hA : md_ab h M = A) (hL : fa_L A row.toNat = L) (hN : fa_L A other.toNat = Z) (hx : md_M w h M) (hQ : ∀ (v : Int) (h' : sg_H), ((row < 0 ∨ 4 ≤ row ∨ other < 0 ∨ 4 ≤ other) → md_t h' M = 1) → (¬ (row < 0 ∨ 4 ≤ row ∨ other < 0 ∨ 4 ≤ other) → md_t h' M = 0) → (md_t h' M = 0 → (v = 0 ∧ ¬ fs_al L Z) ∨ (v = 1 ∧ fs_al L Z)) → md_Y w h h' M → Q (.inl (some (sg_i v))) h') : sg_C w mi_X7_isAlike d 0 0 [sg_r M, sg_i row, sg_i other] h Q := by
  refine sg_of pn_X7 (Nat.le_of_ble_eq_true rfl) ?_
  have y0 := md_Y0 hx
  have hk := hx.2.1
  refine sg_aload_n (pc := 0) (j := 0) (dc_X7_isAlike_0.1.1.1.1) rfl rfl ?_
  refine sg_iload_n (pc := 1) (j := 1) (dc_X7_isAlike_0.1.1.1.2) rfl rfl ?_
  refine sg_cS1 (pc := 2) (d' := d - 1) (mc' := 0) (ms' := 0) g (dc_X7_isAlike_0.1.1.2.1) cb_X7_isNoRow ml_X7_68 ms_X7_isNoRow (Nat.le_of_ble_eq_true rfl) (by first | exact jl_d0 hd rfl | omega) (by first | exact Nat.le_of_ble_eq_true rfl | omega) (by first | exact Nat.le_of_ble_eq_true rfl | omega) ?_
  refine s_X7_isNoRow g (by first | exact jl_d1 hd rfl | omega) (fun z2 h2 b2 => sg_K1 ?_)
  (try simp only [fm_no, fm_one, fn_betw, fn_sign, fn_radix, fn_high, fn_low] at h2)
  refine sg_if_ne (pc := 5) (tgt := 15) (dc_X7_isAlike_0.1.1.2.2) (by decide) (fun c5 => ?_) (fun c5 => ?_)
  · refine sg_iconst (pc := 15) (z := 1) (dc_X7_isAlike_0.1.2.2.2) (by decide) ?_
    refine sg_goto (pc := 16) (tgt := 20) (dc_X7_isAlike_0.2.1.1.1) (by decide) ?_
    refine sg_iconst (pc := 20) (z := 1) (dc_X7_isAlike_0.2.1.2.1) (by decide) ?_
    refine sg_cE2 (pc := 21) (d' := d - 1) (mc' := 0) (ms' := 0) 8 g (dc_X7_isAlike_0.2.1.2.2) cb_X7_start ml_X7_71 mn_X7_start rfl mv_X7_start (Nat.le_of_ble_eq_true rfl) (md_oc (by assumption)) (Nat.le_of_ble_eq_true rfl) (by first | exact jl_d0 hd rfl | omega) (by first | exact Nat.le_of_ble_eq_true rfl | omega) (by first | exact Nat.le_of_ble_eq_true rfl | omega) ?_
    refine s_X7_start g (by first | exact jl_d1 hd rfl | omega) (by omega) (by assumption) (fun v21 h21 b21 i21 t21 s21 u21 y21 => sg_K1 ?_)
    have x21 := y21.1
    have hk21 := x21.2.1
    have y21 := md_Yt (h0 := h) (by assumption) y21
    refine sg_if_ne (pc := 24) (tgt := 40) (dc_X7_isAlike_0.2.2.1.1) (by decide) (fun c24 => ?_) (fun c24 => absurd c24 (by omega))
    refine sg_iconst (pc := 40) (z := 0) (dc_X7_isAlike_30.2.1.1) (by decide) ?_
    refine sg_zret (pc := 41) (dc_X7_isAlike_30.2.1.2) rfl (by first | exact Or.inl rfl | exact Or.inr rfl | omega | assumption) (by first | exact Nat.le_of_ble_eq_true rfl | omega) (by first | exact Nat.le_of_ble_eq_true rfl | omega) ?_
    first
      | exact hQ _ _ (by omega) (by omega) (fun q => absurd q (by omega)) (by assumption)
      | exact hQ _ _ (by omega) (by omega) (fun _ => e30.elim (fun q => by first | exact Or.inl ⟨rfl, q.2⟩ | exact absurd q.1 (by omega)) (fun q => by first | exact Or.inr ⟨rfl, q.2⟩ | exact absurd q.1 (by omega))) (by assumption)
  · refine sg_iload_n (pc := 8) (j := 2) (dc_X7_isAlike_0.1.2.1.1) rfl rfl ?_
    refine sg_cS1 (pc := 9) (d' := d - 1) (mc' := 0) (ms' := 0) g (dc_X7_isAlike_0.1.2.1.2) cb_X7_isNoRow ml_X7_68 ms_X7_isNoRow (Nat.le_of_ble_eq_true rfl) (by first | exact jl_d0 hd rfl | omega) (by first | exact Nat.le_of_ble_eq_true rfl | omega) (by first | exact Nat.le_of_ble_eq_true rfl | omega) ?_
    refine s_X7_isNoRow g (by first | exact jl_d1 hd rfl | omega) (fun z9 h9 b9 => sg_K1 ?_)
    (try simp only [fm_no, fm_one, fn_betw, fn_sign, fn_radix, fn_high, fn_low] at h9)
    refine sg_if_eq (pc := 12) (tgt := 19) (dc_X7_isAlike_0.1.2.2.1) (by decide) (fun c12 => ?_) (fun c12 => ?_)
    · refine sg_iconst (pc := 19) (z := 0) (dc_X7_isAlike_0.2.1.1.2) (by decide) ?_
      refine sg_iconst (pc := 20) (z := 1) (dc_X7_isAlike_0.2.1.2.1) (by decide) ?_
      refine sg_cE2 (pc := 21) (d' := d - 1) (mc' := 0) (ms' := 0) 8 g (dc_X7_isAlike_0.2.1.2.2) cb_X7_start ml_X7_71 mn_X7_start rfl mv_X7_start (Nat.le_of_ble_eq_true rfl) (md_oc (by assumption)) (Nat.le_of_ble_eq_true rfl) (by first | exact jl_d0 hd rfl | omega) (by first | exact Nat.le_of_ble_eq_true rfl | omega) (by first | exact Nat.le_of_ble_eq_true rfl | omega) ?_
      refine s_X7_start g (by first | exact jl_d1 hd rfl | omega) (by omega) (by assumption) (fun v21 h21 b21 i21 t21 s21 u21 y21 => sg_K1 ?_)
      have x21 := y21.1
      have hk21 := x21.2.1
      have y21 := md_Yt (h0 := h) (by assumption) y21
      refine sg_if_ne (pc := 24) (tgt := 40) (dc_X7_isAlike_0.2.2.1.1) (by decide) (fun c24 => absurd c24 (by omega)) (fun c24 => ?_)
      refine sg_aload_n (pc := 27) (j := 0) (dc_X7_isAlike_0.2.2.1.2) rfl rfl ?_
      refine sg_iload_n (pc := 28) (j := 1) (dc_X7_isAlike_0.2.2.2.1) rfl rfl ?_
      refine sg_iload_n (pc := 29) (j := 2) (dc_X7_isAlike_0.2.2.2.2) rfl rfl ?_
      refine sg_cE2 (pc := 30) (d' := d - 1) (mc' := 0) (ms' := 0) 8 g (dc_X7_isAlike_30.1.1.1) cb_X7_areAlike ml_X7_219 mn_X7_areAlike rfl mv_X7_areAlike (Nat.le_of_ble_eq_true rfl) (md_oc (by assumption)) (Nat.le_of_ble_eq_true rfl) (by first | exact jl_d0 hd rfl | omega) (by first | exact Nat.le_of_ble_eq_true rfl | omega) (by first | exact Nat.le_of_ble_eq_true rfl | omega) ?_
      refine f_X7_areAlike g (by first | exact jl_d1 hd rfl | omega) (by omega) (md_Ya (h0 := h) (by assumption) hA) hL hN (by assumption) (fun v30 e30 => sg_K1 ?_)
      refine sg_if_eq (pc := 33) (tgt := 40) (dc_X7_isAlike_30.1.1.2) (by decide) (fun c33 => ?_) (fun c33 => ?_)
      · refine sg_iconst (pc := 40) (z := 0) (dc_X7_isAlike_30.2.1.1) (by decide) ?_
        refine sg_zret (pc := 41) (dc_X7_isAlike_30.2.1.2) rfl (by first | exact Or.inl rfl | exact Or.inr rfl | omega | assumption) (by first | exact Nat.le_of_ble_eq_true rfl | omega) (by first | exact Nat.le_of_ble_eq_true rfl | omega) ?_
        first
          | exact hQ _ _ (by omega) (by omega) (fun q => absurd q (by omega)) (by assumption)
          | exact hQ _ _ (by omega) (by omega) (fun _ => e30.elim (fun q => by first | exact Or.inl ⟨rfl, q.2⟩ | exact absurd q.1 (by omega)) (fun q => by first | exact Or.inr ⟨rfl, q.2⟩ | exact absurd q.1 (by omega))) (by assumption)
      · refine sg_iconst (pc := 36) (z := 1) (dc_X7_isAlike_30.1.2.1) (by decide) ?_
        refine sg_goto (pc := 37) (tgt := 41) (dc_X7_isAlike_30.1.2.2) (by decide) ?_
        refine sg_zret (pc := 41) (dc_X7_isAlike_30.2.1.2) rfl (by first | exact Or.inl rfl | exact Or.inr rfl | omega | assumption) (by first | exact Nat.le_of_ble_eq_true rfl | omega) (by first | exact Nat.le_of_ble_eq_true rfl | omega) ?_
        first
          | exact hQ _ _ (by omega) (by omega) (fun q => absurd q (by omega)) (by assumption)
          | exact hQ _ _ (by omega) (by omega) (fun _ => e30.elim (fun q => by first | exact Or.inl ⟨rfl, q.2⟩ | exact absurd q.1 (by omega)) (fun q => by first | exact Or.inr ⟨rfl, q.2⟩ | exact absurd q.1 (by omega))) (by assumption)
    · refine sg_iconst (pc := 15) (z := 1) (dc_X7_isAlike_0.1.2.2.2) (by decide) ?_
      refine sg_goto (pc := 16) (tgt := 20) (dc_X7_isAlike_0.2.1.1.1) (by decide) ?_
      refine sg_iconst (pc := 20) (z := 1) (dc_X7_isAlike_0.2.1.2.1) (by decide) ?_
      refine sg_cE2 (pc := 21) (d' := d - 1) (mc' := 0) (ms' := 0) 8 g (dc_X7_isAlike_0.2.1.2.2) cb_X7_start ml_X7_71 mn_X7_start rfl mv_X7_start (Nat.le_of_ble_eq_true rfl) (md_oc (by assumption)) (Nat.le_of_ble_eq_true rfl) (by first | exact jl_d0 hd rfl | omega) (by first | exact Nat.le_of_ble_eq_true rfl | omega) (by first | exact Nat.le_of_ble_eq_true rfl | omega) ?_
      refine s_X7_start g (by first | exact jl_d1 hd rfl | omega) (by omega) (by assumption) (fun v21 h21 b21 i21 t21 s21 u21 y21 => sg_K1 ?_)
      have x21 := y21.1
      have hk21 := x21.2.1
      have y21 := md_Yt (h0 := h) (by assumption) y21
      refine sg_if_ne (pc := 24) (tgt := 40) (dc_X7_isAlike_0.2.2.1.1) (by decide) (fun c24 => ?_) (fun c24 => absurd c24 (by omega))
      refine sg_iconst (pc := 40) (z := 0) (dc_X7_isAlike_30.2.1.1) (by decide) ?_
      refine sg_zret (pc := 41) (dc_X7_isAlike_30.2.1.2) rfl (by first | exact Or.inl rfl | exact Or.inr rfl | omega | assumption) (by first | exact Nat.le_of_ble_eq_true rfl | omega) (by first | exact Nat.le_of_ble_eq_true rfl | omega) ?_
      first
        | exact hQ _ _ (by omega) (by omega) (fun q => absurd q (by omega)) (by assumption)
        | exact hQ _ _ (by omega) (by omega) (fun _ => e30.elim (fun q => by first | exact Or.inl ⟨rfl, q.2⟩ | exact absurd q.1 (by omega)) (fun q => by first | exact Or.inr ⟨rfl, q.2⟩ | exact absurd q.1 (by omega))) (by assumption)

