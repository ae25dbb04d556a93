set_option maxRecDepth 100000 in
theorem f_X7_last {w : sg_W} {Q : sg_O → sg_H → Prop} {h : sg_H} (g : sg_G w) {d : Nat} (hd : 9 ≤ d) {M : Nat} {row kind : Int} {A : fa_A} {L : List Int} (hA : md_ab h M = A) (hL : fa_L A row.toNat = L) (hx : md_M w h M) (hQ : ∀ (v : Int) (h' : sg_H), ((row < 0 ∨ 4 ≤ row) → md_t h' M = 1) → (¬ (row < 0 ∨ 4 ≤ row) → (kind < 0 ∨ 4 < kind) → md_t h' M = 2) → (¬ (row < 0 ∨ 4 ≤ row) → ¬ (kind < 0 ∨ 4 < kind) → md_t h' M = 0) → (md_t h' M = 0 → v = fs_last L kind) → md_Y w h h' M → Q (.inl (some (sg_i v))) h') : sg_C w mi_X7_last d 0 0 [sg_r M, sg_i row, sg_i kind] h Q := by
  refine sg_of pn_X7 (Nat.le_of_ble_eq_true rfl) ?_
  have y0 := md_Y0 hx
  have hk := hx.2.1
  refine sg_aload_n (pc := 0) (j := 0) (dc_X7_last_0.1.1.1.1) rfl rfl ?_
  refine sg_iload_n (pc := 1) (j := 1) (dc_X7_last_0.1.1.1.2) rfl rfl ?_
  refine sg_cS1 (pc := 2) (d' := d - 1) (mc' := 0) (ms' := 0) g (dc_X7_last_0.1.1.2.1) cb_X7_isNoRow ml_X7_68 ms_X7_isNoRow (Nat.le_of_ble_eq_true rfl) (by first | exact jl_d0 hd rfl | omega) (by first | exact Nat.le_of_ble_eq_true rfl | omega) (by first | exact Nat.le_of_ble_eq_true rfl | omega) ?_
  refine s_X7_isNoRow g (by first | exact jl_d1 hd rfl | omega) (fun z2 h2 b2 => sg_K1 ?_)
  (try simp only [fm_no, fm_one, fn_betw, fn_sign, fn_radix, fn_high, fn_low] at h2)
  refine sg_iconst (pc := 5) (z := 1) (dc_X7_last_0.1.1.2.2) (by decide) ?_
  refine sg_cE2 (pc := 6) (d' := d - 1) (mc' := 0) (ms' := 0) 8 g (dc_X7_last_0.1.2.1.1) cb_X7_start ml_X7_71 mn_X7_start rfl mv_X7_start (Nat.le_of_ble_eq_true rfl) (md_oc (by assumption)) (Nat.le_of_ble_eq_true rfl) (by first | exact jl_d0 hd rfl | omega) (by first | exact Nat.le_of_ble_eq_true rfl | omega) (by first | exact Nat.le_of_ble_eq_true rfl | omega) ?_
  refine s_X7_start g (by first | exact jl_d1 hd rfl | omega) (by omega) (by assumption) (fun v6 h6 b6 i6 t6 s6 u6 y6 => sg_K1 ?_)
  have x6 := y6.1
  have hk6 := x6.2.1
  have y6 := md_Yt (h0 := h) (by assumption) y6
  refine sg_if_ne (pc := 9) (tgt := 24) (dc_X7_last_0.1.2.1.2) (by decide) (fun c9 => ?_) (fun c9 => ?_)
  · refine sg_iconst (pc := 24) (z := 0) (dc_X7_last_0.2.2.1.1) (by decide) ?_
    refine sg_iret (pc := 25) (dc_X7_last_0.2.2.1.2) rfl (by first | exact Nat.le_of_ble_eq_true rfl | omega) (by first | exact Nat.le_of_ble_eq_true rfl | omega) ?_
    first
      | exact hQ _ _ (by omega) (by omega) (by omega) (fun q => absurd q (by omega)) (by assumption)
      | exact hQ _ _ (by omega) (by omega) (by omega) (fun _ => fs_theE fs_lU (p1.elim (fun u => Or.inl ⟨u.1, fun j j1 => u.2 j (by omega)⟩) (fun u => Or.inr ⟨u.1, by omega, u.2.2.1, fun j j0 j1 => u.2.2.2 j j0 (by omega)⟩))) (by assumption)
  · refine sg_aload_n (pc := 12) (j := 0) (dc_X7_last_0.1.2.2.1) rfl rfl ?_
    refine sg_iload_n (pc := 13) (j := 2) (dc_X7_last_0.1.2.2.2) rfl rfl ?_
    refine sg_cS1 (pc := 14) (d' := d - 1) (mc' := 0) (ms' := 0) g (dc_X7_last_0.2.1.1.1) cb_X7_isNoKind ml_X7_100 ms_X7_isNoKind (Nat.le_of_ble_eq_true rfl) (by first | exact jl_d0 hd rfl | omega) (by first | exact Nat.le_of_ble_eq_true rfl | omega) (by first | exact Nat.le_of_ble_eq_true rfl | omega) ?_
    refine s_X7_isNoKind g (by first | exact jl_d1 hd rfl | omega) (fun z14 h14 b14 => sg_K1 ?_)
    (try simp only [fm_no, fm_one, fn_betw, fn_sign, fn_radix, fn_high, fn_low] at h14)
    refine sg_iconst (pc := 17) (z := 2) (dc_X7_last_0.2.1.1.2) (by decide) ?_
    refine sg_cE2 (pc := 18) (d' := d - 1) (mc' := 0) (ms' := 0) 8 g (dc_X7_last_0.2.1.2.1) cb_X7_refuse ml_X7_45 mn_X7_refuse rfl mv_X7_refuse (Nat.le_of_ble_eq_true rfl) (md_oc (by assumption)) (Nat.le_of_ble_eq_true rfl) (by first | exact jl_d0 hd rfl | omega) (by first | exact Nat.le_of_ble_eq_true rfl | omega) (by first | exact Nat.le_of_ble_eq_true rfl | omega) ?_
    refine s_X7_refuse g (by first | exact jl_d1 hd rfl | omega) (by omega) (by assumption) (fun v18 h18 b18 i18 t18 s18 u18 y18 => sg_K1 ?_)
    have x18 := y18.1
    have hk18 := x18.2.1
    have y18 := md_Yt (h0 := h) (by assumption) y18
    refine sg_if_eq (pc := 21) (tgt := 26) (dc_X7_last_0.2.1.2.2) (by decide) (fun c21 => ?_) (fun c21 => ?_)
    · refine sg_iconst (pc := 26) (z := -1) (dc_X7_last_0.2.2.2.1) (by decide) ?_
      refine sg_istore_n (pc := 27) (j := 3) (dc_X7_last_0.2.2.2.2) rfl (by decide) ?_
      refine sg_iconst (pc := 28) (z := 0) (dc_X7_last_28.1.1.1.1) (by decide) ?_
      refine sg_istore (pc := 29) (dc_X7_last_28.1.1.1.2) (by decide) ?_
      have loop31 : ∀ (N : Nat) (p s : Int), (0 ≤ p ∧ p ≤ (L.length : Int)) → (((s = -1 ∧ ∀ j : Nat, (j : Int) < p → fn_isOf (L.getD j 0) kind = 0) ∨ (0 ≤ s ∧ s < p ∧ fn_isOf (L.getD (Int.toNat s) 0) kind ≠ 0 ∧ ∀ j : Nat, s < (j : Int) → (j : Int) < p → fn_isOf (L.getD j 0) kind = 0))) → ((L.length : Int) - p).toNat < N → sg_R w mi_X7_last d 0 0 Q 31 [(4, sg_i p), (3, sg_i s), (0, sg_r M), (1, sg_i row), (2, sg_i kind)] [] h18 0 0 := by
        intro N
        induction N with
        | zero => intro p s p0 p1 hm; exact absurd hm (Nat.not_lt_zero _)
        | succ N ih =>
          intro p s p0 p1 hm
          refine sg_iload (pc := 31) (dc_X7_last_28.1.1.2.1) rfl ?_
          refine sg_aload_n (pc := 33) (j := 0) (dc_X7_last_28.1.1.2.2) rfl rfl ?_
          refine md_grw (pc := 34) g (dc_X7_last_28.1.2.1.1) fk_X7_9 (by assumption) (fun r34 => ?_)
          refine sg_iload_n (pc := 37) (j := 1) (dc_X7_last_28.1.2.1.2) rfl rfl ?_
          first | refine md_alX (pc := 38) (dc_X7_last_28.1.2.2.1) hA (by assumption) (by assumption) (by omega) (by omega) (fun X38 l38 => ?_) | refine md_alXt (pc := 38) (dc_X7_last_28.1.2.2.1) hA (by assumption) (by assumption) (by omega) (by omega) (fun X38 l38 => ?_)
          refine md_xlen (pc := 39) (dc_X7_last_28.1.2.2.2) (by assumption) (by omega) ?_
          refine sg_icmp_ge (pc := 40) (tgt := 68) (dc_X7_last_28.2.1.1.1) (by decide) (fun c40 => ?_) (fun c40 => ?_)
          · refine sg_iload_n (pc := 68) (j := 3) (dc_X7_last_53.2.2.1) rfl rfl ?_
            refine sg_iret (pc := 69) (dc_X7_last_53.2.2.2) rfl (by first | exact Nat.le_of_ble_eq_true rfl | omega) (by first | exact Nat.le_of_ble_eq_true rfl | omega) ?_
            first
              | exact hQ _ _ (by omega) (by omega) (by omega) (fun q => absurd q (by omega)) (by assumption)
              | exact hQ _ _ (by omega) (by omega) (by omega) (fun _ => fs_theE fs_lU (p1.elim (fun u => Or.inl ⟨u.1, fun j j1 => u.2 j (by omega)⟩) (fun u => Or.inr ⟨u.1, by omega, u.2.2.1, fun j j0 j1 => u.2.2.2 j j0 (by omega)⟩))) (by assumption)
          · refine sg_aload_n (pc := 43) (j := 0) (dc_X7_last_28.2.1.1.2) rfl rfl ?_
            refine md_grw (pc := 44) g (dc_X7_last_28.2.1.2.1) fk_X7_9 (by assumption) (fun r44 => ?_)
            refine sg_iload_n (pc := 47) (j := 1) (dc_X7_last_28.2.1.2.2) rfl rfl ?_
            first | refine md_alX (pc := 48) (dc_X7_last_28.2.2.1.1) hA (by assumption) (by assumption) (by omega) (by omega) (fun X48 l48 => ?_) | refine md_alXt (pc := 48) (dc_X7_last_28.2.2.1.1) hA (by assumption) (by assumption) (by omega) (by omega) (fun X48 l48 => ?_)
            refine sg_iload (pc := 49) (dc_X7_last_28.2.2.1.2) rfl ?_
            refine md_xld (pc := 51) (dc_X7_last_28.2.2.2.1) (by assumption) (by omega) (by omega) (fun g51 => ?_)
            refine sg_iload_n (pc := 52) (j := 2) (dc_X7_last_28.2.2.2.2) rfl rfl ?_
            refine sg_cS2 (pc := 53) (d' := d - 1) (mc' := 0) (ms' := 0) g (dc_X7_last_53.1.1.1) cb_X7_isKind ml_X7_26 ms_X7_isKind (Nat.le_of_ble_eq_true rfl) (by first | exact jl_d0 hd rfl | omega) (by first | exact Nat.le_of_ble_eq_true rfl | omega) (by first | exact Nat.le_of_ble_eq_true rfl | omega) ?_
            refine s_X7_isKind g (by first | exact jl_d1 hd rfl | omega) (by assumption) (by omega) (by omega) (fun z53 e53 b53 => sg_K1 ?_)
            have hsN : z53 = 0 → ((s = -1 ∧ ∀ j : Nat, (j : Int) < (p + 1) → fn_isOf (L.getD j 0) kind = 0) ∨ (0 ≤ s ∧ s < (p + 1) ∧ fn_isOf (L.getD (Int.toNat s) 0) kind ≠ 0 ∧ ∀ j : Nat, s < (j : Int) → (j : Int) < (p + 1) → fn_isOf (L.getD j 0) kind = 0)) := fun q0 => p1.elim (fun u => Or.inl ⟨u.1, fun j j1 => by
              by_cases q : j = p.toNat
              · subst q; omega
              · exact u.2 j (by omega)⟩) (fun u => Or.inr ⟨u.1, by omega, u.2.2.1, fun j j0 j1 => by
              by_cases q : j = p.toNat
              · subst q; omega
              · exact u.2.2.2 j j0 (by omega)⟩)
            have hsY : z53 ≠ 0 → ((p = -1 ∧ ∀ j : Nat, (j : Int) < (p + 1) → fn_isOf (L.getD j 0) kind = 0) ∨ (0 ≤ p ∧ p < (p + 1) ∧ fn_isOf (L.getD (Int.toNat p) 0) kind ≠ 0 ∧ ∀ j : Nat, p < (j : Int) → (j : Int) < (p + 1) → fn_isOf (L.getD j 0) kind = 0)) := fun q0 => Or.inr ⟨by omega, by omega, by omega, fun j j0 j1 => absurd j1 (by omega)⟩
            refine sg_if_eq (pc := 56) (tgt := 62) (dc_X7_last_53.1.1.2) (by decide) (fun c56 => ?_) (fun c56 => ?_)
            · first | refine sg_iincB (pc := 62) (dc_X7_last_53.2.1.1) rfl (by decide) (by decide) (by omega) (by omega) ?_ | refine sg_iinc (pc := 62) (dc_X7_last_53.2.1.1) rfl (by decide) (by decide) ?_
              refine sg_goto (pc := 65) (tgt := 31) (dc_X7_last_53.2.1.2) (by decide) ?_
              refine sg_lsub (lv' := [(4, _), (3, _), (0, _), (1, _), (2, _)]) ⟨rfl, rfl, rfl, rfl, rfl, trivial⟩ ?_
              exact ih _ _ (by omega) (by first | exact hsY (by omega) | exact hsN (by omega)) (by first | exact jl_m1 hm (by omega) | exact jl_m2 hm (by omega) | omega)
            · refine sg_iload (pc := 59) (dc_X7_last_53.1.2.1) rfl ?_
              refine sg_istore_n (pc := 61) (j := 3) (dc_X7_last_53.1.2.2) rfl (by decide) ?_
              first | refine sg_iincB (pc := 62) (dc_X7_last_53.2.1.1) rfl (by decide) (by decide) (by omega) (by omega) ?_ | refine sg_iinc (pc := 62) (dc_X7_last_53.2.1.1) rfl (by decide) (by decide) ?_
              refine sg_goto (pc := 65) (tgt := 31) (dc_X7_last_53.2.1.2) (by decide) ?_
              refine sg_lsub (lv' := [(4, _), (3, _), (0, _), (1, _), (2, _)]) ⟨rfl, rfl, rfl, rfl, rfl, trivial⟩ ?_
              exact ih _ _ (by omega) (by first | exact hsY (by omega) | exact hsN (by omega)) (by first | exact jl_m1 hm (by omega) | exact jl_m2 hm (by omega) | omega)
      refine sg_lsub (lv' := [(4, _), (3, _), (0, _), (1, _), (2, _)]) ⟨rfl, rfl, rfl, rfl, rfl, trivial⟩ ?_
      exact loop31 _ _ _ (by omega) (Or.inl ⟨rfl, fun j j1 => absurd j1 (by omega)⟩) (Nat.lt_succ_self _)
    · refine sg_iconst (pc := 24) (z := 0) (dc_X7_last_0.2.2.1.1) (by decide) ?_
      refine sg_iret (pc := 25) (dc_X7_last_0.2.2.1.2) rfl (by first | exact Nat.le_of_ble_eq_true rfl | omega) (by first | exact Nat.le_of_ble_eq_true rfl | omega) ?_
      first
        | exact hQ _ _ (by omega) (by omega) (by omega) (fun q => absurd q (by omega)) (by assumption)
        | exact hQ _ _ (by omega) (by omega) (by omega) (fun _ => fs_theE fs_lU (p1.elim (fun u => Or.inl ⟨u.1, fun j j1 => u.2 j (by omega)⟩) (fun u => Or.inr ⟨u.1, by omega, u.2.2.1, fun j j0 j1 => u.2.2.2 j j0 (by omega)⟩))) (by assumption)

