set_option maxRecDepth 100000 in
theorem f_X7_orderOf {w : sg_W} {Q : sg_O → sg_H → Prop} {h : sg_H} (g : sg_G w) {d : Nat} (hd : 2 ≤ d) {this c a b : Nat} {L Z : List Int} (hA : md_X c h a L) (hB : md_X c h b Z) (hn : L.length ≤ 100) (hm : Z.length ≤ 100) (hQ : ∀ v : Int, v = fs_ord L Z → Q (.inl (some (sg_i v))) h) : sg_C w mi_X7_orderOf d 0 0 [sg_r this, sg_r a, sg_r b] h Q := by
  refine sg_of pn_X7 (Nat.le_of_ble_eq_true rfl) ?_
  refine sg_iconst (pc := 0) (z := 0) (dc_X7_orderOf_0.1.1.1.1) (by decide) ?_
  refine sg_istore_n (pc := 1) (j := 3) (dc_X7_orderOf_0.1.1.1.2) rfl (by decide) ?_
  have loop2 : ∀ (N : Nat) (p : Int), (0 ≤ p ∧ p ≤ (L.length : Int) ∧ p ≤ (Z.length : Int)) → (∀ j : Nat, (j : Int) < p → L.getD j 0 = Z.getD j 0) → ((L.length : Int) - p).toNat < N → sg_R w mi_X7_orderOf d 0 0 Q 2 [(3, sg_i p), (0, sg_r this), (1, sg_r a), (2, sg_r b)] [] h 0 0 := by
    intro N
    induction N with
    | zero => intro p p0 p1 hm; exact absurd hm (Nat.not_lt_zero _)
    | succ N ih =>
      intro p p0 p1 hm
      refine sg_iload_n (pc := 2) (j := 3) (dc_X7_orderOf_0.1.1.2.1) rfl rfl ?_
      refine sg_aload_n (pc := 3) (j := 1) (dc_X7_orderOf_0.1.1.2.2) rfl rfl ?_
      refine md_xlen (pc := 4) (dc_X7_orderOf_0.1.2.1.1) hA (by omega) ?_
      refine sg_icmp_ge (pc := 5) (tgt := 44) (dc_X7_orderOf_0.1.2.1.2) (by decide) (fun c5 => ?_) (fun c5 => ?_)
      · refine sg_aload_n (pc := 44) (j := 1) (dc_X7_orderOf_20.2.2.2.1) rfl rfl ?_
        refine md_xlen (pc := 45) (dc_X7_orderOf_20.2.2.2.2) hA (by omega) ?_
        refine sg_aload_n (pc := 46) (j := 2) (dc_X7_orderOf_46.1.1.1.1) rfl rfl ?_
        refine md_xlen (pc := 47) (dc_X7_orderOf_46.1.1.1.2) hB (by omega) ?_
        refine sg_icmp_ne (pc := 48) (tgt := 55) (dc_X7_orderOf_46.1.1.2.1) (by decide) (fun c48 => ?_) (fun c48 => ?_)
        · refine sg_aload_n (pc := 55) (j := 1) (dc_X7_orderOf_46.1.2.1.2) rfl rfl ?_
          refine md_xlen (pc := 56) (dc_X7_orderOf_46.1.2.2.1) hA (by omega) ?_
          refine sg_aload_n (pc := 57) (j := 2) (dc_X7_orderOf_46.1.2.2.2) rfl rfl ?_
          refine md_xlen (pc := 58) (dc_X7_orderOf_46.2.1.1.1) hB (by omega) ?_
          refine sg_icmp_ge (pc := 59) (tgt := 66) (dc_X7_orderOf_46.2.1.1.2) (by decide) (fun c59 => ?_) (fun c59 => ?_)
          · refine sg_iconst (pc := 66) (z := 1) (dc_X7_orderOf_46.2.2.1.1) (by decide) ?_
            refine sg_iret (pc := 67) (dc_X7_orderOf_46.2.2.1.2) rfl (by first | exact Nat.le_of_ble_eq_true rfl | omega) (by first | exact Nat.le_of_ble_eq_true rfl | omega) ?_
            first
              | (exfalso; omega)
              | exact hQ _ (fs_theE fs_oU (Or.inr ⟨fun i i0 i1 => p1 i (by omega), by unfold fs_cmp; first | rw [if_pos (by omega)] | (rw [if_neg (by omega)]; first | rw [if_pos (by omega)] | rw [if_neg (by omega)])⟩))
          · refine sg_iconst (pc := 62) (z := -1) (dc_X7_orderOf_46.2.1.2.1) (by decide) ?_
            refine sg_goto (pc := 63) (tgt := 67) (dc_X7_orderOf_46.2.1.2.2) (by decide) ?_
            refine sg_iret (pc := 67) (dc_X7_orderOf_46.2.2.1.2) rfl (by first | exact Nat.le_of_ble_eq_true rfl | omega) (by first | exact Nat.le_of_ble_eq_true rfl | omega) ?_
            first
              | (exfalso; omega)
              | exact hQ _ (fs_theE fs_oU (Or.inr ⟨fun i i0 i1 => p1 i (by omega), by unfold fs_cmp; first | rw [if_pos (by omega)] | (rw [if_neg (by omega)]; first | rw [if_pos (by omega)] | rw [if_neg (by omega)])⟩))
        · refine sg_iconst (pc := 51) (z := 0) (dc_X7_orderOf_46.1.1.2.2) (by decide) ?_
          refine sg_goto (pc := 52) (tgt := 67) (dc_X7_orderOf_46.1.2.1.1) (by decide) ?_
          refine sg_iret (pc := 67) (dc_X7_orderOf_46.2.2.1.2) rfl (by first | exact Nat.le_of_ble_eq_true rfl | omega) (by first | exact Nat.le_of_ble_eq_true rfl | omega) ?_
          first
            | (exfalso; omega)
            | exact hQ _ (fs_theE fs_oU (Or.inr ⟨fun i i0 i1 => p1 i (by omega), by unfold fs_cmp; first | rw [if_pos (by omega)] | (rw [if_neg (by omega)]; first | rw [if_pos (by omega)] | rw [if_neg (by omega)])⟩))
      · refine sg_iload_n (pc := 8) (j := 3) (dc_X7_orderOf_0.1.2.2.1) rfl rfl ?_
        refine sg_aload_n (pc := 9) (j := 2) (dc_X7_orderOf_0.1.2.2.2) rfl rfl ?_
        refine md_xlen (pc := 10) (dc_X7_orderOf_0.2.1.1.1) hB (by omega) ?_
        refine sg_icmp_ge (pc := 11) (tgt := 44) (dc_X7_orderOf_0.2.1.1.2) (by decide) (fun c11 => ?_) (fun c11 => ?_)
        · refine sg_aload_n (pc := 44) (j := 1) (dc_X7_orderOf_20.2.2.2.1) rfl rfl ?_
          refine md_xlen (pc := 45) (dc_X7_orderOf_20.2.2.2.2) hA (by omega) ?_
          refine sg_aload_n (pc := 46) (j := 2) (dc_X7_orderOf_46.1.1.1.1) rfl rfl ?_
          refine md_xlen (pc := 47) (dc_X7_orderOf_46.1.1.1.2) hB (by omega) ?_
          refine sg_icmp_ne (pc := 48) (tgt := 55) (dc_X7_orderOf_46.1.1.2.1) (by decide) (fun c48 => ?_) (fun c48 => ?_)
          · refine sg_aload_n (pc := 55) (j := 1) (dc_X7_orderOf_46.1.2.1.2) rfl rfl ?_
            refine md_xlen (pc := 56) (dc_X7_orderOf_46.1.2.2.1) hA (by omega) ?_
            refine sg_aload_n (pc := 57) (j := 2) (dc_X7_orderOf_46.1.2.2.2) rfl rfl ?_
            refine md_xlen (pc := 58) (dc_X7_orderOf_46.2.1.1.1) hB (by omega) ?_
            refine sg_icmp_ge (pc := 59) (tgt := 66) (dc_X7_orderOf_46.2.1.1.2) (by decide) (fun c59 => ?_) (fun c59 => ?_)
            · refine sg_iconst (pc := 66) (z := 1) (dc_X7_orderOf_46.2.2.1.1) (by decide) ?_
              refine sg_iret (pc := 67) (dc_X7_orderOf_46.2.2.1.2) rfl (by first | exact Nat.le_of_ble_eq_true rfl | omega) (by first | exact Nat.le_of_ble_eq_true rfl | omega) ?_
              first
                | (exfalso; omega)
                | exact hQ _ (fs_theE fs_oU (Or.inr ⟨fun i i0 i1 => p1 i (by omega), by unfold fs_cmp; first | rw [if_pos (by omega)] | (rw [if_neg (by omega)]; first | rw [if_pos (by omega)] | rw [if_neg (by omega)])⟩))
            · refine sg_iconst (pc := 62) (z := -1) (dc_X7_orderOf_46.2.1.2.1) (by decide) ?_
              refine sg_goto (pc := 63) (tgt := 67) (dc_X7_orderOf_46.2.1.2.2) (by decide) ?_
              refine sg_iret (pc := 67) (dc_X7_orderOf_46.2.2.1.2) rfl (by first | exact Nat.le_of_ble_eq_true rfl | omega) (by first | exact Nat.le_of_ble_eq_true rfl | omega) ?_
              first
                | (exfalso; omega)
                | exact hQ _ (fs_theE fs_oU (Or.inr ⟨fun i i0 i1 => p1 i (by omega), by unfold fs_cmp; first | rw [if_pos (by omega)] | (rw [if_neg (by omega)]; first | rw [if_pos (by omega)] | rw [if_neg (by omega)])⟩))
          · refine sg_iconst (pc := 51) (z := 0) (dc_X7_orderOf_46.1.1.2.2) (by decide) ?_
            refine sg_goto (pc := 52) (tgt := 67) (dc_X7_orderOf_46.1.2.1.1) (by decide) ?_
            refine sg_iret (pc := 67) (dc_X7_orderOf_46.2.2.1.2) rfl (by first | exact Nat.le_of_ble_eq_true rfl | omega) (by first | exact Nat.le_of_ble_eq_true rfl | omega) ?_
            first
              | (exfalso; omega)
              | exact hQ _ (fs_theE fs_oU (Or.inr ⟨fun i i0 i1 => p1 i (by omega), by unfold fs_cmp; first | rw [if_pos (by omega)] | (rw [if_neg (by omega)]; first | rw [if_pos (by omega)] | rw [if_neg (by omega)])⟩))
        · refine sg_aload_n (pc := 14) (j := 1) (dc_X7_orderOf_0.2.1.2.1) rfl rfl ?_
          refine sg_iload_n (pc := 15) (j := 3) (dc_X7_orderOf_0.2.1.2.2) rfl rfl ?_
          refine md_xld (pc := 16) (dc_X7_orderOf_0.2.2.1.1) hA (by omega) (by omega) (fun g16 => ?_)
          refine sg_aload_n (pc := 17) (j := 2) (dc_X7_orderOf_0.2.2.1.2) rfl rfl ?_
          refine sg_iload_n (pc := 18) (j := 3) (dc_X7_orderOf_0.2.2.2.1) rfl rfl ?_
          refine md_xld (pc := 19) (dc_X7_orderOf_0.2.2.2.2) hB (by omega) (by omega) (fun g19 => ?_)
          refine sg_icmp_eq (pc := 20) (tgt := 38) (dc_X7_orderOf_20.1.1.1.1) (by decide) (fun c20 => ?_) (fun c20 => ?_)
          · first | refine sg_iincB (pc := 38) (dc_X7_orderOf_20.2.2.1.1) rfl (by decide) (by decide) (by omega) (by omega) ?_ | refine sg_iinc (pc := 38) (dc_X7_orderOf_20.2.2.1.1) rfl (by decide) (by decide) ?_
            refine sg_goto (pc := 41) (tgt := 2) (dc_X7_orderOf_20.2.2.1.2) (by decide) ?_
            refine sg_lsub (lv' := [(3, _), (0, _), (1, _), (2, _)]) ⟨rfl, rfl, rfl, rfl, trivial⟩ ?_
            exact ih _ (by omega) (fun j j0 => by
              by_cases q : j = p.toNat
              · subst q; omega
              · exact p1 j (by omega)) (by first | exact jl_m1 hm (by omega) | exact jl_m2 hm (by omega) | omega)
          · refine sg_aload_n (pc := 23) (j := 1) (dc_X7_orderOf_20.1.1.1.2) rfl rfl ?_
            refine sg_iload_n (pc := 24) (j := 3) (dc_X7_orderOf_20.1.1.2.1) rfl rfl ?_
            refine md_xld (pc := 25) (dc_X7_orderOf_20.1.1.2.2) hA (by omega) (by omega) (fun g25 => ?_)
            refine sg_aload_n (pc := 26) (j := 2) (dc_X7_orderOf_20.1.2.1.1) rfl rfl ?_
            refine sg_iload_n (pc := 27) (j := 3) (dc_X7_orderOf_20.1.2.1.2) rfl rfl ?_
            refine md_xld (pc := 28) (dc_X7_orderOf_20.1.2.2.1) hB (by omega) (by omega) (fun g28 => ?_)
            refine sg_icmp_ge (pc := 29) (tgt := 36) (dc_X7_orderOf_20.1.2.2.2) (by decide) (fun c29 => ?_) (fun c29 => ?_)
            · refine sg_iconst (pc := 36) (z := 1) (dc_X7_orderOf_20.2.1.2.1) (by decide) ?_
              refine sg_iret (pc := 37) (dc_X7_orderOf_20.2.1.2.2) rfl (by first | exact Nat.le_of_ble_eq_true rfl | omega) (by first | exact Nat.le_of_ble_eq_true rfl | omega) ?_
              exact hQ _ (fs_theE fs_oU (Or.inl ⟨p.toNat, by omega, by omega, fun i hi => p1 i (by omega), by omega, by unfold fs_cmp; rw [if_neg (by omega)]; first | rw [if_pos (by omega)] | rw [if_neg (by omega)]⟩))
            · refine sg_iconst (pc := 32) (z := -1) (dc_X7_orderOf_20.2.1.1.1) (by decide) ?_
              refine sg_goto (pc := 33) (tgt := 37) (dc_X7_orderOf_20.2.1.1.2) (by decide) ?_
              refine sg_iret (pc := 37) (dc_X7_orderOf_20.2.1.2.2) rfl (by first | exact Nat.le_of_ble_eq_true rfl | omega) (by first | exact Nat.le_of_ble_eq_true rfl | omega) ?_
              exact hQ _ (fs_theE fs_oU (Or.inl ⟨p.toNat, by omega, by omega, fun i hi => p1 i (by omega), by omega, by unfold fs_cmp; rw [if_neg (by omega)]; first | rw [if_pos (by omega)] | rw [if_neg (by omega)]⟩))
  refine sg_lsub (lv' := [(3, _), (0, _), (1, _), (2, _)]) ⟨rfl, rfl, rfl, rfl, trivial⟩ ?_
  exact loop2 _ _ (by omega) (fun j j0 => absurd j0 (by omega)) (Nat.lt_succ_self _)

set_option maxRecDepth 100000 in
theorem f_X7_order {w : sg_W} {Q : sg_O → sg_H → Prop} {h : sg_H} (g : sg_G w) {d : Nat} (hd : 9 ≤ d) {M : Nat} {row other : Int} {A : fa_A} {L Z : List Int} (hA : md_ab h M = A) (hL : fa_L A row.toNat = L) (hN : fa_L A other.toNat = Z) (hx : md_M w h M) (hQ : ∀ (v : Int) (h' : sg_H), ((row < 0 ∨ 4 ≤ row ∨ other < 0 ∨ 4 ≤ other) → md_t h' M = 1) → (¬ (row < 0 ∨ 4 ≤ row ∨ other < 0 ∨ 4 ≤ other) → md_t h' M = 0) → (md_t h' M = 0 → v = fs_ord L Z) → md_Y w h h' M → Q (.inl (some (sg_i v))) h') : sg_C w mi_X7_order d 0 0 [sg_r M, sg_i row, sg_i other] h Q := by
  refine sg_of pn_X7 (Nat.le_of_ble_eq_true rfl) ?_
  have y0 := md_Y0 hx
  have hk := hx.2.1
  refine sg_aload_n (pc := 0) (j := 0) (dc_X7_order_0.1.1.1.1) rfl rfl ?_
  refine sg_iload_n (pc := 1) (j := 1) (dc_X7_order_0.1.1.1.2) rfl rfl ?_
  refine sg_cS1 (pc := 2) (d' := d - 1) (mc' := 0) (ms' := 0) g (dc_X7_order_0.1.1.2.1) cb_X7_isNoRow ml_X7_68 ms_X7_isNoRow (Nat.le_of_ble_eq_true rfl) (by first | exact jl_d0 hd rfl | omega) (by first | exact Nat.le_of_ble_eq_true rfl | omega) (by first | exact Nat.le_of_ble_eq_true rfl | omega) ?_
  refine s_X7_isNoRow g (by first | exact jl_d1 hd rfl | omega) (fun z2 h2 b2 => sg_K1 ?_)
  (try simp only [fm_no, fm_one, fn_betw, fn_sign, fn_radix, fn_high, fn_low] at h2)
  refine sg_if_ne (pc := 5) (tgt := 15) (dc_X7_order_0.1.1.2.2) (by decide) (fun c5 => ?_) (fun c5 => ?_)
  · refine sg_iconst (pc := 15) (z := 1) (dc_X7_order_0.1.2.2.2) (by decide) ?_
    refine sg_goto (pc := 16) (tgt := 20) (dc_X7_order_0.2.1.1.1) (by decide) ?_
    refine sg_iconst (pc := 20) (z := 1) (dc_X7_order_0.2.1.2.1) (by decide) ?_
    refine sg_cE2 (pc := 21) (d' := d - 1) (mc' := 0) (ms' := 0) 8 g (dc_X7_order_0.2.1.2.2) cb_X7_start ml_X7_71 mn_X7_start rfl mv_X7_start (Nat.le_of_ble_eq_true rfl) (md_oc (by assumption)) (Nat.le_of_ble_eq_true rfl) (by first | exact jl_d0 hd rfl | omega) (by first | exact Nat.le_of_ble_eq_true rfl | omega) (by first | exact Nat.le_of_ble_eq_true rfl | omega) ?_
    refine s_X7_start g (by first | exact jl_d1 hd rfl | omega) (by omega) (by assumption) (fun v21 h21 b21 i21 t21 s21 u21 y21 => sg_K1 ?_)
    have x21 := y21.1
    have hk21 := x21.2.1
    have y21 := md_Yt (h0 := h) (by assumption) y21
    refine sg_if_eq (pc := 24) (tgt := 31) (dc_X7_order_0.2.2.1.1) (by decide) (fun c24 => absurd c24 (by omega)) (fun c24 => ?_)
    refine sg_iconst (pc := 27) (z := 0) (dc_X7_order_0.2.2.1.2) (by decide) ?_
    refine sg_goto (pc := 28) (tgt := 47) (dc_X7_order_0.2.2.2.1) (by decide) ?_
    refine sg_iret (pc := 47) (dc_X7_order_32.2.1.1.2) rfl (by first | exact Nat.le_of_ble_eq_true rfl | omega) (by first | exact Nat.le_of_ble_eq_true rfl | omega) ?_
    first
      | exact hQ _ _ (by omega) (by omega) (fun q => absurd q (by omega)) (by assumption)
      | exact hQ _ _ (by omega) (by omega) (fun _ => e44) (by assumption)
  · refine sg_iload_n (pc := 8) (j := 2) (dc_X7_order_0.1.2.1.1) rfl rfl ?_
    refine sg_cS1 (pc := 9) (d' := d - 1) (mc' := 0) (ms' := 0) g (dc_X7_order_0.1.2.1.2) cb_X7_isNoRow ml_X7_68 ms_X7_isNoRow (Nat.le_of_ble_eq_true rfl) (by first | exact jl_d0 hd rfl | omega) (by first | exact Nat.le_of_ble_eq_true rfl | omega) (by first | exact Nat.le_of_ble_eq_true rfl | omega) ?_
    refine s_X7_isNoRow g (by first | exact jl_d1 hd rfl | omega) (fun z9 h9 b9 => sg_K1 ?_)
    (try simp only [fm_no, fm_one, fn_betw, fn_sign, fn_radix, fn_high, fn_low] at h9)
    refine sg_if_eq (pc := 12) (tgt := 19) (dc_X7_order_0.1.2.2.1) (by decide) (fun c12 => ?_) (fun c12 => ?_)
    · refine sg_iconst (pc := 19) (z := 0) (dc_X7_order_0.2.1.1.2) (by decide) ?_
      refine sg_iconst (pc := 20) (z := 1) (dc_X7_order_0.2.1.2.1) (by decide) ?_
      refine sg_cE2 (pc := 21) (d' := d - 1) (mc' := 0) (ms' := 0) 8 g (dc_X7_order_0.2.1.2.2) cb_X7_start ml_X7_71 mn_X7_start rfl mv_X7_start (Nat.le_of_ble_eq_true rfl) (md_oc (by assumption)) (Nat.le_of_ble_eq_true rfl) (by first | exact jl_d0 hd rfl | omega) (by first | exact Nat.le_of_ble_eq_true rfl | omega) (by first | exact Nat.le_of_ble_eq_true rfl | omega) ?_
      refine s_X7_start g (by first | exact jl_d1 hd rfl | omega) (by omega) (by assumption) (fun v21 h21 b21 i21 t21 s21 u21 y21 => sg_K1 ?_)
      have x21 := y21.1
      have hk21 := x21.2.1
      have y21 := md_Yt (h0 := h) (by assumption) y21
      refine sg_if_eq (pc := 24) (tgt := 31) (dc_X7_order_0.2.2.1.1) (by decide) (fun c24 => ?_) (fun c24 => absurd c24 (by omega))
      refine sg_aload_n (pc := 31) (j := 0) (dc_X7_order_0.2.2.2.2) rfl rfl ?_
      refine sg_aload_n (pc := 32) (j := 0) (dc_X7_order_32.1.1.1.1) rfl rfl ?_
      refine md_grw (pc := 33) g (dc_X7_order_32.1.1.1.2) fk_X7_9 (by assumption) (fun r33 => ?_)
      refine sg_iload_n (pc := 36) (j := 1) (dc_X7_order_32.1.1.2.1) rfl rfl ?_
      first | refine md_alX (pc := 37) (dc_X7_order_32.1.1.2.2) hA (by assumption) (by assumption) (by omega) (by omega) (fun X37 l37 => ?_) | refine md_alXt (pc := 37) (dc_X7_order_32.1.1.2.2) hA (by assumption) (by assumption) (by omega) (by omega) (fun X37 l37 => ?_)
      refine sg_aload_n (pc := 38) (j := 0) (dc_X7_order_32.1.2.1.1) rfl rfl ?_
      refine md_grw (pc := 39) g (dc_X7_order_32.1.2.1.2) fk_X7_9 (by assumption) (fun r39 => ?_)
      refine sg_iload_n (pc := 42) (j := 2) (dc_X7_order_32.1.2.2.1) rfl rfl ?_
      first | refine md_alX (pc := 43) (dc_X7_order_32.1.2.2.2) hA (by assumption) (by assumption) (by omega) (by omega) (fun X43 l43 => ?_) | refine md_alXt (pc := 43) (dc_X7_order_32.1.2.2.2) hA (by assumption) (by assumption) (by omega) (by omega) (fun X43 l43 => ?_)
      refine sg_cE2 (pc := 44) (d' := d - 1) (mc' := 0) (ms' := 0) 8 g (dc_X7_order_32.2.1.1.1) cb_X7_orderOf ml_X7_222 mn_X7_orderOf rfl mv_X7_orderOf (Nat.le_of_ble_eq_true rfl) (md_oc (by assumption)) (Nat.le_of_ble_eq_true rfl) (by first | exact jl_d0 hd rfl | omega) (by first | exact Nat.le_of_ble_eq_true rfl | omega) (by first | exact Nat.le_of_ble_eq_true rfl | omega) ?_
      refine f_X7_orderOf (c := 0) g (by first | exact jl_d1 hd rfl | omega) (by assumption) (by assumption) (by omega) (by omega) (fun v44 e44 => sg_K1 ?_)
      refine sg_iret (pc := 47) (dc_X7_order_32.2.1.1.2) rfl (by first | exact Nat.le_of_ble_eq_true rfl | omega) (by first | exact Nat.le_of_ble_eq_true rfl | omega) ?_
      first
        | exact hQ _ _ (by omega) (by omega) (fun q => absurd q (by omega)) (by assumption)
        | exact hQ _ _ (by omega) (by omega) (fun _ => e44) (by assumption)
    · refine sg_iconst (pc := 15) (z := 1) (dc_X7_order_0.1.2.2.2) (by decide) ?_
      refine sg_goto (pc := 16) (tgt := 20) (dc_X7_order_0.2.1.1.1) (by decide) ?_
      refine sg_iconst (pc := 20) (z := 1) (dc_X7_order_0.2.1.2.1) (by decide) ?_
      refine sg_cE2 (pc := 21) (d' := d - 1) (mc' := 0) (ms' := 0) 8 g (dc_X7_order_0.2.1.2.2) cb_X7_start ml_X7_71 mn_X7_start rfl mv_X7_start (Nat.le_of_ble_eq_true rfl) (md_oc (by assumption)) (Nat.le_of_ble_eq_true rfl) (by first | exact jl_d0 hd rfl | omega) (by first | exact Nat.le_of_ble_eq_true rfl | omega) (by first | exact Nat.le_of_ble_eq_true rfl | omega) ?_
      refine s_X7_start g (by first | exact jl_d1 hd rfl | omega) (by omega) (by assumption) (fun v21 h21 b21 i21 t21 s21 u21 y21 => sg_K1 ?_)
      have x21 := y21.1
      have hk21 := x21.2.1
      have y21 := md_Yt (h0 := h) (by assumption) y21
      refine sg_if_eq (pc := 24) (tgt := 31) (dc_X7_order_0.2.2.1.1) (by decide) (fun c24 => absurd c24 (by omega)) (fun c24 => ?_)
      refine sg_iconst (pc := 27) (z := 0) (dc_X7_order_0.2.2.1.2) (by decide) ?_
      refine sg_goto (pc := 28) (tgt := 47) (dc_X7_order_0.2.2.2.1) (by decide) ?_
      refine sg_iret (pc := 47) (dc_X7_order_32.2.1.1.2) rfl (by first | exact Nat.le_of_ble_eq_true rfl | omega) (by first | exact Nat.le_of_ble_eq_true rfl | omega) ?_
      first
        | exact hQ _ _ (by omega) (by omega) (fun q => absurd q (by omega)) (by assumption)
        | exact hQ _ _ (by omega) (by omega) (fun _ => e44) (by assumption)

