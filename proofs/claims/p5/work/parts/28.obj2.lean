set_option maxRecDepth 100000 in
theorem s_X5_isWordBegin {w : sg_W} {Q : sg_O → sg_H → Prop} {h : sg_H} (g : sg_G w) {d : Nat} (hd : 11 ≤ d) {B a c : Nat} (hx : ck_X h B) (hl : ck_L B a c) {p : Int} (hQ : ∀ v : Int, (v = 0 ∨ v = 1) → Q (.inl (some (sg_i v))) h) : sg_C w mi_X5_isWordBegin d 0 0 [sg_r a, sg_i p] h Q := by
  refine sg_of pn_X5 (Nat.le_of_ble_eq_true rfl) ?_
  have y0 := ck_Y0 hx
  obtain ⟨-, -, -, -, c40, -⟩ := ck_ln hx hl
  refine sg_aload_n (pc := 0) (j := 0) (dc_X5_isWordBegin_0.1.1.1.1) rfl rfl ?_
  refine sg_iload_n (pc := 1) (j := 1) (dc_X5_isWordBegin_0.1.1.1.2) rfl rfl ?_
  refine sg_cE1 (pc := 2) (d' := d - 1) (mc' := 0) (ms' := 0) 3 g (dc_X5_isWordBegin_0.1.1.2.1) cb_X0_get ml_X5_75 mn_X0_get rfl mv_X0_get (Nat.le_of_ble_eq_true rfl) (ck_lc (by assumption) (by first | assumption | exact ck_rev)) (Nat.le_of_ble_eq_true rfl) (by first | exact jl_d0 hd rfl | omega) (by first | exact Nat.le_of_ble_eq_true rfl | omega) (by first | exact Nat.le_of_ble_eq_true rfl | omega) ?_
  refine s_X0_get g (by first | exact jl_d1 hd rfl | omega) (by assumption) (by first | assumption | exact ck_rev) (fun z2 G2 v2 => sg_K1 ?_)
  refine sg_iconst (pc := 5) (z := 2) (dc_X5_isWordBegin_0.1.1.2.2) (by decide) ?_
  refine sg_cS2 (pc := 6) (d' := d - 1) (mc' := 0) (ms' := 0) g (dc_X5_isWordBegin_0.1.2.1.1) cb_X2_isOf ml_X5_96 ms_X2_isOf (Nat.le_of_ble_eq_true rfl) (by first | exact jl_d0 hd rfl | omega) (by first | exact Nat.le_of_ble_eq_true rfl | omega) (by first | exact Nat.le_of_ble_eq_true rfl | omega) ?_
  refine s_X2_isOf g (by first | exact jl_d1 hd rfl | omega) (fun z6 h6 b6 => sg_K1 ?_)
  refine sg_if_ne (pc := 9) (tgt := 14) (dc_X5_isWordBegin_0.1.2.1.2) (by decide) (fun c9 => ?_) (fun c9 => ?_)
  · refine sg_iload_n (pc := 14) (j := 1) (dc_X5_isWordBegin_0.2.1.1.1) rfl rfl ?_
    refine sg_if_eq (pc := 15) (tgt := 32) (dc_X5_isWordBegin_0.2.1.1.2) (by decide) (fun c15 => ?_) (fun c15 => ?_)
    · refine sg_iconst (pc := 32) (z := 1) (dc_X5_isWordBegin_26.1.2.1) (by decide) ?_
      refine sg_goto (pc := 33) (tgt := 37) (dc_X5_isWordBegin_26.1.2.2) (by decide) ?_
      refine sg_zret (pc := 37) (dc_X5_isWordBegin_26.2.1.2) rfl (by first | exact Or.inl rfl | exact Or.inr rfl | omega | assumption) (by first | exact Nat.le_of_ble_eq_true rfl | omega) (by first | exact Nat.le_of_ble_eq_true rfl | omega) ?_
      exact hQ _ (by first | exact Or.inl rfl | exact Or.inr rfl | omega | assumption)
    · refine sg_aload_n (pc := 18) (j := 0) (dc_X5_isWordBegin_0.2.1.2.1) rfl rfl ?_
      refine sg_iload_n (pc := 19) (j := 1) (dc_X5_isWordBegin_0.2.1.2.2) rfl rfl ?_
      refine sg_iconst (pc := 20) (z := 1) (dc_X5_isWordBegin_0.2.2.1.1) (by decide) ?_
      first | refine sg_isubB (pc := 21) (dc_X5_isWordBegin_0.2.2.1.2) (by omega) (by omega) ?_ | refine sg_isub (pc := 21) (dc_X5_isWordBegin_0.2.2.1.2) ?_
      refine sg_cE1 (pc := 22) (d' := d - 1) (mc' := 0) (ms' := 0) 3 g (dc_X5_isWordBegin_0.2.2.2.1) cb_X0_get ml_X5_75 mn_X0_get rfl mv_X0_get (Nat.le_of_ble_eq_true rfl) (ck_lc (by assumption) (by first | assumption | exact ck_rev)) (Nat.le_of_ble_eq_true rfl) (by first | exact jl_d0 hd rfl | omega) (by first | exact Nat.le_of_ble_eq_true rfl | omega) (by first | exact Nat.le_of_ble_eq_true rfl | omega) ?_
      refine s_X0_get g (by first | exact jl_d1 hd rfl | omega) (by assumption) (by first | assumption | exact ck_rev) (fun z22 G22 v22 => sg_K1 ?_)
      refine sg_iconst (pc := 25) (z := 2) (dc_X5_isWordBegin_0.2.2.2.2) (by decide) ?_
      refine sg_cS2 (pc := 26) (d' := d - 1) (mc' := 0) (ms' := 0) g (dc_X5_isWordBegin_26.1.1.1) cb_X2_isOf ml_X5_96 ms_X2_isOf (Nat.le_of_ble_eq_true rfl) (by first | exact jl_d0 hd rfl | omega) (by first | exact Nat.le_of_ble_eq_true rfl | omega) (by first | exact Nat.le_of_ble_eq_true rfl | omega) ?_
      refine s_X2_isOf g (by first | exact jl_d1 hd rfl | omega) (fun z26 h26 b26 => sg_K1 ?_)
      refine sg_if_ne (pc := 29) (tgt := 36) (dc_X5_isWordBegin_26.1.1.2) (by decide) (fun c29 => ?_) (fun c29 => ?_)
      · refine sg_iconst (pc := 36) (z := 0) (dc_X5_isWordBegin_26.2.1.1) (by decide) ?_
        refine sg_zret (pc := 37) (dc_X5_isWordBegin_26.2.1.2) rfl (by first | exact Or.inl rfl | exact Or.inr rfl | omega | assumption) (by first | exact Nat.le_of_ble_eq_true rfl | omega) (by first | exact Nat.le_of_ble_eq_true rfl | omega) ?_
        exact hQ _ (by first | exact Or.inl rfl | exact Or.inr rfl | omega | assumption)
      · refine sg_iconst (pc := 32) (z := 1) (dc_X5_isWordBegin_26.1.2.1) (by decide) ?_
        refine sg_goto (pc := 33) (tgt := 37) (dc_X5_isWordBegin_26.1.2.2) (by decide) ?_
        refine sg_zret (pc := 37) (dc_X5_isWordBegin_26.2.1.2) rfl (by first | exact Or.inl rfl | exact Or.inr rfl | omega | assumption) (by first | exact Nat.le_of_ble_eq_true rfl | omega) (by first | exact Nat.le_of_ble_eq_true rfl | omega) ?_
        exact hQ _ (by first | exact Or.inl rfl | exact Or.inr rfl | omega | assumption)
  · refine sg_iconst (pc := 12) (z := 0) (dc_X5_isWordBegin_0.1.2.2.1) (by decide) ?_
    refine sg_zret (pc := 13) (dc_X5_isWordBegin_0.1.2.2.2) rfl (by first | exact Or.inl rfl | exact Or.inr rfl | omega | assumption) (by first | exact Nat.le_of_ble_eq_true rfl | omega) (by first | exact Nat.le_of_ble_eq_true rfl | omega) ?_
    exact hQ _ (by first | exact Or.inl rfl | exact Or.inr rfl | omega | assumption)

set_option maxRecDepth 100000 in
theorem s_X5_isSoundRow {w : sg_W} {Q : sg_O → sg_H → Prop} {h : sg_H} (g : sg_G w) {d : Nat} (hd : 11 ≤ d) {B a c : Nat} (hx : ck_X h B) (hl : ck_L B a c) (hQ : ∀ v : Int, (v = 0 ∨ v = 1) → Q (.inl (some (sg_i v))) h) : sg_C w mi_X5_isSoundRow d 0 0 [sg_r a] h Q := by
  refine sg_of pn_X5 (Nat.le_of_ble_eq_true rfl) ?_
  have y0 := ck_Y0 hx
  obtain ⟨-, -, -, -, c40, -⟩ := ck_ln hx hl
  refine sg_aload_n (pc := 0) (j := 0) (dc_X5_isSoundRow_0.1.1.1.1) rfl rfl ?_
  refine sg_cE0 (pc := 1) (d' := d - 1) (mc' := 0) (ms' := 0) 3 g (dc_X5_isSoundRow_0.1.1.1.2) cb_X0_size ml_X5_63 mn_X0_size rfl mv_X0_size (Nat.le_of_ble_eq_true rfl) (ck_lc (by assumption) (by first | assumption | exact ck_rev)) (Nat.le_of_ble_eq_true rfl) (by first | exact jl_d0 hd rfl | omega) (by first | exact Nat.le_of_ble_eq_true rfl | omega) (by first | exact Nat.le_of_ble_eq_true rfl | omega) ?_
  refine s_X0_size g (by first | exact jl_d1 hd rfl | omega) (by assumption) (by first | assumption | exact ck_rev) (fun z1 l1 u1 N1 => sg_K1 ?_)
  refine sg_bipush (pc := 4) (z := 40) (dc_X5_isSoundRow_0.1.1.2.1) (by decide) ?_
  refine sg_icmp_le (pc := 6) (tgt := 11) (dc_X5_isSoundRow_0.1.1.2.2) (by decide) (fun c6 => ?_) (fun c6 => ?_)
  · refine sg_iconst (pc := 11) (z := 0) (dc_X5_isSoundRow_0.1.2.2.1) (by decide) ?_
    refine sg_istore_n (pc := 12) (j := 1) (dc_X5_isSoundRow_0.1.2.2.2) rfl (by decide) ?_
    have loop13 : ∀ (N : Nat) (p : Int), (0 ≤ p) → (40 - p).toNat < N → sg_R w mi_X5_isSoundRow d 0 0 Q 13 [(1, sg_i p), (0, sg_r a)] [] h 0 0 := by
      intro N
      induction N with
      | zero => intro p p0 hm; exact absurd hm (Nat.not_lt_zero _)
      | succ N ih =>
        intro p p0 hm
        refine sg_iload_n (pc := 13) (j := 1) (dc_X5_isSoundRow_0.2.1.1.1) rfl rfl ?_
        refine sg_aload_n (pc := 14) (j := 0) (dc_X5_isSoundRow_0.2.1.1.2) rfl rfl ?_
        refine sg_cE0 (pc := 15) (d' := d - 1) (mc' := 0) (ms' := 0) 3 g (dc_X5_isSoundRow_0.2.1.2.1) cb_X0_size ml_X5_63 mn_X0_size rfl mv_X0_size (Nat.le_of_ble_eq_true rfl) (ck_lc (by assumption) (by first | assumption | exact ck_rev)) (Nat.le_of_ble_eq_true rfl) (by first | exact jl_d0 hd rfl | omega) (by first | exact Nat.le_of_ble_eq_true rfl | omega) (by first | exact Nat.le_of_ble_eq_true rfl | omega) ?_
        refine s_X0_size g (by first | exact jl_d1 hd rfl | omega) (by assumption) (by first | assumption | exact ck_rev) (fun z15 l15 u15 N15 => sg_K1 ?_)
        refine sg_icmp_ge (pc := 18) (tgt := 40) (dc_X5_isSoundRow_0.2.1.2.2) (by decide) (fun c18 => ?_) (fun c18 => ?_)
        · refine sg_iconst (pc := 40) (z := 1) (dc_X5_isSoundRow_29.2.1.2) (by decide) ?_
          refine sg_zret (pc := 41) (dc_X5_isSoundRow_29.2.2.1) rfl (by first | exact Or.inl rfl | exact Or.inr rfl | omega | assumption) (by first | exact Nat.le_of_ble_eq_true rfl | omega) (by first | exact Nat.le_of_ble_eq_true rfl | omega) ?_
          exact hQ _ (by first | exact Or.inl rfl | exact Or.inr rfl | omega | assumption)
        · refine sg_aload_n (pc := 21) (j := 0) (dc_X5_isSoundRow_0.2.2.1.1) rfl rfl ?_
          refine sg_iload_n (pc := 22) (j := 1) (dc_X5_isSoundRow_0.2.2.1.2) rfl rfl ?_
          refine sg_cE1 (pc := 23) (d' := d - 1) (mc' := 0) (ms' := 0) 3 g (dc_X5_isSoundRow_0.2.2.2.1) cb_X0_get ml_X5_75 mn_X0_get rfl mv_X0_get (Nat.le_of_ble_eq_true rfl) (ck_lc (by assumption) (by first | assumption | exact ck_rev)) (Nat.le_of_ble_eq_true rfl) (by first | exact jl_d0 hd rfl | omega) (by first | exact Nat.le_of_ble_eq_true rfl | omega) (by first | exact Nat.le_of_ble_eq_true rfl | omega) ?_
          refine s_X0_get g (by first | exact jl_d1 hd rfl | omega) (by assumption) (by first | assumption | exact ck_rev) (fun z23 G23 v23 => sg_K1 ?_)
          refine sg_cS1 (pc := 26) (d' := d - 1) (mc' := 0) (ms' := 0) g (dc_X5_isSoundRow_0.2.2.2.2) cb_X2_isSoundSign ml_X5_336 ms_X2_isSoundSign (Nat.le_of_ble_eq_true rfl) (by first | exact jl_d0 hd rfl | omega) (by first | exact Nat.le_of_ble_eq_true rfl | omega) (by first | exact Nat.le_of_ble_eq_true rfl | omega) ?_
          refine s_X2_isSoundSign g (by first | exact jl_d1 hd rfl | omega) (fun z26 b26 => sg_K1 ?_)
          refine sg_if_ne (pc := 29) (tgt := 34) (dc_X5_isSoundRow_29.1.1.1) (by decide) (fun c29 => ?_) (fun c29 => ?_)
          · first | refine sg_iincB (pc := 34) (dc_X5_isSoundRow_29.1.2.2) rfl (by decide) (by decide) (by omega) (by omega) ?_ | refine sg_iinc (pc := 34) (dc_X5_isSoundRow_29.1.2.2) rfl (by decide) (by decide) ?_
            refine sg_goto (pc := 37) (tgt := 13) (dc_X5_isSoundRow_29.2.1.1) (by decide) ?_
            refine sg_lsub (lv' := [(1, _), (0, _)]) ⟨rfl, rfl, trivial⟩ ?_
            exact ih _ (by omega) (by first | exact jl_m1 hm (by omega) | exact jl_m2 hm (by omega) | omega)
          · refine sg_iconst (pc := 32) (z := 0) (dc_X5_isSoundRow_29.1.1.2) (by decide) ?_
            refine sg_zret (pc := 33) (dc_X5_isSoundRow_29.1.2.1) rfl (by first | exact Or.inl rfl | exact Or.inr rfl | omega | assumption) (by first | exact Nat.le_of_ble_eq_true rfl | omega) (by first | exact Nat.le_of_ble_eq_true rfl | omega) ?_
            exact hQ _ (by first | exact Or.inl rfl | exact Or.inr rfl | omega | assumption)
    refine sg_lsub (lv' := [(1, _), (0, _)]) ⟨rfl, rfl, trivial⟩ ?_
    exact loop13 _ _ (by omega) (Nat.lt_succ_self _)
  · refine sg_iconst (pc := 9) (z := 0) (dc_X5_isSoundRow_0.1.2.1.1) (by decide) ?_
    refine sg_zret (pc := 10) (dc_X5_isSoundRow_0.1.2.1.2) rfl (by first | exact Or.inl rfl | exact Or.inr rfl | omega | assumption) (by first | exact Nat.le_of_ble_eq_true rfl | omega) (by first | exact Nat.le_of_ble_eq_true rfl | omega) ?_
    exact hQ _ (by first | exact Or.inl rfl | exact Or.inr rfl | omega | assumption)

set_option maxRecDepth 100000 in
theorem s_X5_isSoundTrack {w : sg_W} {Q : sg_O → sg_H → Prop} {h : sg_H} (g : sg_G w) {d : Nat} (hd : 11 ≤ d) {B a : Nat} (hx : ck_X h B) (hl : ck_L B a 1) (hQ : ∀ v : Int, (v = 0 ∨ v = 1) → Q (.inl (some (sg_i v))) h) : sg_C w mi_X5_isSoundTrack d 0 0 [sg_r a] h Q := by
  refine sg_of pn_X5 (Nat.le_of_ble_eq_true rfl) ?_
  have y0 := ck_Y0 hx
  obtain ⟨-, -, -, -, c40, -⟩ := ck_ln hx hl
  refine sg_aload_n (pc := 0) (j := 0) (dc_X5_isSoundTrack_0.1.1.1.1) rfl rfl ?_
  refine sg_cE0 (pc := 1) (d' := d - 1) (mc' := 0) (ms' := 0) 3 g (dc_X5_isSoundTrack_0.1.1.1.2) cb_X0_size ml_X5_63 mn_X0_size rfl mv_X0_size (Nat.le_of_ble_eq_true rfl) (ck_lc (by assumption) (by first | assumption | exact ck_rev)) (Nat.le_of_ble_eq_true rfl) (by first | exact jl_d0 hd rfl | omega) (by first | exact Nat.le_of_ble_eq_true rfl | omega) (by first | exact Nat.le_of_ble_eq_true rfl | omega) ?_
  refine s_X0_size g (by first | exact jl_d1 hd rfl | omega) (by assumption) (by first | assumption | exact ck_rev) (fun z1 l1 u1 N1 => sg_K1 ?_)
  refine sg_bipush (pc := 4) (z := 24) (dc_X5_isSoundTrack_0.1.1.2.1) (by decide) ?_
  refine sg_icmp_gt (pc := 6) (tgt := 20) (dc_X5_isSoundTrack_0.1.1.2.2) (by decide) (fun c6 => ?_) (fun c6 => ?_)
  · refine sg_iconst (pc := 20) (z := 0) (dc_X5_isSoundTrack_0.2.1.1.2) (by decide) ?_
    refine sg_zret (pc := 21) (dc_X5_isSoundTrack_0.2.1.2.1) rfl (by first | exact Or.inl rfl | exact Or.inr rfl | omega | assumption) (by first | exact Nat.le_of_ble_eq_true rfl | omega) (by first | exact Nat.le_of_ble_eq_true rfl | omega) ?_
    exact hQ _ (by first | exact Or.inl rfl | exact Or.inr rfl | omega | assumption)
  · refine sg_aload_n (pc := 9) (j := 0) (dc_X5_isSoundTrack_0.1.2.1.1) rfl rfl ?_
    refine sg_cS1 (pc := 10) (d' := d - 1) (mc' := 0) (ms' := 0) g (dc_X5_isSoundTrack_0.1.2.1.2) cb_X4_areSentAgain ml_X5_339 ms_X4_areSentAgain (Nat.le_of_ble_eq_true rfl) (by first | exact jl_d0 hd rfl | omega) (by first | exact Nat.le_of_ble_eq_true rfl | omega) (by first | exact Nat.le_of_ble_eq_true rfl | omega) ?_
    refine s_X4_areSentAgain g (by first | exact jl_d1 hd rfl | omega) (by assumption) (by assumption) (fun z10 b10 => sg_K1 ?_)
    refine sg_if_eq (pc := 13) (tgt := 20) (dc_X5_isSoundTrack_0.1.2.2.1) (by decide) (fun c13 => ?_) (fun c13 => ?_)
    · refine sg_iconst (pc := 20) (z := 0) (dc_X5_isSoundTrack_0.2.1.1.2) (by decide) ?_
      refine sg_zret (pc := 21) (dc_X5_isSoundTrack_0.2.1.2.1) rfl (by first | exact Or.inl rfl | exact Or.inr rfl | omega | assumption) (by first | exact Nat.le_of_ble_eq_true rfl | omega) (by first | exact Nat.le_of_ble_eq_true rfl | omega) ?_
      exact hQ _ (by first | exact Or.inl rfl | exact Or.inr rfl | omega | assumption)
    · refine sg_iconst (pc := 16) (z := 1) (dc_X5_isSoundTrack_0.1.2.2.2) (by decide) ?_
      refine sg_goto (pc := 17) (tgt := 21) (dc_X5_isSoundTrack_0.2.1.1.1) (by decide) ?_
      refine sg_zret (pc := 21) (dc_X5_isSoundTrack_0.2.1.2.1) rfl (by first | exact Or.inl rfl | exact Or.inr rfl | omega | assumption) (by first | exact Nat.le_of_ble_eq_true rfl | omega) (by first | exact Nat.le_of_ble_eq_true rfl | omega) ?_
      exact hQ _ (by first | exact Or.inl rfl | exact Or.inr rfl | omega | assumption)

set_option maxRecDepth 100000 in
theorem s_X5_ahead {w : sg_W} {Q : sg_O → sg_H → Prop} {h : sg_H} (g : sg_G w) {d : Nat} (hd : 1 ≤ d) {x y : Int} (hQ : ∀ z : Int, z = (if x = y then 0 else if x < y then -1 else 1) → Q (.inl (some (sg_i z))) h) : sg_C w mi_X5_ahead d 0 0 [sg_i x, sg_i y] h Q := by
  refine sg_of pn_X5 (Nat.le_of_ble_eq_true rfl) ?_
  refine sg_iload_n (pc := 0) (j := 0) (dc_X5_ahead_0.1.1.1.1) rfl rfl ?_
  refine sg_iload_n (pc := 1) (j := 1) (dc_X5_ahead_0.1.1.1.2) rfl rfl ?_
  refine sg_icmp_ne (pc := 2) (tgt := 7) (dc_X5_ahead_0.1.1.2.1) (by decide) (fun c2 => ?_) (fun c2 => ?_)
  · refine sg_iload_n (pc := 7) (j := 0) (dc_X5_ahead_0.1.2.1.2) rfl rfl ?_
    refine sg_iload_n (pc := 8) (j := 1) (dc_X5_ahead_0.1.2.2.1) rfl rfl ?_
    refine sg_icmp_ge (pc := 9) (tgt := 16) (dc_X5_ahead_0.1.2.2.2) (by decide) (fun c9 => ?_) (fun c9 => ?_)
    · refine sg_iconst (pc := 16) (z := 1) (dc_X5_ahead_0.2.1.2.1) (by decide) ?_
      refine sg_iret (pc := 17) (dc_X5_ahead_0.2.1.2.2) rfl (by first | exact Nat.le_of_ble_eq_true rfl | omega) (by first | exact Nat.le_of_ble_eq_true rfl | omega) ?_
      exact hQ _ (by (repeat' split) <;> omega)
    · refine sg_iconst (pc := 12) (z := -1) (dc_X5_ahead_0.2.1.1.1) (by decide) ?_
      refine sg_goto (pc := 13) (tgt := 17) (dc_X5_ahead_0.2.1.1.2) (by decide) ?_
      refine sg_iret (pc := 17) (dc_X5_ahead_0.2.1.2.2) rfl (by first | exact Nat.le_of_ble_eq_true rfl | omega) (by first | exact Nat.le_of_ble_eq_true rfl | omega) ?_
      exact hQ _ (by (repeat' split) <;> omega)
  · refine sg_iconst (pc := 5) (z := 0) (dc_X5_ahead_0.1.1.2.2) (by decide) ?_
    refine sg_iret (pc := 6) (dc_X5_ahead_0.1.2.1.1) rfl (by first | exact Nat.le_of_ble_eq_true rfl | omega) (by first | exact Nat.le_of_ble_eq_true rfl | omega) ?_
    exact hQ _ (by (repeat' split) <;> omega)

set_option maxRecDepth 100000 in
theorem s_X5_with {w : sg_W} {Q : sg_O → sg_H → Prop} {h : sg_H} (g : sg_G w) {d : Nat} (hd : 1 ≤ d) {x y : Int} (hQ : ∀ z : Int, z = sg_W64 (sg_W64 (x * 31) + y) → Q (.inl (some (sg_l z))) h) : sg_C w mi_X5_with d 0 0 [sg_l x, sg_l y] h Q := by
  refine sg_of pn_X5 (Nat.le_of_ble_eq_true rfl) ?_
  refine sg_lload_n (pc := 0) (j := 0) (dc_X5_with_0.1.1.1) rfl rfl ?_
  refine sg_ldc2 (pc := 1) (z := 31) g (dc_X5_with_0.1.1.2) cn_X5_342 (by decide) ?_
  refine sg_lmul (pc := 4) (dc_X5_with_0.1.2.1) ?_
  refine sg_lload_n (pc := 5) (j := 2) (dc_X5_with_0.1.2.2) rfl rfl ?_
  refine sg_ladd (pc := 6) (dc_X5_with_0.2.1.1) ?_
  refine sg_lret (pc := 7) (dc_X5_with_0.2.1.2) rfl (by first | exact Nat.le_of_ble_eq_true rfl | omega) (by first | exact Nat.le_of_ble_eq_true rfl | omega) ?_
  exact hQ _ rfl

