set_option maxRecDepth 100000 in
theorem s_X5_numberAt {w : sg_W} {Q : sg_O → sg_H → Prop} {h : sg_H} (g : sg_G w) {d : Nat} (hd : 11 ≤ d) {B a c : Nat} (hx : ck_X h B) (hl : ck_L B a c) {p : Int} (hQ : ∀ v : Int, Q (.inl (some (sg_i v))) h) (hX : ∀ (E : String) (h' : sg_H), E ∈ [e_I] → (True) → ck_Y h h' B → Q (.inr E) h') : sg_C w mi_X5_numberAt d 1 6 [sg_r a, sg_i p] h Q := by
  refine sg_of pn_X5 (Nat.le_of_ble_eq_true rfl) ?_
  have y0 := ck_Y0 hx
  obtain ⟨-, -, -, -, c40, -⟩ := ck_ln hx hl
  refine sg_aload_n (pc := 0) (j := 0) (dc_X5_numberAt_0.1.1.1.1) rfl rfl ?_
  refine sg_iload_n (pc := 1) (j := 1) (dc_X5_numberAt_0.1.1.1.2) rfl rfl ?_
  refine sg_cE1 (pc := 2) (d' := d - 1) (mc' := 0) (ms' := 0) 3 g (dc_X5_numberAt_0.1.1.2.1) cb_X0_hasPlace ml_X5_261 mn_X0_hasPlace rfl mv_X0_hasPlace (Nat.le_of_ble_eq_true rfl) (ck_lc (by assumption) (by first | assumption | exact ck_rev)) (Nat.le_of_ble_eq_true rfl) (by first | exact jl_d0 hd rfl | omega) (by first | exact Nat.le_of_ble_eq_true rfl | omega) (by first | exact Nat.le_of_ble_eq_true rfl | omega) ?_
  refine s_X0_hasPlace g (by first | exact jl_d1 hd rfl | omega) (by assumption) (by first | assumption | exact ck_rev) (fun z2 b2 i2 j2 k2 => sg_K1 ?_)
  refine sg_if_ne (pc := 5) (tgt := 19) (dc_X5_numberAt_0.1.1.2.2) (by decide) (fun c5 => ?_) (fun c5 => ?_)
  · refine sg_aload_n (pc := 19) (j := 0) (dc_X5_numberAt_0.2.1.1.2) rfl rfl ?_
    refine sg_iload_n (pc := 20) (j := 1) (dc_X5_numberAt_0.2.1.2.1) rfl rfl ?_
    refine sg_cE1 (pc := 21) (d' := d - 1) (mc' := 0) (ms' := 0) 3 g (dc_X5_numberAt_0.2.1.2.2) cb_X0_get ml_X5_75 mn_X0_get rfl mv_X0_get (Nat.le_of_ble_eq_true rfl) (ck_lc (by assumption) (by first | assumption | exact ck_rev)) (Nat.le_of_ble_eq_true rfl) (by first | exact jl_d0 hd rfl | omega) (by first | exact Nat.le_of_ble_eq_true rfl | omega) (by first | exact Nat.le_of_ble_eq_true rfl | omega) ?_
    refine s_X0_get g (by first | exact jl_d1 hd rfl | omega) (by assumption) (by first | assumption | exact ck_rev) (fun z21 G21 v21 => sg_K1 ?_)
    refine sg_iret (pc := 24) (dc_X5_numberAt_0.2.2.1.1) rfl (by first | exact Nat.le_of_ble_eq_true rfl | omega) (by first | exact Nat.le_of_ble_eq_true rfl | omega) ?_
    exact hQ _
  · refine sg_throwW (pc := 8) g th_X5_226_264 (dc_X5_numberAt_0.1.2.1.1) (dc_X5_numberAt_0.1.2.1.2) (dc_X5_numberAt_0.1.2.2.1) (dc_X5_numberAt_0.1.2.2.2) (dc_X5_numberAt_0.2.1.1.1) (by first | exact Nat.le_trans (Nat.le_of_ble_eq_true rfl) hd | omega) (Nat.le_of_ble_eq_true rfl) (by first | exact Nat.le_of_ble_eq_true rfl | omega) (by first | exact Nat.le_of_ble_eq_true rfl | omega) ?_
    exact fun z hz => hX _ _ (by decide) (by first | trivial | omega) (ck_Yz (by assumption) hz)

set_option maxRecDepth 100000 in
theorem s_X5_addLaid {w : sg_W} {Q : sg_O → sg_H → Prop} {h : sg_H} (g : sg_G w) {d : Nat} (hd : 11 ≤ d) {B a : Nat} (hx : ck_X h B) (hl : ck_L B a 0) {p : Int} (hQ : ∀ h' : sg_H, ck_X h' B → ck_F B h h' → Q (.inl none) h') : sg_C w mi_X5_addLaid d 0 0 [sg_r a, sg_i p] h Q := by
  refine sg_of pn_X5 (Nat.le_of_ble_eq_true rfl) ?_
  have y0 := ck_Y0 hx
  obtain ⟨-, -, -, -, c40, -⟩ := ck_ln hx hl
  refine sg_iload_n (pc := 0) (j := 1) (dc_X5_addLaid_0.1.1.1) rfl rfl ?_
  refine sg_iconst (pc := 1) (z := -1) (dc_X5_addLaid_0.1.1.2) (by decide) ?_
  refine sg_icmp_eq (pc := 2) (tgt := 10) (dc_X5_addLaid_0.1.2.1) (by decide) (fun c2 => ?_) (fun c2 => ?_)
  · refine sg_vret (pc := 10) (dc_X5_addLaid_0.2.2.1) rfl (by first | exact Nat.le_of_ble_eq_true rfl | omega) (by first | exact Nat.le_of_ble_eq_true rfl | omega) ?_
    exact hQ _ (by assumption) (ck_Yf (by assumption))
  · refine sg_aload_n (pc := 5) (j := 0) (dc_X5_addLaid_0.1.2.2) rfl rfl ?_
    refine sg_iload_n (pc := 6) (j := 1) (dc_X5_addLaid_0.2.1.1) rfl rfl ?_
    refine sg_cE1 (pc := 7) (d' := d - 1) (mc' := 0) (ms' := 0) 3 g (dc_X5_addLaid_0.2.1.2) cb_X0_add ml_X5_129 mn_X0_add rfl mv_X0_add (Nat.le_of_ble_eq_true rfl) (ck_lc (by assumption) (by first | assumption | exact ck_rev)) (Nat.le_of_ble_eq_true rfl) (by first | exact jl_d0 hd rfl | omega) (by first | exact Nat.le_of_ble_eq_true rfl | omega) (by first | exact Nat.le_of_ble_eq_true rfl | omega) ?_
    refine s_X0_add g (by first | exact jl_d1 hd rfl | omega) (by assumption) (by assumption) (by first | exact ck_v0 | assumption | (simp only [ck_v1, ck_v2] at * <;> omega)) (fun h7 x7 f7 => sg_K0 ?_)
    have y7 := ck_Yt (h0 := h) (by assumption) x7 f7.1
    refine sg_vret (pc := 10) (dc_X5_addLaid_0.2.2.1) rfl (by first | exact Nat.le_of_ble_eq_true rfl | omega) (by first | exact Nat.le_of_ble_eq_true rfl | omega) ?_
    exact hQ _ (by assumption) (ck_Yf (by assumption))

set_option maxRecDepth 100000 in
theorem s_X5_canBeRead {w : sg_W} {Q : sg_O → sg_H → Prop} {h : sg_H} (g : sg_G w) {d : Nat} (hd : 11 ≤ d) {B a c : Nat} (hx : ck_X h B) (hl : ck_L B a c) (hQ : ∀ v : Int, (v = 0 ∨ v = 1) → Q (.inl (some (sg_i v))) h) : sg_C w mi_X5_canBeRead d 0 0 [sg_r a] h Q := by
  refine sg_of pn_X5 (Nat.le_of_ble_eq_true rfl) ?_
  have y0 := ck_Y0 hx
  obtain ⟨-, -, -, -, c40, -⟩ := ck_ln hx hl
  refine sg_aload_n (pc := 0) (j := 0) (dc_X5_canBeRead_0.1.1.1.1) rfl rfl ?_
  refine sg_cE0 (pc := 1) (d' := d - 1) (mc' := 0) (ms' := 0) 3 g (dc_X5_canBeRead_0.1.1.1.2) cb_X0_size ml_X5_63 mn_X0_size rfl mv_X0_size (Nat.le_of_ble_eq_true rfl) (ck_lc (by assumption) (by first | assumption | exact ck_rev)) (Nat.le_of_ble_eq_true rfl) (by first | exact jl_d0 hd rfl | omega) (by first | exact Nat.le_of_ble_eq_true rfl | omega) (by first | exact Nat.le_of_ble_eq_true rfl | omega) ?_
  refine s_X0_size g (by first | exact jl_d1 hd rfl | omega) (by assumption) (by first | assumption | exact ck_rev) (fun z1 l1 u1 N1 => sg_K1 ?_)
  refine sg_iconst (pc := 4) (z := 2) (dc_X5_canBeRead_0.1.1.2.1) (by decide) ?_
  first | refine sg_iremP (pc := 5) (dc_X5_canBeRead_0.1.1.2.2) (by omega) (by omega) ?_ | refine sg_irem (pc := 5) (dc_X5_canBeRead_0.1.1.2.2) (by first | omega | assumption) ?_
  refine sg_if_eq (pc := 6) (tgt := 11) (dc_X5_canBeRead_0.1.2.1.1) (by decide) (fun c6 => ?_) (fun c6 => ?_)
  · refine sg_iconst (pc := 11) (z := 0) (dc_X5_canBeRead_0.1.2.2.2) (by decide) ?_
    refine sg_istore_n (pc := 12) (j := 1) (dc_X5_canBeRead_0.2.1.1.1) rfl (by decide) ?_
    have loop13 : ∀ (N : Nat) (p : Int), 0 ≤ p → (40 - p).toNat < N → sg_R w mi_X5_canBeRead d 0 0 Q 13 [(1, sg_i p), (0, sg_r a)] [] h 0 0 := by
      intro N
      induction N with
      | zero => intro p p0 hm; exact absurd hm (Nat.not_lt_zero _)
      | succ N ih =>
        intro p p0 hm
        refine sg_iload_n (pc := 13) (j := 1) (dc_X5_canBeRead_0.2.1.1.2) rfl rfl ?_
        refine sg_aload_n (pc := 14) (j := 0) (dc_X5_canBeRead_0.2.1.2.1) rfl rfl ?_
        refine sg_cE0 (pc := 15) (d' := d - 1) (mc' := 0) (ms' := 0) 3 g (dc_X5_canBeRead_0.2.1.2.2) cb_X0_size ml_X5_63 mn_X0_size rfl mv_X0_size (Nat.le_of_ble_eq_true rfl) (ck_lc (by assumption) (by first | assumption | exact ck_rev)) (Nat.le_of_ble_eq_true rfl) (by first | exact jl_d0 hd rfl | omega) (by first | exact Nat.le_of_ble_eq_true rfl | omega) (by first | exact Nat.le_of_ble_eq_true rfl | omega) ?_
        refine s_X0_size g (by first | exact jl_d1 hd rfl | omega) (by assumption) (by first | assumption | exact ck_rev) (fun z15 l15 u15 N15 => sg_K1 ?_)
        refine sg_icmp_ge (pc := 18) (tgt := 43) (dc_X5_canBeRead_0.2.2.1.1) (by decide) (fun c18 => ?_) (fun c18 => ?_)
        · refine sg_iconst (pc := 43) (z := 1) (dc_X5_canBeRead_26.2.1.1.1) (by decide) ?_
          refine sg_zret (pc := 44) (dc_X5_canBeRead_26.2.1.1.2) rfl (by first | exact Or.inl rfl | exact Or.inr rfl | omega | assumption) (by first | exact Nat.le_of_ble_eq_true rfl | omega) (by first | exact Nat.le_of_ble_eq_true rfl | omega) ?_
          exact hQ _ (by first | exact Or.inl rfl | exact Or.inr rfl | omega | assumption)
        · refine sg_aload_n (pc := 21) (j := 0) (dc_X5_canBeRead_0.2.2.1.2) rfl rfl ?_
          refine sg_iload_n (pc := 22) (j := 1) (dc_X5_canBeRead_0.2.2.2.1) rfl rfl ?_
          refine sg_cE1 (pc := 23) (d' := d - 1) (mc' := 0) (ms' := 0) 3 g (dc_X5_canBeRead_0.2.2.2.2) cb_X0_get ml_X5_75 mn_X0_get rfl mv_X0_get (Nat.le_of_ble_eq_true rfl) (ck_lc (by assumption) (by first | assumption | exact ck_rev)) (Nat.le_of_ble_eq_true rfl) (by first | exact jl_d0 hd rfl | omega) (by first | exact Nat.le_of_ble_eq_true rfl | omega) (by first | exact Nat.le_of_ble_eq_true rfl | omega) ?_
          refine s_X0_get g (by first | exact jl_d1 hd rfl | omega) (by assumption) (by first | assumption | exact ck_rev) (fun z23 G23 v23 => sg_K1 ?_)
          refine sg_bipush (pc := 26) (z := 16) (dc_X5_canBeRead_26.1.1.1.1) (by decide) ?_
          refine sg_cS2 (pc := 28) (d' := d - 1) (mc' := 0) (ms' := 0) g (dc_X5_canBeRead_26.1.1.1.2) cb_X2_numberOf ml_X5_148 ms_X2_numberOf (Nat.le_of_ble_eq_true rfl) (by first | exact jl_d0 hd rfl | omega) (by first | exact Nat.le_of_ble_eq_true rfl | omega) (by first | exact Nat.le_of_ble_eq_true rfl | omega) ?_
          refine s_X2_numberOf g (by first | exact jl_d1 hd rfl | omega) (fun z28 h28 => sg_K1 ?_)
          refine sg_iconst (pc := 31) (z := -1) (dc_X5_canBeRead_26.1.1.2.1) (by decide) ?_
          refine sg_icmp_ne (pc := 32) (tgt := 37) (dc_X5_canBeRead_26.1.1.2.2) (by decide) (fun c32 => ?_) (fun c32 => ?_)
          · first | refine sg_iincB (pc := 37) (dc_X5_canBeRead_26.1.2.2.1) rfl (by decide) (by decide) (by omega) (by omega) ?_ | refine sg_iinc (pc := 37) (dc_X5_canBeRead_26.1.2.2.1) rfl (by decide) (by decide) ?_
            refine sg_goto (pc := 40) (tgt := 13) (dc_X5_canBeRead_26.1.2.2.2) (by decide) ?_
            refine sg_lsub (lv' := [(1, _), (0, _)]) ⟨rfl, rfl, trivial⟩ ?_
            exact ih _ (by omega) (by omega)
          · refine sg_iconst (pc := 35) (z := 0) (dc_X5_canBeRead_26.1.2.1.1) (by decide) ?_
            refine sg_zret (pc := 36) (dc_X5_canBeRead_26.1.2.1.2) rfl (by first | exact Or.inl rfl | exact Or.inr rfl | omega | assumption) (by first | exact Nat.le_of_ble_eq_true rfl | omega) (by first | exact Nat.le_of_ble_eq_true rfl | omega) ?_
            exact hQ _ (by first | exact Or.inl rfl | exact Or.inr rfl | omega | assumption)
    refine sg_lsub (lv' := [(1, _), (0, _)]) ⟨rfl, rfl, trivial⟩ ?_
    exact loop13 _ _ (by omega) (Nat.lt_succ_self _)
  · refine sg_iconst (pc := 9) (z := 0) (dc_X5_canBeRead_0.1.2.1.2) (by decide) ?_
    refine sg_zret (pc := 10) (dc_X5_canBeRead_0.1.2.2.1) rfl (by first | exact Or.inl rfl | exact Or.inr rfl | omega | assumption) (by first | exact Nat.le_of_ble_eq_true rfl | omega) (by first | exact Nat.le_of_ble_eq_true rfl | omega) ?_
    exact hQ _ (by first | exact Or.inl rfl | exact Or.inr rfl | omega | assumption)

set_option maxRecDepth 100000 in
theorem s_X5_isWordBegin {w : sg_W} {Q : sg_O → sg_H → Prop} {h : sg_H} (g : sg_G w) {d : Nat} (hd : 11 ≤ d) {B a c : Nat} (hx : ck_X h B) (hl : ck_L B a c) {p : Int} (hQ : ∀ v : Int, (v = 0 ∨ v = 1) → Q (.inl (some (sg_i v))) h) : sg_C w mi_X5_isWordBegin d 0 0 [sg_r a, sg_i p] h Q := by
  refine sg_of pn_X5 (Nat.le_of_ble_eq_true rfl) ?_
  have y0 := ck_Y0 hx
  obtain ⟨-, -, -, -, c40, -⟩ := ck_ln hx hl
  refine sg_aload_n (pc := 0) (j := 0) (dc_X5_isWordBegin_0.1.1.1.1) rfl rfl ?_
  refine sg_iload_n (pc := 1) (j := 1) (dc_X5_isWordBegin_0.1.1.1.2) rfl rfl ?_
  refine sg_cE1 (pc := 2) (d' := d - 1) (mc' := 0) (ms' := 0) 3 g (dc_X5_isWordBegin_0.1.1.2.1) cb_X0_get ml_X5_75 mn_X0_get rfl mv_X0_get (Nat.le_of_ble_eq_true rfl) (ck_lc (by assumption) (by first | assumption | exact ck_rev)) (Nat.le_of_ble_eq_true rfl) (by first | exact jl_d0 hd rfl | omega) (by first | exact Nat.le_of_ble_eq_true rfl | omega) (by first | exact Nat.le_of_ble_eq_true rfl | omega) ?_
  refine s_X0_get g (by first | exact jl_d1 hd rfl | omega) (by assumption) (by first | assumption | exact ck_rev) (fun z2 G2 v2 => sg_K1 ?_)
  refine sg_iconst (pc := 5) (z := 2) (dc_X5_isWordBegin_0.1.1.2.2) (by decide) ?_
  refine sg_cS2 (pc := 6) (d' := d - 1) (mc' := 0) (ms' := 0) g (dc_X5_isWordBegin_0.1.2.1.1) cb_X2_isOf ml_X5_96 ms_X2_isOf (Nat.le_of_ble_eq_true rfl) (by first | exact jl_d0 hd rfl | omega) (by first | exact Nat.le_of_ble_eq_true rfl | omega) (by first | exact Nat.le_of_ble_eq_true rfl | omega) ?_
  refine s_X2_isOf g (by first | exact jl_d1 hd rfl | omega) (fun z6 h6 b6 => sg_K1 ?_)
  refine sg_if_ne (pc := 9) (tgt := 14) (dc_X5_isWordBegin_0.1.2.1.2) (by decide) (fun c9 => ?_) (fun c9 => ?_)
  · refine sg_iload_n (pc := 14) (j := 1) (dc_X5_isWordBegin_0.2.1.1.1) rfl rfl ?_
    refine sg_if_eq (pc := 15) (tgt := 32) (dc_X5_isWordBegin_0.2.1.1.2) (by decide) (fun c15 => ?_) (fun c15 => ?_)
    · refine sg_iconst (pc := 32) (z := 1) (dc_X5_isWordBegin_26.1.2.1) (by decide) ?_
      refine sg_goto (pc := 33) (tgt := 37) (dc_X5_isWordBegin_26.1.2.2) (by decide) ?_
      refine sg_zret (pc := 37) (dc_X5_isWordBegin_26.2.1.2) rfl (by first | exact Or.inl rfl | exact Or.inr rfl | omega | assumption) (by first | exact Nat.le_of_ble_eq_true rfl | omega) (by first | exact Nat.le_of_ble_eq_true rfl | omega) ?_
      exact hQ _ (by first | exact Or.inl rfl | exact Or.inr rfl | omega | assumption)
    · refine sg_aload_n (pc := 18) (j := 0) (dc_X5_isWordBegin_0.2.1.2.1) rfl rfl ?_
      refine sg_iload_n (pc := 19) (j := 1) (dc_X5_isWordBegin_0.2.1.2.2) rfl rfl ?_
      refine sg_iconst (pc := 20) (z := 1) (dc_X5_isWordBegin_0.2.2.1.1) (by decide) ?_
      first | refine sg_isubB (pc := 21) (dc_X5_isWordBegin_0.2.2.1.2) (by omega) (by omega) ?_ | refine sg_isub (pc := 21) (dc_X5_isWordBegin_0.2.2.1.2) ?_
      refine sg_cE1 (pc := 22) (d' := d - 1) (mc' := 0) (ms' := 0) 3 g (dc_X5_isWordBegin_0.2.2.2.1) cb_X0_get ml_X5_75 mn_X0_get rfl mv_X0_get (Nat.le_of_ble_eq_true rfl) (ck_lc (by assumption) (by first | assumption | exact ck_rev)) (Nat.le_of_ble_eq_true rfl) (by first | exact jl_d0 hd rfl | omega) (by first | exact Nat.le_of_ble_eq_true rfl | omega) (by first | exact Nat.le_of_ble_eq_true rfl | omega) ?_
      refine s_X0_get g (by first | exact jl_d1 hd rfl | omega) (by assumption) (by first | assumption | exact ck_rev) (fun z22 G22 v22 => sg_K1 ?_)
      refine sg_iconst (pc := 25) (z := 2) (dc_X5_isWordBegin_0.2.2.2.2) (by decide) ?_
      refine sg_cS2 (pc := 26) (d' := d - 1) (mc' := 0) (ms' := 0) g (dc_X5_isWordBegin_26.1.1.1) cb_X2_isOf ml_X5_96 ms_X2_isOf (Nat.le_of_ble_eq_true rfl) (by first | exact jl_d0 hd rfl | omega) (by first | exact Nat.le_of_ble_eq_true rfl | omega) (by first | exact Nat.le_of_ble_eq_true rfl | omega) ?_
      refine s_X2_isOf g (by first | exact jl_d1 hd rfl | omega) (fun z26 h26 b26 => sg_K1 ?_)
      refine sg_if_ne (pc := 29) (tgt := 36) (dc_X5_isWordBegin_26.1.1.2) (by decide) (fun c29 => ?_) (fun c29 => ?_)
      · refine sg_iconst (pc := 36) (z := 0) (dc_X5_isWordBegin_26.2.1.1) (by decide) ?_
        refine sg_zret (pc := 37) (dc_X5_isWordBegin_26.2.1.2) rfl (by first | exact Or.inl rfl | exact Or.inr rfl | omega | assumption) (by first | exact Nat.le_of_ble_eq_true rfl | omega) (by first | exact Nat.le_of_ble_eq_true rfl | omega) ?_
        exact hQ _ (by first | exact Or.inl rfl | exact Or.inr rfl | omega | assumption)
      · refine sg_iconst (pc := 32) (z := 1) (dc_X5_isWordBegin_26.1.2.1) (by decide) ?_
        refine sg_goto (pc := 33) (tgt := 37) (dc_X5_isWordBegin_26.1.2.2) (by decide) ?_
        refine sg_zret (pc := 37) (dc_X5_isWordBegin_26.2.1.2) rfl (by first | exact Or.inl rfl | exact Or.inr rfl | omega | assumption) (by first | exact Nat.le_of_ble_eq_true rfl | omega) (by first | exact Nat.le_of_ble_eq_true rfl | omega) ?_
        exact hQ _ (by first | exact Or.inl rfl | exact Or.inr rfl | omega | assumption)
  · refine sg_iconst (pc := 12) (z := 0) (dc_X5_isWordBegin_0.1.2.2.1) (by decide) ?_
    refine sg_zret (pc := 13) (dc_X5_isWordBegin_0.1.2.2.2) rfl (by first | exact Or.inl rfl | exact Or.inr rfl | omega | assumption) (by first | exact Nat.le_of_ble_eq_true rfl | omega) (by first | exact Nat.le_of_ble_eq_true rfl | omega) ?_
    exact hQ _ (by first | exact Or.inl rfl | exact Or.inr rfl | omega | assumption)

set_option maxRecDepth 100000 in
theorem s_X5_wordBegin {w : sg_W} {Q : sg_O → sg_H → Prop} {h : sg_H} (g : sg_G w) {d : Nat} (hd : 12 ≤ d) {B a c : Nat} (hx : ck_X h B) (hl : ck_L B a c) {t : Int} (hQ : ∀ v : Int, -1 ≤ v → v ≤ 40 → Q (.inl (some (sg_i v))) h) : sg_C w mi_X5_wordBegin d 0 0 [sg_r a, sg_i t] h Q := by
  refine sg_of pn_X5 (Nat.le_of_ble_eq_true rfl) ?_
  have y0 := ck_Y0 hx
  obtain ⟨-, -, -, -, c40, -⟩ := ck_ln hx hl
  refine sg_iconst (pc := 0) (z := 0) (dc_X5_wordBegin_0.1.1.1.1) (by decide) ?_
  refine sg_istore_n (pc := 1) (j := 2) (dc_X5_wordBegin_0.1.1.1.2) rfl (by decide) ?_
  refine sg_iconst (pc := 2) (z := 0) (dc_X5_wordBegin_0.1.1.2.1) (by decide) ?_
  refine sg_istore_n (pc := 3) (j := 3) (dc_X5_wordBegin_0.1.1.2.2) rfl (by decide) ?_
  have loop4 : ∀ (N : Nat) (p s : Int), 0 ≤ p → (40 - p).toNat < N → sg_R w mi_X5_wordBegin d 0 0 Q 4 [(3, sg_i p), (2, sg_i s), (0, sg_r a), (1, sg_i t)] [] h 0 0 := by
    intro N
    induction N with
    | zero => intro p s p0 hm; exact absurd hm (Nat.not_lt_zero _)
    | succ N ih =>
      intro p s p0 hm
      refine sg_iload_n (pc := 4) (j := 3) (dc_X5_wordBegin_0.1.2.1.1) rfl rfl ?_
      refine sg_aload_n (pc := 5) (j := 0) (dc_X5_wordBegin_0.1.2.1.2) rfl rfl ?_
      refine sg_cE0 (pc := 6) (d' := d - 1) (mc' := 0) (ms' := 0) 3 g (dc_X5_wordBegin_0.1.2.2.1) cb_X0_size ml_X5_63 mn_X0_size rfl mv_X0_size (Nat.le_of_ble_eq_true rfl) (ck_lc (by assumption) (by first | assumption | exact ck_rev)) (Nat.le_of_ble_eq_true rfl) (by first | exact jl_d0 hd rfl | omega) (by first | exact Nat.le_of_ble_eq_true rfl | omega) (by first | exact Nat.le_of_ble_eq_true rfl | omega) ?_
      refine s_X0_size g (by first | exact jl_d1 hd rfl | omega) (by assumption) (by first | assumption | exact ck_rev) (fun z6 l6 u6 N6 => sg_K1 ?_)
      refine sg_icmp_ge (pc := 9) (tgt := 36) (dc_X5_wordBegin_0.1.2.2.2) (by decide) (fun c9 => ?_) (fun c9 => ?_)
      · refine sg_iconst (pc := 36) (z := -1) (dc_X5_wordBegin_26.2.1.1) (by decide) ?_
        refine sg_iret (pc := 37) (dc_X5_wordBegin_26.2.1.2) rfl (by first | exact Nat.le_of_ble_eq_true rfl | omega) (by first | exact Nat.le_of_ble_eq_true rfl | omega) ?_
        exact hQ _ (by omega) (by omega)
      · refine sg_aload_n (pc := 12) (j := 0) (dc_X5_wordBegin_0.2.1.1.1) rfl rfl ?_
        refine sg_iload_n (pc := 13) (j := 3) (dc_X5_wordBegin_0.2.1.1.2) rfl rfl ?_
        refine sg_cS2 (pc := 14) (d' := d - 1) (mc' := 0) (ms' := 0) g (dc_X5_wordBegin_0.2.1.2.1) cb_X5_isWordBegin ml_X5_219 ms_X5_isWordBegin (Nat.le_of_ble_eq_true rfl) (by first | exact jl_d0 hd rfl | omega) (by first | exact Nat.le_of_ble_eq_true rfl | omega) (by first | exact Nat.le_of_ble_eq_true rfl | omega) ?_
        refine s_X5_isWordBegin g (by first | exact jl_d1 hd rfl | omega) (by assumption) (by assumption) (fun v14 b14 => sg_K1 ?_)
        refine sg_if_eq (pc := 17) (tgt := 30) (dc_X5_wordBegin_0.2.1.2.2) (by decide) (fun c17 => ?_) (fun c17 => ?_)
        · first | refine sg_iincB (pc := 30) (dc_X5_wordBegin_26.1.2.1) rfl (by decide) (by decide) (by omega) (by omega) ?_ | refine sg_iinc (pc := 30) (dc_X5_wordBegin_26.1.2.1) rfl (by decide) (by decide) ?_
          refine sg_goto (pc := 33) (tgt := 4) (dc_X5_wordBegin_26.1.2.2) (by decide) ?_
          refine sg_lsub (lv' := [(3, _), (2, _), (0, _), (1, _)]) ⟨rfl, rfl, rfl, rfl, trivial⟩ ?_
          exact ih _ _ (by omega) (by omega)
        · refine sg_iload_n (pc := 20) (j := 2) (dc_X5_wordBegin_0.2.2.1.1) rfl rfl ?_
          refine sg_iload_n (pc := 21) (j := 1) (dc_X5_wordBegin_0.2.2.1.2) rfl rfl ?_
          refine sg_icmp_ne (pc := 22) (tgt := 27) (dc_X5_wordBegin_0.2.2.2.1) (by decide) (fun c22 => ?_) (fun c22 => ?_)
          · first | refine sg_iincB (pc := 27) (dc_X5_wordBegin_26.1.1.2) rfl (by decide) (by decide) (by omega) (by omega) ?_ | refine sg_iinc (pc := 27) (dc_X5_wordBegin_26.1.1.2) rfl (by decide) (by decide) ?_
            first | refine sg_iincB (pc := 30) (dc_X5_wordBegin_26.1.2.1) rfl (by decide) (by decide) (by omega) (by omega) ?_ | refine sg_iinc (pc := 30) (dc_X5_wordBegin_26.1.2.1) rfl (by decide) (by decide) ?_
            refine sg_goto (pc := 33) (tgt := 4) (dc_X5_wordBegin_26.1.2.2) (by decide) ?_
            refine sg_lsub (lv' := [(3, _), (2, _), (0, _), (1, _)]) ⟨rfl, rfl, rfl, rfl, trivial⟩ ?_
            exact ih _ _ (by omega) (by omega)
          · refine sg_iload_n (pc := 25) (j := 3) (dc_X5_wordBegin_0.2.2.2.2) rfl rfl ?_
            refine sg_iret (pc := 26) (dc_X5_wordBegin_26.1.1.1) rfl (by first | exact Nat.le_of_ble_eq_true rfl | omega) (by first | exact Nat.le_of_ble_eq_true rfl | omega) ?_
            exact hQ _ (by omega) (by omega)
  refine sg_lsub (lv' := [(3, _), (2, _), (0, _), (1, _)]) ⟨rfl, rfl, rfl, rfl, trivial⟩ ?_
  exact loop4 _ _ _ (by omega) (Nat.lt_succ_self _)

set_option maxRecDepth 100000 in
theorem s_X5_isSoundRow {w : sg_W} {Q : sg_O → sg_H → Prop} {h : sg_H} (g : sg_G w) {d : Nat} (hd : 11 ≤ d) {B a c : Nat} (hx : ck_X h B) (hl : ck_L B a c) (hQ : ∀ v : Int, (v = 0 ∨ v = 1) → Q (.inl (some (sg_i v))) h) : sg_C w mi_X5_isSoundRow d 0 0 [sg_r a] h Q := by
  refine sg_of pn_X5 (Nat.le_of_ble_eq_true rfl) ?_
  have y0 := ck_Y0 hx
  obtain ⟨-, -, -, -, c40, -⟩ := ck_ln hx hl
  refine sg_aload_n (pc := 0) (j := 0) (dc_X5_isSoundRow_0.1.1.1.1) rfl rfl ?_
  refine sg_cE0 (pc := 1) (d' := d - 1) (mc' := 0) (ms' := 0) 3 g (dc_X5_isSoundRow_0.1.1.1.2) cb_X0_size ml_X5_63 mn_X0_size rfl mv_X0_size (Nat.le_of_ble_eq_true rfl) (ck_lc (by assumption) (by first | assumption | exact ck_rev)) (Nat.le_of_ble_eq_true rfl) (by first | exact jl_d0 hd rfl | omega) (by first | exact Nat.le_of_ble_eq_true rfl | omega) (by first | exact Nat.le_of_ble_eq_true rfl | omega) ?_
  refine s_X0_size g (by first | exact jl_d1 hd rfl | omega) (by assumption) (by first | assumption | exact ck_rev) (fun z1 l1 u1 N1 => sg_K1 ?_)
  refine sg_bipush (pc := 4) (z := 40) (dc_X5_isSoundRow_0.1.1.2.1) (by decide) ?_
  refine sg_icmp_le (pc := 6) (tgt := 11) (dc_X5_isSoundRow_0.1.1.2.2) (by decide) (fun c6 => ?_) (fun c6 => ?_)
  · refine sg_iconst (pc := 11) (z := 0) (dc_X5_isSoundRow_0.1.2.2.1) (by decide) ?_
    refine sg_istore_n (pc := 12) (j := 1) (dc_X5_isSoundRow_0.1.2.2.2) rfl (by decide) ?_
    have loop13 : ∀ (N : Nat) (p : Int), 0 ≤ p → (40 - p).toNat < N → sg_R w mi_X5_isSoundRow d 0 0 Q 13 [(1, sg_i p), (0, sg_r a)] [] h 0 0 := by
      intro N
      induction N with
      | zero => intro p p0 hm; exact absurd hm (Nat.not_lt_zero _)
      | succ N ih =>
        intro p p0 hm
        refine sg_iload_n (pc := 13) (j := 1) (dc_X5_isSoundRow_0.2.1.1.1) rfl rfl ?_
        refine sg_aload_n (pc := 14) (j := 0) (dc_X5_isSoundRow_0.2.1.1.2) rfl rfl ?_
        refine sg_cE0 (pc := 15) (d' := d - 1) (mc' := 0) (ms' := 0) 3 g (dc_X5_isSoundRow_0.2.1.2.1) cb_X0_size ml_X5_63 mn_X0_size rfl mv_X0_size (Nat.le_of_ble_eq_true rfl) (ck_lc (by assumption) (by first | assumption | exact ck_rev)) (Nat.le_of_ble_eq_true rfl) (by first | exact jl_d0 hd rfl | omega) (by first | exact Nat.le_of_ble_eq_true rfl | omega) (by first | exact Nat.le_of_ble_eq_true rfl | omega) ?_
        refine s_X0_size g (by first | exact jl_d1 hd rfl | omega) (by assumption) (by first | assumption | exact ck_rev) (fun z15 l15 u15 N15 => sg_K1 ?_)
        refine sg_icmp_ge (pc := 18) (tgt := 40) (dc_X5_isSoundRow_0.2.1.2.2) (by decide) (fun c18 => ?_) (fun c18 => ?_)
        · refine sg_iconst (pc := 40) (z := 1) (dc_X5_isSoundRow_29.2.1.2) (by decide) ?_
          refine sg_zret (pc := 41) (dc_X5_isSoundRow_29.2.2.1) rfl (by first | exact Or.inl rfl | exact Or.inr rfl | omega | assumption) (by first | exact Nat.le_of_ble_eq_true rfl | omega) (by first | exact Nat.le_of_ble_eq_true rfl | omega) ?_
          exact hQ _ (by first | exact Or.inl rfl | exact Or.inr rfl | omega | assumption)
        · refine sg_aload_n (pc := 21) (j := 0) (dc_X5_isSoundRow_0.2.2.1.1) rfl rfl ?_
          refine sg_iload_n (pc := 22) (j := 1) (dc_X5_isSoundRow_0.2.2.1.2) rfl rfl ?_
          refine sg_cE1 (pc := 23) (d' := d - 1) (mc' := 0) (ms' := 0) 3 g (dc_X5_isSoundRow_0.2.2.2.1) cb_X0_get ml_X5_75 mn_X0_get rfl mv_X0_get (Nat.le_of_ble_eq_true rfl) (ck_lc (by assumption) (by first | assumption | exact ck_rev)) (Nat.le_of_ble_eq_true rfl) (by first | exact jl_d0 hd rfl | omega) (by first | exact Nat.le_of_ble_eq_true rfl | omega) (by first | exact Nat.le_of_ble_eq_true rfl | omega) ?_
          refine s_X0_get g (by first | exact jl_d1 hd rfl | omega) (by assumption) (by first | assumption | exact ck_rev) (fun z23 G23 v23 => sg_K1 ?_)
          refine sg_cS1 (pc := 26) (d' := d - 1) (mc' := 0) (ms' := 0) g (dc_X5_isSoundRow_0.2.2.2.2) cb_X2_isSoundSign ml_X5_336 ms_X2_isSoundSign (Nat.le_of_ble_eq_true rfl) (by first | exact jl_d0 hd rfl | omega) (by first | exact Nat.le_of_ble_eq_true rfl | omega) (by first | exact Nat.le_of_ble_eq_true rfl | omega) ?_
          refine s_X2_isSoundSign g (by first | exact jl_d1 hd rfl | omega) (fun z26 b26 => sg_K1 ?_)
          refine sg_if_ne (pc := 29) (tgt := 34) (dc_X5_isSoundRow_29.1.1.1) (by decide) (fun c29 => ?_) (fun c29 => ?_)
          · first | refine sg_iincB (pc := 34) (dc_X5_isSoundRow_29.1.2.2) rfl (by decide) (by decide) (by omega) (by omega) ?_ | refine sg_iinc (pc := 34) (dc_X5_isSoundRow_29.1.2.2) rfl (by decide) (by decide) ?_
            refine sg_goto (pc := 37) (tgt := 13) (dc_X5_isSoundRow_29.2.1.1) (by decide) ?_
            refine sg_lsub (lv' := [(1, _), (0, _)]) ⟨rfl, rfl, trivial⟩ ?_
            exact ih _ (by omega) (by omega)
          · refine sg_iconst (pc := 32) (z := 0) (dc_X5_isSoundRow_29.1.1.2) (by decide) ?_
            refine sg_zret (pc := 33) (dc_X5_isSoundRow_29.1.2.1) rfl (by first | exact Or.inl rfl | exact Or.inr rfl | omega | assumption) (by first | exact Nat.le_of_ble_eq_true rfl | omega) (by first | exact Nat.le_of_ble_eq_true rfl | omega) ?_
            exact hQ _ (by first | exact Or.inl rfl | exact Or.inr rfl | omega | assumption)
    refine sg_lsub (lv' := [(1, _), (0, _)]) ⟨rfl, rfl, trivial⟩ ?_
    exact loop13 _ _ (by omega) (Nat.lt_succ_self _)
  · refine sg_iconst (pc := 9) (z := 0) (dc_X5_isSoundRow_0.1.2.1.1) (by decide) ?_
    refine sg_zret (pc := 10) (dc_X5_isSoundRow_0.1.2.1.2) rfl (by first | exact Or.inl rfl | exact Or.inr rfl | omega | assumption) (by first | exact Nat.le_of_ble_eq_true rfl | omega) (by first | exact Nat.le_of_ble_eq_true rfl | omega) ?_
    exact hQ _ (by first | exact Or.inl rfl | exact Or.inr rfl | omega | assumption)

set_option maxRecDepth 100000 in
theorem s_X5_isSoundTrack {w : sg_W} {Q : sg_O → sg_H → Prop} {h : sg_H} (g : sg_G w) {d : Nat} (hd : 11 ≤ d) {B a : Nat} (hx : ck_X h B) (hl : ck_L B a 1) (hQ : ∀ v : Int, (v = 0 ∨ v = 1) → Q (.inl (some (sg_i v))) h) : sg_C w mi_X5_isSoundTrack d 0 0 [sg_r a] h Q := by
  refine sg_of pn_X5 (Nat.le_of_ble_eq_true rfl) ?_
  have y0 := ck_Y0 hx
  obtain ⟨-, -, -, -, c40, -⟩ := ck_ln hx hl
  refine sg_aload_n (pc := 0) (j := 0) (dc_X5_isSoundTrack_0.1.1.1.1) rfl rfl ?_
  refine sg_cE0 (pc := 1) (d' := d - 1) (mc' := 0) (ms' := 0) 3 g (dc_X5_isSoundTrack_0.1.1.1.2) cb_X0_size ml_X5_63 mn_X0_size rfl mv_X0_size (Nat.le_of_ble_eq_true rfl) (ck_lc (by assumption) (by first | assumption | exact ck_rev)) (Nat.le_of_ble_eq_true rfl) (by first | exact jl_d0 hd rfl | omega) (by first | exact Nat.le_of_ble_eq_true rfl | omega) (by first | exact Nat.le_of_ble_eq_true rfl | omega) ?_
  refine s_X0_size g (by first | exact jl_d1 hd rfl | omega) (by assumption) (by first | assumption | exact ck_rev) (fun z1 l1 u1 N1 => sg_K1 ?_)
  refine sg_bipush (pc := 4) (z := 24) (dc_X5_isSoundTrack_0.1.1.2.1) (by decide) ?_
  refine sg_icmp_gt (pc := 6) (tgt := 20) (dc_X5_isSoundTrack_0.1.1.2.2) (by decide) (fun c6 => ?_) (fun c6 => ?_)
  · refine sg_iconst (pc := 20) (z := 0) (dc_X5_isSoundTrack_0.2.1.1.2) (by decide) ?_
    refine sg_zret (pc := 21) (dc_X5_isSoundTrack_0.2.1.2.1) rfl (by first | exact Or.inl rfl | exact Or.inr rfl | omega | assumption) (by first | exact Nat.le_of_ble_eq_true rfl | omega) (by first | exact Nat.le_of_ble_eq_true rfl | omega) ?_
    exact hQ _ (by first | exact Or.inl rfl | exact Or.inr rfl | omega | assumption)
  · refine sg_aload_n (pc := 9) (j := 0) (dc_X5_isSoundTrack_0.1.2.1.1) rfl rfl ?_
    refine sg_cS1 (pc := 10) (d' := d - 1) (mc' := 0) (ms' := 0) g (dc_X5_isSoundTrack_0.1.2.1.2) cb_X4_areSentAgain ml_X5_339 ms_X4_areSentAgain (Nat.le_of_ble_eq_true rfl) (by first | exact jl_d0 hd rfl | omega) (by first | exact Nat.le_of_ble_eq_true rfl | omega) (by first | exact Nat.le_of_ble_eq_true rfl | omega) ?_
    refine s_X4_areSentAgain g (by first | exact jl_d1 hd rfl | omega) (by assumption) (by assumption) (fun z10 b10 => sg_K1 ?_)
    refine sg_if_eq (pc := 13) (tgt := 20) (dc_X5_isSoundTrack_0.1.2.2.1) (by decide) (fun c13 => ?_) (fun c13 => ?_)
    · refine sg_iconst (pc := 20) (z := 0) (dc_X5_isSoundTrack_0.2.1.1.2) (by decide) ?_
      refine sg_zret (pc := 21) (dc_X5_isSoundTrack_0.2.1.2.1) rfl (by first | exact Or.inl rfl | exact Or.inr rfl | omega | assumption) (by first | exact Nat.le_of_ble_eq_true rfl | omega) (by first | exact Nat.le_of_ble_eq_true rfl | omega) ?_
      exact hQ _ (by first | exact Or.inl rfl | exact Or.inr rfl | omega | assumption)
    · refine sg_iconst (pc := 16) (z := 1) (dc_X5_isSoundTrack_0.1.2.2.2) (by decide) ?_
      refine sg_goto (pc := 17) (tgt := 21) (dc_X5_isSoundTrack_0.2.1.1.1) (by decide) ?_
      refine sg_zret (pc := 21) (dc_X5_isSoundTrack_0.2.1.2.1) rfl (by first | exact Or.inl rfl | exact Or.inr rfl | omega | assumption) (by first | exact Nat.le_of_ble_eq_true rfl | omega) (by first | exact Nat.le_of_ble_eq_true rfl | omega) ?_
      exact hQ _ (by first | exact Or.inl rfl | exact Or.inr rfl | omega | assumption)

set_option maxRecDepth 100000 in
theorem s_X5_ahead {w : sg_W} {Q : sg_O → sg_H → Prop} {h : sg_H} (g : sg_G w) {d : Nat} (hd : 1 ≤ d) {x y : Int} (hQ : ∀ z : Int, z = (if x = y then 0 else if x < y then -1 else 1) → Q (.inl (some (sg_i z))) h) : sg_C w mi_X5_ahead d 0 0 [sg_i x, sg_i y] h Q := by
  refine sg_of pn_X5 (Nat.le_of_ble_eq_true rfl) ?_
  refine sg_iload_n (pc := 0) (j := 0) (dc_X5_ahead_0.1.1.1.1) rfl rfl ?_
  refine sg_iload_n (pc := 1) (j := 1) (dc_X5_ahead_0.1.1.1.2) rfl rfl ?_
  refine sg_icmp_ne (pc := 2) (tgt := 7) (dc_X5_ahead_0.1.1.2.1) (by decide) (fun c2 => ?_) (fun c2 => ?_)
  · refine sg_iload_n (pc := 7) (j := 0) (dc_X5_ahead_0.1.2.1.2) rfl rfl ?_
    refine sg_iload_n (pc := 8) (j := 1) (dc_X5_ahead_0.1.2.2.1) rfl rfl ?_
    refine sg_icmp_ge (pc := 9) (tgt := 16) (dc_X5_ahead_0.1.2.2.2) (by decide) (fun c9 => ?_) (fun c9 => ?_)
    · refine sg_iconst (pc := 16) (z := 1) (dc_X5_ahead_0.2.1.2.1) (by decide) ?_
      refine sg_iret (pc := 17) (dc_X5_ahead_0.2.1.2.2) rfl (by first | exact Nat.le_of_ble_eq_true rfl | omega) (by first | exact Nat.le_of_ble_eq_true rfl | omega) ?_
      exact hQ _ (by (repeat' split) <;> omega)
    · refine sg_iconst (pc := 12) (z := -1) (dc_X5_ahead_0.2.1.1.1) (by decide) ?_
      refine sg_goto (pc := 13) (tgt := 17) (dc_X5_ahead_0.2.1.1.2) (by decide) ?_
      refine sg_iret (pc := 17) (dc_X5_ahead_0.2.1.2.2) rfl (by first | exact Nat.le_of_ble_eq_true rfl | omega) (by first | exact Nat.le_of_ble_eq_true rfl | omega) ?_
      exact hQ _ (by (repeat' split) <;> omega)
  · refine sg_iconst (pc := 5) (z := 0) (dc_X5_ahead_0.1.1.2.2) (by decide) ?_
    refine sg_iret (pc := 6) (dc_X5_ahead_0.1.2.1.1) rfl (by first | exact Nat.le_of_ble_eq_true rfl | omega) (by first | exact Nat.le_of_ble_eq_true rfl | omega) ?_
    exact hQ _ (by (repeat' split) <;> omega)

set_option maxRecDepth 100000 in
theorem s_X5_with {w : sg_W} {Q : sg_O → sg_H → Prop} {h : sg_H} (g : sg_G w) {d : Nat} (hd : 1 ≤ d) {x y : Int} (hQ : ∀ z : Int, z = sg_W64 (sg_W64 (x * 31) + y) → Q (.inl (some (sg_l z))) h) : sg_C w mi_X5_with d 0 0 [sg_l x, sg_l y] h Q := by
  refine sg_of pn_X5 (Nat.le_of_ble_eq_true rfl) ?_
  refine sg_lload_n (pc := 0) (j := 0) (dc_X5_with_0.1.1.1) rfl rfl ?_
  refine sg_ldc2 (pc := 1) (z := 31) g (dc_X5_with_0.1.1.2) cn_X5_342 (by decide) ?_
  refine sg_lmul (pc := 4) (dc_X5_with_0.1.2.1) ?_
  refine sg_lload_n (pc := 5) (j := 2) (dc_X5_with_0.1.2.2) rfl rfl ?_
  refine sg_ladd (pc := 6) (dc_X5_with_0.2.1.1) ?_
  refine sg_lret (pc := 7) (dc_X5_with_0.2.1.2) rfl (by first | exact Nat.le_of_ble_eq_true rfl | omega) (by first | exact Nat.le_of_ble_eq_true rfl | omega) ?_
  exact hQ _ rfl

set_option maxRecDepth 100000 in
theorem s_X5_laid {w : sg_W} {Q : sg_O → sg_H → Prop} {h : sg_H} (g : sg_G w) {d : Nat} (hd : 12 ≤ d) {x : Int} (hQ : ∀ z : Int, (z = 0 ∨ z = 1) → Q (.inl (some (sg_i z))) h) (hX : (x < 0 ∨ 255 < x) → ∀ z, h.1 ≤ z → Q (.inr e_A) (z, h.2)) : sg_C w mi_X5_laid d 1 6 [sg_i x] h Q := by
  refine sg_of pn_X5 (Nat.le_of_ble_eq_true rfl) ?_
  refine sg_iload_n (pc := 0) (j := 0) (dc_X5_laid_0.1.1.1.1) rfl rfl ?_
  refine sg_iconst (pc := 1) (z := -1) (dc_X5_laid_0.1.1.1.2) (by decide) ?_
  refine sg_icmp_ne (pc := 2) (tgt := 7) (dc_X5_laid_0.1.1.2.1) (by decide) (fun c2 => ?_) (fun c2 => ?_)
  · refine sg_iload_n (pc := 7) (j := 0) (dc_X5_laid_0.1.2.1.2) rfl rfl ?_
    refine sg_cS1 (pc := 8) (d' := d - 1) (mc' := 1) (ms' := 6) g (dc_X5_laid_0.1.2.2.1) cb_X5_checkSign ml_X5_189 ms_X5_checkSign (Nat.le_of_ble_eq_true rfl) (by first | exact jl_d0 hd rfl | omega) (by first | exact Nat.le_of_ble_eq_true rfl | omega) (by first | exact Nat.le_of_ble_eq_true rfl | omega) ?_
    refine s_X5_checkSign g (by first | exact jl_d1 hd rfl | omega) (fun v8 => sg_K0 ?_) (fun v8 z8 w8 => sg_KX (by first | exact Nat.le_of_ble_eq_true rfl | omega) (by first | exact Nat.le_of_ble_eq_true rfl | omega) (hX (by omega) z8 w8))
    refine sg_iconst (pc := 11) (z := 1) (dc_X5_laid_0.1.2.2.2) (by decide) ?_
    refine sg_iret (pc := 12) (dc_X5_laid_0.2.1.1.1) rfl (by first | exact Nat.le_of_ble_eq_true rfl | omega) (by first | exact Nat.le_of_ble_eq_true rfl | omega) ?_
    exact hQ _ (by omega)
  · refine sg_iconst (pc := 5) (z := 0) (dc_X5_laid_0.1.1.2.2) (by decide) ?_
    refine sg_iret (pc := 6) (dc_X5_laid_0.1.2.1.1) rfl (by first | exact Nat.le_of_ble_eq_true rfl | omega) (by first | exact Nat.le_of_ble_eq_true rfl | omega) ?_
    exact hQ _ (by omega)

set_option maxRecDepth 100000 in
theorem s_X5_shorten {w : sg_W} {Q : sg_O → sg_H → Prop} {h : sg_H} (g : sg_G w) {d : Nat} (hd : 11 ≤ d) {B a c : Nat} (hx : ck_X h B) (hl : ck_L B a c) {x : Int} (hQ : ∀ (v : Int) (h' : sg_H), ck_Y h h' B → Q (.inl (some (sg_i v))) h') (hX : ∀ (E : String) (h' : sg_H), E ∈ [e_A] → True → ck_Y h h' B → Q (.inr E) h') : sg_C w mi_X5_shorten d 1 6 [sg_r B, sg_r a, sg_i x] h Q := by
  refine sg_of pn_X5 (Nat.le_of_ble_eq_true rfl) ?_
  have y0 := ck_Y0 hx
  refine sg_iload_n (pc := 0) (j := 2) (dc_X5_shorten_0.1.1.1.1) rfl rfl ?_
  refine sg_if_lt (pc := 1) (tgt := 12) (dc_X5_shorten_0.1.1.1.2) (by decide) (fun c1 => ?_) (fun c1 => ?_)
  · refine sg_throwW (pc := 12) g th_X5_110_334 (dc_X5_shorten_0.1.2.2.1) (dc_X5_shorten_0.1.2.2.2) (dc_X5_shorten_0.2.1.1.1) (dc_X5_shorten_0.2.1.1.2) (dc_X5_shorten_0.2.1.2.1) (by first | exact Nat.le_trans (Nat.le_of_ble_eq_true rfl) hd | omega) (Nat.le_of_ble_eq_true rfl) (by first | exact Nat.le_of_ble_eq_true rfl | omega) (by first | exact Nat.le_of_ble_eq_true rfl | omega) ?_
    exact fun z hz => hX _ _ (by decide) (by first | trivial | omega) (ck_Yz (by assumption) hz)
  · refine sg_iload_n (pc := 4) (j := 2) (dc_X5_shorten_0.1.1.2.1) rfl rfl ?_
    refine sg_aload_n (pc := 5) (j := 1) (dc_X5_shorten_0.1.1.2.2) rfl rfl ?_
    refine sg_cE0 (pc := 6) (d' := d - 1) (mc' := 0) (ms' := 0) 3 g (dc_X5_shorten_0.1.2.1.1) cb_X0_size ml_X5_63 mn_X0_size rfl mv_X0_size (Nat.le_of_ble_eq_true rfl) (ck_lc (by assumption) (by first | assumption | exact ck_rev)) (Nat.le_of_ble_eq_true rfl) (by first | exact jl_d0 hd rfl | omega) (by first | exact Nat.le_of_ble_eq_true rfl | omega) (by first | exact Nat.le_of_ble_eq_true rfl | omega) ?_
    refine s_X0_size g (by first | exact jl_d1 hd rfl | omega) (by assumption) (by first | assumption | exact ck_rev) (fun z6 l6 u6 N6 => sg_K1 ?_)
    refine sg_icmp_le (pc := 9) (tgt := 23) (dc_X5_shorten_0.1.2.1.2) (by decide) (fun c9 => ?_) (fun c9 => ?_)
    · refine sg_aload_n (pc := 23) (j := 0) (dc_X5_shorten_0.2.1.2.2) rfl rfl ?_
      refine ck_gob (pc := 24) g (dc_X5_shorten_0.2.2.1.1) fk_X5_19 (by assumption) (fun _ => rfl) ?_
      refine sg_aload_n (pc := 27) (j := 0) (dc_X5_shorten_0.2.2.1.2) rfl rfl ?_
      refine ck_gob (pc := 28) g (dc_X5_shorten_0.2.2.2.1) fk_X5_10 (by assumption) (fun _ => rfl) ?_
      refine sg_cE1 (pc := 31) (d' := d - 1) (mc' := 0) (ms' := 0) 4 g (dc_X5_shorten_0.2.2.2.2) cb_X1_keep ml_X5_55 mn_X1_keep rfl mv_X1_keep (Nat.le_of_ble_eq_true rfl) (ck_pc (by assumption)) (Nat.le_of_ble_eq_true rfl) (by first | exact jl_d0 hd rfl | omega) (by first | exact Nat.le_of_ble_eq_true rfl | omega) (by first | exact Nat.le_of_ble_eq_true rfl | omega) ?_
      refine s_X1_keep g (by first | exact jl_d1 hd rfl | omega) (by assumption) ck_now (fun h31 x31 f31 => sg_K0 ?_)
      have y31 := ck_Yt (h0 := h) (by assumption) x31 f31
      refine sg_aload_n (pc := 34) (j := 1) (dc_X5_shorten_34.1.1.1) rfl rfl ?_
      refine sg_iload_n (pc := 35) (j := 2) (dc_X5_shorten_34.1.1.2) rfl rfl ?_
      refine sg_cE1 (pc := 36) (d' := d - 1) (mc' := 0) (ms' := 0) 3 g (dc_X5_shorten_34.1.2.1) cb_X0_takeAway ml_X5_100 mn_X0_takeAway rfl mv_X0_takeAway (Nat.le_of_ble_eq_true rfl) (ck_lc (by assumption) (by first | assumption | exact ck_rev)) (Nat.le_of_ble_eq_true rfl) (by first | exact jl_d0 hd rfl | omega) (by first | exact Nat.le_of_ble_eq_true rfl | omega) (by first | exact Nat.le_of_ble_eq_true rfl | omega) ?_
      refine s_X0_takeAway g (by first | exact jl_d1 hd rfl | omega) (by assumption) (by assumption) (fun h36 x36 f36 => sg_K0 ?_)
      have y36 := ck_Yt (h0 := h) (by assumption) x36 f36.1
      refine sg_aload_n (pc := 39) (j := 1) (dc_X5_shorten_34.1.2.2) rfl rfl ?_
      refine sg_cE0 (pc := 40) (d' := d - 1) (mc' := 0) (ms' := 0) 3 g (dc_X5_shorten_34.2.1.1) cb_X0_size ml_X5_63 mn_X0_size rfl mv_X0_size (Nat.le_of_ble_eq_true rfl) (ck_lc (by assumption) (by first | assumption | exact ck_rev)) (Nat.le_of_ble_eq_true rfl) (by first | exact jl_d0 hd rfl | omega) (by first | exact Nat.le_of_ble_eq_true rfl | omega) (by first | exact Nat.le_of_ble_eq_true rfl | omega) ?_
      refine s_X0_size g (by first | exact jl_d1 hd rfl | omega) (by assumption) (by first | assumption | exact ck_rev) (fun z40 l40 u40 N40 => sg_K1 ?_)
      refine sg_iret (pc := 43) (dc_X5_shorten_34.2.1.2) rfl (by first | exact Nat.le_of_ble_eq_true rfl | omega) (by first | exact Nat.le_of_ble_eq_true rfl | omega) ?_
      exact hQ _ _ (by assumption)
    · refine sg_throwW (pc := 12) g th_X5_110_334 (dc_X5_shorten_0.1.2.2.1) (dc_X5_shorten_0.1.2.2.2) (dc_X5_shorten_0.2.1.1.1) (dc_X5_shorten_0.2.1.1.2) (dc_X5_shorten_0.2.1.2.1) (by first | exact Nat.le_trans (Nat.le_of_ble_eq_true rfl) hd | omega) (Nat.le_of_ble_eq_true rfl) (by first | exact Nat.le_of_ble_eq_true rfl | omega) (by first | exact Nat.le_of_ble_eq_true rfl | omega) ?_
      exact fun z hz => hX _ _ (by decide) (by first | trivial | omega) (ck_Yz (by assumption) hz)

set_option maxRecDepth 100000 in
theorem s_X5_lay {w : sg_W} {Q : sg_O → sg_H → Prop} {h : sg_H} (g : sg_G w) {d : Nat} (hd : 14 ≤ d) {B : Nat} (hx : ck_X h B) {row a b c e : Int} (hQ : ∀ (v : Int) (h' : sg_H), ck_Y h h' B → Q (.inl (some (sg_i v))) h') (hX : ∀ (E : String) (h' : sg_H), E ∈ [e_I, e_A, e_S] → (True) → ck_Y h h' B → Q (.inr E) h') : sg_C w mi_X5_lay d 8 48 [sg_r B, sg_i row, sg_i a, sg_i b, sg_i c, sg_i e] h Q := by
  refine sg_of pn_X5 (Nat.le_of_ble_eq_true rfl) ?_
  have y0 := ck_Y0 hx
  refine sg_aload_n (pc := 0) (j := 0) (dc_X5_lay_0.1.1.1.1) rfl rfl ?_
  refine sg_iload_n (pc := 1) (j := 1) (dc_X5_lay_0.1.1.1.2) rfl rfl ?_
  refine sg_cE1 (pc := 2) (d' := d - 1) (mc' := 1) (ms' := 6) 6 g (dc_X5_lay_0.1.1.2.1) cb_X5_rowOf ml_X5_36 mn_X5_rowOf rfl mv_X5_rowOf (Nat.le_of_ble_eq_true rfl) (ck_oc (by assumption)) (Nat.le_of_ble_eq_true rfl) (by first | exact jl_d0 hd rfl | omega) (by first | exact Nat.le_of_ble_eq_true rfl | omega) (by first | exact Nat.le_of_ble_eq_true rfl | omega) ?_
  refine s_X5_rowOf g (by first | exact jl_d1 hd rfl | omega) (by assumption) (fun a2 l2 r2 r2b => sg_K1 ?_) (fun E2 g2 m2 t2 q2 => sg_KX (by first | exact Nat.le_of_ble_eq_true rfl | omega) (by first | exact Nat.le_of_ble_eq_true rfl | omega) (hX _ _ ((by decide : ∀ x ∈ [e_I], x ∈ [e_I, e_A, e_S]) _ m2) (by first | trivial | omega) (ck_YY (by assumption) q2)))
  refine sg_astore (pc := 5) (dc_X5_lay_0.1.1.2.2) (by decide) ?_
  refine sg_iload_n (pc := 7) (j := 2) (dc_X5_lay_0.1.2.1.1) rfl rfl ?_
  refine sg_cS1 (pc := 8) (d' := d - 1) (mc' := 1) (ms' := 6) g (dc_X5_lay_0.1.2.1.2) cb_X5_laid ml_X5_40 ms_X5_laid (Nat.le_of_ble_eq_true rfl) (by first | exact jl_d0 hd rfl | omega) (by first | exact Nat.le_of_ble_eq_true rfl | omega) (by first | exact Nat.le_of_ble_eq_true rfl | omega) ?_
  refine s_X5_laid g (by first | exact jl_d1 hd rfl | omega) (fun z8 b8 => sg_K1 ?_) (fun v8 z8 w8 => sg_KX (by first | exact Nat.le_of_ble_eq_true rfl | omega) (by first | exact Nat.le_of_ble_eq_true rfl | omega) (hX _ _ (by decide) (by first | trivial | omega) (ck_Yz (by assumption) w8)))
  refine sg_iload_n (pc := 11) (j := 3) (dc_X5_lay_0.1.2.2.1) rfl rfl ?_
  refine sg_cS1 (pc := 12) (d' := d - 1) (mc' := 1) (ms' := 6) g (dc_X5_lay_0.1.2.2.2) cb_X5_laid ml_X5_40 ms_X5_laid (Nat.le_of_ble_eq_true rfl) (by first | exact jl_d0 hd rfl | omega) (by first | exact Nat.le_of_ble_eq_true rfl | omega) (by first | exact Nat.le_of_ble_eq_true rfl | omega) ?_
  refine s_X5_laid g (by first | exact jl_d1 hd rfl | omega) (fun z12 b12 => sg_K1 ?_) (fun v12 z12 w12 => sg_KX (by first | exact Nat.le_of_ble_eq_true rfl | omega) (by first | exact Nat.le_of_ble_eq_true rfl | omega) (hX _ _ (by decide) (by first | trivial | omega) (ck_Yz (by assumption) w12)))
  first | refine sg_iaddB (pc := 15) (dc_X5_lay_0.2.1.1.1) (by omega) (by omega) ?_ | refine sg_iadd (pc := 15) (dc_X5_lay_0.2.1.1.1) ?_
  refine sg_iload (pc := 16) (dc_X5_lay_0.2.1.1.2) rfl ?_
  refine sg_cS1 (pc := 18) (d' := d - 1) (mc' := 1) (ms' := 6) g (dc_X5_lay_0.2.1.2.1) cb_X5_laid ml_X5_40 ms_X5_laid (Nat.le_of_ble_eq_true rfl) (by first | exact jl_d0 hd rfl | omega) (by first | exact Nat.le_of_ble_eq_true rfl | omega) (by first | exact Nat.le_of_ble_eq_true rfl | omega) ?_
  refine s_X5_laid g (by first | exact jl_d1 hd rfl | omega) (fun z18 b18 => sg_K1 ?_) (fun v18 z18 w18 => sg_KX (by first | exact Nat.le_of_ble_eq_true rfl | omega) (by first | exact Nat.le_of_ble_eq_true rfl | omega) (hX _ _ (by decide) (by first | trivial | omega) (ck_Yz (by assumption) w18)))
  first | refine sg_iaddB (pc := 21) (dc_X5_lay_0.2.1.2.2) (by omega) (by omega) ?_ | refine sg_iadd (pc := 21) (dc_X5_lay_0.2.1.2.2) ?_
  refine sg_iload (pc := 22) (dc_X5_lay_0.2.2.1.1) rfl ?_
  refine sg_cS1 (pc := 24) (d' := d - 1) (mc' := 1) (ms' := 6) g (dc_X5_lay_0.2.2.1.2) cb_X5_laid ml_X5_40 ms_X5_laid (Nat.le_of_ble_eq_true rfl) (by first | exact jl_d0 hd rfl | omega) (by first | exact Nat.le_of_ble_eq_true rfl | omega) (by first | exact Nat.le_of_ble_eq_true rfl | omega) ?_
  refine s_X5_laid g (by first | exact jl_d1 hd rfl | omega) (fun z24 b24 => sg_K1 ?_) (fun v24 z24 w24 => sg_KX (by first | exact Nat.le_of_ble_eq_true rfl | omega) (by first | exact Nat.le_of_ble_eq_true rfl | omega) (hX _ _ (by decide) (by first | trivial | omega) (ck_Yz (by assumption) w24)))
  first | refine sg_iaddB (pc := 27) (dc_X5_lay_0.2.2.2.1) (by omega) (by omega) ?_ | refine sg_iadd (pc := 27) (dc_X5_lay_0.2.2.2.1) ?_
  refine sg_istore (pc := 28) (dc_X5_lay_0.2.2.2.2) (by decide) ?_
  refine sg_aload (pc := 30) (dc_X5_lay_30.1.1.1.1) rfl ?_
  refine sg_iload (pc := 32) (dc_X5_lay_30.1.1.1.2) rfl ?_
  refine sg_cE1 (pc := 34) (d' := d - 1) (mc' := 0) (ms' := 0) 3 g (dc_X5_lay_30.1.1.2.1) cb_X0_hasRoomFor ml_X5_44 mn_X0_hasRoomFor rfl mv_X0_hasRoomFor (Nat.le_of_ble_eq_true rfl) (ck_lc (by assumption) (by first | assumption | exact ck_rev)) (Nat.le_of_ble_eq_true rfl) (by first | exact jl_d0 hd rfl | omega) (by first | exact Nat.le_of_ble_eq_true rfl | omega) (by first | exact Nat.le_of_ble_eq_true rfl | omega) ?_
  refine s_X0_hasRoomFor g (by first | exact jl_d1 hd rfl | omega) (by assumption) (by first | assumption | exact ck_rev) (fun z34 b34 => sg_K1 ?_)
  refine sg_if_ne (pc := 37) (tgt := 50) (dc_X5_lay_30.1.1.2.2) (by decide) (fun c37 => ?_) (fun c37 => ?_)
  · refine sg_aload_n (pc := 50) (j := 0) (dc_X5_lay_30.2.1.1.2) rfl rfl ?_
    refine ck_gob (pc := 51) g (dc_X5_lay_30.2.1.2.1) fk_X5_19 (by assumption) (fun _ => rfl) ?_
    refine sg_aload_n (pc := 54) (j := 0) (dc_X5_lay_30.2.1.2.2) rfl rfl ?_
    refine ck_gob (pc := 55) g (dc_X5_lay_30.2.2.1.1) fk_X5_10 (by assumption) (fun _ => rfl) ?_
    refine sg_cE1 (pc := 58) (d' := d - 1) (mc' := 0) (ms' := 0) 4 g (dc_X5_lay_30.2.2.1.2) cb_X1_keep ml_X5_55 mn_X1_keep rfl mv_X1_keep (Nat.le_of_ble_eq_true rfl) (ck_pc (by assumption)) (Nat.le_of_ble_eq_true rfl) (by first | exact jl_d0 hd rfl | omega) (by first | exact Nat.le_of_ble_eq_true rfl | omega) (by first | exact Nat.le_of_ble_eq_true rfl | omega) ?_
    refine s_X1_keep g (by first | exact jl_d1 hd rfl | omega) (by assumption) ck_now (fun h58 x58 f58 => sg_K0 ?_)
    have y58 := ck_Yt (h0 := h) (by assumption) x58 f58
    refine sg_aload (pc := 61) (dc_X5_lay_30.2.2.2.1) rfl ?_
    refine sg_iload_n (pc := 63) (j := 2) (dc_X5_lay_30.2.2.2.2) rfl rfl ?_
    refine sg_cS2 (pc := 64) (d' := d - 1) (mc' := 0) (ms' := 0) g (dc_X5_lay_64.1.1.1.1) cb_X5_addLaid ml_X5_59 ms_X5_addLaid (Nat.le_of_ble_eq_true rfl) (by first | exact jl_d0 hd rfl | omega) (by first | exact Nat.le_of_ble_eq_true rfl | omega) (by first | exact Nat.le_of_ble_eq_true rfl | omega) ?_
    refine s_X5_addLaid g (by first | exact jl_d1 hd rfl | omega) (by assumption) (by assumption) (fun h64 x64 f64 => sg_K0 ?_)
    have y64 := ck_Yt (h0 := h) (by assumption) x64 f64
    refine sg_aload (pc := 67) (dc_X5_lay_64.1.1.1.2) rfl ?_
    refine sg_iload_n (pc := 69) (j := 3) (dc_X5_lay_64.1.1.2.1) rfl rfl ?_
    refine sg_cS2 (pc := 70) (d' := d - 1) (mc' := 0) (ms' := 0) g (dc_X5_lay_64.1.1.2.2) cb_X5_addLaid ml_X5_59 ms_X5_addLaid (Nat.le_of_ble_eq_true rfl) (by first | exact jl_d0 hd rfl | omega) (by first | exact Nat.le_of_ble_eq_true rfl | omega) (by first | exact Nat.le_of_ble_eq_true rfl | omega) ?_
    refine s_X5_addLaid g (by first | exact jl_d1 hd rfl | omega) (by assumption) (by assumption) (fun h70 x70 f70 => sg_K0 ?_)
    have y70 := ck_Yt (h0 := h) (by assumption) x70 f70
    refine sg_aload (pc := 73) (dc_X5_lay_64.1.2.1.1) rfl ?_
    refine sg_iload (pc := 75) (dc_X5_lay_64.1.2.1.2) rfl ?_
    refine sg_cS2 (pc := 77) (d' := d - 1) (mc' := 0) (ms' := 0) g (dc_X5_lay_64.1.2.2.1) cb_X5_addLaid ml_X5_59 ms_X5_addLaid (Nat.le_of_ble_eq_true rfl) (by first | exact jl_d0 hd rfl | omega) (by first | exact Nat.le_of_ble_eq_true rfl | omega) (by first | exact Nat.le_of_ble_eq_true rfl | omega) ?_
    refine s_X5_addLaid g (by first | exact jl_d1 hd rfl | omega) (by assumption) (by assumption) (fun h77 x77 f77 => sg_K0 ?_)
    have y77 := ck_Yt (h0 := h) (by assumption) x77 f77
    refine sg_aload (pc := 80) (dc_X5_lay_64.1.2.2.2) rfl ?_
    refine sg_iload (pc := 82) (dc_X5_lay_64.2.1.1.1) rfl ?_
    refine sg_cS2 (pc := 84) (d' := d - 1) (mc' := 0) (ms' := 0) g (dc_X5_lay_64.2.1.1.2) cb_X5_addLaid ml_X5_59 ms_X5_addLaid (Nat.le_of_ble_eq_true rfl) (by first | exact jl_d0 hd rfl | omega) (by first | exact Nat.le_of_ble_eq_true rfl | omega) (by first | exact Nat.le_of_ble_eq_true rfl | omega) ?_
    refine s_X5_addLaid g (by first | exact jl_d1 hd rfl | omega) (by assumption) (by assumption) (fun h84 x84 f84 => sg_K0 ?_)
    have y84 := ck_Yt (h0 := h) (by assumption) x84 f84
    refine sg_aload (pc := 87) (dc_X5_lay_64.2.1.2.1) rfl ?_
    refine sg_cE0 (pc := 89) (d' := d - 1) (mc' := 0) (ms' := 0) 3 g (dc_X5_lay_64.2.1.2.2) cb_X0_size ml_X5_63 mn_X0_size rfl mv_X0_size (Nat.le_of_ble_eq_true rfl) (ck_lc (by assumption) (by first | assumption | exact ck_rev)) (Nat.le_of_ble_eq_true rfl) (by first | exact jl_d0 hd rfl | omega) (by first | exact Nat.le_of_ble_eq_true rfl | omega) (by first | exact Nat.le_of_ble_eq_true rfl | omega) ?_
    refine s_X0_size g (by first | exact jl_d1 hd rfl | omega) (by assumption) (by first | assumption | exact ck_rev) (fun z89 l89 u89 N89 => sg_K1 ?_)
    refine sg_iret (pc := 92) (dc_X5_lay_64.2.2.1.1) rfl (by first | exact Nat.le_of_ble_eq_true rfl | omega) (by first | exact Nat.le_of_ble_eq_true rfl | omega) ?_
    exact hQ _ _ (by assumption)
  · refine sg_throw (pc := 40) g th_X5_48_50 (dc_X5_lay_30.1.2.1.1) (dc_X5_lay_30.1.2.1.2) (dc_X5_lay_30.1.2.2.1) (dc_X5_lay_30.1.2.2.2) (dc_X5_lay_30.2.1.1.1) (by first | exact Nat.le_trans (Nat.le_of_ble_eq_true rfl) hd | omega) (Nat.le_of_ble_eq_true rfl) (by first | exact Nat.le_of_ble_eq_true rfl | omega) (by first | exact Nat.le_of_ble_eq_true rfl | omega) ?_
    exact fun z hz => hX _ _ (by decide) (by first | trivial | omega) (ck_Yz (by assumption) hz)

set_option maxRecDepth 100000 in
theorem s_X5_drop {w : sg_W} {Q : sg_O → sg_H → Prop} {h : sg_H} (g : sg_G w) {d : Nat} (hd : 14 ≤ d) {B : Nat} (hx : ck_X h B) {row many : Int} (hQ : ∀ (v : Int) (h' : sg_H), ck_Y h h' B → Q (.inl (some (sg_i v))) h') (hX : ∀ (E : String) (h' : sg_H), E ∈ [e_I, e_A] → (True) → ck_Y h h' B → Q (.inr E) h') : sg_C w mi_X5_drop d 8 48 [sg_r B, sg_i row, sg_i many] h Q := by
  refine sg_of pn_X5 (Nat.le_of_ble_eq_true rfl) ?_
  have y0 := ck_Y0 hx
  refine sg_aload_n (pc := 0) (j := 0) (dc_X5_drop_0.1.1.1) rfl rfl ?_
  refine sg_aload_n (pc := 1) (j := 0) (dc_X5_drop_0.1.1.2) rfl rfl ?_
  refine sg_iload_n (pc := 2) (j := 1) (dc_X5_drop_0.1.2.1) rfl rfl ?_
  refine sg_cE1 (pc := 3) (d' := d - 1) (mc' := 1) (ms' := 6) 6 g (dc_X5_drop_0.1.2.2) cb_X5_rowOf ml_X5_36 mn_X5_rowOf rfl mv_X5_rowOf (Nat.le_of_ble_eq_true rfl) (ck_oc (by assumption)) (Nat.le_of_ble_eq_true rfl) (by first | exact jl_d0 hd rfl | omega) (by first | exact Nat.le_of_ble_eq_true rfl | omega) (by first | exact Nat.le_of_ble_eq_true rfl | omega) ?_
  refine s_X5_rowOf g (by first | exact jl_d1 hd rfl | omega) (by assumption) (fun a3 l3 r3 r3b => sg_K1 ?_) (fun E3 g3 m3 t3 q3 => sg_KX (by first | exact Nat.le_of_ble_eq_true rfl | omega) (by first | exact Nat.le_of_ble_eq_true rfl | omega) (hX _ _ ((by decide : ∀ x ∈ [e_I], x ∈ [e_I, e_A]) _ m3) (by first | trivial | omega) (ck_YY (by assumption) q3)))
  refine sg_iload_n (pc := 6) (j := 2) (dc_X5_drop_0.2.1.1) rfl rfl ?_
  refine sg_cE2 (pc := 7) (d' := d - 1) (mc' := 1) (ms' := 6) 6 g (dc_X5_drop_0.2.1.2) cb_X5_shorten ml_X5_67 mn_X5_shorten rfl mv_X5_shorten (Nat.le_of_ble_eq_true rfl) (ck_oc (by assumption)) (Nat.le_of_ble_eq_true rfl) (by first | exact jl_d0 hd rfl | omega) (by first | exact Nat.le_of_ble_eq_true rfl | omega) (by first | exact Nat.le_of_ble_eq_true rfl | omega) ?_
  refine s_X5_shorten g (by first | exact jl_d1 hd rfl | omega) (by assumption) (by assumption) (fun v7 h7 y7 => sg_K1 ?_) (fun E7 g7 m7 t7 q7 => sg_KX (by first | exact Nat.le_of_ble_eq_true rfl | omega) (by first | exact Nat.le_of_ble_eq_true rfl | omega) (hX _ _ ((by decide : ∀ x ∈ [e_A], x ∈ [e_I, e_A]) _ m7) (by first | trivial | omega) (ck_YY (by assumption) q7)))
  have x7 := y7.1
  have y7 := ck_YY (h0 := h) (by assumption) y7
  refine sg_iret (pc := 10) (dc_X5_drop_0.2.2.1) rfl (by first | exact Nat.le_of_ble_eq_true rfl | omega) (by first | exact Nat.le_of_ble_eq_true rfl | omega) ?_
  exact hQ _ _ (by assumption)

set_option maxRecDepth 100000 in
theorem s_X5_copy {w : sg_W} {Q : sg_O → sg_H → Prop} {h : sg_H} (g : sg_G w) {d : Nat} (hd : 14 ≤ d) {B : Nat} (hx : ck_X h B) {row to : Int} (hQ : ∀ (v : Int) (h' : sg_H), ck_Y h h' B → Q (.inl (some (sg_i v))) h') (hX : ∀ (E : String) (h' : sg_H), E ∈ [e_I] → (True) → ck_Y h h' B → Q (.inr E) h') : sg_C w mi_X5_copy d 8 48 [sg_r B, sg_i row, sg_i to] h Q := by
  refine sg_of pn_X5 (Nat.le_of_ble_eq_true rfl) ?_
  have y0 := ck_Y0 hx
  refine sg_aload_n (pc := 0) (j := 0) (dc_X5_copy_0.1.1.1.1) rfl rfl ?_
  refine sg_iload_n (pc := 1) (j := 1) (dc_X5_copy_0.1.1.1.2) rfl rfl ?_
  refine sg_cE1 (pc := 2) (d' := d - 1) (mc' := 1) (ms' := 6) 6 g (dc_X5_copy_0.1.1.2.1) cb_X5_rowOf ml_X5_36 mn_X5_rowOf rfl mv_X5_rowOf (Nat.le_of_ble_eq_true rfl) (ck_oc (by assumption)) (Nat.le_of_ble_eq_true rfl) (by first | exact jl_d0 hd rfl | omega) (by first | exact Nat.le_of_ble_eq_true rfl | omega) (by first | exact Nat.le_of_ble_eq_true rfl | omega) ?_
  refine s_X5_rowOf g (by first | exact jl_d1 hd rfl | omega) (by assumption) (fun a2 l2 r2 r2b => sg_K1 ?_) (fun E2 g2 m2 t2 q2 => sg_KX (by first | exact Nat.le_of_ble_eq_true rfl | omega) (by first | exact Nat.le_of_ble_eq_true rfl | omega) (hX _ _ ((by decide : ∀ x ∈ [e_I], x ∈ [e_I]) _ m2) (by first | trivial | omega) (ck_YY (by assumption) q2)))
  refine sg_astore_n (pc := 5) (j := 3) (dc_X5_copy_0.1.1.2.2) rfl (by decide) ?_
  refine sg_aload_n (pc := 6) (j := 0) (dc_X5_copy_0.1.2.1.1) rfl rfl ?_
  refine sg_iload_n (pc := 7) (j := 2) (dc_X5_copy_0.1.2.1.2) rfl rfl ?_
  refine sg_cE1 (pc := 8) (d' := d - 1) (mc' := 1) (ms' := 6) 6 g (dc_X5_copy_0.1.2.2.1) cb_X5_rowOf ml_X5_36 mn_X5_rowOf rfl mv_X5_rowOf (Nat.le_of_ble_eq_true rfl) (ck_oc (by assumption)) (Nat.le_of_ble_eq_true rfl) (by first | exact jl_d0 hd rfl | omega) (by first | exact Nat.le_of_ble_eq_true rfl | omega) (by first | exact Nat.le_of_ble_eq_true rfl | omega) ?_
  refine s_X5_rowOf g (by first | exact jl_d1 hd rfl | omega) (by assumption) (fun a8 l8 r8 r8b => sg_K1 ?_) (fun E8 g8 m8 t8 q8 => sg_KX (by first | exact Nat.le_of_ble_eq_true rfl | omega) (by first | exact Nat.le_of_ble_eq_true rfl | omega) (hX _ _ ((by decide : ∀ x ∈ [e_I], x ∈ [e_I]) _ m8) (by first | trivial | omega) (ck_YY (by assumption) q8)))
  refine sg_astore (pc := 11) (dc_X5_copy_0.1.2.2.2) (by decide) ?_
  refine sg_aload (pc := 13) (dc_X5_copy_0.2.1.1.1) rfl ?_
  refine sg_cE0 (pc := 15) (d' := d - 1) (mc' := 0) (ms' := 0) 3 g (dc_X5_copy_0.2.1.1.2) cb_X0_size ml_X5_63 mn_X0_size rfl mv_X0_size (Nat.le_of_ble_eq_true rfl) (ck_lc (by assumption) (by first | assumption | exact ck_rev)) (Nat.le_of_ble_eq_true rfl) (by first | exact jl_d0 hd rfl | omega) (by first | exact Nat.le_of_ble_eq_true rfl | omega) (by first | exact Nat.le_of_ble_eq_true rfl | omega) ?_
  refine s_X0_size g (by first | exact jl_d1 hd rfl | omega) (by assumption) (by first | assumption | exact ck_rev) (fun z15 l15 u15 N15 => sg_K1 ?_)
  refine sg_istore (pc := 18) (dc_X5_copy_0.2.1.2.1) (by decide) ?_
  refine sg_aload_n (pc := 20) (j := 0) (dc_X5_copy_0.2.1.2.2) rfl rfl ?_
  refine ck_gob (pc := 21) g (dc_X5_copy_0.2.2.1.1) fk_X5_19 (by assumption) (fun _ => rfl) ?_
  refine sg_aload_n (pc := 24) (j := 0) (dc_X5_copy_0.2.2.1.2) rfl rfl ?_
  refine ck_gob (pc := 25) g (dc_X5_copy_0.2.2.2.1) fk_X5_10 (by assumption) (fun _ => rfl) ?_
  refine sg_cE1 (pc := 28) (d' := d - 1) (mc' := 0) (ms' := 0) 4 g (dc_X5_copy_0.2.2.2.2) cb_X1_keep ml_X5_55 mn_X1_keep rfl mv_X1_keep (Nat.le_of_ble_eq_true rfl) (ck_pc (by assumption)) (Nat.le_of_ble_eq_true rfl) (by first | exact jl_d0 hd rfl | omega) (by first | exact Nat.le_of_ble_eq_true rfl | omega) (by first | exact Nat.le_of_ble_eq_true rfl | omega) ?_
  refine s_X1_keep g (by first | exact jl_d1 hd rfl | omega) (by assumption) ck_now (fun h28 x28 f28 => sg_K0 ?_)
  have y28 := ck_Yt (h0 := h) (by assumption) x28 f28
  refine sg_iload_n (pc := 31) (j := 1) (dc_X5_copy_31.1.1.1) rfl rfl ?_
  refine sg_iload_n (pc := 32) (j := 2) (dc_X5_copy_31.1.1.2) rfl rfl ?_
  refine sg_icmp_eq (pc := 33) (tgt := 42) (dc_X5_copy_31.1.2.1) (by decide) (fun c33 => ?_) (fun c33 => ?_)
  · refine sg_iload (pc := 42) (dc_X5_copy_31.2.2.1) rfl ?_
    refine sg_iret (pc := 44) (dc_X5_copy_31.2.2.2) rfl (by first | exact Nat.le_of_ble_eq_true rfl | omega) (by first | exact Nat.le_of_ble_eq_true rfl | omega) ?_
    exact hQ _ _ (by assumption)
  · refine sg_aload (pc := 36) (dc_X5_copy_31.1.2.2) rfl ?_
    refine sg_aload_n (pc := 38) (j := 3) (dc_X5_copy_31.2.1.1) rfl rfl ?_
    refine sg_cE1 (pc := 39) (d' := d - 1) (mc' := 0) (ms' := 0) 3 g (dc_X5_copy_31.2.1.2) cb_X0_become ml_X5_71 mn_X0_become rfl mv_X0_become (Nat.le_of_ble_eq_true rfl) (ck_lc (by assumption) (by first | assumption | exact ck_rev)) (Nat.le_of_ble_eq_true rfl) (by first | exact jl_d0 hd rfl | omega) (by first | exact Nat.le_of_ble_eq_true rfl | omega) (by first | exact Nat.le_of_ble_eq_true rfl | omega) ?_
    refine s_X0_become g (by first | exact jl_d1 hd rfl | omega) (by assumption) (by assumption) (by assumption) (fun h39 x39 f39 => sg_K0 ?_)
    have y39 := ck_Yt (h0 := h) (by assumption) x39 f39.1
    refine sg_iload (pc := 42) (dc_X5_copy_31.2.2.1) rfl ?_
    refine sg_iret (pc := 44) (dc_X5_copy_31.2.2.2) rfl (by first | exact Nat.le_of_ble_eq_true rfl | omega) (by first | exact Nat.le_of_ble_eq_true rfl | omega) ?_
    exact hQ _ _ (by assumption)

set_option maxRecDepth 100000 in
theorem s_X5_raise {w : sg_W} {Q : sg_O → sg_H → Prop} {h : sg_H} (g : sg_G w) {d : Nat} (hd : 14 ≤ d) {B : Nat} (hx : ck_X h B) {row : Int} (hQ : ∀ (v : Int) (h' : sg_H), ck_Y h h' B → Q (.inl (some (sg_i v))) h') (hX : ∀ (E : String) (h' : sg_H), E ∈ [e_I] → (True) → ck_Y h h' B → Q (.inr E) h') : sg_C w mi_X5_raise d 8 48 [sg_r B, sg_i row] h Q := by
  refine sg_of pn_X5 (Nat.le_of_ble_eq_true rfl) ?_
  have y0 := ck_Y0 hx
  refine sg_aload_n (pc := 0) (j := 0) (dc_X5_raise_0.1.1.1.1) rfl rfl ?_
  refine sg_iload_n (pc := 1) (j := 1) (dc_X5_raise_0.1.1.1.2) rfl rfl ?_
  refine sg_cE1 (pc := 2) (d' := d - 1) (mc' := 1) (ms' := 6) 6 g (dc_X5_raise_0.1.1.2.1) cb_X5_rowOf ml_X5_36 mn_X5_rowOf rfl mv_X5_rowOf (Nat.le_of_ble_eq_true rfl) (ck_oc (by assumption)) (Nat.le_of_ble_eq_true rfl) (by first | exact jl_d0 hd rfl | omega) (by first | exact Nat.le_of_ble_eq_true rfl | omega) (by first | exact Nat.le_of_ble_eq_true rfl | omega) ?_
  refine s_X5_rowOf g (by first | exact jl_d1 hd rfl | omega) (by assumption) (fun a2 l2 r2 r2b => sg_K1 ?_) (fun E2 g2 m2 t2 q2 => sg_KX (by first | exact Nat.le_of_ble_eq_true rfl | omega) (by first | exact Nat.le_of_ble_eq_true rfl | omega) (hX _ _ ((by decide : ∀ x ∈ [e_I], x ∈ [e_I]) _ m2) (by first | trivial | omega) (ck_YY (by assumption) q2)))
  refine sg_astore_n (pc := 5) (j := 2) (dc_X5_raise_0.1.1.2.2) rfl (by decide) ?_
  refine sg_aload_n (pc := 6) (j := 0) (dc_X5_raise_0.1.2.1.1) rfl rfl ?_
  refine ck_gob (pc := 7) g (dc_X5_raise_0.1.2.1.2) fk_X5_19 (by assumption) (fun _ => rfl) ?_
  refine sg_aload_n (pc := 10) (j := 0) (dc_X5_raise_0.1.2.2.1) rfl rfl ?_
  refine ck_gob (pc := 11) g (dc_X5_raise_0.1.2.2.2) fk_X5_10 (by assumption) (fun _ => rfl) ?_
  refine sg_cE1 (pc := 14) (d' := d - 1) (mc' := 0) (ms' := 0) 4 g (dc_X5_raise_0.2.1.1.1) cb_X1_keep ml_X5_55 mn_X1_keep rfl mv_X1_keep (Nat.le_of_ble_eq_true rfl) (ck_pc (by assumption)) (Nat.le_of_ble_eq_true rfl) (by first | exact jl_d0 hd rfl | omega) (by first | exact Nat.le_of_ble_eq_true rfl | omega) (by first | exact Nat.le_of_ble_eq_true rfl | omega) ?_
  refine s_X1_keep g (by first | exact jl_d1 hd rfl | omega) (by assumption) ck_now (fun h14 x14 f14 => sg_K0 ?_)
  have y14 := ck_Yt (h0 := h) (by assumption) x14 f14
  refine sg_iconst (pc := 17) (z := 0) (dc_X5_raise_0.2.1.1.2) (by decide) ?_
  refine sg_istore_n (pc := 18) (j := 3) (dc_X5_raise_0.2.1.2.1) rfl (by decide) ?_
  refine sg_iconst (pc := 19) (z := 0) (dc_X5_raise_0.2.1.2.2) (by decide) ?_
  refine sg_istore (pc := 20) (dc_X5_raise_0.2.2.1.1) (by decide) ?_
  have loop22 : ∀ (N : Nat) (h1 : sg_H) (p s : Int), ck_X h1 B → ck_Y h h1 B → 0 ≤ p → (40 - p).toNat < N → sg_R w mi_X5_raise d 8 48 Q 22 [(4, sg_i p), (3, sg_i s), (0, sg_r B), (2, sg_r a2)] [] h1 1 6 := by
    intro N
    induction N with
    | zero => intro h1 p s x1 y1 p0 hm; exact absurd hm (Nat.not_lt_zero _)
    | succ N ih =>
      intro h1 p s x1 y1 p0 hm
      refine sg_iload (pc := 22) (dc_X5_raise_0.2.2.1.2) rfl ?_
      refine sg_aload_n (pc := 24) (j := 2) (dc_X5_raise_0.2.2.2.1) rfl rfl ?_
      refine sg_cE0 (pc := 25) (d' := d - 1) (mc' := 0) (ms' := 0) 3 g (dc_X5_raise_0.2.2.2.2) cb_X0_size ml_X5_63 mn_X0_size rfl mv_X0_size (Nat.le_of_ble_eq_true rfl) (ck_lc (by assumption) (by first | assumption | exact ck_rev)) (Nat.le_of_ble_eq_true rfl) (by first | exact jl_d0 hd rfl | omega) (by first | exact Nat.le_of_ble_eq_true rfl | omega) (by first | exact Nat.le_of_ble_eq_true rfl | omega) ?_
      refine s_X0_size g (by first | exact jl_d1 hd rfl | omega) (by assumption) (by first | assumption | exact ck_rev) (fun z25 l25 u25 N25 => sg_K1 ?_)
      refine sg_icmp_ge (pc := 28) (tgt := 78) (dc_X5_raise_28.1.1.1.1) (by decide) (fun c28 => ?_) (fun c28 => ?_)
      · refine sg_iload_n (pc := 78) (j := 3) (dc_X5_raise_64.2.1.2) rfl rfl ?_
        refine sg_iret (pc := 79) (dc_X5_raise_64.2.2.1) rfl (by first | exact Nat.le_of_ble_eq_true rfl | omega) (by first | exact Nat.le_of_ble_eq_true rfl | omega) ?_
        exact hQ _ _ (by assumption)
      · refine sg_aload_n (pc := 31) (j := 2) (dc_X5_raise_28.1.1.1.2) rfl rfl ?_
        refine sg_iload (pc := 32) (dc_X5_raise_28.1.1.2.1) rfl ?_
        refine sg_cE1 (pc := 34) (d' := d - 1) (mc' := 0) (ms' := 0) 3 g (dc_X5_raise_28.1.1.2.2) cb_X0_get ml_X5_75 mn_X0_get rfl mv_X0_get (Nat.le_of_ble_eq_true rfl) (ck_lc (by assumption) (by first | assumption | exact ck_rev)) (Nat.le_of_ble_eq_true rfl) (by first | exact jl_d0 hd rfl | omega) (by first | exact Nat.le_of_ble_eq_true rfl | omega) (by first | exact Nat.le_of_ble_eq_true rfl | omega) ?_
        refine s_X0_get g (by first | exact jl_d1 hd rfl | omega) (by assumption) (by first | assumption | exact ck_rev) (fun z34 G34 v34 => sg_K1 ?_)
        refine sg_cS1 (pc := 37) (d' := d - 1) (mc' := 0) (ms' := 0) g (dc_X5_raise_28.1.2.1.1) cb_X2_upperOf ml_X5_78 ms_X2_upperOf (Nat.le_of_ble_eq_true rfl) (by first | exact jl_d0 hd rfl | omega) (by first | exact Nat.le_of_ble_eq_true rfl | omega) (by first | exact Nat.le_of_ble_eq_true rfl | omega) ?_
        refine s_X2_upperOf g (by first | exact jl_d1 hd rfl | omega) (fun z37 h37 => sg_K1 ?_)
        refine sg_istore (pc := 40) (dc_X5_raise_28.1.2.1.2) (by decide) ?_
        refine sg_iload (pc := 42) (dc_X5_raise_28.1.2.2.1) rfl ?_
        refine sg_cS1 (pc := 44) (d' := d - 1) (mc' := 0) (ms' := 0) g (dc_X5_raise_28.1.2.2.2) cb_X2_isSign ml_X5_83 ms_X2_isSign (Nat.le_of_ble_eq_true rfl) (by first | exact jl_d0 hd rfl | omega) (by first | exact Nat.le_of_ble_eq_true rfl | omega) (by first | exact Nat.le_of_ble_eq_true rfl | omega) ?_
        refine s_X2_isSign g (by first | exact jl_d1 hd rfl | omega) (fun z44 h44 b44 => sg_K1 ?_)
        refine sg_if_eq (pc := 47) (tgt := 72) (dc_X5_raise_28.2.1.1.1) (by decide) (fun c47 => ?_) (fun c47 => ?_)
        · first | refine sg_iincB (pc := 72) (dc_X5_raise_64.1.2.2) rfl (by decide) (by decide) (by omega) (by omega) ?_ | refine sg_iinc (pc := 72) (dc_X5_raise_64.1.2.2) rfl (by decide) (by decide) ?_
          refine sg_goto (pc := 75) (tgt := 22) (dc_X5_raise_64.2.1.1) (by decide) ?_
          refine sg_lsub (lv' := [(4, _), (3, _), (0, _), (2, _)]) ⟨rfl, rfl, rfl, rfl, trivial⟩ ?_
          exact ih _ _ _ (by assumption) (by assumption) (by omega) (by omega)
        · refine sg_iload (pc := 50) (dc_X5_raise_28.2.1.1.2) rfl ?_
          refine sg_aload_n (pc := 52) (j := 2) (dc_X5_raise_28.2.1.2.1) rfl rfl ?_
          refine sg_iload (pc := 53) (dc_X5_raise_28.2.1.2.2) rfl ?_
          refine sg_cE1 (pc := 55) (d' := d - 1) (mc' := 0) (ms' := 0) 3 g (dc_X5_raise_28.2.2.1.1) cb_X0_get ml_X5_75 mn_X0_get rfl mv_X0_get (Nat.le_of_ble_eq_true rfl) (ck_lc (by assumption) (by first | assumption | exact ck_rev)) (Nat.le_of_ble_eq_true rfl) (by first | exact jl_d0 hd rfl | omega) (by first | exact Nat.le_of_ble_eq_true rfl | omega) (by first | exact Nat.le_of_ble_eq_true rfl | omega) ?_
          refine s_X0_get g (by first | exact jl_d1 hd rfl | omega) (by assumption) (by first | assumption | exact ck_rev) (fun z55 G55 v55 => sg_K1 ?_)
          refine sg_icmp_eq (pc := 58) (tgt := 72) (dc_X5_raise_28.2.2.1.2) (by decide) (fun c58 => ?_) (fun c58 => ?_)
          · first | refine sg_iincB (pc := 72) (dc_X5_raise_64.1.2.2) rfl (by decide) (by decide) (by omega) (by omega) ?_ | refine sg_iinc (pc := 72) (dc_X5_raise_64.1.2.2) rfl (by decide) (by decide) ?_
            refine sg_goto (pc := 75) (tgt := 22) (dc_X5_raise_64.2.1.1) (by decide) ?_
            refine sg_lsub (lv' := [(4, _), (3, _), (0, _), (2, _)]) ⟨rfl, rfl, rfl, rfl, trivial⟩ ?_
            exact ih _ _ _ (by assumption) (by assumption) (by omega) (by omega)
          · refine sg_aload_n (pc := 61) (j := 2) (dc_X5_raise_28.2.2.2.1) rfl rfl ?_
            refine sg_iload (pc := 62) (dc_X5_raise_28.2.2.2.2) rfl ?_
            refine sg_iload (pc := 64) (dc_X5_raise_64.1.1.1) rfl ?_
            refine sg_cE2 (pc := 66) (d' := d - 1) (mc' := 0) (ms' := 0) 3 g (dc_X5_raise_64.1.1.2) cb_X0_set ml_X5_86 mn_X0_set rfl mv_X0_set (Nat.le_of_ble_eq_true rfl) (ck_lc (by assumption) (by first | assumption | exact ck_rev)) (Nat.le_of_ble_eq_true rfl) (by first | exact jl_d0 hd rfl | omega) (by first | exact Nat.le_of_ble_eq_true rfl | omega) (by first | exact Nat.le_of_ble_eq_true rfl | omega) ?_
            refine s_X0_set g (by first | exact jl_d1 hd rfl | omega) (by assumption) (by assumption) (by first | exact ck_v0 | assumption | (simp only [ck_v1, ck_v2] at * <;> omega)) (fun h66 x66 f66 => sg_K0 ?_)
            have y66 := ck_Yt (h0 := h) (by assumption) x66 f66.1
            first | refine sg_iincB (pc := 69) (dc_X5_raise_64.1.2.1) rfl (by decide) (by decide) (by omega) (by omega) ?_ | refine sg_iinc (pc := 69) (dc_X5_raise_64.1.2.1) rfl (by decide) (by decide) ?_
            first | refine sg_iincB (pc := 72) (dc_X5_raise_64.1.2.2) rfl (by decide) (by decide) (by omega) (by omega) ?_ | refine sg_iinc (pc := 72) (dc_X5_raise_64.1.2.2) rfl (by decide) (by decide) ?_
            refine sg_goto (pc := 75) (tgt := 22) (dc_X5_raise_64.2.1.1) (by decide) ?_
            refine sg_lsub (lv' := [(4, _), (3, _), (0, _), (2, _)]) ⟨rfl, rfl, rfl, rfl, trivial⟩ ?_
            exact ih _ _ _ (by assumption) (by assumption) (by omega) (by omega)
  refine sg_lsub (lv' := [(4, _), (3, _), (0, _), (2, _)]) ⟨rfl, rfl, rfl, rfl, trivial⟩ ?_
  exact loop22 _ _ _ _ (by assumption) (by assumption) (by omega) (Nat.lt_succ_self _)

set_option maxRecDepth 100000 in
theorem s_X5_sink {w : sg_W} {Q : sg_O → sg_H → Prop} {h : sg_H} (g : sg_G w) {d : Nat} (hd : 14 ≤ d) {B : Nat} (hx : ck_X h B) {row : Int} (hQ : ∀ (v : Int) (h' : sg_H), ck_Y h h' B → Q (.inl (some (sg_i v))) h') (hX : ∀ (E : String) (h' : sg_H), E ∈ [e_I] → (True) → ck_Y h h' B → Q (.inr E) h') : sg_C w mi_X5_sink d 8 48 [sg_r B, sg_i row] h Q := by
  refine sg_of pn_X5 (Nat.le_of_ble_eq_true rfl) ?_
  have y0 := ck_Y0 hx
  refine sg_aload_n (pc := 0) (j := 0) (dc_X5_sink_0.1.1.1.1) rfl rfl ?_
  refine sg_iload_n (pc := 1) (j := 1) (dc_X5_sink_0.1.1.1.2) rfl rfl ?_
  refine sg_cE1 (pc := 2) (d' := d - 1) (mc' := 1) (ms' := 6) 6 g (dc_X5_sink_0.1.1.2.1) cb_X5_rowOf ml_X5_36 mn_X5_rowOf rfl mv_X5_rowOf (Nat.le_of_ble_eq_true rfl) (ck_oc (by assumption)) (Nat.le_of_ble_eq_true rfl) (by first | exact jl_d0 hd rfl | omega) (by first | exact Nat.le_of_ble_eq_true rfl | omega) (by first | exact Nat.le_of_ble_eq_true rfl | omega) ?_
  refine s_X5_rowOf g (by first | exact jl_d1 hd rfl | omega) (by assumption) (fun a2 l2 r2 r2b => sg_K1 ?_) (fun E2 g2 m2 t2 q2 => sg_KX (by first | exact Nat.le_of_ble_eq_true rfl | omega) (by first | exact Nat.le_of_ble_eq_true rfl | omega) (hX _ _ ((by decide : ∀ x ∈ [e_I], x ∈ [e_I]) _ m2) (by first | trivial | omega) (ck_YY (by assumption) q2)))
  refine sg_astore_n (pc := 5) (j := 2) (dc_X5_sink_0.1.1.2.2) rfl (by decide) ?_
  refine sg_aload_n (pc := 6) (j := 0) (dc_X5_sink_0.1.2.1.1) rfl rfl ?_
  refine ck_gob (pc := 7) g (dc_X5_sink_0.1.2.1.2) fk_X5_19 (by assumption) (fun _ => rfl) ?_
  refine sg_aload_n (pc := 10) (j := 0) (dc_X5_sink_0.1.2.2.1) rfl rfl ?_
  refine ck_gob (pc := 11) g (dc_X5_sink_0.1.2.2.2) fk_X5_10 (by assumption) (fun _ => rfl) ?_
  refine sg_cE1 (pc := 14) (d' := d - 1) (mc' := 0) (ms' := 0) 4 g (dc_X5_sink_0.2.1.1.1) cb_X1_keep ml_X5_55 mn_X1_keep rfl mv_X1_keep (Nat.le_of_ble_eq_true rfl) (ck_pc (by assumption)) (Nat.le_of_ble_eq_true rfl) (by first | exact jl_d0 hd rfl | omega) (by first | exact Nat.le_of_ble_eq_true rfl | omega) (by first | exact Nat.le_of_ble_eq_true rfl | omega) ?_
  refine s_X1_keep g (by first | exact jl_d1 hd rfl | omega) (by assumption) ck_now (fun h14 x14 f14 => sg_K0 ?_)
  have y14 := ck_Yt (h0 := h) (by assumption) x14 f14
  refine sg_iconst (pc := 17) (z := 0) (dc_X5_sink_0.2.1.1.2) (by decide) ?_
  refine sg_istore_n (pc := 18) (j := 3) (dc_X5_sink_0.2.1.2.1) rfl (by decide) ?_
  refine sg_iconst (pc := 19) (z := 0) (dc_X5_sink_0.2.1.2.2) (by decide) ?_
  refine sg_istore (pc := 20) (dc_X5_sink_0.2.2.1.1) (by decide) ?_
  have loop22 : ∀ (N : Nat) (h1 : sg_H) (p s : Int), ck_X h1 B → ck_Y h h1 B → 0 ≤ p → (40 - p).toNat < N → sg_R w mi_X5_sink d 8 48 Q 22 [(4, sg_i p), (3, sg_i s), (0, sg_r B), (2, sg_r a2)] [] h1 1 6 := by
    intro N
    induction N with
    | zero => intro h1 p s x1 y1 p0 hm; exact absurd hm (Nat.not_lt_zero _)
    | succ N ih =>
      intro h1 p s x1 y1 p0 hm
      refine sg_iload (pc := 22) (dc_X5_sink_0.2.2.1.2) rfl ?_
      refine sg_aload_n (pc := 24) (j := 2) (dc_X5_sink_0.2.2.2.1) rfl rfl ?_
      refine sg_cE0 (pc := 25) (d' := d - 1) (mc' := 0) (ms' := 0) 3 g (dc_X5_sink_0.2.2.2.2) cb_X0_size ml_X5_63 mn_X0_size rfl mv_X0_size (Nat.le_of_ble_eq_true rfl) (ck_lc (by assumption) (by first | assumption | exact ck_rev)) (Nat.le_of_ble_eq_true rfl) (by first | exact jl_d0 hd rfl | omega) (by first | exact Nat.le_of_ble_eq_true rfl | omega) (by first | exact Nat.le_of_ble_eq_true rfl | omega) ?_
      refine s_X0_size g (by first | exact jl_d1 hd rfl | omega) (by assumption) (by first | assumption | exact ck_rev) (fun z25 l25 u25 N25 => sg_K1 ?_)
      refine sg_icmp_ge (pc := 28) (tgt := 70) (dc_X5_sink_28.1.1.1.1) (by decide) (fun c28 => ?_) (fun c28 => ?_)
      · refine sg_iload_n (pc := 70) (j := 3) (dc_X5_sink_64.2.1) rfl rfl ?_
        refine sg_iret (pc := 71) (dc_X5_sink_64.2.2) rfl (by first | exact Nat.le_of_ble_eq_true rfl | omega) (by first | exact Nat.le_of_ble_eq_true rfl | omega) ?_
        exact hQ _ _ (by assumption)
      · refine sg_aload_n (pc := 31) (j := 2) (dc_X5_sink_28.1.1.1.2) rfl rfl ?_
        refine sg_iload (pc := 32) (dc_X5_sink_28.1.1.2.1) rfl ?_
        refine sg_cE1 (pc := 34) (d' := d - 1) (mc' := 0) (ms' := 0) 3 g (dc_X5_sink_28.1.1.2.2) cb_X0_get ml_X5_75 mn_X0_get rfl mv_X0_get (Nat.le_of_ble_eq_true rfl) (ck_lc (by assumption) (by first | assumption | exact ck_rev)) (Nat.le_of_ble_eq_true rfl) (by first | exact jl_d0 hd rfl | omega) (by first | exact Nat.le_of_ble_eq_true rfl | omega) (by first | exact Nat.le_of_ble_eq_true rfl | omega) ?_
        refine s_X0_get g (by first | exact jl_d1 hd rfl | omega) (by assumption) (by first | assumption | exact ck_rev) (fun z34 G34 v34 => sg_K1 ?_)
        refine sg_cS1 (pc := 37) (d' := d - 1) (mc' := 0) (ms' := 0) g (dc_X5_sink_28.1.2.1.1) cb_X2_lowerOf ml_X5_90 ms_X2_lowerOf (Nat.le_of_ble_eq_true rfl) (by first | exact jl_d0 hd rfl | omega) (by first | exact Nat.le_of_ble_eq_true rfl | omega) (by first | exact Nat.le_of_ble_eq_true rfl | omega) ?_
        refine s_X2_lowerOf g (by first | exact jl_d1 hd rfl | omega) (fun z37 h37 => sg_K1 ?_)
        refine sg_istore (pc := 40) (dc_X5_sink_28.1.2.1.2) (by decide) ?_
        refine sg_iload (pc := 42) (dc_X5_sink_28.1.2.2.1) rfl ?_
        refine sg_aload_n (pc := 44) (j := 2) (dc_X5_sink_28.1.2.2.2) rfl rfl ?_
        refine sg_iload (pc := 45) (dc_X5_sink_28.2.1.1.1) rfl ?_
        refine sg_cE1 (pc := 47) (d' := d - 1) (mc' := 0) (ms' := 0) 3 g (dc_X5_sink_28.2.1.1.2) cb_X0_get ml_X5_75 mn_X0_get rfl mv_X0_get (Nat.le_of_ble_eq_true rfl) (ck_lc (by assumption) (by first | assumption | exact ck_rev)) (Nat.le_of_ble_eq_true rfl) (by first | exact jl_d0 hd rfl | omega) (by first | exact Nat.le_of_ble_eq_true rfl | omega) (by first | exact Nat.le_of_ble_eq_true rfl | omega) ?_
        refine s_X0_get g (by first | exact jl_d1 hd rfl | omega) (by assumption) (by first | assumption | exact ck_rev) (fun z47 G47 v47 => sg_K1 ?_)
        refine sg_icmp_eq (pc := 50) (tgt := 64) (dc_X5_sink_28.2.1.2.1) (by decide) (fun c50 => ?_) (fun c50 => ?_)
        · first | refine sg_iincB (pc := 64) (dc_X5_sink_64.1.1) rfl (by decide) (by decide) (by omega) (by omega) ?_ | refine sg_iinc (pc := 64) (dc_X5_sink_64.1.1) rfl (by decide) (by decide) ?_
          refine sg_goto (pc := 67) (tgt := 22) (dc_X5_sink_64.1.2) (by decide) ?_
          refine sg_lsub (lv' := [(4, _), (3, _), (0, _), (2, _)]) ⟨rfl, rfl, rfl, rfl, trivial⟩ ?_
          exact ih _ _ _ (by assumption) (by assumption) (by omega) (by omega)
        · refine sg_aload_n (pc := 53) (j := 2) (dc_X5_sink_28.2.1.2.2) rfl rfl ?_
          refine sg_iload (pc := 54) (dc_X5_sink_28.2.2.1.1) rfl ?_
          refine sg_iload (pc := 56) (dc_X5_sink_28.2.2.1.2) rfl ?_
          refine sg_cE2 (pc := 58) (d' := d - 1) (mc' := 0) (ms' := 0) 3 g (dc_X5_sink_28.2.2.2.1) cb_X0_set ml_X5_86 mn_X0_set rfl mv_X0_set (Nat.le_of_ble_eq_true rfl) (ck_lc (by assumption) (by first | assumption | exact ck_rev)) (Nat.le_of_ble_eq_true rfl) (by first | exact jl_d0 hd rfl | omega) (by first | exact Nat.le_of_ble_eq_true rfl | omega) (by first | exact Nat.le_of_ble_eq_true rfl | omega) ?_
          refine s_X0_set g (by first | exact jl_d1 hd rfl | omega) (by assumption) (by assumption) (by first | exact ck_v0 | assumption | (simp only [ck_v1, ck_v2] at * <;> omega)) (fun h58 x58 f58 => sg_K0 ?_)
          have y58 := ck_Yt (h0 := h) (by assumption) x58 f58.1
          first | refine sg_iincB (pc := 61) (dc_X5_sink_28.2.2.2.2) rfl (by decide) (by decide) (by omega) (by omega) ?_ | refine sg_iinc (pc := 61) (dc_X5_sink_28.2.2.2.2) rfl (by decide) (by decide) ?_
          first | refine sg_iincB (pc := 64) (dc_X5_sink_64.1.1) rfl (by decide) (by decide) (by omega) (by omega) ?_ | refine sg_iinc (pc := 64) (dc_X5_sink_64.1.1) rfl (by decide) (by decide) ?_
          refine sg_goto (pc := 67) (tgt := 22) (dc_X5_sink_64.1.2) (by decide) ?_
          refine sg_lsub (lv' := [(4, _), (3, _), (0, _), (2, _)]) ⟨rfl, rfl, rfl, rfl, trivial⟩ ?_
          exact ih _ _ _ (by assumption) (by assumption) (by omega) (by omega)
  refine sg_lsub (lv' := [(4, _), (3, _), (0, _), (2, _)]) ⟨rfl, rfl, rfl, rfl, trivial⟩ ?_
  exact loop22 _ _ _ _ (by assumption) (by assumption) (by omega) (Nat.lt_succ_self _)

set_option maxRecDepth 100000 in
theorem s_X5_sieve {w : sg_W} {Q : sg_O → sg_H → Prop} {h : sg_H} (g : sg_G w) {d : Nat} (hd : 14 ≤ d) {B : Nat} (hx : ck_X h B) {row kind isx : Int} (hQ : ∀ (v : Int) (h' : sg_H), ck_Y h h' B → Q (.inl (some (sg_i v))) h') (hX : ∀ (E : String) (h' : sg_H), E ∈ [e_I, e_A] → (True) → ck_Y h h' B → Q (.inr E) h') : sg_C w mi_X5_sieve d 8 48 [sg_r B, sg_i row, sg_i kind, sg_i isx] h Q := by
  refine sg_of pn_X5 (Nat.le_of_ble_eq_true rfl) ?_
  have y0 := ck_Y0 hx
  refine sg_aload_n (pc := 0) (j := 0) (dc_X5_sieve_0.1.1.1.1) rfl rfl ?_
  refine sg_iload_n (pc := 1) (j := 1) (dc_X5_sieve_0.1.1.1.2) rfl rfl ?_
  refine sg_cE1 (pc := 2) (d' := d - 1) (mc' := 1) (ms' := 6) 6 g (dc_X5_sieve_0.1.1.2.1) cb_X5_rowOf ml_X5_36 mn_X5_rowOf rfl mv_X5_rowOf (Nat.le_of_ble_eq_true rfl) (ck_oc (by assumption)) (Nat.le_of_ble_eq_true rfl) (by first | exact jl_d0 hd rfl | omega) (by first | exact Nat.le_of_ble_eq_true rfl | omega) (by first | exact Nat.le_of_ble_eq_true rfl | omega) ?_
  refine s_X5_rowOf g (by first | exact jl_d1 hd rfl | omega) (by assumption) (fun a2 l2 r2 r2b => sg_K1 ?_) (fun E2 g2 m2 t2 q2 => sg_KX (by first | exact Nat.le_of_ble_eq_true rfl | omega) (by first | exact Nat.le_of_ble_eq_true rfl | omega) (hX _ _ ((by decide : ∀ x ∈ [e_I], x ∈ [e_I, e_A]) _ m2) (by first | trivial | omega) (ck_YY (by assumption) q2)))
  refine sg_astore (pc := 5) (dc_X5_sieve_0.1.1.2.2) (by decide) ?_
  refine sg_iload_n (pc := 7) (j := 2) (dc_X5_sieve_0.1.2.1.1) rfl rfl ?_
  refine sg_cS1 (pc := 8) (d' := d - 1) (mc' := 1) (ms' := 6) g (dc_X5_sieve_0.1.2.1.2) cb_X5_checkKind ml_X5_93 ms_X5_checkKind (Nat.le_of_ble_eq_true rfl) (by first | exact jl_d0 hd rfl | omega) (by first | exact Nat.le_of_ble_eq_true rfl | omega) (by first | exact Nat.le_of_ble_eq_true rfl | omega) ?_
  refine s_X5_checkKind g (by first | exact jl_d1 hd rfl | omega) (fun v8 => sg_K0 ?_) (fun v8 z8 w8 => sg_KX (by first | exact Nat.le_of_ble_eq_true rfl | omega) (by first | exact Nat.le_of_ble_eq_true rfl | omega) (hX _ _ (by decide) (by first | trivial | omega) (ck_Yz (by assumption) w8)))
  refine sg_aload_n (pc := 11) (j := 0) (dc_X5_sieve_0.1.2.2.1) rfl rfl ?_
  refine ck_gob (pc := 12) g (dc_X5_sieve_0.1.2.2.2) fk_X5_19 (by assumption) (fun _ => rfl) ?_
  refine sg_aload_n (pc := 15) (j := 0) (dc_X5_sieve_0.2.1.1.1) rfl rfl ?_
  refine ck_gob (pc := 16) g (dc_X5_sieve_0.2.1.1.2) fk_X5_10 (by assumption) (fun _ => rfl) ?_
  refine sg_cE1 (pc := 19) (d' := d - 1) (mc' := 0) (ms' := 0) 4 g (dc_X5_sieve_0.2.1.2.1) cb_X1_keep ml_X5_55 mn_X1_keep rfl mv_X1_keep (Nat.le_of_ble_eq_true rfl) (ck_pc (by assumption)) (Nat.le_of_ble_eq_true rfl) (by first | exact jl_d0 hd rfl | omega) (by first | exact Nat.le_of_ble_eq_true rfl | omega) (by first | exact Nat.le_of_ble_eq_true rfl | omega) ?_
  refine s_X1_keep g (by first | exact jl_d1 hd rfl | omega) (by assumption) ck_now (fun h19 x19 f19 => sg_K0 ?_)
  have y19 := ck_Yt (h0 := h) (by assumption) x19 f19
  refine sg_iconst (pc := 22) (z := 0) (dc_X5_sieve_0.2.1.2.2) (by decide) ?_
  refine sg_istore (pc := 23) (dc_X5_sieve_0.2.2.1.1) (by decide) ?_
  refine sg_iconst (pc := 25) (z := 0) (dc_X5_sieve_0.2.2.1.2) (by decide) ?_
  refine sg_istore (pc := 26) (dc_X5_sieve_0.2.2.2.1) (by decide) ?_
  have loop28 : ∀ (N : Nat) (h1 : sg_H) (p s : Int), ck_X h1 B → ck_Y h h1 B → 0 ≤ p → (40 - p).toNat < N → sg_R w mi_X5_sieve d 8 48 Q 28 [(6, sg_i p), (5, sg_i s), (0, sg_r B), (2, sg_i kind), (3, sg_i isx), (4, sg_r a2)] [] h1 2 12 := by
    intro N
    induction N with
    | zero => intro h1 p s x1 y1 p0 hm; exact absurd hm (Nat.not_lt_zero _)
    | succ N ih =>
      intro h1 p s x1 y1 p0 hm
      refine sg_iload (pc := 28) (dc_X5_sieve_0.2.2.2.2) rfl ?_
      refine sg_aload (pc := 30) (dc_X5_sieve_30.1.1.1.1) rfl ?_
      refine sg_cE0 (pc := 32) (d' := d - 1) (mc' := 0) (ms' := 0) 3 g (dc_X5_sieve_30.1.1.1.2) cb_X0_size ml_X5_63 mn_X0_size rfl mv_X0_size (Nat.le_of_ble_eq_true rfl) (ck_lc (by assumption) (by first | assumption | exact ck_rev)) (Nat.le_of_ble_eq_true rfl) (by first | exact jl_d0 hd rfl | omega) (by first | exact Nat.le_of_ble_eq_true rfl | omega) (by first | exact Nat.le_of_ble_eq_true rfl | omega) ?_
      refine s_X0_size g (by first | exact jl_d1 hd rfl | omega) (by assumption) (by first | assumption | exact ck_rev) (fun z32 l32 u32 N32 => sg_K1 ?_)
      refine sg_icmp_ge (pc := 35) (tgt := 75) (dc_X5_sieve_30.1.1.2.1) (by decide) (fun c35 => ?_) (fun c35 => ?_)
      · refine sg_aload (pc := 75) (dc_X5_sieve_66.1.1.2.2) rfl ?_
        refine sg_cE0 (pc := 77) (d' := d - 1) (mc' := 0) (ms' := 0) 3 g (dc_X5_sieve_66.1.2.1.1) cb_X0_size ml_X5_63 mn_X0_size rfl mv_X0_size (Nat.le_of_ble_eq_true rfl) (ck_lc (by assumption) (by first | assumption | exact ck_rev)) (Nat.le_of_ble_eq_true rfl) (by first | exact jl_d0 hd rfl | omega) (by first | exact Nat.le_of_ble_eq_true rfl | omega) (by first | exact Nat.le_of_ble_eq_true rfl | omega) ?_
        refine s_X0_size g (by first | exact jl_d1 hd rfl | omega) (by assumption) (by first | assumption | exact ck_rev) (fun z77 l77 u77 N77 => sg_K1 ?_)
        refine sg_iload (pc := 80) (dc_X5_sieve_66.1.2.1.2) rfl ?_
        first | refine sg_isubB (pc := 82) (dc_X5_sieve_66.1.2.2.1) (by omega) (by omega) ?_ | refine sg_isub (pc := 82) (dc_X5_sieve_66.1.2.2.1) ?_
        refine sg_istore (pc := 83) (dc_X5_sieve_66.1.2.2.2) (by decide) ?_
        refine sg_aload (pc := 85) (dc_X5_sieve_66.2.1.1.1) rfl ?_
        refine sg_iload (pc := 87) (dc_X5_sieve_66.2.1.1.2) rfl ?_
        refine sg_cE1 (pc := 89) (d' := d - 1) (mc' := 0) (ms' := 0) 3 g (dc_X5_sieve_66.2.1.2.1) cb_X0_takeAway ml_X5_100 mn_X0_takeAway rfl mv_X0_takeAway (Nat.le_of_ble_eq_true rfl) (ck_lc (by assumption) (by first | assumption | exact ck_rev)) (Nat.le_of_ble_eq_true rfl) (by first | exact jl_d0 hd rfl | omega) (by first | exact Nat.le_of_ble_eq_true rfl | omega) (by first | exact Nat.le_of_ble_eq_true rfl | omega) ?_
        refine s_X0_takeAway g (by first | exact jl_d1 hd rfl | omega) (by assumption) (by assumption) (fun h89 x89 f89 => sg_K0 ?_)
        have y89 := ck_Yt (h0 := h) (by assumption) x89 f89.1
        refine sg_iload (pc := 92) (dc_X5_sieve_66.2.1.2.2) rfl ?_
        refine sg_iret (pc := 94) (dc_X5_sieve_66.2.2.1.1) rfl (by first | exact Nat.le_of_ble_eq_true rfl | omega) (by first | exact Nat.le_of_ble_eq_true rfl | omega) ?_
        exact hQ _ _ (by assumption)
      · refine sg_aload (pc := 38) (dc_X5_sieve_30.1.1.2.2) rfl ?_
        refine sg_iload (pc := 40) (dc_X5_sieve_30.1.2.1.1) rfl ?_
        refine sg_cE1 (pc := 42) (d' := d - 1) (mc' := 0) (ms' := 0) 3 g (dc_X5_sieve_30.1.2.1.2) cb_X0_get ml_X5_75 mn_X0_get rfl mv_X0_get (Nat.le_of_ble_eq_true rfl) (ck_lc (by assumption) (by first | assumption | exact ck_rev)) (Nat.le_of_ble_eq_true rfl) (by first | exact jl_d0 hd rfl | omega) (by first | exact Nat.le_of_ble_eq_true rfl | omega) (by first | exact Nat.le_of_ble_eq_true rfl | omega) ?_
        refine s_X0_get g (by first | exact jl_d1 hd rfl | omega) (by assumption) (by first | assumption | exact ck_rev) (fun z42 G42 v42 => sg_K1 ?_)
        refine sg_istore (pc := 45) (dc_X5_sieve_30.1.2.2.1) (by decide) ?_
        refine sg_iload (pc := 47) (dc_X5_sieve_30.1.2.2.2) rfl ?_
        refine sg_iload_n (pc := 49) (j := 2) (dc_X5_sieve_30.2.1.1.1) rfl rfl ?_
        refine sg_cS2 (pc := 50) (d' := d - 1) (mc' := 0) (ms' := 0) g (dc_X5_sieve_30.2.1.1.2) cb_X2_isOf ml_X5_96 ms_X2_isOf (Nat.le_of_ble_eq_true rfl) (by first | exact jl_d0 hd rfl | omega) (by first | exact Nat.le_of_ble_eq_true rfl | omega) (by first | exact Nat.le_of_ble_eq_true rfl | omega) ?_
        refine s_X2_isOf g (by first | exact jl_d1 hd rfl | omega) (fun z50 h50 b50 => sg_K1 ?_)
        refine sg_iload_n (pc := 53) (j := 3) (dc_X5_sieve_30.2.1.2.1) rfl rfl ?_
        refine sg_icmp_ne (pc := 54) (tgt := 69) (dc_X5_sieve_30.2.1.2.2) (by decide) (fun c54 => ?_) (fun c54 => ?_)
        · first | refine sg_iincB (pc := 69) (dc_X5_sieve_66.1.1.1.2) rfl (by decide) (by decide) (by omega) (by omega) ?_ | refine sg_iinc (pc := 69) (dc_X5_sieve_66.1.1.1.2) rfl (by decide) (by decide) ?_
          refine sg_goto (pc := 72) (tgt := 28) (dc_X5_sieve_66.1.1.2.1) (by decide) ?_
          refine sg_lsub (lv' := [(6, _), (5, _), (0, _), (2, _), (3, _), (4, _)]) ⟨rfl, rfl, rfl, rfl, rfl, rfl, trivial⟩ ?_
          exact ih _ _ _ (by assumption) (by assumption) (by omega) (by omega)
        · refine sg_aload (pc := 57) (dc_X5_sieve_30.2.2.1.1) rfl ?_
          refine sg_iload (pc := 59) (dc_X5_sieve_30.2.2.1.2) rfl ?_
          refine sg_iload (pc := 61) (dc_X5_sieve_30.2.2.2.1) rfl ?_
          refine sg_cE2 (pc := 63) (d' := d - 1) (mc' := 0) (ms' := 0) 3 g (dc_X5_sieve_30.2.2.2.2) cb_X0_set ml_X5_86 mn_X0_set rfl mv_X0_set (Nat.le_of_ble_eq_true rfl) (ck_lc (by assumption) (by first | assumption | exact ck_rev)) (Nat.le_of_ble_eq_true rfl) (by first | exact jl_d0 hd rfl | omega) (by first | exact Nat.le_of_ble_eq_true rfl | omega) (by first | exact Nat.le_of_ble_eq_true rfl | omega) ?_
          refine s_X0_set g (by first | exact jl_d1 hd rfl | omega) (by assumption) (by assumption) (by first | exact ck_v0 | assumption | (simp only [ck_v1, ck_v2] at * <;> omega)) (fun h63 x63 f63 => sg_K0 ?_)
          have y63 := ck_Yt (h0 := h) (by assumption) x63 f63.1
          first | refine sg_iincB (pc := 66) (dc_X5_sieve_66.1.1.1.1) rfl (by decide) (by decide) (by omega) (by omega) ?_ | refine sg_iinc (pc := 66) (dc_X5_sieve_66.1.1.1.1) rfl (by decide) (by decide) ?_
          first | refine sg_iincB (pc := 69) (dc_X5_sieve_66.1.1.1.2) rfl (by decide) (by decide) (by omega) (by omega) ?_ | refine sg_iinc (pc := 69) (dc_X5_sieve_66.1.1.1.2) rfl (by decide) (by decide) ?_
          refine sg_goto (pc := 72) (tgt := 28) (dc_X5_sieve_66.1.1.2.1) (by decide) ?_
          refine sg_lsub (lv' := [(6, _), (5, _), (0, _), (2, _), (3, _), (4, _)]) ⟨rfl, rfl, rfl, rfl, rfl, rfl, trivial⟩ ?_
          exact ih _ _ _ (by assumption) (by assumption) (by omega) (by omega)
  refine sg_lsub (lv' := [(6, _), (5, _), (0, _), (2, _), (3, _), (4, _)]) ⟨rfl, rfl, rfl, rfl, rfl, rfl, trivial⟩ ?_
  exact loop28 _ _ _ _ (by assumption) (by assumption) (by omega) (Nat.lt_succ_self _)

set_option maxRecDepth 100000 in
theorem s_X5_strip {w : sg_W} {Q : sg_O → sg_H → Prop} {h : sg_H} (g : sg_G w) {d : Nat} (hd : 14 ≤ d) {B : Nat} (hx : ck_X h B) {row : Int} (hQ : ∀ (v : Int) (h' : sg_H), ck_Y h h' B → Q (.inl (some (sg_i v))) h') (hX : ∀ (E : String) (h' : sg_H), E ∈ [e_I] → (True) → ck_Y h h' B → Q (.inr E) h') : sg_C w mi_X5_strip d 8 48 [sg_r B, sg_i row] h Q := by
  refine sg_of pn_X5 (Nat.le_of_ble_eq_true rfl) ?_
  have y0 := ck_Y0 hx
  refine sg_aload_n (pc := 0) (j := 0) (dc_X5_strip_0.1.1.1.1) rfl rfl ?_
  refine sg_iload_n (pc := 1) (j := 1) (dc_X5_strip_0.1.1.1.2) rfl rfl ?_
  refine sg_cE1 (pc := 2) (d' := d - 1) (mc' := 1) (ms' := 6) 6 g (dc_X5_strip_0.1.1.2.1) cb_X5_rowOf ml_X5_36 mn_X5_rowOf rfl mv_X5_rowOf (Nat.le_of_ble_eq_true rfl) (ck_oc (by assumption)) (Nat.le_of_ble_eq_true rfl) (by first | exact jl_d0 hd rfl | omega) (by first | exact Nat.le_of_ble_eq_true rfl | omega) (by first | exact Nat.le_of_ble_eq_true rfl | omega) ?_
  refine s_X5_rowOf g (by first | exact jl_d1 hd rfl | omega) (by assumption) (fun a2 l2 r2 r2b => sg_K1 ?_) (fun E2 g2 m2 t2 q2 => sg_KX (by first | exact Nat.le_of_ble_eq_true rfl | omega) (by first | exact Nat.le_of_ble_eq_true rfl | omega) (hX _ _ ((by decide : ∀ x ∈ [e_I], x ∈ [e_I]) _ m2) (by first | trivial | omega) (ck_YY (by assumption) q2)))
  refine sg_astore_n (pc := 5) (j := 2) (dc_X5_strip_0.1.1.2.2) rfl (by decide) ?_
  refine sg_aload_n (pc := 6) (j := 0) (dc_X5_strip_0.1.2.1.1) rfl rfl ?_
  refine ck_gob (pc := 7) g (dc_X5_strip_0.1.2.1.2) fk_X5_19 (by assumption) (fun _ => rfl) ?_
  refine sg_aload_n (pc := 10) (j := 0) (dc_X5_strip_0.1.2.2.1) rfl rfl ?_
  refine ck_gob (pc := 11) g (dc_X5_strip_0.1.2.2.2) fk_X5_10 (by assumption) (fun _ => rfl) ?_
  refine sg_cE1 (pc := 14) (d' := d - 1) (mc' := 0) (ms' := 0) 4 g (dc_X5_strip_0.2.1.1.1) cb_X1_keep ml_X5_55 mn_X1_keep rfl mv_X1_keep (Nat.le_of_ble_eq_true rfl) (ck_pc (by assumption)) (Nat.le_of_ble_eq_true rfl) (by first | exact jl_d0 hd rfl | omega) (by first | exact Nat.le_of_ble_eq_true rfl | omega) (by first | exact Nat.le_of_ble_eq_true rfl | omega) ?_
  refine s_X1_keep g (by first | exact jl_d1 hd rfl | omega) (by assumption) ck_now (fun h14 x14 f14 => sg_K0 ?_)
  have y14 := ck_Yt (h0 := h) (by assumption) x14 f14
  refine sg_aload_n (pc := 17) (j := 2) (dc_X5_strip_0.2.1.1.2) rfl rfl ?_
  refine sg_cE0 (pc := 18) (d' := d - 1) (mc' := 0) (ms' := 0) 3 g (dc_X5_strip_0.2.1.2.1) cb_X0_size ml_X5_63 mn_X0_size rfl mv_X0_size (Nat.le_of_ble_eq_true rfl) (ck_lc (by assumption) (by first | assumption | exact ck_rev)) (Nat.le_of_ble_eq_true rfl) (by first | exact jl_d0 hd rfl | omega) (by first | exact Nat.le_of_ble_eq_true rfl | omega) (by first | exact Nat.le_of_ble_eq_true rfl | omega) ?_
  refine s_X0_size g (by first | exact jl_d1 hd rfl | omega) (by assumption) (by first | assumption | exact ck_rev) (fun z18 l18 u18 N18 => sg_K1 ?_)
  refine sg_istore_n (pc := 21) (j := 3) (dc_X5_strip_0.2.1.2.2) rfl (by decide) ?_
  refine sg_iconst (pc := 22) (z := 0) (dc_X5_strip_0.2.2.1.1) (by decide) ?_
  refine sg_istore (pc := 23) (dc_X5_strip_0.2.2.1.2) (by decide) ?_
  have loop25 : ∀ (N : Nat) (b : Int), 0 ≤ b → b ≤ 40 → (40 - b).toNat < N → sg_R w mi_X5_strip d 8 48 Q 25 [(4, sg_i b), (3, sg_i z18), (0, sg_r B), (2, sg_r a2)] [] h14 1 6 := by
    intro N
    induction N with
    | zero => intro b b0 b1 hm; exact absurd hm (Nat.not_lt_zero _)
    | succ N ih =>
      intro b b0 b1 hm
      refine sg_iload (pc := 25) (dc_X5_strip_0.2.2.2.1) rfl ?_
      refine sg_iload_n (pc := 27) (j := 3) (dc_X5_strip_0.2.2.2.2) rfl rfl ?_
      refine sg_icmp_ge (pc := 28) (tgt := 50) (dc_X5_strip_28.1.1.1.1) (by decide) (fun c28 => ?_) (fun c28 => ?_)
      · refine sg_iload_n (pc := 50) (j := 3) (dc_X5_strip_28.2.1.1.2) rfl rfl ?_
        refine sg_istore (pc := 51) (dc_X5_strip_28.2.1.2.1) (by decide) ?_
        have loop53 : ∀ (N : Nat) (e : Int), e ≤ 40 → e.toNat < N → sg_R w mi_X5_strip d 8 48 Q 53 [(5, sg_i e), (4, sg_i b), (3, sg_i z18), (0, sg_r B), (2, sg_r a2)] [] h14 1 6 := by
          intro N
          induction N with
          | zero => intro e e1 hm; exact absurd hm (Nat.not_lt_zero _)
          | succ N ih =>
            intro e e1 hm
            refine sg_iload (pc := 53) (dc_X5_strip_28.2.1.2.2) rfl ?_
            refine sg_iload (pc := 55) (dc_X5_strip_28.2.2.1.1) rfl ?_
            refine sg_icmp_le (pc := 57) (tgt := 81) (dc_X5_strip_28.2.2.1.2) (by decide) (fun c57 => ?_) (fun c57 => ?_)
            · refine sg_aload_n (pc := 81) (j := 2) (dc_X5_strip_63.2.1.1.1) rfl rfl ?_
              refine sg_iload (pc := 82) (dc_X5_strip_63.2.1.1.2) rfl ?_
              refine sg_iload (pc := 84) (dc_X5_strip_63.2.1.2.1) rfl ?_
              refine sg_cE2 (pc := 86) (d' := d - 1) (mc' := 0) (ms' := 0) 3 g (dc_X5_strip_63.2.1.2.2) cb_X0_narrow ml_X5_103 mn_X0_narrow rfl mv_X0_narrow (Nat.le_of_ble_eq_true rfl) (ck_lc (by assumption) (by first | assumption | exact ck_rev)) (Nat.le_of_ble_eq_true rfl) (by first | exact jl_d0 hd rfl | omega) (by first | exact Nat.le_of_ble_eq_true rfl | omega) (by first | exact Nat.le_of_ble_eq_true rfl | omega) ?_
              refine s_X0_narrow g (by first | exact jl_d1 hd rfl | omega) (by assumption) (by assumption) (fun h86 x86 f86 => sg_K0 ?_)
              have y86 := ck_Yt (h0 := h) (by assumption) x86 f86.1
              refine sg_iload_n (pc := 89) (j := 3) (dc_X5_strip_63.2.2.1.1) rfl rfl ?_
              refine sg_aload_n (pc := 90) (j := 2) (dc_X5_strip_63.2.2.1.2) rfl rfl ?_
              refine sg_cE0 (pc := 91) (d' := d - 1) (mc' := 0) (ms' := 0) 3 g (dc_X5_strip_63.2.2.2.1) cb_X0_size ml_X5_63 mn_X0_size rfl mv_X0_size (Nat.le_of_ble_eq_true rfl) (ck_lc (by assumption) (by first | assumption | exact ck_rev)) (Nat.le_of_ble_eq_true rfl) (by first | exact jl_d0 hd rfl | omega) (by first | exact Nat.le_of_ble_eq_true rfl | omega) (by first | exact Nat.le_of_ble_eq_true rfl | omega) ?_
              refine s_X0_size g (by first | exact jl_d1 hd rfl | omega) (by assumption) (by first | assumption | exact ck_rev) (fun z91 l91 u91 N91 => sg_K1 ?_)
              first | refine sg_isubB (pc := 94) (dc_X5_strip_63.2.2.2.2) (by omega) (by omega) ?_ | refine sg_isub (pc := 94) (dc_X5_strip_63.2.2.2.2) ?_
              refine sg_iret (pc := 95) dc_X5_strip_95 rfl (by first | exact Nat.le_of_ble_eq_true rfl | omega) (by first | exact Nat.le_of_ble_eq_true rfl | omega) ?_
              exact hQ _ _ (by assumption)
            · refine sg_aload_n (pc := 60) (j := 2) (dc_X5_strip_28.2.2.2.1) rfl rfl ?_
              refine sg_iload (pc := 61) (dc_X5_strip_28.2.2.2.2) rfl ?_
              refine sg_iconst (pc := 63) (z := 1) (dc_X5_strip_63.1.1.1.1) (by decide) ?_
              first | refine sg_isubB (pc := 64) (dc_X5_strip_63.1.1.1.2) (by omega) (by omega) ?_ | refine sg_isub (pc := 64) (dc_X5_strip_63.1.1.1.2) ?_
              refine sg_cE1 (pc := 65) (d' := d - 1) (mc' := 0) (ms' := 0) 3 g (dc_X5_strip_63.1.1.2.1) cb_X0_get ml_X5_75 mn_X0_get rfl mv_X0_get (Nat.le_of_ble_eq_true rfl) (ck_lc (by assumption) (by first | assumption | exact ck_rev)) (Nat.le_of_ble_eq_true rfl) (by first | exact jl_d0 hd rfl | omega) (by first | exact Nat.le_of_ble_eq_true rfl | omega) (by first | exact Nat.le_of_ble_eq_true rfl | omega) ?_
              refine s_X0_get g (by first | exact jl_d1 hd rfl | omega) (by assumption) (by first | assumption | exact ck_rev) (fun z65 G65 v65 => sg_K1 ?_)
              refine sg_iconst (pc := 68) (z := 3) (dc_X5_strip_63.1.1.2.2) (by decide) ?_
              refine sg_cS2 (pc := 69) (d' := d - 1) (mc' := 0) (ms' := 0) g (dc_X5_strip_63.1.2.1.1) cb_X2_isOf ml_X5_96 ms_X2_isOf (Nat.le_of_ble_eq_true rfl) (by first | exact jl_d0 hd rfl | omega) (by first | exact Nat.le_of_ble_eq_true rfl | omega) (by first | exact Nat.le_of_ble_eq_true rfl | omega) ?_
              refine s_X2_isOf g (by first | exact jl_d1 hd rfl | omega) (fun z69 h69 b69 => sg_K1 ?_)
              refine sg_if_eq (pc := 72) (tgt := 81) (dc_X5_strip_63.1.2.1.2) (by decide) (fun c72 => ?_) (fun c72 => ?_)
              · refine sg_aload_n (pc := 81) (j := 2) (dc_X5_strip_63.2.1.1.1) rfl rfl ?_
                refine sg_iload (pc := 82) (dc_X5_strip_63.2.1.1.2) rfl ?_
                refine sg_iload (pc := 84) (dc_X5_strip_63.2.1.2.1) rfl ?_
                refine sg_cE2 (pc := 86) (d' := d - 1) (mc' := 0) (ms' := 0) 3 g (dc_X5_strip_63.2.1.2.2) cb_X0_narrow ml_X5_103 mn_X0_narrow rfl mv_X0_narrow (Nat.le_of_ble_eq_true rfl) (ck_lc (by assumption) (by first | assumption | exact ck_rev)) (Nat.le_of_ble_eq_true rfl) (by first | exact jl_d0 hd rfl | omega) (by first | exact Nat.le_of_ble_eq_true rfl | omega) (by first | exact Nat.le_of_ble_eq_true rfl | omega) ?_
                refine s_X0_narrow g (by first | exact jl_d1 hd rfl | omega) (by assumption) (by assumption) (fun h86 x86 f86 => sg_K0 ?_)
                have y86 := ck_Yt (h0 := h) (by assumption) x86 f86.1
                refine sg_iload_n (pc := 89) (j := 3) (dc_X5_strip_63.2.2.1.1) rfl rfl ?_
                refine sg_aload_n (pc := 90) (j := 2) (dc_X5_strip_63.2.2.1.2) rfl rfl ?_
                refine sg_cE0 (pc := 91) (d' := d - 1) (mc' := 0) (ms' := 0) 3 g (dc_X5_strip_63.2.2.2.1) cb_X0_size ml_X5_63 mn_X0_size rfl mv_X0_size (Nat.le_of_ble_eq_true rfl) (ck_lc (by assumption) (by first | assumption | exact ck_rev)) (Nat.le_of_ble_eq_true rfl) (by first | exact jl_d0 hd rfl | omega) (by first | exact Nat.le_of_ble_eq_true rfl | omega) (by first | exact Nat.le_of_ble_eq_true rfl | omega) ?_
                refine s_X0_size g (by first | exact jl_d1 hd rfl | omega) (by assumption) (by first | assumption | exact ck_rev) (fun z91 l91 u91 N91 => sg_K1 ?_)
                first | refine sg_isubB (pc := 94) (dc_X5_strip_63.2.2.2.2) (by omega) (by omega) ?_ | refine sg_isub (pc := 94) (dc_X5_strip_63.2.2.2.2) ?_
                refine sg_iret (pc := 95) dc_X5_strip_95 rfl (by first | exact Nat.le_of_ble_eq_true rfl | omega) (by first | exact Nat.le_of_ble_eq_true rfl | omega) ?_
                exact hQ _ _ (by assumption)
              · first | refine sg_iincB (pc := 75) (dc_X5_strip_63.1.2.2.1) rfl (by decide) (by decide) (by omega) (by omega) ?_ | refine sg_iinc (pc := 75) (dc_X5_strip_63.1.2.2.1) rfl (by decide) (by decide) ?_
                refine sg_goto (pc := 78) (tgt := 53) (dc_X5_strip_63.1.2.2.2) (by decide) ?_
                refine sg_lsub (lv' := [(5, _), (4, _), (3, _), (0, _), (2, _)]) ⟨rfl, rfl, rfl, rfl, rfl, trivial⟩ ?_
                exact ih _ (by omega) (by omega)
        refine sg_lsub (lv' := [(5, _), (4, _), (3, _), (0, _), (2, _)]) ⟨rfl, rfl, rfl, rfl, rfl, trivial⟩ ?_
        exact loop53 _ _ (by omega) (Nat.lt_succ_self _)
      · refine sg_aload_n (pc := 31) (j := 2) (dc_X5_strip_28.1.1.1.2) rfl rfl ?_
        refine sg_iload (pc := 32) (dc_X5_strip_28.1.1.2.1) rfl ?_
        refine sg_cE1 (pc := 34) (d' := d - 1) (mc' := 0) (ms' := 0) 3 g (dc_X5_strip_28.1.1.2.2) cb_X0_get ml_X5_75 mn_X0_get rfl mv_X0_get (Nat.le_of_ble_eq_true rfl) (ck_lc (by assumption) (by first | assumption | exact ck_rev)) (Nat.le_of_ble_eq_true rfl) (by first | exact jl_d0 hd rfl | omega) (by first | exact Nat.le_of_ble_eq_true rfl | omega) (by first | exact Nat.le_of_ble_eq_true rfl | omega) ?_
        refine s_X0_get g (by first | exact jl_d1 hd rfl | omega) (by assumption) (by first | assumption | exact ck_rev) (fun z34 G34 v34 => sg_K1 ?_)
        refine sg_iconst (pc := 37) (z := 3) (dc_X5_strip_28.1.2.1.1) (by decide) ?_
        refine sg_cS2 (pc := 38) (d' := d - 1) (mc' := 0) (ms' := 0) g (dc_X5_strip_28.1.2.1.2) cb_X2_isOf ml_X5_96 ms_X2_isOf (Nat.le_of_ble_eq_true rfl) (by first | exact jl_d0 hd rfl | omega) (by first | exact Nat.le_of_ble_eq_true rfl | omega) (by first | exact Nat.le_of_ble_eq_true rfl | omega) ?_
        refine s_X2_isOf g (by first | exact jl_d1 hd rfl | omega) (fun z38 h38 b38 => sg_K1 ?_)
        refine sg_if_eq (pc := 41) (tgt := 50) (dc_X5_strip_28.1.2.2.1) (by decide) (fun c41 => ?_) (fun c41 => ?_)
        · refine sg_iload_n (pc := 50) (j := 3) (dc_X5_strip_28.2.1.1.2) rfl rfl ?_
          refine sg_istore (pc := 51) (dc_X5_strip_28.2.1.2.1) (by decide) ?_
          have loop53 : ∀ (N : Nat) (e : Int), e ≤ 40 → e.toNat < N → sg_R w mi_X5_strip d 8 48 Q 53 [(5, sg_i e), (4, sg_i b), (3, sg_i z18), (0, sg_r B), (2, sg_r a2)] [] h14 1 6 := by
            intro N
            induction N with
            | zero => intro e e1 hm; exact absurd hm (Nat.not_lt_zero _)
            | succ N ih =>
              intro e e1 hm
              refine sg_iload (pc := 53) (dc_X5_strip_28.2.1.2.2) rfl ?_
              refine sg_iload (pc := 55) (dc_X5_strip_28.2.2.1.1) rfl ?_
              refine sg_icmp_le (pc := 57) (tgt := 81) (dc_X5_strip_28.2.2.1.2) (by decide) (fun c57 => ?_) (fun c57 => ?_)
              · refine sg_aload_n (pc := 81) (j := 2) (dc_X5_strip_63.2.1.1.1) rfl rfl ?_
                refine sg_iload (pc := 82) (dc_X5_strip_63.2.1.1.2) rfl ?_
                refine sg_iload (pc := 84) (dc_X5_strip_63.2.1.2.1) rfl ?_
                refine sg_cE2 (pc := 86) (d' := d - 1) (mc' := 0) (ms' := 0) 3 g (dc_X5_strip_63.2.1.2.2) cb_X0_narrow ml_X5_103 mn_X0_narrow rfl mv_X0_narrow (Nat.le_of_ble_eq_true rfl) (ck_lc (by assumption) (by first | assumption | exact ck_rev)) (Nat.le_of_ble_eq_true rfl) (by first | exact jl_d0 hd rfl | omega) (by first | exact Nat.le_of_ble_eq_true rfl | omega) (by first | exact Nat.le_of_ble_eq_true rfl | omega) ?_
                refine s_X0_narrow g (by first | exact jl_d1 hd rfl | omega) (by assumption) (by assumption) (fun h86 x86 f86 => sg_K0 ?_)
                have y86 := ck_Yt (h0 := h) (by assumption) x86 f86.1
                refine sg_iload_n (pc := 89) (j := 3) (dc_X5_strip_63.2.2.1.1) rfl rfl ?_
                refine sg_aload_n (pc := 90) (j := 2) (dc_X5_strip_63.2.2.1.2) rfl rfl ?_
                refine sg_cE0 (pc := 91) (d' := d - 1) (mc' := 0) (ms' := 0) 3 g (dc_X5_strip_63.2.2.2.1) cb_X0_size ml_X5_63 mn_X0_size rfl mv_X0_size (Nat.le_of_ble_eq_true rfl) (ck_lc (by assumption) (by first | assumption | exact ck_rev)) (Nat.le_of_ble_eq_true rfl) (by first | exact jl_d0 hd rfl | omega) (by first | exact Nat.le_of_ble_eq_true rfl | omega) (by first | exact Nat.le_of_ble_eq_true rfl | omega) ?_
                refine s_X0_size g (by first | exact jl_d1 hd rfl | omega) (by assumption) (by first | assumption | exact ck_rev) (fun z91 l91 u91 N91 => sg_K1 ?_)
                first | refine sg_isubB (pc := 94) (dc_X5_strip_63.2.2.2.2) (by omega) (by omega) ?_ | refine sg_isub (pc := 94) (dc_X5_strip_63.2.2.2.2) ?_
                refine sg_iret (pc := 95) dc_X5_strip_95 rfl (by first | exact Nat.le_of_ble_eq_true rfl | omega) (by first | exact Nat.le_of_ble_eq_true rfl | omega) ?_
                exact hQ _ _ (by assumption)
              · refine sg_aload_n (pc := 60) (j := 2) (dc_X5_strip_28.2.2.2.1) rfl rfl ?_
                refine sg_iload (pc := 61) (dc_X5_strip_28.2.2.2.2) rfl ?_
                refine sg_iconst (pc := 63) (z := 1) (dc_X5_strip_63.1.1.1.1) (by decide) ?_
                first | refine sg_isubB (pc := 64) (dc_X5_strip_63.1.1.1.2) (by omega) (by omega) ?_ | refine sg_isub (pc := 64) (dc_X5_strip_63.1.1.1.2) ?_
                refine sg_cE1 (pc := 65) (d' := d - 1) (mc' := 0) (ms' := 0) 3 g (dc_X5_strip_63.1.1.2.1) cb_X0_get ml_X5_75 mn_X0_get rfl mv_X0_get (Nat.le_of_ble_eq_true rfl) (ck_lc (by assumption) (by first | assumption | exact ck_rev)) (Nat.le_of_ble_eq_true rfl) (by first | exact jl_d0 hd rfl | omega) (by first | exact Nat.le_of_ble_eq_true rfl | omega) (by first | exact Nat.le_of_ble_eq_true rfl | omega) ?_
                refine s_X0_get g (by first | exact jl_d1 hd rfl | omega) (by assumption) (by first | assumption | exact ck_rev) (fun z65 G65 v65 => sg_K1 ?_)
                refine sg_iconst (pc := 68) (z := 3) (dc_X5_strip_63.1.1.2.2) (by decide) ?_
                refine sg_cS2 (pc := 69) (d' := d - 1) (mc' := 0) (ms' := 0) g (dc_X5_strip_63.1.2.1.1) cb_X2_isOf ml_X5_96 ms_X2_isOf (Nat.le_of_ble_eq_true rfl) (by first | exact jl_d0 hd rfl | omega) (by first | exact Nat.le_of_ble_eq_true rfl | omega) (by first | exact Nat.le_of_ble_eq_true rfl | omega) ?_
                refine s_X2_isOf g (by first | exact jl_d1 hd rfl | omega) (fun z69 h69 b69 => sg_K1 ?_)
                refine sg_if_eq (pc := 72) (tgt := 81) (dc_X5_strip_63.1.2.1.2) (by decide) (fun c72 => ?_) (fun c72 => ?_)
                · refine sg_aload_n (pc := 81) (j := 2) (dc_X5_strip_63.2.1.1.1) rfl rfl ?_
                  refine sg_iload (pc := 82) (dc_X5_strip_63.2.1.1.2) rfl ?_
                  refine sg_iload (pc := 84) (dc_X5_strip_63.2.1.2.1) rfl ?_
                  refine sg_cE2 (pc := 86) (d' := d - 1) (mc' := 0) (ms' := 0) 3 g (dc_X5_strip_63.2.1.2.2) cb_X0_narrow ml_X5_103 mn_X0_narrow rfl mv_X0_narrow (Nat.le_of_ble_eq_true rfl) (ck_lc (by assumption) (by first | assumption | exact ck_rev)) (Nat.le_of_ble_eq_true rfl) (by first | exact jl_d0 hd rfl | omega) (by first | exact Nat.le_of_ble_eq_true rfl | omega) (by first | exact Nat.le_of_ble_eq_true rfl | omega) ?_
                  refine s_X0_narrow g (by first | exact jl_d1 hd rfl | omega) (by assumption) (by assumption) (fun h86 x86 f86 => sg_K0 ?_)
                  have y86 := ck_Yt (h0 := h) (by assumption) x86 f86.1
                  refine sg_iload_n (pc := 89) (j := 3) (dc_X5_strip_63.2.2.1.1) rfl rfl ?_
                  refine sg_aload_n (pc := 90) (j := 2) (dc_X5_strip_63.2.2.1.2) rfl rfl ?_
                  refine sg_cE0 (pc := 91) (d' := d - 1) (mc' := 0) (ms' := 0) 3 g (dc_X5_strip_63.2.2.2.1) cb_X0_size ml_X5_63 mn_X0_size rfl mv_X0_size (Nat.le_of_ble_eq_true rfl) (ck_lc (by assumption) (by first | assumption | exact ck_rev)) (Nat.le_of_ble_eq_true rfl) (by first | exact jl_d0 hd rfl | omega) (by first | exact Nat.le_of_ble_eq_true rfl | omega) (by first | exact Nat.le_of_ble_eq_true rfl | omega) ?_
                  refine s_X0_size g (by first | exact jl_d1 hd rfl | omega) (by assumption) (by first | assumption | exact ck_rev) (fun z91 l91 u91 N91 => sg_K1 ?_)
                  first | refine sg_isubB (pc := 94) (dc_X5_strip_63.2.2.2.2) (by omega) (by omega) ?_ | refine sg_isub (pc := 94) (dc_X5_strip_63.2.2.2.2) ?_
                  refine sg_iret (pc := 95) dc_X5_strip_95 rfl (by first | exact Nat.le_of_ble_eq_true rfl | omega) (by first | exact Nat.le_of_ble_eq_true rfl | omega) ?_
                  exact hQ _ _ (by assumption)
                · first | refine sg_iincB (pc := 75) (dc_X5_strip_63.1.2.2.1) rfl (by decide) (by decide) (by omega) (by omega) ?_ | refine sg_iinc (pc := 75) (dc_X5_strip_63.1.2.2.1) rfl (by decide) (by decide) ?_
                  refine sg_goto (pc := 78) (tgt := 53) (dc_X5_strip_63.1.2.2.2) (by decide) ?_
                  refine sg_lsub (lv' := [(5, _), (4, _), (3, _), (0, _), (2, _)]) ⟨rfl, rfl, rfl, rfl, rfl, trivial⟩ ?_
                  exact ih _ (by omega) (by omega)
          refine sg_lsub (lv' := [(5, _), (4, _), (3, _), (0, _), (2, _)]) ⟨rfl, rfl, rfl, rfl, rfl, trivial⟩ ?_
          exact loop53 _ _ (by omega) (Nat.lt_succ_self _)
        · first | refine sg_iincB (pc := 44) (dc_X5_strip_28.1.2.2.2) rfl (by decide) (by decide) (by omega) (by omega) ?_ | refine sg_iinc (pc := 44) (dc_X5_strip_28.1.2.2.2) rfl (by decide) (by decide) ?_
          refine sg_goto (pc := 47) (tgt := 25) (dc_X5_strip_28.2.1.1.1) (by decide) ?_
          refine sg_lsub (lv' := [(4, _), (3, _), (0, _), (2, _)]) ⟨rfl, rfl, rfl, rfl, trivial⟩ ?_
          exact ih _ (by omega) (by omega) (by omega)
  refine sg_lsub (lv' := [(4, _), (3, _), (0, _), (2, _)]) ⟨rfl, rfl, rfl, rfl, trivial⟩ ?_
  exact loop25 _ _ (by omega) (by omega) (Nat.lt_succ_self _)

set_option maxRecDepth 100000 in
theorem s_X5_turn {w : sg_W} {Q : sg_O → sg_H → Prop} {h : sg_H} (g : sg_G w) {d : Nat} (hd : 14 ≤ d) {B : Nat} (hx : ck_X h B) {row : Int} (hQ : ∀ (v : Int) (h' : sg_H), ck_Y h h' B → Q (.inl (some (sg_i v))) h') (hX : ∀ (E : String) (h' : sg_H), E ∈ [e_I] → (True) → ck_Y h h' B → Q (.inr E) h') : sg_C w mi_X5_turn d 8 48 [sg_r B, sg_i row] h Q := by
  refine sg_of pn_X5 (Nat.le_of_ble_eq_true rfl) ?_
  have y0 := ck_Y0 hx
  refine sg_aload_n (pc := 0) (j := 0) (dc_X5_turn_0.1.1.1.1) rfl rfl ?_
  refine sg_iload_n (pc := 1) (j := 1) (dc_X5_turn_0.1.1.1.2) rfl rfl ?_
  refine sg_cE1 (pc := 2) (d' := d - 1) (mc' := 1) (ms' := 6) 6 g (dc_X5_turn_0.1.1.2.1) cb_X5_rowOf ml_X5_36 mn_X5_rowOf rfl mv_X5_rowOf (Nat.le_of_ble_eq_true rfl) (ck_oc (by assumption)) (Nat.le_of_ble_eq_true rfl) (by first | exact jl_d0 hd rfl | omega) (by first | exact Nat.le_of_ble_eq_true rfl | omega) (by first | exact Nat.le_of_ble_eq_true rfl | omega) ?_
  refine s_X5_rowOf g (by first | exact jl_d1 hd rfl | omega) (by assumption) (fun a2 l2 r2 r2b => sg_K1 ?_) (fun E2 g2 m2 t2 q2 => sg_KX (by first | exact Nat.le_of_ble_eq_true rfl | omega) (by first | exact Nat.le_of_ble_eq_true rfl | omega) (hX _ _ ((by decide : ∀ x ∈ [e_I], x ∈ [e_I]) _ m2) (by first | trivial | omega) (ck_YY (by assumption) q2)))
  refine sg_astore_n (pc := 5) (j := 2) (dc_X5_turn_0.1.1.2.2) rfl (by decide) ?_
  refine sg_aload_n (pc := 6) (j := 0) (dc_X5_turn_0.1.2.1.1) rfl rfl ?_
  refine ck_gob (pc := 7) g (dc_X5_turn_0.1.2.1.2) fk_X5_19 (by assumption) (fun _ => rfl) ?_
  refine sg_aload_n (pc := 10) (j := 0) (dc_X5_turn_0.1.2.2.1) rfl rfl ?_
  refine ck_gob (pc := 11) g (dc_X5_turn_0.1.2.2.2) fk_X5_10 (by assumption) (fun _ => rfl) ?_
  refine sg_cE1 (pc := 14) (d' := d - 1) (mc' := 0) (ms' := 0) 4 g (dc_X5_turn_0.2.1.1.1) cb_X1_keep ml_X5_55 mn_X1_keep rfl mv_X1_keep (Nat.le_of_ble_eq_true rfl) (ck_pc (by assumption)) (Nat.le_of_ble_eq_true rfl) (by first | exact jl_d0 hd rfl | omega) (by first | exact Nat.le_of_ble_eq_true rfl | omega) (by first | exact Nat.le_of_ble_eq_true rfl | omega) ?_
  refine s_X1_keep g (by first | exact jl_d1 hd rfl | omega) (by assumption) ck_now (fun h14 x14 f14 => sg_K0 ?_)
  have y14 := ck_Yt (h0 := h) (by assumption) x14 f14
  refine sg_aload_n (pc := 17) (j := 2) (dc_X5_turn_0.2.1.1.2) rfl rfl ?_
  refine sg_cE0 (pc := 18) (d' := d - 1) (mc' := 0) (ms' := 0) 3 g (dc_X5_turn_0.2.1.2.1) cb_X0_turnRound ml_X5_106 mn_X0_turnRound rfl mv_X0_turnRound (Nat.le_of_ble_eq_true rfl) (ck_lc (by assumption) (by first | assumption | exact ck_rev)) (Nat.le_of_ble_eq_true rfl) (by first | exact jl_d0 hd rfl | omega) (by first | exact Nat.le_of_ble_eq_true rfl | omega) (by first | exact Nat.le_of_ble_eq_true rfl | omega) ?_
  refine s_X0_turnRound g (by first | exact jl_d1 hd rfl | omega) (by assumption) (by assumption) (fun h18 x18 f18 => sg_K0 ?_)
  have y18 := ck_Yt (h0 := h) (by assumption) x18 f18.1
  refine sg_aload_n (pc := 21) (j := 2) (dc_X5_turn_0.2.1.2.2) rfl rfl ?_
  refine sg_cE0 (pc := 22) (d' := d - 1) (mc' := 0) (ms' := 0) 3 g (dc_X5_turn_0.2.2.1.1) cb_X0_size ml_X5_63 mn_X0_size rfl mv_X0_size (Nat.le_of_ble_eq_true rfl) (ck_lc (by assumption) (by first | assumption | exact ck_rev)) (Nat.le_of_ble_eq_true rfl) (by first | exact jl_d0 hd rfl | omega) (by first | exact Nat.le_of_ble_eq_true rfl | omega) (by first | exact Nat.le_of_ble_eq_true rfl | omega) ?_
  refine s_X0_size g (by first | exact jl_d1 hd rfl | omega) (by assumption) (by first | assumption | exact ck_rev) (fun z22 l22 u22 N22 => sg_K1 ?_)
  refine sg_iret (pc := 25) (dc_X5_turn_0.2.2.1.2) rfl (by first | exact Nat.le_of_ble_eq_true rfl | omega) (by first | exact Nat.le_of_ble_eq_true rfl | omega) ?_
  exact hQ _ _ (by assumption)

set_option maxRecDepth 100000 in
theorem s_X5_write {w : sg_W} {Q : sg_O → sg_H → Prop} {h : sg_H} (g : sg_G w) {d : Nat} (hd : 14 ≤ d) {B : Nat} (hx : ck_X h B) {row number radix : Int} (hQ : ∀ (v : Int) (h' : sg_H), ck_Y h h' B → Q (.inl (some (sg_i v))) h') (hX : ∀ (E : String) (h' : sg_H), E ∈ [e_I, e_A] → (True) → ck_Y h h' B → Q (.inr E) h') : sg_C w mi_X5_write d 8 48 [sg_r B, sg_i row, sg_i number, sg_i radix] h Q := by
  refine sg_of pn_X5 (Nat.le_of_ble_eq_true rfl) ?_
  have y0 := ck_Y0 hx
  refine sg_aload_n (pc := 0) (j := 0) (dc_X5_write_0.1.1.1.1) rfl rfl ?_
  refine sg_iload_n (pc := 1) (j := 1) (dc_X5_write_0.1.1.1.2) rfl rfl ?_
  refine sg_cE1 (pc := 2) (d' := d - 1) (mc' := 1) (ms' := 6) 6 g (dc_X5_write_0.1.1.2.1) cb_X5_rowOf ml_X5_36 mn_X5_rowOf rfl mv_X5_rowOf (Nat.le_of_ble_eq_true rfl) (ck_oc (by assumption)) (Nat.le_of_ble_eq_true rfl) (by first | exact jl_d0 hd rfl | omega) (by first | exact Nat.le_of_ble_eq_true rfl | omega) (by first | exact Nat.le_of_ble_eq_true rfl | omega) ?_
  refine s_X5_rowOf g (by first | exact jl_d1 hd rfl | omega) (by assumption) (fun a2 l2 r2 r2b => sg_K1 ?_) (fun E2 g2 m2 t2 q2 => sg_KX (by first | exact Nat.le_of_ble_eq_true rfl | omega) (by first | exact Nat.le_of_ble_eq_true rfl | omega) (hX _ _ ((by decide : ∀ x ∈ [e_I], x ∈ [e_I, e_A]) _ m2) (by first | trivial | omega) (ck_YY (by assumption) q2)))
  refine sg_astore (pc := 5) (dc_X5_write_0.1.1.2.2) (by decide) ?_
  refine sg_iload_n (pc := 7) (j := 2) (dc_X5_write_0.1.2.1.1) rfl rfl ?_
  refine sg_if_lt (pc := 8) (tgt := 17) (dc_X5_write_0.1.2.1.2) (by decide) (fun c8 => ?_) (fun c8 => ?_)
  · refine sg_throw (pc := 17) g th_X5_110_112 (dc_X5_write_0.2.1.1.2) (dc_X5_write_0.2.1.2.1) (dc_X5_write_0.2.1.2.2) (dc_X5_write_0.2.2.1.1) (dc_X5_write_0.2.2.1.2) (by first | exact Nat.le_trans (Nat.le_of_ble_eq_true rfl) hd | omega) (Nat.le_of_ble_eq_true rfl) (by first | exact Nat.le_of_ble_eq_true rfl | omega) (by first | exact Nat.le_of_ble_eq_true rfl | omega) ?_
    exact fun z hz => hX _ _ (by decide) (by first | trivial | omega) (ck_Yz (by assumption) hz)
  · refine sg_iload_n (pc := 11) (j := 2) (dc_X5_write_0.1.2.2.1) rfl rfl ?_
    refine sg_ldc (pc := 12) (z := 999999) g (dc_X5_write_0.1.2.2.2) cn_X5_109 (by decide) ?_
    refine sg_icmp_le (pc := 14) (tgt := 27) (dc_X5_write_0.2.1.1.1) (by decide) (fun c14 => ?_) (fun c14 => ?_)
    · refine sg_iload_n (pc := 27) (j := 3) (dc_X5_write_0.2.2.2.1) rfl rfl ?_
      refine sg_cS1 (pc := 28) (d' := d - 1) (mc' := 1) (ms' := 6) g (dc_X5_write_0.2.2.2.2) cb_X5_checkRadix ml_X5_115 ms_X5_checkRadix (Nat.le_of_ble_eq_true rfl) (by first | exact jl_d0 hd rfl | omega) (by first | exact Nat.le_of_ble_eq_true rfl | omega) (by first | exact Nat.le_of_ble_eq_true rfl | omega) ?_
      refine s_X5_checkRadix g (by first | exact jl_d1 hd rfl | omega) (fun v28 => sg_K0 ?_) (fun v28 z28 w28 => sg_KX (by first | exact Nat.le_of_ble_eq_true rfl | omega) (by first | exact Nat.le_of_ble_eq_true rfl | omega) (hX _ _ (by decide) (by first | trivial | omega) (ck_Yz (by assumption) w28)))
      refine sg_iload_n (pc := 31) (j := 2) (dc_X5_write_31.1.1.1.1) rfl rfl ?_
      refine sg_iload_n (pc := 32) (j := 3) (dc_X5_write_31.1.1.1.2) rfl rfl ?_
      refine sg_cS2 (pc := 33) (d' := d - 1) (mc' := 0) (ms' := 0) g (dc_X5_write_31.1.1.2.1) cb_X2_digitsOf ml_X5_118 ms_X2_digitsOf (Nat.le_of_ble_eq_true rfl) (by first | exact jl_d0 hd rfl | omega) (by first | exact Nat.le_of_ble_eq_true rfl | omega) (by first | exact Nat.le_of_ble_eq_true rfl | omega) ?_
      refine s_X2_digitsOf g (by first | exact jl_d1 hd rfl | omega) (fun z33 l33 u33 => sg_K1 ?_)
      refine sg_istore (pc := 36) (dc_X5_write_31.1.1.2.2) (by decide) ?_
      refine sg_aload (pc := 38) (dc_X5_write_31.1.2.1.1) rfl ?_
      refine sg_iload (pc := 40) (dc_X5_write_31.1.2.1.2) rfl ?_
      refine sg_cE1 (pc := 42) (d' := d - 1) (mc' := 0) (ms' := 0) 3 g (dc_X5_write_31.1.2.2.1) cb_X0_hasRoomFor ml_X5_44 mn_X0_hasRoomFor rfl mv_X0_hasRoomFor (Nat.le_of_ble_eq_true rfl) (ck_lc (by assumption) (by first | assumption | exact ck_rev)) (Nat.le_of_ble_eq_true rfl) (by first | exact jl_d0 hd rfl | omega) (by first | exact Nat.le_of_ble_eq_true rfl | omega) (by first | exact Nat.le_of_ble_eq_true rfl | omega) ?_
      refine s_X0_hasRoomFor g (by first | exact jl_d1 hd rfl | omega) (by assumption) (by first | assumption | exact ck_rev) (fun z42 b42 => sg_K1 ?_)
      refine sg_if_ne (pc := 45) (tgt := 51) (dc_X5_write_31.1.2.2.2) (by decide) (fun c45 => ?_) (fun c45 => ?_)
      · refine sg_aload_n (pc := 51) (j := 0) (dc_X5_write_31.2.1.2.1) rfl rfl ?_
        refine ck_gob (pc := 52) g (dc_X5_write_31.2.1.2.2) fk_X5_19 (by assumption) (fun _ => rfl) ?_
        refine sg_aload_n (pc := 55) (j := 0) (dc_X5_write_31.2.2.1.1) rfl rfl ?_
        refine ck_gob (pc := 56) g (dc_X5_write_31.2.2.1.2) fk_X5_10 (by assumption) (fun _ => rfl) ?_
        refine sg_cE1 (pc := 59) (d' := d - 1) (mc' := 0) (ms' := 0) 4 g (dc_X5_write_31.2.2.2.1) cb_X1_keep ml_X5_55 mn_X1_keep rfl mv_X1_keep (Nat.le_of_ble_eq_true rfl) (ck_pc (by assumption)) (Nat.le_of_ble_eq_true rfl) (by first | exact jl_d0 hd rfl | omega) (by first | exact Nat.le_of_ble_eq_true rfl | omega) (by first | exact Nat.le_of_ble_eq_true rfl | omega) ?_
        refine s_X1_keep g (by first | exact jl_d1 hd rfl | omega) (by assumption) ck_now (fun h59 x59 f59 => sg_K0 ?_)
        have y59 := ck_Yt (h0 := h) (by assumption) x59 f59
        refine sg_iload (pc := 62) (dc_X5_write_31.2.2.2.2) rfl ?_
        refine sg_iconst (pc := 64) (z := 1) (dc_X5_write_64.1.1.1.1) (by decide) ?_
        first | refine sg_isubB (pc := 65) (dc_X5_write_64.1.1.1.2) (by omega) (by omega) ?_ | refine sg_isub (pc := 65) (dc_X5_write_64.1.1.1.2) ?_
        refine sg_istore (pc := 66) (dc_X5_write_64.1.1.2.1) (by decide) ?_
        have loop68 : ∀ (N : Nat) (h1 : sg_H) (p : Int), ck_X h1 B → ck_Y h h1 B → p ≤ 20 → (p + 1).toNat < N → sg_R w mi_X5_write d 8 48 Q 68 [(6, sg_i p), (5, sg_i z33), (0, sg_r B), (2, sg_i number), (3, sg_i radix), (4, sg_r a2)] [] h1 2 12 := by
          intro N
          induction N with
          | zero => intro h1 p x1 y1 p1 hm; exact absurd hm (Nat.not_lt_zero _)
          | succ N ih =>
            intro h1 p x1 y1 p1 hm
            refine sg_iload (pc := 68) (dc_X5_write_64.1.1.2.2) rfl ?_
            refine sg_if_lt (pc := 70) (tgt := 95) (dc_X5_write_64.1.2.1.1) (by decide) (fun c70 => ?_) (fun c70 => ?_)
            · refine sg_iload (pc := 95) (dc_X5_write_64.2.2.2.2) rfl ?_
              refine sg_iret (pc := 97) dc_X5_write_97 rfl (by first | exact Nat.le_of_ble_eq_true rfl | omega) (by first | exact Nat.le_of_ble_eq_true rfl | omega) ?_
              exact hQ _ _ (by assumption)
            · refine sg_aload (pc := 73) (dc_X5_write_64.1.2.1.2) rfl ?_
              refine sg_iload_n (pc := 75) (j := 2) (dc_X5_write_64.1.2.2.1) rfl rfl ?_
              refine sg_iload_n (pc := 76) (j := 3) (dc_X5_write_64.1.2.2.2) rfl rfl ?_
              refine sg_iload (pc := 77) (dc_X5_write_64.2.1.1.1) rfl ?_
              refine sg_cS3 (pc := 79) (d' := d - 1) (mc' := 0) (ms' := 0) g (dc_X5_write_64.2.1.1.2) cb_X2_digitNumber ml_X5_122 ms_X2_digitNumber (Nat.le_of_ble_eq_true rfl) (by first | exact jl_d0 hd rfl | omega) (by first | exact Nat.le_of_ble_eq_true rfl | omega) (by first | exact Nat.le_of_ble_eq_true rfl | omega) ?_
              refine s_X2_digitNumber g (by first | exact jl_d1 hd rfl | omega) (fun z79 => sg_K1 ?_)
              refine sg_iload_n (pc := 82) (j := 3) (dc_X5_write_64.2.1.2.1) rfl rfl ?_
              refine sg_cS2 (pc := 83) (d' := d - 1) (mc' := 0) (ms' := 0) g (dc_X5_write_64.2.1.2.2) cb_X2_digitOf ml_X5_126 ms_X2_digitOf (Nat.le_of_ble_eq_true rfl) (by first | exact jl_d0 hd rfl | omega) (by first | exact Nat.le_of_ble_eq_true rfl | omega) (by first | exact Nat.le_of_ble_eq_true rfl | omega) ?_
              refine s_X2_digitOf g (by first | exact jl_d1 hd rfl | omega) (fun z83 h83 => sg_K1 ?_)
              refine sg_cE1 (pc := 86) (d' := d - 1) (mc' := 0) (ms' := 0) 3 g (dc_X5_write_64.2.2.1.1) cb_X0_add ml_X5_129 mn_X0_add rfl mv_X0_add (Nat.le_of_ble_eq_true rfl) (ck_lc (by assumption) (by first | assumption | exact ck_rev)) (Nat.le_of_ble_eq_true rfl) (by first | exact jl_d0 hd rfl | omega) (by first | exact Nat.le_of_ble_eq_true rfl | omega) (by first | exact Nat.le_of_ble_eq_true rfl | omega) ?_
              refine s_X0_add g (by first | exact jl_d1 hd rfl | omega) (by assumption) (by assumption) (by first | exact ck_v0 | assumption | (simp only [ck_v1, ck_v2] at * <;> omega)) (fun h86 x86 f86 => sg_K0 ?_)
              have y86 := ck_Yt (h0 := h) (by assumption) x86 f86.1
              first | refine sg_iincB (pc := 89) (dc_X5_write_64.2.2.1.2) rfl (by decide) (by decide) (by omega) (by omega) ?_ | refine sg_iinc (pc := 89) (dc_X5_write_64.2.2.1.2) rfl (by decide) (by decide) ?_
              refine sg_goto (pc := 92) (tgt := 68) (dc_X5_write_64.2.2.2.1) (by decide) ?_
              refine sg_lsub (lv' := [(6, _), (5, _), (0, _), (2, _), (3, _), (4, _)]) ⟨rfl, rfl, rfl, rfl, rfl, rfl, trivial⟩ ?_
              exact ih _ _ (by assumption) (by assumption) (by omega) (by omega)
        refine sg_lsub (lv' := [(6, _), (5, _), (0, _), (2, _), (3, _), (4, _)]) ⟨rfl, rfl, rfl, rfl, rfl, rfl, trivial⟩ ?_
        exact loop68 _ _ _ (by assumption) (by assumption) (by omega) (Nat.lt_succ_self _)
      · refine sg_bipush (pc := 48) (z := -9) (dc_X5_write_31.2.1.1.1) (by decide) ?_
        refine sg_iret (pc := 50) (dc_X5_write_31.2.1.1.2) rfl (by first | exact Nat.le_of_ble_eq_true rfl | omega) (by first | exact Nat.le_of_ble_eq_true rfl | omega) ?_
        exact hQ _ _ (by assumption)
    · refine sg_throw (pc := 17) g th_X5_110_112 (dc_X5_write_0.2.1.1.2) (dc_X5_write_0.2.1.2.1) (dc_X5_write_0.2.1.2.2) (dc_X5_write_0.2.2.1.1) (dc_X5_write_0.2.2.1.2) (by first | exact Nat.le_trans (Nat.le_of_ble_eq_true rfl) hd | omega) (Nat.le_of_ble_eq_true rfl) (by first | exact Nat.le_of_ble_eq_true rfl | omega) (by first | exact Nat.le_of_ble_eq_true rfl | omega) ?_
      exact fun z hz => hX _ _ (by decide) (by first | trivial | omega) (ck_Yz (by assumption) hz)

set_option maxRecDepth 100000 in
theorem s_X5_spell {w : sg_W} {Q : sg_O → sg_H → Prop} {h : sg_H} (g : sg_G w) {d : Nat} (hd : 14 ≤ d) {B : Nat} (hx : ck_X h B) {row to : Int} (hQ : ∀ (v : Int) (h' : sg_H), ck_Y h h' B → Q (.inl (some (sg_i v))) h') (hX : ∀ (E : String) (h' : sg_H), E ∈ [e_I, e_A] → (True) → ck_Y h h' B → Q (.inr E) h') : sg_C w mi_X5_spell d 8 48 [sg_r B, sg_i row, sg_i to] h Q := by
  refine sg_of pn_X5 (Nat.le_of_ble_eq_true rfl) ?_
  have y0 := ck_Y0 hx
  refine sg_aload_n (pc := 0) (j := 0) (dc_X5_spell_0.1.1.1.1) rfl rfl ?_
  refine sg_iload_n (pc := 1) (j := 1) (dc_X5_spell_0.1.1.1.2) rfl rfl ?_
  refine sg_cE1 (pc := 2) (d' := d - 1) (mc' := 1) (ms' := 6) 6 g (dc_X5_spell_0.1.1.2.1) cb_X5_rowOf ml_X5_36 mn_X5_rowOf rfl mv_X5_rowOf (Nat.le_of_ble_eq_true rfl) (ck_oc (by assumption)) (Nat.le_of_ble_eq_true rfl) (by first | exact jl_d0 hd rfl | omega) (by first | exact Nat.le_of_ble_eq_true rfl | omega) (by first | exact Nat.le_of_ble_eq_true rfl | omega) ?_
  refine s_X5_rowOf g (by first | exact jl_d1 hd rfl | omega) (by assumption) (fun a2 l2 r2 r2b => sg_K1 ?_) (fun E2 g2 m2 t2 q2 => sg_KX (by first | exact Nat.le_of_ble_eq_true rfl | omega) (by first | exact Nat.le_of_ble_eq_true rfl | omega) (hX _ _ ((by decide : ∀ x ∈ [e_I], x ∈ [e_I, e_A]) _ m2) (by first | trivial | omega) (ck_YY (by assumption) q2)))
  refine sg_astore_n (pc := 5) (j := 3) (dc_X5_spell_0.1.1.2.2) rfl (by decide) ?_
  refine sg_aload_n (pc := 6) (j := 0) (dc_X5_spell_0.1.2.1.1) rfl rfl ?_
  refine sg_iload_n (pc := 7) (j := 2) (dc_X5_spell_0.1.2.1.2) rfl rfl ?_
  refine sg_cE1 (pc := 8) (d' := d - 1) (mc' := 1) (ms' := 6) 6 g (dc_X5_spell_0.1.2.2.1) cb_X5_rowOf ml_X5_36 mn_X5_rowOf rfl mv_X5_rowOf (Nat.le_of_ble_eq_true rfl) (ck_oc (by assumption)) (Nat.le_of_ble_eq_true rfl) (by first | exact jl_d0 hd rfl | omega) (by first | exact Nat.le_of_ble_eq_true rfl | omega) (by first | exact Nat.le_of_ble_eq_true rfl | omega) ?_
  refine s_X5_rowOf g (by first | exact jl_d1 hd rfl | omega) (by assumption) (fun a8 l8 r8 r8b => sg_K1 ?_) (fun E8 g8 m8 t8 q8 => sg_KX (by first | exact Nat.le_of_ble_eq_true rfl | omega) (by first | exact Nat.le_of_ble_eq_true rfl | omega) (hX _ _ ((by decide : ∀ x ∈ [e_I], x ∈ [e_I, e_A]) _ m8) (by first | trivial | omega) (ck_YY (by assumption) q8)))
  refine sg_astore (pc := 11) (dc_X5_spell_0.1.2.2.2) (by decide) ?_
  refine sg_iload_n (pc := 13) (j := 1) (dc_X5_spell_0.2.1.1.1) rfl rfl ?_
  refine sg_iload_n (pc := 14) (j := 2) (dc_X5_spell_0.2.1.1.2) rfl rfl ?_
  refine sg_cS2 (pc := 15) (d' := d - 1) (mc' := 1) (ms' := 6) g (dc_X5_spell_0.2.1.2.1) cb_X5_checkAreTwo ml_X5_132 ms_X5_checkAreTwo (Nat.le_of_ble_eq_true rfl) (by first | exact jl_d0 hd rfl | omega) (by first | exact Nat.le_of_ble_eq_true rfl | omega) (by first | exact Nat.le_of_ble_eq_true rfl | omega) ?_
  refine s_X5_checkAreTwo g (by first | exact jl_d1 hd rfl | omega) (fun v15 => sg_K0 ?_) (fun v15 z15 w15 => sg_KX (by first | exact Nat.le_of_ble_eq_true rfl | omega) (by first | exact Nat.le_of_ble_eq_true rfl | omega) (hX _ _ (by decide) (by first | trivial | omega) (ck_Yz (by assumption) w15)))
  refine sg_aload_n (pc := 18) (j := 3) (dc_X5_spell_0.2.1.2.2) rfl rfl ?_
  refine sg_cE0 (pc := 19) (d' := d - 1) (mc' := 0) (ms' := 0) 3 g (dc_X5_spell_0.2.2.1.1) cb_X0_size ml_X5_63 mn_X0_size rfl mv_X0_size (Nat.le_of_ble_eq_true rfl) (ck_lc (by assumption) (by first | assumption | exact ck_rev)) (Nat.le_of_ble_eq_true rfl) (by first | exact jl_d0 hd rfl | omega) (by first | exact Nat.le_of_ble_eq_true rfl | omega) (by first | exact Nat.le_of_ble_eq_true rfl | omega) ?_
  refine s_X0_size g (by first | exact jl_d1 hd rfl | omega) (by assumption) (by first | assumption | exact ck_rev) (fun z19 l19 u19 N19 => sg_K1 ?_)
  refine sg_iconst (pc := 22) (z := 2) (dc_X5_spell_0.2.2.1.2) (by decide) ?_
  first | refine sg_imulB (pc := 23) (dc_X5_spell_0.2.2.2.1) (by omega) (by omega) ?_ | refine sg_imul (pc := 23) (dc_X5_spell_0.2.2.2.1) ?_
  refine sg_bipush (pc := 24) (z := 40) (dc_X5_spell_0.2.2.2.2) (by decide) ?_
  refine sg_icmp_le (pc := 26) (tgt := 32) (dc_X5_spell_26.1.1.1.1) (by decide) (fun c26 => ?_) (fun c26 => ?_)
  · refine sg_aload_n (pc := 32) (j := 0) (dc_X5_spell_26.1.1.2.2) rfl rfl ?_
    refine ck_gob (pc := 33) g (dc_X5_spell_26.1.2.1.1) fk_X5_19 (by assumption) (fun _ => rfl) ?_
    refine sg_aload_n (pc := 36) (j := 0) (dc_X5_spell_26.1.2.1.2) rfl rfl ?_
    refine ck_gob (pc := 37) g (dc_X5_spell_26.1.2.2.1) fk_X5_10 (by assumption) (fun _ => rfl) ?_
    refine sg_cE1 (pc := 40) (d' := d - 1) (mc' := 0) (ms' := 0) 4 g (dc_X5_spell_26.1.2.2.2) cb_X1_keep ml_X5_55 mn_X1_keep rfl mv_X1_keep (Nat.le_of_ble_eq_true rfl) (ck_pc (by assumption)) (Nat.le_of_ble_eq_true rfl) (by first | exact jl_d0 hd rfl | omega) (by first | exact Nat.le_of_ble_eq_true rfl | omega) (by first | exact Nat.le_of_ble_eq_true rfl | omega) ?_
    refine s_X1_keep g (by first | exact jl_d1 hd rfl | omega) (by assumption) ck_now (fun h40 x40 f40 => sg_K0 ?_)
    have y40 := ck_Yt (h0 := h) (by assumption) x40 f40
    refine sg_aload (pc := 43) (dc_X5_spell_26.2.1.1.1) rfl ?_
    refine sg_cE0 (pc := 45) (d' := d - 1) (mc' := 0) (ms' := 0) 3 g (dc_X5_spell_26.2.1.1.2) cb_X0_clear ml_X5_135 mn_X0_clear rfl mv_X0_clear (Nat.le_of_ble_eq_true rfl) (ck_lc (by assumption) (by first | assumption | exact ck_rev)) (Nat.le_of_ble_eq_true rfl) (by first | exact jl_d0 hd rfl | omega) (by first | exact Nat.le_of_ble_eq_true rfl | omega) (by first | exact Nat.le_of_ble_eq_true rfl | omega) ?_
    refine s_X0_clear g (by first | exact jl_d1 hd rfl | omega) (by assumption) (by assumption) (fun h45 x45 f45 => sg_K0 ?_)
    have y45 := ck_Yt (h0 := h) (by assumption) x45 f45.1
    refine sg_iconst (pc := 48) (z := 0) (dc_X5_spell_26.2.1.2.1) (by decide) ?_
    refine sg_istore (pc := 49) (dc_X5_spell_26.2.1.2.2) (by decide) ?_
    have loop51 : ∀ (N : Nat) (h1 : sg_H) (p : Int), ck_X h1 B → ck_Y h h1 B → 0 ≤ p → (40 - p).toNat < N → sg_R w mi_X5_spell d 8 48 Q 51 [(5, sg_i p), (0, sg_r B), (3, sg_r a2), (4, sg_r a8)] [] h1 3 18 := by
      intro N
      induction N with
      | zero => intro h1 p x1 y1 p0 hm; exact absurd hm (Nat.not_lt_zero _)
      | succ N ih =>
        intro h1 p x1 y1 p0 hm
        refine sg_iload (pc := 51) (dc_X5_spell_26.2.2.1.1) rfl ?_
        refine sg_aload_n (pc := 53) (j := 3) (dc_X5_spell_26.2.2.1.2) rfl rfl ?_
        refine sg_cE0 (pc := 54) (d' := d - 1) (mc' := 0) (ms' := 0) 3 g (dc_X5_spell_26.2.2.2.1) cb_X0_size ml_X5_63 mn_X0_size rfl mv_X0_size (Nat.le_of_ble_eq_true rfl) (ck_lc (by assumption) (by first | assumption | exact ck_rev)) (Nat.le_of_ble_eq_true rfl) (by first | exact jl_d0 hd rfl | omega) (by first | exact Nat.le_of_ble_eq_true rfl | omega) (by first | exact Nat.le_of_ble_eq_true rfl | omega) ?_
        refine s_X0_size g (by first | exact jl_d1 hd rfl | omega) (by assumption) (by first | assumption | exact ck_rev) (fun z54 l54 u54 N54 => sg_K1 ?_)
        refine sg_icmp_ge (pc := 57) (tgt := 94) (dc_X5_spell_26.2.2.2.2) (by decide) (fun c57 => ?_) (fun c57 => ?_)
        · refine sg_aload (pc := 94) (dc_X5_spell_60.2.2.2.1) rfl ?_
          refine sg_cE0 (pc := 96) (d' := d - 1) (mc' := 0) (ms' := 0) 3 g (dc_X5_spell_60.2.2.2.2) cb_X0_size ml_X5_63 mn_X0_size rfl mv_X0_size (Nat.le_of_ble_eq_true rfl) (ck_lc (by assumption) (by first | assumption | exact ck_rev)) (Nat.le_of_ble_eq_true rfl) (by first | exact jl_d0 hd rfl | omega) (by first | exact Nat.le_of_ble_eq_true rfl | omega) (by first | exact Nat.le_of_ble_eq_true rfl | omega) ?_
          refine s_X0_size g (by first | exact jl_d1 hd rfl | omega) (by assumption) (by first | assumption | exact ck_rev) (fun z96 l96 u96 N96 => sg_K1 ?_)
          refine sg_iret (pc := 99) dc_X5_spell_99 rfl (by first | exact Nat.le_of_ble_eq_true rfl | omega) (by first | exact Nat.le_of_ble_eq_true rfl | omega) ?_
          exact hQ _ _ (by assumption)
        · refine sg_aload (pc := 60) (dc_X5_spell_60.1.1.1.1) rfl ?_
          refine sg_aload_n (pc := 62) (j := 3) (dc_X5_spell_60.1.1.1.2) rfl rfl ?_
          refine sg_iload (pc := 63) (dc_X5_spell_60.1.1.2.1) rfl ?_
          refine sg_cE1 (pc := 65) (d' := d - 1) (mc' := 0) (ms' := 0) 3 g (dc_X5_spell_60.1.1.2.2) cb_X0_get ml_X5_75 mn_X0_get rfl mv_X0_get (Nat.le_of_ble_eq_true rfl) (ck_lc (by assumption) (by first | assumption | exact ck_rev)) (Nat.le_of_ble_eq_true rfl) (by first | exact jl_d0 hd rfl | omega) (by first | exact Nat.le_of_ble_eq_true rfl | omega) (by first | exact Nat.le_of_ble_eq_true rfl | omega) ?_
          refine s_X0_get g (by first | exact jl_d1 hd rfl | omega) (by assumption) (by first | assumption | exact ck_rev) (fun z65 G65 v65 => sg_K1 ?_)
          refine sg_cS1 (pc := 68) (d' := d - 1) (mc' := 0) (ms' := 0) g (dc_X5_spell_60.1.2.1.1) cb_X2_firstSpelled ml_X5_138 ms_X2_firstSpelled (Nat.le_of_ble_eq_true rfl) (by first | exact jl_d0 hd rfl | omega) (by first | exact Nat.le_of_ble_eq_true rfl | omega) (by first | exact Nat.le_of_ble_eq_true rfl | omega) ?_
          refine s_X2_firstSpelled g (by first | exact jl_d1 hd rfl | omega) (fun z68 l68 u68 => sg_K1 ?_)
          refine sg_cE1 (pc := 71) (d' := d - 1) (mc' := 0) (ms' := 0) 3 g (dc_X5_spell_60.1.2.1.2) cb_X0_add ml_X5_129 mn_X0_add rfl mv_X0_add (Nat.le_of_ble_eq_true rfl) (ck_lc (by assumption) (by first | assumption | exact ck_rev)) (Nat.le_of_ble_eq_true rfl) (by first | exact jl_d0 hd rfl | omega) (by first | exact Nat.le_of_ble_eq_true rfl | omega) (by first | exact Nat.le_of_ble_eq_true rfl | omega) ?_
          refine s_X0_add g (by first | exact jl_d1 hd rfl | omega) (by assumption) (by assumption) (by first | exact ck_v0 | assumption | (simp only [ck_v1, ck_v2] at * <;> omega)) (fun h71 x71 f71 => sg_K0 ?_)
          have y71 := ck_Yt (h0 := h) (by assumption) x71 f71.1
          refine sg_aload (pc := 74) (dc_X5_spell_60.1.2.2.1) rfl ?_
          refine sg_aload_n (pc := 76) (j := 3) (dc_X5_spell_60.1.2.2.2) rfl rfl ?_
          refine sg_iload (pc := 77) (dc_X5_spell_60.2.1.1.1) rfl ?_
          refine sg_cE1 (pc := 79) (d' := d - 1) (mc' := 0) (ms' := 0) 3 g (dc_X5_spell_60.2.1.1.2) cb_X0_get ml_X5_75 mn_X0_get rfl mv_X0_get (Nat.le_of_ble_eq_true rfl) (ck_lc (by assumption) (by first | assumption | exact ck_rev)) (Nat.le_of_ble_eq_true rfl) (by first | exact jl_d0 hd rfl | omega) (by first | exact Nat.le_of_ble_eq_true rfl | omega) (by first | exact Nat.le_of_ble_eq_true rfl | omega) ?_
          refine s_X0_get g (by first | exact jl_d1 hd rfl | omega) (by assumption) (by first | assumption | exact ck_rev) (fun z79 G79 v79 => sg_K1 ?_)
          refine sg_cS1 (pc := 82) (d' := d - 1) (mc' := 0) (ms' := 0) g (dc_X5_spell_60.2.1.2.1) cb_X2_secondSpelled ml_X5_141 ms_X2_secondSpelled (Nat.le_of_ble_eq_true rfl) (by first | exact jl_d0 hd rfl | omega) (by first | exact Nat.le_of_ble_eq_true rfl | omega) (by first | exact Nat.le_of_ble_eq_true rfl | omega) ?_
          refine s_X2_secondSpelled g (by first | exact jl_d1 hd rfl | omega) (fun z82 l82 u82 => sg_K1 ?_)
          refine sg_cE1 (pc := 85) (d' := d - 1) (mc' := 0) (ms' := 0) 3 g (dc_X5_spell_60.2.1.2.2) cb_X0_add ml_X5_129 mn_X0_add rfl mv_X0_add (Nat.le_of_ble_eq_true rfl) (ck_lc (by assumption) (by first | assumption | exact ck_rev)) (Nat.le_of_ble_eq_true rfl) (by first | exact jl_d0 hd rfl | omega) (by first | exact Nat.le_of_ble_eq_true rfl | omega) (by first | exact Nat.le_of_ble_eq_true rfl | omega) ?_
          refine s_X0_add g (by first | exact jl_d1 hd rfl | omega) (by assumption) (by assumption) (by first | exact ck_v0 | assumption | (simp only [ck_v1, ck_v2] at * <;> omega)) (fun h85 x85 f85 => sg_K0 ?_)
          have y85 := ck_Yt (h0 := h) (by assumption) x85 f85.1
          first | refine sg_iincB (pc := 88) (dc_X5_spell_60.2.2.1.1) rfl (by decide) (by decide) (by omega) (by omega) ?_ | refine sg_iinc (pc := 88) (dc_X5_spell_60.2.2.1.1) rfl (by decide) (by decide) ?_
          refine sg_goto (pc := 91) (tgt := 51) (dc_X5_spell_60.2.2.1.2) (by decide) ?_
          refine sg_lsub (lv' := [(5, _), (0, _), (3, _), (4, _)]) ⟨rfl, rfl, rfl, rfl, trivial⟩ ?_
          exact ih _ _ (by assumption) (by assumption) (by omega) (by omega)
    refine sg_lsub (lv' := [(5, _), (0, _), (3, _), (4, _)]) ⟨rfl, rfl, rfl, rfl, trivial⟩ ?_
    exact loop51 _ _ _ (by assumption) (by assumption) (by omega) (Nat.lt_succ_self _)
  · refine sg_bipush (pc := 29) (z := -9) (dc_X5_spell_26.1.1.1.2) (by decide) ?_
    refine sg_iret (pc := 31) (dc_X5_spell_26.1.1.2.1) rfl (by first | exact Nat.le_of_ble_eq_true rfl | omega) (by first | exact Nat.le_of_ble_eq_true rfl | omega) ?_
    exact hQ _ _ (by assumption)

set_option maxRecDepth 100000 in
theorem s_X5_read {w : sg_W} {Q : sg_O → sg_H → Prop} {h : sg_H} (g : sg_G w) {d : Nat} (hd : 14 ≤ d) {B : Nat} (hx : ck_X h B) {row to : Int} (hQ : ∀ (v : Int) (h' : sg_H), ck_Y h h' B → Q (.inl (some (sg_i v))) h') (hX : ∀ (E : String) (h' : sg_H), E ∈ [e_I, e_A] → (True) → ck_Y h h' B → Q (.inr E) h') : sg_C w mi_X5_read d 8 48 [sg_r B, sg_i row, sg_i to] h Q := by
  refine sg_of pn_X5 (Nat.le_of_ble_eq_true rfl) ?_
  have y0 := ck_Y0 hx
  refine sg_aload_n (pc := 0) (j := 0) (dc_X5_read_0.1.1.1.1) rfl rfl ?_
  refine sg_iload_n (pc := 1) (j := 1) (dc_X5_read_0.1.1.1.2) rfl rfl ?_
  refine sg_cE1 (pc := 2) (d' := d - 1) (mc' := 1) (ms' := 6) 6 g (dc_X5_read_0.1.1.2.1) cb_X5_rowOf ml_X5_36 mn_X5_rowOf rfl mv_X5_rowOf (Nat.le_of_ble_eq_true rfl) (ck_oc (by assumption)) (Nat.le_of_ble_eq_true rfl) (by first | exact jl_d0 hd rfl | omega) (by first | exact Nat.le_of_ble_eq_true rfl | omega) (by first | exact Nat.le_of_ble_eq_true rfl | omega) ?_
  refine s_X5_rowOf g (by first | exact jl_d1 hd rfl | omega) (by assumption) (fun a2 l2 r2 r2b => sg_K1 ?_) (fun E2 g2 m2 t2 q2 => sg_KX (by first | exact Nat.le_of_ble_eq_true rfl | omega) (by first | exact Nat.le_of_ble_eq_true rfl | omega) (hX _ _ ((by decide : ∀ x ∈ [e_I], x ∈ [e_I, e_A]) _ m2) (by first | trivial | omega) (ck_YY (by assumption) q2)))
  refine sg_astore_n (pc := 5) (j := 3) (dc_X5_read_0.1.1.2.2) rfl (by decide) ?_
  refine sg_aload_n (pc := 6) (j := 0) (dc_X5_read_0.1.2.1.1) rfl rfl ?_
  refine sg_iload_n (pc := 7) (j := 2) (dc_X5_read_0.1.2.1.2) rfl rfl ?_
  refine sg_cE1 (pc := 8) (d' := d - 1) (mc' := 1) (ms' := 6) 6 g (dc_X5_read_0.1.2.2.1) cb_X5_rowOf ml_X5_36 mn_X5_rowOf rfl mv_X5_rowOf (Nat.le_of_ble_eq_true rfl) (ck_oc (by assumption)) (Nat.le_of_ble_eq_true rfl) (by first | exact jl_d0 hd rfl | omega) (by first | exact Nat.le_of_ble_eq_true rfl | omega) (by first | exact Nat.le_of_ble_eq_true rfl | omega) ?_
  refine s_X5_rowOf g (by first | exact jl_d1 hd rfl | omega) (by assumption) (fun a8 l8 r8 r8b => sg_K1 ?_) (fun E8 g8 m8 t8 q8 => sg_KX (by first | exact Nat.le_of_ble_eq_true rfl | omega) (by first | exact Nat.le_of_ble_eq_true rfl | omega) (hX _ _ ((by decide : ∀ x ∈ [e_I], x ∈ [e_I, e_A]) _ m8) (by first | trivial | omega) (ck_YY (by assumption) q8)))
  refine sg_astore (pc := 11) (dc_X5_read_0.1.2.2.2) (by decide) ?_
  refine sg_iload_n (pc := 13) (j := 1) (dc_X5_read_0.2.1.1.1) rfl rfl ?_
  refine sg_iload_n (pc := 14) (j := 2) (dc_X5_read_0.2.1.1.2) rfl rfl ?_
  refine sg_cS2 (pc := 15) (d' := d - 1) (mc' := 1) (ms' := 6) g (dc_X5_read_0.2.1.2.1) cb_X5_checkAreTwo ml_X5_132 ms_X5_checkAreTwo (Nat.le_of_ble_eq_true rfl) (by first | exact jl_d0 hd rfl | omega) (by first | exact Nat.le_of_ble_eq_true rfl | omega) (by first | exact Nat.le_of_ble_eq_true rfl | omega) ?_
  refine s_X5_checkAreTwo g (by first | exact jl_d1 hd rfl | omega) (fun v15 => sg_K0 ?_) (fun v15 z15 w15 => sg_KX (by first | exact Nat.le_of_ble_eq_true rfl | omega) (by first | exact Nat.le_of_ble_eq_true rfl | omega) (hX _ _ (by decide) (by first | trivial | omega) (ck_Yz (by assumption) w15)))
  refine sg_aload_n (pc := 18) (j := 3) (dc_X5_read_0.2.1.2.2) rfl rfl ?_
  refine sg_cS1 (pc := 19) (d' := d - 1) (mc' := 0) (ms' := 0) g (dc_X5_read_0.2.2.1.1) cb_X5_canBeRead ml_X5_144 ms_X5_canBeRead (Nat.le_of_ble_eq_true rfl) (by first | exact jl_d0 hd rfl | omega) (by first | exact Nat.le_of_ble_eq_true rfl | omega) (by first | exact Nat.le_of_ble_eq_true rfl | omega) ?_
  refine s_X5_canBeRead g (by first | exact jl_d1 hd rfl | omega) (by assumption) (by assumption) (fun v19 b19 => sg_K1 ?_)
  refine sg_if_ne (pc := 22) (tgt := 28) (dc_X5_read_0.2.2.1.2) (by decide) (fun c22 => ?_) (fun c22 => ?_)
  · refine sg_aload_n (pc := 28) (j := 0) (dc_X5_read_28.1.1.1.1) rfl rfl ?_
    refine ck_gob (pc := 29) g (dc_X5_read_28.1.1.1.2) fk_X5_19 (by assumption) (fun _ => rfl) ?_
    refine sg_aload_n (pc := 32) (j := 0) (dc_X5_read_28.1.1.2.1) rfl rfl ?_
    refine ck_gob (pc := 33) g (dc_X5_read_28.1.1.2.2) fk_X5_10 (by assumption) (fun _ => rfl) ?_
    refine sg_cE1 (pc := 36) (d' := d - 1) (mc' := 0) (ms' := 0) 4 g (dc_X5_read_28.1.2.1.1) cb_X1_keep ml_X5_55 mn_X1_keep rfl mv_X1_keep (Nat.le_of_ble_eq_true rfl) (ck_pc (by assumption)) (Nat.le_of_ble_eq_true rfl) (by first | exact jl_d0 hd rfl | omega) (by first | exact Nat.le_of_ble_eq_true rfl | omega) (by first | exact Nat.le_of_ble_eq_true rfl | omega) ?_
    refine s_X1_keep g (by first | exact jl_d1 hd rfl | omega) (by assumption) ck_now (fun h36 x36 f36 => sg_K0 ?_)
    have y36 := ck_Yt (h0 := h) (by assumption) x36 f36
    refine sg_aload (pc := 39) (dc_X5_read_28.1.2.1.2) rfl ?_
    refine sg_cE0 (pc := 41) (d' := d - 1) (mc' := 0) (ms' := 0) 3 g (dc_X5_read_28.1.2.2.1) cb_X0_clear ml_X5_135 mn_X0_clear rfl mv_X0_clear (Nat.le_of_ble_eq_true rfl) (ck_lc (by assumption) (by first | assumption | exact ck_rev)) (Nat.le_of_ble_eq_true rfl) (by first | exact jl_d0 hd rfl | omega) (by first | exact Nat.le_of_ble_eq_true rfl | omega) (by first | exact Nat.le_of_ble_eq_true rfl | omega) ?_
    refine s_X0_clear g (by first | exact jl_d1 hd rfl | omega) (by assumption) (by assumption) (fun h41 x41 f41 => sg_K0 ?_)
    have y41 := ck_Yt (h0 := h) (by assumption) x41 f41.1
    refine sg_iconst (pc := 44) (z := 0) (dc_X5_read_28.1.2.2.2) (by decide) ?_
    refine sg_istore (pc := 45) (dc_X5_read_28.2.1.1.1) (by decide) ?_
    have loop47 : ∀ (N : Nat) (h1 : sg_H) (p : Int), ck_X h1 B → ck_Y h h1 B → 0 ≤ p → p ≤ 41 → (42 - p).toNat < N → sg_R w mi_X5_read d 8 48 Q 47 [(5, sg_i p), (0, sg_r B), (3, sg_r a2), (4, sg_r a8)] [] h1 3 18 := by
      intro N
      induction N with
      | zero => intro h1 p x1 y1 p0 p1 hm; exact absurd hm (Nat.not_lt_zero _)
      | succ N ih =>
        intro h1 p x1 y1 p0 p1 hm
        refine sg_iload (pc := 47) (dc_X5_read_28.2.1.1.2) rfl ?_
        refine sg_iconst (pc := 49) (z := 1) (dc_X5_read_28.2.1.2.1) (by decide) ?_
        first | refine sg_iaddB (pc := 50) (dc_X5_read_28.2.1.2.2) (by omega) (by omega) ?_ | refine sg_iadd (pc := 50) (dc_X5_read_28.2.1.2.2) ?_
        refine sg_aload_n (pc := 51) (j := 3) (dc_X5_read_28.2.2.1.1) rfl rfl ?_
        refine sg_cE0 (pc := 52) (d' := d - 1) (mc' := 0) (ms' := 0) 3 g (dc_X5_read_28.2.2.1.2) cb_X0_size ml_X5_63 mn_X0_size rfl mv_X0_size (Nat.le_of_ble_eq_true rfl) (ck_lc (by assumption) (by first | assumption | exact ck_rev)) (Nat.le_of_ble_eq_true rfl) (by first | exact jl_d0 hd rfl | omega) (by first | exact Nat.le_of_ble_eq_true rfl | omega) (by first | exact Nat.le_of_ble_eq_true rfl | omega) ?_
        refine s_X0_size g (by first | exact jl_d1 hd rfl | omega) (by assumption) (by first | assumption | exact ck_rev) (fun z52 l52 u52 N52 => sg_K1 ?_)
        refine sg_icmp_ge (pc := 55) (tgt := 105) (dc_X5_read_28.2.2.2.1) (by decide) (fun c55 => ?_) (fun c55 => ?_)
        · refine sg_aload (pc := 105) (dc_X5_read_92.1.2.2.1) rfl ?_
          refine sg_cE0 (pc := 107) (d' := d - 1) (mc' := 0) (ms' := 0) 3 g (dc_X5_read_92.1.2.2.2) cb_X0_size ml_X5_63 mn_X0_size rfl mv_X0_size (Nat.le_of_ble_eq_true rfl) (ck_lc (by assumption) (by first | assumption | exact ck_rev)) (Nat.le_of_ble_eq_true rfl) (by first | exact jl_d0 hd rfl | omega) (by first | exact Nat.le_of_ble_eq_true rfl | omega) (by first | exact Nat.le_of_ble_eq_true rfl | omega) ?_
          refine s_X0_size g (by first | exact jl_d1 hd rfl | omega) (by assumption) (by first | assumption | exact ck_rev) (fun z107 l107 u107 N107 => sg_K1 ?_)
          refine sg_iret (pc := 110) (dc_X5_read_92.2.1.1.1) rfl (by first | exact Nat.le_of_ble_eq_true rfl | omega) (by first | exact Nat.le_of_ble_eq_true rfl | omega) ?_
          exact hQ _ _ (by assumption)
        · refine sg_aload_n (pc := 58) (j := 3) (dc_X5_read_28.2.2.2.2) rfl rfl ?_
          refine sg_iload (pc := 59) (dc_X5_read_59.1.1.1.1) rfl ?_
          refine sg_cE1 (pc := 61) (d' := d - 1) (mc' := 0) (ms' := 0) 3 g (dc_X5_read_59.1.1.1.2) cb_X0_get ml_X5_75 mn_X0_get rfl mv_X0_get (Nat.le_of_ble_eq_true rfl) (ck_lc (by assumption) (by first | assumption | exact ck_rev)) (Nat.le_of_ble_eq_true rfl) (by first | exact jl_d0 hd rfl | omega) (by first | exact Nat.le_of_ble_eq_true rfl | omega) (by first | exact Nat.le_of_ble_eq_true rfl | omega) ?_
          refine s_X0_get g (by first | exact jl_d1 hd rfl | omega) (by assumption) (by first | assumption | exact ck_rev) (fun z61 G61 v61 => sg_K1 ?_)
          refine sg_bipush (pc := 64) (z := 16) (dc_X5_read_59.1.1.2.1) (by decide) ?_
          refine sg_cS2 (pc := 66) (d' := d - 1) (mc' := 0) (ms' := 0) g (dc_X5_read_59.1.1.2.2) cb_X2_numberOf ml_X5_148 ms_X2_numberOf (Nat.le_of_ble_eq_true rfl) (by first | exact jl_d0 hd rfl | omega) (by first | exact Nat.le_of_ble_eq_true rfl | omega) (by first | exact Nat.le_of_ble_eq_true rfl | omega) ?_
          refine s_X2_numberOf g (by first | exact jl_d1 hd rfl | omega) (fun z66 h66 => sg_K1 ?_)
          refine sg_istore (pc := 69) (dc_X5_read_59.1.2.1.1) (by decide) ?_
          refine sg_aload_n (pc := 71) (j := 3) (dc_X5_read_59.1.2.1.2) rfl rfl ?_
          refine sg_iload (pc := 72) (dc_X5_read_59.1.2.2.1) rfl ?_
          refine sg_iconst (pc := 74) (z := 1) (dc_X5_read_59.1.2.2.2) (by decide) ?_
          first | refine sg_iaddB (pc := 75) (dc_X5_read_59.2.1.1.1) (by omega) (by omega) ?_ | refine sg_iadd (pc := 75) (dc_X5_read_59.2.1.1.1) ?_
          refine sg_cE1 (pc := 76) (d' := d - 1) (mc' := 0) (ms' := 0) 3 g (dc_X5_read_59.2.1.1.2) cb_X0_get ml_X5_75 mn_X0_get rfl mv_X0_get (Nat.le_of_ble_eq_true rfl) (ck_lc (by assumption) (by first | assumption | exact ck_rev)) (Nat.le_of_ble_eq_true rfl) (by first | exact jl_d0 hd rfl | omega) (by first | exact Nat.le_of_ble_eq_true rfl | omega) (by first | exact Nat.le_of_ble_eq_true rfl | omega) ?_
          refine s_X0_get g (by first | exact jl_d1 hd rfl | omega) (by assumption) (by first | assumption | exact ck_rev) (fun z76 G76 v76 => sg_K1 ?_)
          refine sg_bipush (pc := 79) (z := 16) (dc_X5_read_59.2.1.2.1) (by decide) ?_
          refine sg_cS2 (pc := 81) (d' := d - 1) (mc' := 0) (ms' := 0) g (dc_X5_read_59.2.1.2.2) cb_X2_numberOf ml_X5_148 ms_X2_numberOf (Nat.le_of_ble_eq_true rfl) (by first | exact jl_d0 hd rfl | omega) (by first | exact Nat.le_of_ble_eq_true rfl | omega) (by first | exact Nat.le_of_ble_eq_true rfl | omega) ?_
          refine s_X2_numberOf g (by first | exact jl_d1 hd rfl | omega) (fun z81 h81 => sg_K1 ?_)
          refine sg_istore (pc := 84) (dc_X5_read_59.2.2.1.1) (by decide) ?_
          refine sg_aload (pc := 86) (dc_X5_read_59.2.2.1.2) rfl ?_
          refine sg_iload (pc := 88) (dc_X5_read_59.2.2.2.1) rfl ?_
          refine sg_bipush (pc := 90) (z := 16) (dc_X5_read_59.2.2.2.2) (by decide) ?_
          first | refine sg_imulB (pc := 92) (dc_X5_read_92.1.1.1.1) (by omega) (by omega) ?_ | refine sg_imul (pc := 92) (dc_X5_read_92.1.1.1.1) ?_
          refine sg_iload (pc := 93) (dc_X5_read_92.1.1.1.2) rfl ?_
          first | refine sg_iaddB (pc := 95) (dc_X5_read_92.1.1.2.1) (by omega) (by omega) ?_ | refine sg_iadd (pc := 95) (dc_X5_read_92.1.1.2.1) ?_
          refine sg_cE1 (pc := 96) (d' := d - 1) (mc' := 0) (ms' := 0) 3 g (dc_X5_read_92.1.1.2.2) cb_X0_add ml_X5_129 mn_X0_add rfl mv_X0_add (Nat.le_of_ble_eq_true rfl) (ck_lc (by assumption) (by first | assumption | exact ck_rev)) (Nat.le_of_ble_eq_true rfl) (by first | exact jl_d0 hd rfl | omega) (by first | exact Nat.le_of_ble_eq_true rfl | omega) (by first | exact Nat.le_of_ble_eq_true rfl | omega) ?_
          refine s_X0_add g (by first | exact jl_d1 hd rfl | omega) (by assumption) (by assumption) (by first | exact ck_v0 | assumption | (simp only [ck_v1, ck_v2] at * <;> omega)) (fun h96 x96 f96 => sg_K0 ?_)
          have y96 := ck_Yt (h0 := h) (by assumption) x96 f96.1
          first | refine sg_iincB (pc := 99) (dc_X5_read_92.1.2.1.1) rfl (by decide) (by decide) (by omega) (by omega) ?_ | refine sg_iinc (pc := 99) (dc_X5_read_92.1.2.1.1) rfl (by decide) (by decide) ?_
          refine sg_goto (pc := 102) (tgt := 47) (dc_X5_read_92.1.2.1.2) (by decide) ?_
          refine sg_lsub (lv' := [(5, _), (0, _), (3, _), (4, _)]) ⟨rfl, rfl, rfl, rfl, trivial⟩ ?_
          exact ih _ _ (by assumption) (by assumption) (by omega) (by omega) (by omega)
    refine sg_lsub (lv' := [(5, _), (0, _), (3, _), (4, _)]) ⟨rfl, rfl, rfl, rfl, trivial⟩ ?_
    exact loop47 _ _ _ (by assumption) (by assumption) (by omega) (by omega) (Nat.lt_succ_self _)
  · refine sg_bipush (pc := 25) (z := -9) (dc_X5_read_0.2.2.2.1) (by decide) ?_
    refine sg_iret (pc := 27) (dc_X5_read_0.2.2.2.2) rfl (by first | exact Nat.le_of_ble_eq_true rfl | omega) (by first | exact Nat.le_of_ble_eq_true rfl | omega) ?_
    exact hQ _ _ (by assumption)

set_option maxRecDepth 100000 in
theorem s_X5_send {w : sg_W} {Q : sg_O → sg_H → Prop} {h : sg_H} (g : sg_G w) {d : Nat} (hd : 14 ≤ d) {B : Nat} (hx : ck_X h B) {trk code : Int} (hQ : ∀ (v : Int) (h' : sg_H), ck_Y h h' B → Q (.inl (some (sg_i v))) h') (hX : ∀ (E : String) (h' : sg_H), E ∈ [e_I, e_A] → (True) → ck_Y h h' B → Q (.inr E) h') : sg_C w mi_X5_send d 8 48 [sg_r B, sg_i trk, sg_i code] h Q := by
  refine sg_of pn_X5 (Nat.le_of_ble_eq_true rfl) ?_
  have y0 := ck_Y0 hx
  refine sg_aload_n (pc := 0) (j := 0) (dc_X5_send_0.1.1.1.1) rfl rfl ?_
  refine sg_iload_n (pc := 1) (j := 1) (dc_X5_send_0.1.1.1.2) rfl rfl ?_
  refine sg_cE1 (pc := 2) (d' := d - 1) (mc' := 1) (ms' := 6) 6 g (dc_X5_send_0.1.1.2.1) cb_X5_trackOf ml_X5_151 mn_X5_trackOf rfl mv_X5_trackOf (Nat.le_of_ble_eq_true rfl) (ck_oc (by assumption)) (Nat.le_of_ble_eq_true rfl) (by first | exact jl_d0 hd rfl | omega) (by first | exact Nat.le_of_ble_eq_true rfl | omega) (by first | exact Nat.le_of_ble_eq_true rfl | omega) ?_
  refine s_X5_trackOf g (by first | exact jl_d1 hd rfl | omega) (by assumption) (fun a2 l2 r2 r2b => sg_K1 ?_) (fun E2 g2 m2 t2 q2 => sg_KX (by first | exact Nat.le_of_ble_eq_true rfl | omega) (by first | exact Nat.le_of_ble_eq_true rfl | omega) (hX _ _ ((by decide : ∀ x ∈ [e_I], x ∈ [e_I, e_A]) _ m2) (by first | trivial | omega) (ck_YY (by assumption) q2)))
  refine sg_astore_n (pc := 5) (j := 3) (dc_X5_send_0.1.1.2.2) rfl (by decide) ?_
  refine sg_iload_n (pc := 6) (j := 2) (dc_X5_send_0.1.2.1.1) rfl rfl ?_
  refine sg_cS1 (pc := 7) (d' := d - 1) (mc' := 0) (ms' := 0) g (dc_X5_send_0.1.2.1.2) cb_X4_isAnyCode ml_X5_154 ms_X4_isAnyCode (Nat.le_of_ble_eq_true rfl) (by first | exact jl_d0 hd rfl | omega) (by first | exact Nat.le_of_ble_eq_true rfl | omega) (by first | exact Nat.le_of_ble_eq_true rfl | omega) ?_
  refine s_X4_isAnyCode g (by first | exact jl_d1 hd rfl | omega) (fun z7 h7 b7 => sg_K1 ?_)
  (try simp only [fn_code] at h7)
  refine sg_if_ne (pc := 10) (tgt := 23) (dc_X5_send_0.1.2.2.1) (by decide) (fun c10 => ?_) (fun c10 => ?_)
  · refine sg_aload_n (pc := 23) (j := 3) (dc_X5_send_0.2.2.1.1) rfl rfl ?_
    refine sg_iload_n (pc := 24) (j := 2) (dc_X5_send_0.2.2.1.2) rfl rfl ?_
    refine sg_cS1 (pc := 25) (d' := d - 1) (mc' := 0) (ms' := 0) g (dc_X5_send_0.2.2.2.1) cb_X4_unitsOf ml_X5_161 ms_X4_unitsOf (Nat.le_of_ble_eq_true rfl) (by first | exact jl_d0 hd rfl | omega) (by first | exact Nat.le_of_ble_eq_true rfl | omega) (by first | exact Nat.le_of_ble_eq_true rfl | omega) ?_
    refine s_X4_unitsOf g (by first | exact jl_d1 hd rfl | omega) (fun z25 h25 => sg_K1 ?_)
    (try simp only [fn_code] at h25)
    refine sg_cE1 (pc := 28) (d' := d - 1) (mc' := 0) (ms' := 0) 3 g (dc_X5_send_0.2.2.2.2) cb_X0_hasRoomFor ml_X5_44 mn_X0_hasRoomFor rfl mv_X0_hasRoomFor (Nat.le_of_ble_eq_true rfl) (ck_lc (by assumption) (by first | assumption | exact ck_rev)) (Nat.le_of_ble_eq_true rfl) (by first | exact jl_d0 hd rfl | omega) (by first | exact Nat.le_of_ble_eq_true rfl | omega) (by first | exact Nat.le_of_ble_eq_true rfl | omega) ?_
    refine s_X0_hasRoomFor g (by first | exact jl_d1 hd rfl | omega) (by assumption) (by first | assumption | exact ck_rev) (fun z28 b28 => sg_K1 ?_)
    refine sg_if_ne (pc := 31) (tgt := 37) (dc_X5_send_31.1.1.1.1) (by decide) (fun c31 => ?_) (fun c31 => ?_)
    · refine sg_aload_n (pc := 37) (j := 0) (dc_X5_send_31.1.1.2.2) rfl rfl ?_
      refine ck_gob (pc := 38) g (dc_X5_send_31.1.2.1.1) fk_X5_19 (by assumption) (fun _ => rfl) ?_
      refine sg_aload_n (pc := 41) (j := 0) (dc_X5_send_31.1.2.1.2) rfl rfl ?_
      refine ck_gob (pc := 42) g (dc_X5_send_31.1.2.2.1) fk_X5_10 (by assumption) (fun _ => rfl) ?_
      refine sg_cE1 (pc := 45) (d' := d - 1) (mc' := 0) (ms' := 0) 4 g (dc_X5_send_31.1.2.2.2) cb_X1_keep ml_X5_55 mn_X1_keep rfl mv_X1_keep (Nat.le_of_ble_eq_true rfl) (ck_pc (by assumption)) (Nat.le_of_ble_eq_true rfl) (by first | exact jl_d0 hd rfl | omega) (by first | exact Nat.le_of_ble_eq_true rfl | omega) (by first | exact Nat.le_of_ble_eq_true rfl | omega) ?_
      refine s_X1_keep g (by first | exact jl_d1 hd rfl | omega) (by assumption) ck_now (fun h45 x45 f45 => sg_K0 ?_)
      have y45 := ck_Yt (h0 := h) (by assumption) x45 f45
      refine sg_aload_n (pc := 48) (j := 3) (dc_X5_send_31.2.1.1.1) rfl rfl ?_
      refine sg_iload_n (pc := 49) (j := 2) (dc_X5_send_31.2.1.1.2) rfl rfl ?_
      refine sg_cS2 (pc := 50) (d' := d - 1) (mc' := 0) (ms' := 0) g (dc_X5_send_31.2.1.2.1) cb_X4_addCode ml_X5_164 ms_X4_addCode (Nat.le_of_ble_eq_true rfl) (by first | exact jl_d0 hd rfl | omega) (by first | exact Nat.le_of_ble_eq_true rfl | omega) (by first | exact Nat.le_of_ble_eq_true rfl | omega) ?_
      refine s_X4_addCode g (by first | exact jl_d1 hd rfl | omega) (by assumption) (by assumption) (by first | omega | assumption | (simp only [ck_v1, ck_v2] at * <;> omega)) (fun h50 x50 f50 => sg_K0 ?_)
      have y50 := ck_Yt (h0 := h) (by assumption) x50 f50.1
      refine sg_aload_n (pc := 53) (j := 3) (dc_X5_send_31.2.1.2.2) rfl rfl ?_
      refine sg_cE0 (pc := 54) (d' := d - 1) (mc' := 0) (ms' := 0) 3 g (dc_X5_send_31.2.2.1.1) cb_X0_size ml_X5_63 mn_X0_size rfl mv_X0_size (Nat.le_of_ble_eq_true rfl) (ck_lc (by assumption) (by first | assumption | exact ck_rev)) (Nat.le_of_ble_eq_true rfl) (by first | exact jl_d0 hd rfl | omega) (by first | exact Nat.le_of_ble_eq_true rfl | omega) (by first | exact Nat.le_of_ble_eq_true rfl | omega) ?_
      refine s_X0_size g (by first | exact jl_d1 hd rfl | omega) (by assumption) (by first | assumption | exact ck_rev) (fun z54 l54 u54 N54 => sg_K1 ?_)
      refine sg_iret (pc := 57) (dc_X5_send_31.2.2.1.2) rfl (by first | exact Nat.le_of_ble_eq_true rfl | omega) (by first | exact Nat.le_of_ble_eq_true rfl | omega) ?_
      exact hQ _ _ (by assumption)
    · refine sg_bipush (pc := 34) (z := -9) (dc_X5_send_31.1.1.1.2) (by decide) ?_
      refine sg_iret (pc := 36) (dc_X5_send_31.1.1.2.1) rfl (by first | exact Nat.le_of_ble_eq_true rfl | omega) (by first | exact Nat.le_of_ble_eq_true rfl | omega) ?_
      exact hQ _ _ (by assumption)
  · refine sg_throw (pc := 13) g th_X5_110_159 (dc_X5_send_0.1.2.2.2) (dc_X5_send_0.2.1.1.1) (dc_X5_send_0.2.1.1.2) (dc_X5_send_0.2.1.2.1) (dc_X5_send_0.2.1.2.2) (by first | exact Nat.le_trans (Nat.le_of_ble_eq_true rfl) hd | omega) (Nat.le_of_ble_eq_true rfl) (by first | exact Nat.le_of_ble_eq_true rfl | omega) (by first | exact Nat.le_of_ble_eq_true rfl | omega) ?_
    exact fun z hz => hX _ _ (by decide) (by first | trivial | omega) (ck_Yz (by assumption) hz)

set_option maxRecDepth 100000 in
theorem s_X5_put {w : sg_W} {Q : sg_O → sg_H → Prop} {h : sg_H} (g : sg_G w) {d : Nat} (hd : 14 ≤ d) {B : Nat} (hx : ck_X h B) {trk u : Int} (hQ : ∀ (v : Int) (h' : sg_H), ck_Y h h' B → Q (.inl (some (sg_i v))) h') (hX : ∀ (E : String) (h' : sg_H), E ∈ [e_I, e_A] → (True) → ck_Y h h' B → Q (.inr E) h') : sg_C w mi_X5_put d 8 48 [sg_r B, sg_i trk, sg_i u] h Q := by
  refine sg_of pn_X5 (Nat.le_of_ble_eq_true rfl) ?_
  have y0 := ck_Y0 hx
  refine sg_aload_n (pc := 0) (j := 0) (dc_X5_put_0.1.1.1.1) rfl rfl ?_
  refine sg_iload_n (pc := 1) (j := 1) (dc_X5_put_0.1.1.1.2) rfl rfl ?_
  refine sg_cE1 (pc := 2) (d' := d - 1) (mc' := 1) (ms' := 6) 6 g (dc_X5_put_0.1.1.2.1) cb_X5_trackOf ml_X5_151 mn_X5_trackOf rfl mv_X5_trackOf (Nat.le_of_ble_eq_true rfl) (ck_oc (by assumption)) (Nat.le_of_ble_eq_true rfl) (by first | exact jl_d0 hd rfl | omega) (by first | exact Nat.le_of_ble_eq_true rfl | omega) (by first | exact Nat.le_of_ble_eq_true rfl | omega) ?_
  refine s_X5_trackOf g (by first | exact jl_d1 hd rfl | omega) (by assumption) (fun a2 l2 r2 r2b => sg_K1 ?_) (fun E2 g2 m2 t2 q2 => sg_KX (by first | exact Nat.le_of_ble_eq_true rfl | omega) (by first | exact Nat.le_of_ble_eq_true rfl | omega) (hX _ _ ((by decide : ∀ x ∈ [e_I], x ∈ [e_I, e_A]) _ m2) (by first | trivial | omega) (ck_YY (by assumption) q2)))
  refine sg_astore_n (pc := 5) (j := 3) (dc_X5_put_0.1.1.2.2) rfl (by decide) ?_
  refine sg_iload_n (pc := 6) (j := 2) (dc_X5_put_0.1.2.1.1) rfl rfl ?_
  refine sg_cS1 (pc := 7) (d' := d - 1) (mc' := 1) (ms' := 6) g (dc_X5_put_0.1.2.1.2) cb_X5_checkUnit ml_X5_167 ms_X5_checkUnit (Nat.le_of_ble_eq_true rfl) (by first | exact jl_d0 hd rfl | omega) (by first | exact Nat.le_of_ble_eq_true rfl | omega) (by first | exact Nat.le_of_ble_eq_true rfl | omega) ?_
  refine s_X5_checkUnit g (by first | exact jl_d1 hd rfl | omega) (fun v7 => sg_K0 ?_) (fun v7 z7 w7 => sg_KX (by first | exact Nat.le_of_ble_eq_true rfl | omega) (by first | exact Nat.le_of_ble_eq_true rfl | omega) (hX _ _ (by decide) (by first | trivial | omega) (ck_Yz (by assumption) w7)))
  refine sg_aload_n (pc := 10) (j := 3) (dc_X5_put_0.1.2.2.1) rfl rfl ?_
  refine sg_iconst (pc := 11) (z := 1) (dc_X5_put_0.1.2.2.2) (by decide) ?_
  refine sg_cE1 (pc := 12) (d' := d - 1) (mc' := 0) (ms' := 0) 3 g (dc_X5_put_0.2.1.1.1) cb_X0_hasRoomFor ml_X5_44 mn_X0_hasRoomFor rfl mv_X0_hasRoomFor (Nat.le_of_ble_eq_true rfl) (ck_lc (by assumption) (by first | assumption | exact ck_rev)) (Nat.le_of_ble_eq_true rfl) (by first | exact jl_d0 hd rfl | omega) (by first | exact Nat.le_of_ble_eq_true rfl | omega) (by first | exact Nat.le_of_ble_eq_true rfl | omega) ?_
  refine s_X0_hasRoomFor g (by first | exact jl_d1 hd rfl | omega) (by assumption) (by first | assumption | exact ck_rev) (fun z12 b12 => sg_K1 ?_)
  refine sg_if_ne (pc := 15) (tgt := 21) (dc_X5_put_0.2.1.1.2) (by decide) (fun c15 => ?_) (fun c15 => ?_)
  · refine sg_aload_n (pc := 21) (j := 0) (dc_X5_put_0.2.2.1.1) rfl rfl ?_
    refine ck_gob (pc := 22) g (dc_X5_put_0.2.2.1.2) fk_X5_19 (by assumption) (fun _ => rfl) ?_
    refine sg_aload_n (pc := 25) (j := 0) (dc_X5_put_0.2.2.2.1) rfl rfl ?_
    refine ck_gob (pc := 26) g (dc_X5_put_0.2.2.2.2) fk_X5_10 (by assumption) (fun _ => rfl) ?_
    refine sg_cE1 (pc := 29) (d' := d - 1) (mc' := 0) (ms' := 0) 4 g (dc_X5_put_29.1.1.1) cb_X1_keep ml_X5_55 mn_X1_keep rfl mv_X1_keep (Nat.le_of_ble_eq_true rfl) (ck_pc (by assumption)) (Nat.le_of_ble_eq_true rfl) (by first | exact jl_d0 hd rfl | omega) (by first | exact Nat.le_of_ble_eq_true rfl | omega) (by first | exact Nat.le_of_ble_eq_true rfl | omega) ?_
    refine s_X1_keep g (by first | exact jl_d1 hd rfl | omega) (by assumption) ck_now (fun h29 x29 f29 => sg_K0 ?_)
    have y29 := ck_Yt (h0 := h) (by assumption) x29 f29
    refine sg_aload_n (pc := 32) (j := 3) (dc_X5_put_29.1.1.2) rfl rfl ?_
    refine sg_iload_n (pc := 33) (j := 2) (dc_X5_put_29.1.2.1) rfl rfl ?_
    refine sg_cE1 (pc := 34) (d' := d - 1) (mc' := 0) (ms' := 0) 3 g (dc_X5_put_29.1.2.2) cb_X0_add ml_X5_129 mn_X0_add rfl mv_X0_add (Nat.le_of_ble_eq_true rfl) (ck_lc (by assumption) (by first | assumption | exact ck_rev)) (Nat.le_of_ble_eq_true rfl) (by first | exact jl_d0 hd rfl | omega) (by first | exact Nat.le_of_ble_eq_true rfl | omega) (by first | exact Nat.le_of_ble_eq_true rfl | omega) ?_
    refine s_X0_add g (by first | exact jl_d1 hd rfl | omega) (by assumption) (by assumption) (by first | exact ck_v0 | assumption | (simp only [ck_v1, ck_v2] at * <;> omega)) (fun h34 x34 f34 => sg_K0 ?_)
    have y34 := ck_Yt (h0 := h) (by assumption) x34 f34.1
    refine sg_aload_n (pc := 37) (j := 3) (dc_X5_put_29.2.1.1) rfl rfl ?_
    refine sg_cE0 (pc := 38) (d' := d - 1) (mc' := 0) (ms' := 0) 3 g (dc_X5_put_29.2.1.2) cb_X0_size ml_X5_63 mn_X0_size rfl mv_X0_size (Nat.le_of_ble_eq_true rfl) (ck_lc (by assumption) (by first | assumption | exact ck_rev)) (Nat.le_of_ble_eq_true rfl) (by first | exact jl_d0 hd rfl | omega) (by first | exact Nat.le_of_ble_eq_true rfl | omega) (by first | exact Nat.le_of_ble_eq_true rfl | omega) ?_
    refine s_X0_size g (by first | exact jl_d1 hd rfl | omega) (by assumption) (by first | assumption | exact ck_rev) (fun z38 l38 u38 N38 => sg_K1 ?_)
    refine sg_iret (pc := 41) (dc_X5_put_29.2.2.1) rfl (by first | exact Nat.le_of_ble_eq_true rfl | omega) (by first | exact Nat.le_of_ble_eq_true rfl | omega) ?_
    exact hQ _ _ (by assumption)
  · refine sg_bipush (pc := 18) (z := -9) (dc_X5_put_0.2.1.2.1) (by decide) ?_
    refine sg_iret (pc := 20) (dc_X5_put_0.2.1.2.2) rfl (by first | exact Nat.le_of_ble_eq_true rfl | omega) (by first | exact Nat.le_of_ble_eq_true rfl | omega) ?_
    exact hQ _ _ (by assumption)

set_option maxRecDepth 100000 in
theorem s_X5_cut {w : sg_W} {Q : sg_O → sg_H → Prop} {h : sg_H} (g : sg_G w) {d : Nat} (hd : 14 ≤ d) {B : Nat} (hx : ck_X h B) {trk many : Int} (hQ : ∀ (v : Int) (h' : sg_H), ck_Y h h' B → Q (.inl (some (sg_i v))) h') (hX : ∀ (E : String) (h' : sg_H), E ∈ [e_I, e_A] → (True) → ck_Y h h' B → Q (.inr E) h') : sg_C w mi_X5_cut d 8 48 [sg_r B, sg_i trk, sg_i many] h Q := by
  refine sg_of pn_X5 (Nat.le_of_ble_eq_true rfl) ?_
  have y0 := ck_Y0 hx
  refine sg_aload_n (pc := 0) (j := 0) (dc_X5_cut_0.1.1.1) rfl rfl ?_
  refine sg_aload_n (pc := 1) (j := 0) (dc_X5_cut_0.1.1.2) rfl rfl ?_
  refine sg_iload_n (pc := 2) (j := 1) (dc_X5_cut_0.1.2.1) rfl rfl ?_
  refine sg_cE1 (pc := 3) (d' := d - 1) (mc' := 1) (ms' := 6) 6 g (dc_X5_cut_0.1.2.2) cb_X5_trackOf ml_X5_151 mn_X5_trackOf rfl mv_X5_trackOf (Nat.le_of_ble_eq_true rfl) (ck_oc (by assumption)) (Nat.le_of_ble_eq_true rfl) (by first | exact jl_d0 hd rfl | omega) (by first | exact Nat.le_of_ble_eq_true rfl | omega) (by first | exact Nat.le_of_ble_eq_true rfl | omega) ?_
  refine s_X5_trackOf g (by first | exact jl_d1 hd rfl | omega) (by assumption) (fun a3 l3 r3 r3b => sg_K1 ?_) (fun E3 g3 m3 t3 q3 => sg_KX (by first | exact Nat.le_of_ble_eq_true rfl | omega) (by first | exact Nat.le_of_ble_eq_true rfl | omega) (hX _ _ ((by decide : ∀ x ∈ [e_I], x ∈ [e_I, e_A]) _ m3) (by first | trivial | omega) (ck_YY (by assumption) q3)))
  refine sg_iload_n (pc := 6) (j := 2) (dc_X5_cut_0.2.1.1) rfl rfl ?_
  refine sg_cE2 (pc := 7) (d' := d - 1) (mc' := 1) (ms' := 6) 6 g (dc_X5_cut_0.2.1.2) cb_X5_shorten ml_X5_67 mn_X5_shorten rfl mv_X5_shorten (Nat.le_of_ble_eq_true rfl) (ck_oc (by assumption)) (Nat.le_of_ble_eq_true rfl) (by first | exact jl_d0 hd rfl | omega) (by first | exact Nat.le_of_ble_eq_true rfl | omega) (by first | exact Nat.le_of_ble_eq_true rfl | omega) ?_
  refine s_X5_shorten g (by first | exact jl_d1 hd rfl | omega) (by assumption) (by assumption) (fun v7 h7 y7 => sg_K1 ?_) (fun E7 g7 m7 t7 q7 => sg_KX (by first | exact Nat.le_of_ble_eq_true rfl | omega) (by first | exact Nat.le_of_ble_eq_true rfl | omega) (hX _ _ ((by decide : ∀ x ∈ [e_A], x ∈ [e_I, e_A]) _ m7) (by first | trivial | omega) (ck_YY (by assumption) q7)))
  have x7 := y7.1
  have y7 := ck_YY (h0 := h) (by assumption) y7
  refine sg_iret (pc := 10) (dc_X5_cut_0.2.2.1) rfl (by first | exact Nat.le_of_ble_eq_true rfl | omega) (by first | exact Nat.le_of_ble_eq_true rfl | omega) ?_
  exact hQ _ _ (by assumption)

set_option maxRecDepth 100000 in
theorem s_X5_flip {w : sg_W} {Q : sg_O → sg_H → Prop} {h : sg_H} (g : sg_G w) {d : Nat} (hd : 14 ≤ d) {B : Nat} (hx : ck_X h B) {trk : Int} (hQ : ∀ (v : Int) (h' : sg_H), ck_Y h h' B → Q (.inl (some (sg_i v))) h') (hX : ∀ (E : String) (h' : sg_H), E ∈ [e_I] → (True) → ck_Y h h' B → Q (.inr E) h') : sg_C w mi_X5_flip d 8 48 [sg_r B, sg_i trk] h Q := by
  refine sg_of pn_X5 (Nat.le_of_ble_eq_true rfl) ?_
  have y0 := ck_Y0 hx
  refine sg_aload_n (pc := 0) (j := 0) (dc_X5_flip_0.1.1.1.1) rfl rfl ?_
  refine sg_iload_n (pc := 1) (j := 1) (dc_X5_flip_0.1.1.1.2) rfl rfl ?_
  refine sg_cE1 (pc := 2) (d' := d - 1) (mc' := 1) (ms' := 6) 6 g (dc_X5_flip_0.1.1.2.1) cb_X5_trackOf ml_X5_151 mn_X5_trackOf rfl mv_X5_trackOf (Nat.le_of_ble_eq_true rfl) (ck_oc (by assumption)) (Nat.le_of_ble_eq_true rfl) (by first | exact jl_d0 hd rfl | omega) (by first | exact Nat.le_of_ble_eq_true rfl | omega) (by first | exact Nat.le_of_ble_eq_true rfl | omega) ?_
  refine s_X5_trackOf g (by first | exact jl_d1 hd rfl | omega) (by assumption) (fun a2 l2 r2 r2b => sg_K1 ?_) (fun E2 g2 m2 t2 q2 => sg_KX (by first | exact Nat.le_of_ble_eq_true rfl | omega) (by first | exact Nat.le_of_ble_eq_true rfl | omega) (hX _ _ ((by decide : ∀ x ∈ [e_I], x ∈ [e_I]) _ m2) (by first | trivial | omega) (ck_YY (by assumption) q2)))
  refine sg_astore_n (pc := 5) (j := 2) (dc_X5_flip_0.1.1.2.2) rfl (by decide) ?_
  refine sg_aload_n (pc := 6) (j := 0) (dc_X5_flip_0.1.2.1.1) rfl rfl ?_
  refine ck_gob (pc := 7) g (dc_X5_flip_0.1.2.1.2) fk_X5_19 (by assumption) (fun _ => rfl) ?_
  refine sg_aload_n (pc := 10) (j := 0) (dc_X5_flip_0.1.2.2.1) rfl rfl ?_
  refine ck_gob (pc := 11) g (dc_X5_flip_0.1.2.2.2) fk_X5_10 (by assumption) (fun _ => rfl) ?_
  refine sg_cE1 (pc := 14) (d' := d - 1) (mc' := 0) (ms' := 0) 4 g (dc_X5_flip_0.2.1.1.1) cb_X1_keep ml_X5_55 mn_X1_keep rfl mv_X1_keep (Nat.le_of_ble_eq_true rfl) (ck_pc (by assumption)) (Nat.le_of_ble_eq_true rfl) (by first | exact jl_d0 hd rfl | omega) (by first | exact Nat.le_of_ble_eq_true rfl | omega) (by first | exact Nat.le_of_ble_eq_true rfl | omega) ?_
  refine s_X1_keep g (by first | exact jl_d1 hd rfl | omega) (by assumption) ck_now (fun h14 x14 f14 => sg_K0 ?_)
  have y14 := ck_Yt (h0 := h) (by assumption) x14 f14
  refine sg_iconst (pc := 17) (z := 0) (dc_X5_flip_0.2.1.1.2) (by decide) ?_
  refine sg_istore_n (pc := 18) (j := 3) (dc_X5_flip_0.2.1.2.1) rfl (by decide) ?_
  refine sg_iconst (pc := 19) (z := 0) (dc_X5_flip_0.2.1.2.2) (by decide) ?_
  refine sg_istore (pc := 20) (dc_X5_flip_0.2.2.1.1) (by decide) ?_
  have loop22 : ∀ (N : Nat) (h1 : sg_H) (p s : Int), ck_X h1 B → ck_Y h h1 B → 0 ≤ p → (40 - p).toNat < N → sg_R w mi_X5_flip d 8 48 Q 22 [(4, sg_i p), (3, sg_i s), (0, sg_r B), (2, sg_r a2)] [] h1 1 6 := by
    intro N
    induction N with
    | zero => intro h1 p s x1 y1 p0 hm; exact absurd hm (Nat.not_lt_zero _)
    | succ N ih =>
      intro h1 p s x1 y1 p0 hm
      refine sg_iload (pc := 22) (dc_X5_flip_0.2.2.1.2) rfl ?_
      refine sg_aload_n (pc := 24) (j := 2) (dc_X5_flip_0.2.2.2.1) rfl rfl ?_
      refine sg_cE0 (pc := 25) (d' := d - 1) (mc' := 0) (ms' := 0) 3 g (dc_X5_flip_0.2.2.2.2) cb_X0_size ml_X5_63 mn_X0_size rfl mv_X0_size (Nat.le_of_ble_eq_true rfl) (ck_lc (by assumption) (by first | assumption | exact ck_rev)) (Nat.le_of_ble_eq_true rfl) (by first | exact jl_d0 hd rfl | omega) (by first | exact Nat.le_of_ble_eq_true rfl | omega) (by first | exact Nat.le_of_ble_eq_true rfl | omega) ?_
      refine s_X0_size g (by first | exact jl_d1 hd rfl | omega) (by assumption) (by first | assumption | exact ck_rev) (fun z25 l25 u25 N25 => sg_K1 ?_)
      refine sg_icmp_ge (pc := 28) (tgt := 67) (dc_X5_flip_28.1.1.1.1) (by decide) (fun c28 => ?_) (fun c28 => ?_)
      · refine sg_iload_n (pc := 67) (j := 3) (dc_X5_flip_67.1) rfl rfl ?_
        refine sg_iret (pc := 68) (dc_X5_flip_67.2) rfl (by first | exact Nat.le_of_ble_eq_true rfl | omega) (by first | exact Nat.le_of_ble_eq_true rfl | omega) ?_
        exact hQ _ _ (by assumption)
      · refine sg_aload_n (pc := 31) (j := 2) (dc_X5_flip_28.1.1.1.2) rfl rfl ?_
        refine sg_iload (pc := 32) (dc_X5_flip_28.1.1.2.1) rfl ?_
        refine sg_cE1 (pc := 34) (d' := d - 1) (mc' := 0) (ms' := 0) 3 g (dc_X5_flip_28.1.1.2.2) cb_X0_get ml_X5_75 mn_X0_get rfl mv_X0_get (Nat.le_of_ble_eq_true rfl) (ck_lc (by assumption) (by first | assumption | exact ck_rev)) (Nat.le_of_ble_eq_true rfl) (by first | exact jl_d0 hd rfl | omega) (by first | exact Nat.le_of_ble_eq_true rfl | omega) (by first | exact Nat.le_of_ble_eq_true rfl | omega) ?_
        refine s_X0_get g (by first | exact jl_d1 hd rfl | omega) (by assumption) (by first | assumption | exact ck_rev) (fun z34 G34 v34 => sg_K1 ?_)
        refine sg_cS1 (pc := 37) (d' := d - 1) (mc' := 0) (ms' := 0) g (dc_X5_flip_28.1.2.1.1) cb_X4_turned ml_X5_170 ms_X4_turned (Nat.le_of_ble_eq_true rfl) (by first | exact jl_d0 hd rfl | omega) (by first | exact Nat.le_of_ble_eq_true rfl | omega) (by first | exact Nat.le_of_ble_eq_true rfl | omega) ?_
        refine s_X4_turned g (by first | exact jl_d1 hd rfl | omega) (fun z37 h37 => sg_K1 ?_)
        refine sg_istore (pc := 40) (dc_X5_flip_28.1.2.1.2) (by decide) ?_
        refine sg_aload_n (pc := 42) (j := 2) (dc_X5_flip_28.1.2.2.1) rfl rfl ?_
        refine sg_iload (pc := 43) (dc_X5_flip_28.1.2.2.2) rfl ?_
        refine sg_iload (pc := 45) (dc_X5_flip_28.2.1.1.1) rfl ?_
        have q47 := ck_v1.mp (v34 _ N25 (by omega) (by omega))
        have r47 : ck_v 1 z37 := ck_v1.mpr (by omega)
        refine sg_cE2 (pc := 47) (d' := d - 1) (mc' := 0) (ms' := 0) 3 g (dc_X5_flip_28.2.1.1.2) cb_X0_set ml_X5_86 mn_X0_set rfl mv_X0_set (Nat.le_of_ble_eq_true rfl) (ck_lc (by assumption) (by first | assumption | exact ck_rev)) (Nat.le_of_ble_eq_true rfl) (by first | exact jl_d0 hd rfl | omega) (by first | exact Nat.le_of_ble_eq_true rfl | omega) (by first | exact Nat.le_of_ble_eq_true rfl | omega) ?_
        refine s_X0_set g (by first | exact jl_d1 hd rfl | omega) (by assumption) (by assumption) (by first | exact ck_v0 | assumption | (simp only [ck_v1, ck_v2] at * <;> omega)) (fun h47 x47 f47 => sg_K0 ?_)
        have y47 := ck_Yt (h0 := h) (by assumption) x47 f47.1
        refine sg_iload (pc := 50) (dc_X5_flip_28.2.1.2.1) rfl ?_
        refine sg_cS1 (pc := 52) (d' := d - 1) (mc' := 0) (ms' := 0) g (dc_X5_flip_28.2.1.2.2) cb_X4_isHalf ml_X5_173 ms_X4_isHalf (Nat.le_of_ble_eq_true rfl) (by first | exact jl_d0 hd rfl | omega) (by first | exact Nat.le_of_ble_eq_true rfl | omega) (by first | exact Nat.le_of_ble_eq_true rfl | omega) ?_
        refine s_X4_isHalf g (by first | exact jl_d1 hd rfl | omega) (fun z52 h52 b52 => sg_K1 ?_)
        refine sg_if_eq (pc := 55) (tgt := 61) (dc_X5_flip_28.2.2.1.1) (by decide) (fun c55 => ?_) (fun c55 => ?_)
        · first | refine sg_iincB (pc := 61) (dc_X5_flip_28.2.2.2.1) rfl (by decide) (by decide) (by omega) (by omega) ?_ | refine sg_iinc (pc := 61) (dc_X5_flip_28.2.2.2.1) rfl (by decide) (by decide) ?_
          refine sg_goto (pc := 64) (tgt := 22) (dc_X5_flip_28.2.2.2.2) (by decide) ?_
          refine sg_lsub (lv' := [(4, _), (3, _), (0, _), (2, _)]) ⟨rfl, rfl, rfl, rfl, trivial⟩ ?_
          exact ih _ _ _ (by assumption) (by assumption) (by omega) (by omega)
        · first | refine sg_iincB (pc := 58) (dc_X5_flip_28.2.2.1.2) rfl (by decide) (by decide) (by omega) (by omega) ?_ | refine sg_iinc (pc := 58) (dc_X5_flip_28.2.2.1.2) rfl (by decide) (by decide) ?_
          first | refine sg_iincB (pc := 61) (dc_X5_flip_28.2.2.2.1) rfl (by decide) (by decide) (by omega) (by omega) ?_ | refine sg_iinc (pc := 61) (dc_X5_flip_28.2.2.2.1) rfl (by decide) (by decide) ?_
          refine sg_goto (pc := 64) (tgt := 22) (dc_X5_flip_28.2.2.2.2) (by decide) ?_
          refine sg_lsub (lv' := [(4, _), (3, _), (0, _), (2, _)]) ⟨rfl, rfl, rfl, rfl, trivial⟩ ?_
          exact ih _ _ _ (by assumption) (by assumption) (by omega) (by omega)
  refine sg_lsub (lv' := [(4, _), (3, _), (0, _), (2, _)]) ⟨rfl, rfl, rfl, rfl, trivial⟩ ?_
  exact loop22 _ _ _ _ (by assumption) (by assumption) (by omega) (Nat.lt_succ_self _)

set_option maxRecDepth 100000 in
theorem s_X5_reverse {w : sg_W} {Q : sg_O → sg_H → Prop} {h : sg_H} (g : sg_G w) {d : Nat} (hd : 14 ≤ d) {B : Nat} (hx : ck_X h B) {trk : Int} (hQ : ∀ (v : Int) (h' : sg_H), ck_Y h h' B → Q (.inl (some (sg_i v))) h') (hX : ∀ (E : String) (h' : sg_H), E ∈ [e_I] → (True) → ck_Y h h' B → Q (.inr E) h') : sg_C w mi_X5_reverse d 8 48 [sg_r B, sg_i trk] h Q := by
  refine sg_of pn_X5 (Nat.le_of_ble_eq_true rfl) ?_
  have y0 := ck_Y0 hx
  refine sg_aload_n (pc := 0) (j := 0) (dc_X5_reverse_0.1.1.1.1) rfl rfl ?_
  refine sg_iload_n (pc := 1) (j := 1) (dc_X5_reverse_0.1.1.1.2) rfl rfl ?_
  refine sg_cE1 (pc := 2) (d' := d - 1) (mc' := 1) (ms' := 6) 6 g (dc_X5_reverse_0.1.1.2.1) cb_X5_trackOf ml_X5_151 mn_X5_trackOf rfl mv_X5_trackOf (Nat.le_of_ble_eq_true rfl) (ck_oc (by assumption)) (Nat.le_of_ble_eq_true rfl) (by first | exact jl_d0 hd rfl | omega) (by first | exact Nat.le_of_ble_eq_true rfl | omega) (by first | exact Nat.le_of_ble_eq_true rfl | omega) ?_
  refine s_X5_trackOf g (by first | exact jl_d1 hd rfl | omega) (by assumption) (fun a2 l2 r2 r2b => sg_K1 ?_) (fun E2 g2 m2 t2 q2 => sg_KX (by first | exact Nat.le_of_ble_eq_true rfl | omega) (by first | exact Nat.le_of_ble_eq_true rfl | omega) (hX _ _ ((by decide : ∀ x ∈ [e_I], x ∈ [e_I]) _ m2) (by first | trivial | omega) (ck_YY (by assumption) q2)))
  refine sg_astore_n (pc := 5) (j := 2) (dc_X5_reverse_0.1.1.2.2) rfl (by decide) ?_
  refine sg_aload_n (pc := 6) (j := 0) (dc_X5_reverse_0.1.2.1.1) rfl rfl ?_
  refine ck_gob (pc := 7) g (dc_X5_reverse_0.1.2.1.2) fk_X5_19 (by assumption) (fun _ => rfl) ?_
  refine sg_aload_n (pc := 10) (j := 0) (dc_X5_reverse_0.1.2.2.1) rfl rfl ?_
  refine ck_gob (pc := 11) g (dc_X5_reverse_0.1.2.2.2) fk_X5_10 (by assumption) (fun _ => rfl) ?_
  refine sg_cE1 (pc := 14) (d' := d - 1) (mc' := 0) (ms' := 0) 4 g (dc_X5_reverse_0.2.1.1.1) cb_X1_keep ml_X5_55 mn_X1_keep rfl mv_X1_keep (Nat.le_of_ble_eq_true rfl) (ck_pc (by assumption)) (Nat.le_of_ble_eq_true rfl) (by first | exact jl_d0 hd rfl | omega) (by first | exact Nat.le_of_ble_eq_true rfl | omega) (by first | exact Nat.le_of_ble_eq_true rfl | omega) ?_
  refine s_X1_keep g (by first | exact jl_d1 hd rfl | omega) (by assumption) ck_now (fun h14 x14 f14 => sg_K0 ?_)
  have y14 := ck_Yt (h0 := h) (by assumption) x14 f14
  refine sg_aload_n (pc := 17) (j := 2) (dc_X5_reverse_0.2.1.1.2) rfl rfl ?_
  refine sg_aload_n (pc := 18) (j := 0) (dc_X5_reverse_0.2.1.2.1) rfl rfl ?_
  refine ck_gob (pc := 19) g (dc_X5_reverse_0.2.1.2.2) fk_X5_28 (by assumption) (fun _ => rfl) ?_
  refine sg_cS2 (pc := 22) (d' := d - 1) (mc' := 0) (ms' := 0) g (dc_X5_reverse_0.2.2.1.1) cb_X4_listCodes ml_X5_176 ms_X4_listCodes (Nat.le_of_ble_eq_true rfl) (by first | exact jl_d0 hd rfl | omega) (by first | exact Nat.le_of_ble_eq_true rfl | omega) (by first | exact Nat.le_of_ble_eq_true rfl | omega) ?_
  refine s_X4_listCodes g (by first | exact jl_d1 hd rfl | omega) (by assumption) (by assumption) (by first | assumption | exact ck_rev) (fun h22 x22 f22 => sg_K0 ?_)
  have y22 := ck_Yt (h0 := h) (by assumption) x22 f22
  refine sg_aload_n (pc := 25) (j := 2) (dc_X5_reverse_0.2.2.1.2) rfl rfl ?_
  refine sg_cE0 (pc := 26) (d' := d - 1) (mc' := 0) (ms' := 0) 3 g (dc_X5_reverse_0.2.2.2.1) cb_X0_clear ml_X5_135 mn_X0_clear rfl mv_X0_clear (Nat.le_of_ble_eq_true rfl) (ck_lc (by assumption) (by first | assumption | exact ck_rev)) (Nat.le_of_ble_eq_true rfl) (by first | exact jl_d0 hd rfl | omega) (by first | exact Nat.le_of_ble_eq_true rfl | omega) (by first | exact Nat.le_of_ble_eq_true rfl | omega) ?_
  refine s_X0_clear g (by first | exact jl_d1 hd rfl | omega) (by assumption) (by assumption) (fun h26 x26 f26 => sg_K0 ?_)
  have y26 := ck_Yt (h0 := h) (by assumption) x26 f26.1
  refine sg_aload_n (pc := 29) (j := 0) (dc_X5_reverse_0.2.2.2.2) rfl rfl ?_
  refine ck_gob (pc := 30) g (dc_X5_reverse_30.1.1.1.1) fk_X5_28 (by assumption) (fun _ => rfl) ?_
  refine sg_cE0 (pc := 33) (d' := d - 1) (mc' := 0) (ms' := 0) 3 g (dc_X5_reverse_30.1.1.1.2) cb_X0_size ml_X5_63 mn_X0_size rfl mv_X0_size (Nat.le_of_ble_eq_true rfl) (ck_lc (by assumption) (by first | assumption | exact ck_rev)) (Nat.le_of_ble_eq_true rfl) (by first | exact jl_d0 hd rfl | omega) (by first | exact Nat.le_of_ble_eq_true rfl | omega) (by first | exact Nat.le_of_ble_eq_true rfl | omega) ?_
  refine s_X0_size g (by first | exact jl_d1 hd rfl | omega) (by assumption) (by first | assumption | exact ck_rev) (fun z33 l33 u33 N33 => sg_K1 ?_)
  refine sg_iconst (pc := 36) (z := 1) (dc_X5_reverse_30.1.1.2.1) (by decide) ?_
  first | refine sg_isubB (pc := 37) (dc_X5_reverse_30.1.1.2.2) (by omega) (by omega) ?_ | refine sg_isub (pc := 37) (dc_X5_reverse_30.1.1.2.2) ?_
  refine sg_istore_n (pc := 38) (j := 3) (dc_X5_reverse_30.1.2.1.1) rfl (by decide) ?_
  have loop39 : ∀ (N : Nat) (h1 : sg_H) (p : Int), ck_X h1 B → ck_Y h h1 B → ck_N h1 (B + 108) z33 → p < z33 → (p + 1).toNat < N → sg_R w mi_X5_reverse d 8 48 Q 39 [(3, sg_i p), (0, sg_r B), (2, sg_r a2)] [] h1 1 6 := by
    intro N
    induction N with
    | zero => intro h1 p x1 y1 N1 p1 hm; exact absurd hm (Nat.not_lt_zero _)
    | succ N ih =>
      intro h1 p x1 y1 N1 p1 hm
      refine sg_iload_n (pc := 39) (j := 3) (dc_X5_reverse_30.1.2.1.2) rfl rfl ?_
      refine sg_if_lt (pc := 40) (tgt := 61) (dc_X5_reverse_30.1.2.2.1) (by decide) (fun c40 => ?_) (fun c40 => ?_)
      · refine sg_aload_n (pc := 61) (j := 2) (dc_X5_reverse_30.2.2.2.2) rfl rfl ?_
        refine sg_iconst (pc := 62) (z := 1) (dc_X5_reverse_62.1.1) (by decide) ?_
        refine sg_cS2 (pc := 63) (d' := d - 1) (mc' := 0) (ms' := 0) g (dc_X5_reverse_62.1.2) cb_X4_howMany ml_X5_180 ms_X4_howMany (Nat.le_of_ble_eq_true rfl) (by first | exact jl_d0 hd rfl | omega) (by first | exact Nat.le_of_ble_eq_true rfl | omega) (by first | exact Nat.le_of_ble_eq_true rfl | omega) ?_
        refine s_X4_howMany g (by first | exact jl_d1 hd rfl | omega) (by assumption) (by assumption) (fun z63 => sg_K1 ?_)
        refine sg_iret (pc := 66) (dc_X5_reverse_62.2.1) rfl (by first | exact Nat.le_of_ble_eq_true rfl | omega) (by first | exact Nat.le_of_ble_eq_true rfl | omega) ?_
        exact hQ _ _ (by assumption)
      · refine sg_aload_n (pc := 43) (j := 2) (dc_X5_reverse_30.1.2.2.2) rfl rfl ?_
        refine sg_aload_n (pc := 44) (j := 0) (dc_X5_reverse_30.2.1.1.1) rfl rfl ?_
        refine ck_gob (pc := 45) g (dc_X5_reverse_30.2.1.1.2) fk_X5_28 (by assumption) (fun _ => rfl) ?_
        refine sg_iload_n (pc := 48) (j := 3) (dc_X5_reverse_30.2.1.2.1) rfl rfl ?_
        refine sg_cE1 (pc := 49) (d' := d - 1) (mc' := 0) (ms' := 0) 3 g (dc_X5_reverse_30.2.1.2.2) cb_X0_get ml_X5_75 mn_X0_get rfl mv_X0_get (Nat.le_of_ble_eq_true rfl) (ck_lc (by assumption) (by first | assumption | exact ck_rev)) (Nat.le_of_ble_eq_true rfl) (by first | exact jl_d0 hd rfl | omega) (by first | exact Nat.le_of_ble_eq_true rfl | omega) (by first | exact Nat.le_of_ble_eq_true rfl | omega) ?_
        refine s_X0_get g (by first | exact jl_d1 hd rfl | omega) (by assumption) (by first | assumption | exact ck_rev) (fun z49 G49 v49 => sg_K1 ?_)
        have q52 := ck_v2.mp (v49 _ N1 (by omega) (by omega))
        refine sg_cS2 (pc := 52) (d' := d - 1) (mc' := 0) (ms' := 0) g (dc_X5_reverse_30.2.2.1.1) cb_X4_addCode ml_X5_164 ms_X4_addCode (Nat.le_of_ble_eq_true rfl) (by first | exact jl_d0 hd rfl | omega) (by first | exact Nat.le_of_ble_eq_true rfl | omega) (by first | exact Nat.le_of_ble_eq_true rfl | omega) ?_
        refine s_X4_addCode g (by first | exact jl_d1 hd rfl | omega) (by assumption) (by assumption) (by first | omega | assumption | (simp only [ck_v1, ck_v2] at * <;> omega)) (fun h52 x52 f52 => sg_K0 ?_)
        have y52 := ck_Yt (h0 := h) (by assumption) x52 f52.1
        first | refine sg_iincB (pc := 55) (dc_X5_reverse_30.2.2.1.2) rfl (by decide) (by decide) (by omega) (by omega) ?_ | refine sg_iinc (pc := 55) (dc_X5_reverse_30.2.2.1.2) rfl (by decide) (by decide) ?_
        refine sg_goto (pc := 58) (tgt := 39) (dc_X5_reverse_30.2.2.2.1) (by decide) ?_
        refine sg_lsub (lv' := [(3, _), (0, _), (2, _)]) ⟨rfl, rfl, rfl, trivial⟩ ?_
        exact ih _ _ (by assumption) (by assumption) ((f52.2 _ (ck_ne12 l2 ck_rev).1 (ck_ne12 l2 ck_rev).2).trans N1) (by omega) (by omega)
  refine sg_lsub (lv' := [(3, _), (0, _), (2, _)]) ⟨rfl, rfl, rfl, trivial⟩ ?_
  exact loop39 _ _ _ (by assumption) (by assumption) (by assumption) (by omega) (Nat.lt_succ_self _)

set_option maxRecDepth 100000 in
theorem s_X5_undo {w : sg_W} {Q : sg_O → sg_H → Prop} {h : sg_H} (g : sg_G w) {d : Nat} (hd : 14 ≤ d) {B : Nat} (hx : ck_X h B) (hQ : ∀ (v : Int) (h' : sg_H), ck_Y h h' B → Q (.inl (some (sg_i v))) h') (hX : ∀ (E : String) (h' : sg_H), E ∈ [e_S] → (True) → ck_Y h h' B → Q (.inr E) h') : sg_C w mi_X5_undo d 8 48 [sg_r B] h Q := by
  refine sg_of pn_X5 (Nat.le_of_ble_eq_true rfl) ?_
  have y0 := ck_Y0 hx
  refine sg_aload_n (pc := 0) (j := 0) (dc_X5_undo_0.1.1.1.1) rfl rfl ?_
  refine ck_gob (pc := 1) g (dc_X5_undo_0.1.1.1.2) fk_X5_19 (by assumption) (fun _ => rfl) ?_
  refine sg_cE0 (pc := 4) (d' := d - 1) (mc' := 0) (ms' := 0) 4 g (dc_X5_undo_0.1.1.2.1) cb_X1_size ml_X5_183 mn_X1_size rfl mv_X1_size (Nat.le_of_ble_eq_true rfl) (ck_pc (by assumption)) (Nat.le_of_ble_eq_true rfl) (by first | exact jl_d0 hd rfl | omega) (by first | exact Nat.le_of_ble_eq_true rfl | omega) (by first | exact Nat.le_of_ble_eq_true rfl | omega) ?_
  refine s_X1_size g (by first | exact jl_d1 hd rfl | omega) (by assumption) (fun z4 => sg_K1 ?_)
  refine sg_if_ne (pc := 7) (tgt := 20) (dc_X5_undo_0.1.1.2.2) (by decide) (fun c7 => ?_) (fun c7 => ?_)
  · refine sg_aload_n (pc := 20) (j := 0) (dc_X5_undo_0.2.1.1.2) rfl rfl ?_
    refine ck_gob (pc := 21) g (dc_X5_undo_0.2.1.2.1) fk_X5_19 (by assumption) (fun _ => rfl) ?_
    refine sg_aload_n (pc := 24) (j := 0) (dc_X5_undo_0.2.1.2.2) rfl rfl ?_
    refine ck_gob (pc := 25) g (dc_X5_undo_0.2.2.1.1) fk_X5_10 (by assumption) (fun _ => rfl) ?_
    refine sg_cE1 (pc := 28) (d' := d - 1) (mc' := 0) (ms' := 0) 4 g (dc_X5_undo_0.2.2.1.2) cb_X1_bringBack ml_X5_186 mn_X1_bringBack rfl mv_X1_bringBack (Nat.le_of_ble_eq_true rfl) (ck_pc (by assumption)) (Nat.le_of_ble_eq_true rfl) (by first | exact jl_d0 hd rfl | omega) (by first | exact Nat.le_of_ble_eq_true rfl | omega) (by first | exact Nat.le_of_ble_eq_true rfl | omega) ?_
    refine s_X1_bringBack g (by first | exact jl_d1 hd rfl | omega) (by assumption) ck_now (fun h28 x28 f28 => sg_K0 ?_)
    have y28 := ck_Yt (h0 := h) (by assumption) x28 f28
    refine sg_aload_n (pc := 31) (j := 0) (dc_X5_undo_0.2.2.2.1) rfl rfl ?_
    refine ck_gob (pc := 32) g (dc_X5_undo_0.2.2.2.2) fk_X5_19 (by assumption) (fun _ => rfl) ?_
    refine sg_cE0 (pc := 35) (d' := d - 1) (mc' := 0) (ms' := 0) 4 g (dc_X5_undo_35.1) cb_X1_size ml_X5_183 mn_X1_size rfl mv_X1_size (Nat.le_of_ble_eq_true rfl) (ck_pc (by assumption)) (Nat.le_of_ble_eq_true rfl) (by first | exact jl_d0 hd rfl | omega) (by first | exact Nat.le_of_ble_eq_true rfl | omega) (by first | exact Nat.le_of_ble_eq_true rfl | omega) ?_
    refine s_X1_size g (by first | exact jl_d1 hd rfl | omega) (by assumption) (fun z35 => sg_K1 ?_)
    refine sg_iret (pc := 38) (dc_X5_undo_35.2) rfl (by first | exact Nat.le_of_ble_eq_true rfl | omega) (by first | exact Nat.le_of_ble_eq_true rfl | omega) ?_
    exact hQ _ _ (by assumption)
  · refine sg_throw (pc := 10) g th_X5_48_184 (dc_X5_undo_0.1.2.1.1) (dc_X5_undo_0.1.2.1.2) (dc_X5_undo_0.1.2.2.1) (dc_X5_undo_0.1.2.2.2) (dc_X5_undo_0.2.1.1.1) (by first | exact Nat.le_trans (Nat.le_of_ble_eq_true rfl) hd | omega) (Nat.le_of_ble_eq_true rfl) (by first | exact Nat.le_of_ble_eq_true rfl | omega) (by first | exact Nat.le_of_ble_eq_true rfl | omega) ?_
    exact fun z hz => hX _ _ (by decide) (by first | trivial | omega) (ck_Yz (by assumption) hz)

