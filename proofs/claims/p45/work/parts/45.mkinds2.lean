set_option maxRecDepth 100000 in
theorem s_X7_isKind1 {w : sg_W} {Q : sg_O → sg_H → Prop} {h : sg_H} (g : sg_G w) {d : Nat} (hd : 2 ≤ d) {x y : Int} (hk : md_K w h) (y0 : 0 ≤ y) (y1 : y ≤ 4) (y2 : y ≠ 2) (hQ : ∀ z : Int, (z = 0 ∨ z = 1) → Q (.inl (some (sg_i z))) h) : sg_C w mi_X7_isKind d 0 0 [sg_i x, sg_i y] h Q := by
  refine sg_of (by decide +kernel) (Nat.le_of_ble_eq_true rfl) ?_
  obtain ⟨K, L, b, m, zs, hZ, hK, hL, hy, hB, hz, hm⟩ := md_Kn hk y0 y1
  refine sg_iload_n (pc := 0) (j := 1) dX7_isKind_0 rfl rfl ?_
  refine sg_iconst (pc := 1) (z := 2) dX7_isKind_1 (by decide) ?_
  refine sg_icmp_ne (pc := 2) (tgt := 27) dX7_isKind_2 (by decide) (fun c2 => ?_) (fun c2 => ?_)
  · refine sg_iconst (pc := 27) (z := 0) dX7_isKind_27 (by decide) ?_
    refine sg_istore_n (pc := 28) (j := 2) dX7_isKind_28 rfl (by decide) ?_
    have loop29 : ∀ (N : Nat) (p : Int), 0 ≤ p → p % 2 = 0 → p ≤ 20 → (20 - p).toNat < N → sg_R w mi_X7_isKind d 0 0 Q 29 [(2, sg_i p), (0, sg_i x), (1, sg_i y)] [] h 0 0 := by
      intro N
      induction N with
      | zero => intro p p0 p2 p3 hm; exact absurd hm (Nat.not_lt_zero _)
      | succ N ih =>
        intro p p0 p2 p3 hm
        refine sg_iload_n (pc := 29) (j := 2) dX7_isKind_29 rfl rfl ?_
        refine sg_gets (v := sg_r K) (pc := 30) g dX7_isKind_30 hZ rfl kl_X7_30 ?_
        refine sg_iload_n (pc := 33) (j := 1) dX7_isKind_33 rfl rfl ?_
        refine sg_aald (pc := 34) dX7_isKind_34 hK (by decide) (by omega) hy ?_
        refine sg_alenN (N := 2 * m) (pc := 35) dX7_isKind_35 hB (by decide) (by rw [List.length_map, hz]) (by omega) ?_
        refine sg_icmp_ge (pc := 36) (tgt := 70) dX7_isKind_36 (by decide) (fun c36 => ?_) (fun c36 => ?_)
        · refine sg_iconst (pc := 70) (z := 0) dX7_isKind_70 (by decide) ?_
          refine sg_zret (pc := 71) dX7_isKind_71 rfl (by first | exact Or.inl rfl | exact Or.inr rfl | omega | assumption) (by omega) (by omega) ?_
          exact hQ _ (by first | exact Or.inl rfl | exact Or.inr rfl | omega | assumption)
        · refine sg_iload_n (pc := 39) (j := 0) dX7_isKind_39 rfl rfl ?_
          refine sg_gets (v := sg_r K) (pc := 40) g dX7_isKind_40 hZ rfl kl_X7_30 ?_
          refine sg_iload_n (pc := 43) (j := 1) dX7_isKind_43 rfl rfl ?_
          refine sg_aald (pc := 44) dX7_isKind_44 hK (by decide) (by omega) hy ?_
          refine sg_iload_n (pc := 45) (j := 2) dX7_isKind_45 rfl rfl ?_
          refine sg_iald (pc := 46) dX7_isKind_46 hB (by decide) (by omega) (ck_at (by rw [hz]; omega)) ?_
          refine sg_gets (v := sg_r K) (pc := 47) g dX7_isKind_47 hZ rfl kl_X7_30 ?_
          refine sg_iload_n (pc := 50) (j := 1) dX7_isKind_50 rfl rfl ?_
          refine sg_aald (pc := 51) dX7_isKind_51 hK (by decide) (by omega) hy ?_
          refine sg_iload_n (pc := 52) (j := 2) dX7_isKind_52 rfl rfl ?_
          refine sg_iconst (pc := 53) (z := 1) dX7_isKind_53 (by decide) ?_
          first | refine sg_iaddB (pc := 54) dX7_isKind_54 (by omega) (by omega) ?_ | refine sg_iadd (pc := 54) dX7_isKind_54 ?_
          refine sg_iald (pc := 55) dX7_isKind_55 hB (by decide) (by omega) (ck_at (by rw [hz]; omega)) ?_
          refine sg_cS3 (pc := 56) (d' := d - 1) (mc' := 0) (ms' := 0) g dX7_isKind_56 cb_X7_isOf ml_X7_22 ms_X7_isOf (Nat.le_of_ble_eq_true rfl) (by omega) (by omega) (by omega) ?_
          refine s_X7_isOf g (by omega) (fun z56 h56 b56 => sg_K1 ?_)
          refine sg_if_eq (pc := 59) (tgt := 64) dX7_isKind_59 (by decide) (fun c59 => ?_) (fun c59 => ?_)
          · first | refine sg_iincB (pc := 64) dX7_isKind_64 rfl (by decide) (by decide) (by omega) (by omega) ?_ | refine sg_iinc (pc := 64) dX7_isKind_64 rfl (by decide) (by decide) ?_
            refine sg_goto (pc := 67) (tgt := 29) dX7_isKind_67 (by decide) ?_
            refine sg_lsub (lv' := [(2, _), (0, _), (1, _)]) ⟨rfl, rfl, rfl, trivial⟩ ?_
            exact ih _ (by omega) (by omega) (by omega) (by omega)
          · refine sg_iconst (pc := 62) (z := 1) dX7_isKind_62 (by decide) ?_
            refine sg_zret (pc := 63) dX7_isKind_63 rfl (by first | exact Or.inl rfl | exact Or.inr rfl | omega | assumption) (by omega) (by omega) ?_
            exact hQ _ (by first | exact Or.inl rfl | exact Or.inr rfl | omega | assumption)
    refine sg_lsub (lv' := [(2, _), (0, _), (1, _)]) ⟨rfl, rfl, rfl, trivial⟩ ?_
    exact loop29 _ _ (by omega) (by decide) (by omega) (Nat.lt_succ_self _)
  · exfalso; omega

set_option maxRecDepth 100000 in
theorem s_X7_isKind {w : sg_W} {Q : sg_O → sg_H → Prop} {h : sg_H} (g : sg_G w) {d : Nat} (hd : 3 ≤ d) {x y : Int} (hk : md_K w h) (y0 : 0 ≤ y) (y1 : y ≤ 4) (hQ : ∀ z : Int, (z = 0 ∨ z = 1) → Q (.inl (some (sg_i z))) h) : sg_C w mi_X7_isKind d 0 0 [sg_i x, sg_i y] h Q := by
  refine sg_of (by decide +kernel) (Nat.le_of_ble_eq_true rfl) ?_
  obtain ⟨K, L, b, m, zs, hZ, hK, hL, hy, hB, hz, hm⟩ := md_Kn hk y0 y1
  refine sg_iload_n (pc := 0) (j := 1) dX7_isKind_0 rfl rfl ?_
  refine sg_iconst (pc := 1) (z := 2) dX7_isKind_1 (by decide) ?_
  refine sg_icmp_ne (pc := 2) (tgt := 27) dX7_isKind_2 (by decide) (fun c2 => ?_) (fun c2 => ?_)
  · refine sg_iconst (pc := 27) (z := 0) dX7_isKind_27 (by decide) ?_
    refine sg_istore_n (pc := 28) (j := 2) dX7_isKind_28 rfl (by decide) ?_
    have loop29 : ∀ (N : Nat) (p : Int), 0 ≤ p → p % 2 = 0 → p ≤ 20 → (20 - p).toNat < N → sg_R w mi_X7_isKind d 0 0 Q 29 [(2, sg_i p), (0, sg_i x), (1, sg_i y)] [] h 0 0 := by
      intro N
      induction N with
      | zero => intro p p0 p2 p3 hm; exact absurd hm (Nat.not_lt_zero _)
      | succ N ih =>
        intro p p0 p2 p3 hm
        refine sg_iload_n (pc := 29) (j := 2) dX7_isKind_29 rfl rfl ?_
        refine sg_gets (v := sg_r K) (pc := 30) g dX7_isKind_30 hZ rfl kl_X7_30 ?_
        refine sg_iload_n (pc := 33) (j := 1) dX7_isKind_33 rfl rfl ?_
        refine sg_aald (pc := 34) dX7_isKind_34 hK (by decide) (by omega) hy ?_
        refine sg_alenN (N := 2 * m) (pc := 35) dX7_isKind_35 hB (by decide) (by rw [List.length_map, hz]) (by omega) ?_
        refine sg_icmp_ge (pc := 36) (tgt := 70) dX7_isKind_36 (by decide) (fun c36 => ?_) (fun c36 => ?_)
        · refine sg_iconst (pc := 70) (z := 0) dX7_isKind_70 (by decide) ?_
          refine sg_zret (pc := 71) dX7_isKind_71 rfl (by first | exact Or.inl rfl | exact Or.inr rfl | omega | assumption) (by omega) (by omega) ?_
          exact hQ _ (by first | exact Or.inl rfl | exact Or.inr rfl | omega | assumption)
        · refine sg_iload_n (pc := 39) (j := 0) dX7_isKind_39 rfl rfl ?_
          refine sg_gets (v := sg_r K) (pc := 40) g dX7_isKind_40 hZ rfl kl_X7_30 ?_
          refine sg_iload_n (pc := 43) (j := 1) dX7_isKind_43 rfl rfl ?_
          refine sg_aald (pc := 44) dX7_isKind_44 hK (by decide) (by omega) hy ?_
          refine sg_iload_n (pc := 45) (j := 2) dX7_isKind_45 rfl rfl ?_
          refine sg_iald (pc := 46) dX7_isKind_46 hB (by decide) (by omega) (ck_at (by rw [hz]; omega)) ?_
          refine sg_gets (v := sg_r K) (pc := 47) g dX7_isKind_47 hZ rfl kl_X7_30 ?_
          refine sg_iload_n (pc := 50) (j := 1) dX7_isKind_50 rfl rfl ?_
          refine sg_aald (pc := 51) dX7_isKind_51 hK (by decide) (by omega) hy ?_
          refine sg_iload_n (pc := 52) (j := 2) dX7_isKind_52 rfl rfl ?_
          refine sg_iconst (pc := 53) (z := 1) dX7_isKind_53 (by decide) ?_
          first | refine sg_iaddB (pc := 54) dX7_isKind_54 (by omega) (by omega) ?_ | refine sg_iadd (pc := 54) dX7_isKind_54 ?_
          refine sg_iald (pc := 55) dX7_isKind_55 hB (by decide) (by omega) (ck_at (by rw [hz]; omega)) ?_
          refine sg_cS3 (pc := 56) (d' := d - 1) (mc' := 0) (ms' := 0) g dX7_isKind_56 cb_X7_isOf ml_X7_22 ms_X7_isOf (Nat.le_of_ble_eq_true rfl) (by omega) (by omega) (by omega) ?_
          refine s_X7_isOf g (by omega) (fun z56 h56 b56 => sg_K1 ?_)
          refine sg_if_eq (pc := 59) (tgt := 64) dX7_isKind_59 (by decide) (fun c59 => ?_) (fun c59 => ?_)
          · first | refine sg_iincB (pc := 64) dX7_isKind_64 rfl (by decide) (by decide) (by omega) (by omega) ?_ | refine sg_iinc (pc := 64) dX7_isKind_64 rfl (by decide) (by decide) ?_
            refine sg_goto (pc := 67) (tgt := 29) dX7_isKind_67 (by decide) ?_
            refine sg_lsub (lv' := [(2, _), (0, _), (1, _)]) ⟨rfl, rfl, rfl, trivial⟩ ?_
            exact ih _ (by omega) (by omega) (by omega) (by omega)
          · refine sg_iconst (pc := 62) (z := 1) dX7_isKind_62 (by decide) ?_
            refine sg_zret (pc := 63) dX7_isKind_63 rfl (by first | exact Or.inl rfl | exact Or.inr rfl | omega | assumption) (by omega) (by omega) ?_
            exact hQ _ (by first | exact Or.inl rfl | exact Or.inr rfl | omega | assumption)
    refine sg_lsub (lv' := [(2, _), (0, _), (1, _)]) ⟨rfl, rfl, rfl, trivial⟩ ?_
    exact loop29 _ _ (by omega) (by decide) (by omega) (Nat.lt_succ_self _)
  · refine sg_iload_n (pc := 5) (j := 0) dX7_isKind_5 rfl rfl ?_
    refine sg_iconst (pc := 6) (z := 0) dX7_isKind_6 (by decide) ?_
    refine sg_cS2 (pc := 7) (d' := d - 1) (mc' := 0) (ms' := 0) g dX7_isKind_7 cb_X7_isKind ml_X7_26 ms_X7_isKind (Nat.le_of_ble_eq_true rfl) (by omega) (by omega) (by omega) ?_
    refine s_X7_isKind1 g (by omega) (by assumption) (by omega) (by omega) (by decide) (fun z7 b7 => sg_K1 ?_)
    refine sg_if_ne (pc := 10) (tgt := 21) dX7_isKind_10 (by decide) (fun c10 => ?_) (fun c10 => ?_)
    · refine sg_iconst (pc := 21) (z := 1) dX7_isKind_21 (by decide) ?_
      refine sg_goto (pc := 22) (tgt := 26) dX7_isKind_22 (by decide) ?_
      refine sg_zret (pc := 26) dX7_isKind_26 rfl (by first | exact Or.inl rfl | exact Or.inr rfl | omega | assumption) (by omega) (by omega) ?_
      exact hQ _ (by first | exact Or.inl rfl | exact Or.inr rfl | omega | assumption)
    · refine sg_iload_n (pc := 13) (j := 0) dX7_isKind_13 rfl rfl ?_
      refine sg_iconst (pc := 14) (z := 1) dX7_isKind_14 (by decide) ?_
      refine sg_cS2 (pc := 15) (d' := d - 1) (mc' := 0) (ms' := 0) g dX7_isKind_15 cb_X7_isKind ml_X7_26 ms_X7_isKind (Nat.le_of_ble_eq_true rfl) (by omega) (by omega) (by omega) ?_
      refine s_X7_isKind1 g (by omega) (by assumption) (by omega) (by omega) (by decide) (fun z15 b15 => sg_K1 ?_)
      refine sg_if_eq (pc := 18) (tgt := 25) dX7_isKind_18 (by decide) (fun c18 => ?_) (fun c18 => ?_)
      · refine sg_iconst (pc := 25) (z := 0) dX7_isKind_25 (by decide) ?_
        refine sg_zret (pc := 26) dX7_isKind_26 rfl (by first | exact Or.inl rfl | exact Or.inr rfl | omega | assumption) (by omega) (by omega) ?_
        exact hQ _ (by first | exact Or.inl rfl | exact Or.inr rfl | omega | assumption)
      · refine sg_iconst (pc := 21) (z := 1) dX7_isKind_21 (by decide) ?_
        refine sg_goto (pc := 22) (tgt := 26) dX7_isKind_22 (by decide) ?_
        refine sg_zret (pc := 26) dX7_isKind_26 rfl (by first | exact Or.inl rfl | exact Or.inr rfl | omega | assumption) (by omega) (by omega) ?_
        exact hQ _ (by first | exact Or.inl rfl | exact Or.inr rfl | omega | assumption)

set_option maxRecDepth 100000 in
theorem s_X7_lowerOf {w : sg_W} {Q : sg_O → sg_H → Prop} {h : sg_H} (g : sg_G w) {d : Nat} (hd : 4 ≤ d) {x : Int} (hk : md_K w h) (hQ : ∀ z : Int, Q (.inl (some (sg_i z))) h) : sg_C w mi_X7_lowerOf d 0 0 [sg_i x] h Q := by
  refine sg_of (by decide +kernel) (Nat.le_of_ble_eq_true rfl) ?_
  refine sg_iload_n (pc := 0) (j := 0) dX7_lowerOf_0 rfl rfl ?_
  refine sg_iconst (pc := 1) (z := 4) dX7_lowerOf_1 (by decide) ?_
  refine sg_cS2 (pc := 2) (d' := d - 1) (mc' := 0) (ms' := 0) g dX7_lowerOf_2 cb_X7_isKind ml_X7_26 ms_X7_isKind (Nat.le_of_ble_eq_true rfl) (by omega) (by omega) (by omega) ?_
  refine s_X7_isKind g (by omega) (by assumption) (by omega) (by omega) (fun z2 b2 => sg_K1 ?_)
  refine sg_if_eq (pc := 5) (tgt := 15) dX7_lowerOf_5 (by decide) (fun c5 => ?_) (fun c5 => ?_)
  · refine sg_iload_n (pc := 15) (j := 0) dX7_lowerOf_15 rfl rfl ?_
    refine sg_iret (pc := 16) dX7_lowerOf_16 rfl (by omega) (by omega) ?_
    exact hQ _
  · refine sg_iload_n (pc := 8) (j := 0) dX7_lowerOf_8 rfl rfl ?_
    refine sg_bipush (pc := 9) (z := 32) dX7_lowerOf_9 (by decide) ?_
    first | refine sg_iaddB (pc := 11) dX7_lowerOf_11 (by omega) (by omega) ?_ | refine sg_iadd (pc := 11) dX7_lowerOf_11 ?_
    refine sg_goto (pc := 12) (tgt := 16) dX7_lowerOf_12 (by decide) ?_
    refine sg_iret (pc := 16) dX7_lowerOf_16 rfl (by omega) (by omega) ?_
    exact hQ _

set_option maxRecDepth 100000 in
theorem s_X7_kindsOf {w : sg_W} {Q : sg_O → sg_H → Prop} {h : sg_H} (g : sg_G w) {d : Nat} (hd : 4 ≤ d) {x : Int} (hk : md_K w h) (hQ : ∀ z : Int, Q (.inl (some (sg_i z))) h) : sg_C w mi_X7_kindsOf d 0 0 [sg_i x] h Q := by
  refine sg_of (by decide +kernel) (Nat.le_of_ble_eq_true rfl) ?_
  refine sg_iconst (pc := 0) (z := 0) dX7_kindsOf_0 (by decide) ?_
  refine sg_istore_n (pc := 1) (j := 1) dX7_kindsOf_1 rfl (by decide) ?_
  refine sg_iconst (pc := 2) (z := 0) dX7_kindsOf_2 (by decide) ?_
  refine sg_istore_n (pc := 3) (j := 2) dX7_kindsOf_3 rfl (by decide) ?_
  have loop4 : ∀ (N : Nat) (k s : Int), 0 ≤ k → (5 - k).toNat < N → sg_R w mi_X7_kindsOf d 0 0 Q 4 [(2, sg_i k), (1, sg_i s), (0, sg_i x)] [] h 0 0 := by
    intro N
    induction N with
    | zero => intro k s k0 hm; exact absurd hm (Nat.not_lt_zero _)
    | succ N ih =>
      intro k s k0 hm
      refine sg_iload_n (pc := 4) (j := 2) dX7_kindsOf_4 rfl rfl ?_
      refine sg_iconst (pc := 5) (z := 5) dX7_kindsOf_5 (by decide) ?_
      refine sg_icmp_ge (pc := 6) (tgt := 28) dX7_kindsOf_6 (by decide) (fun c6 => ?_) (fun c6 => ?_)
      · refine sg_iload_n (pc := 28) (j := 1) dX7_kindsOf_28 rfl rfl ?_
        refine sg_iret (pc := 29) dX7_kindsOf_29 rfl (by omega) (by omega) ?_
        exact hQ _
      · refine sg_iload_n (pc := 9) (j := 1) dX7_kindsOf_9 rfl rfl ?_
        refine sg_iload_n (pc := 10) (j := 0) dX7_kindsOf_10 rfl rfl ?_
        refine sg_iload_n (pc := 11) (j := 2) dX7_kindsOf_11 rfl rfl ?_
        refine sg_cS2 (pc := 12) (d' := d - 1) (mc' := 0) (ms' := 0) g dX7_kindsOf_12 cb_X7_isKind ml_X7_26 ms_X7_isKind (Nat.le_of_ble_eq_true rfl) (by omega) (by omega) (by omega) ?_
        refine s_X7_isKind g (by omega) (by assumption) (by omega) (by omega) (fun z12 b12 => sg_K1 ?_)
        refine sg_cS1 (pc := 15) (d' := d - 1) (mc' := 0) (ms' := 0) g dX7_kindsOf_15 cb_X7_one ml_X7_92 ms_X7_one (Nat.le_of_ble_eq_true rfl) (by omega) (by omega) (by omega) ?_
        refine s_X7_one g (by omega) (fun z15 h15 b15 => sg_K1 ?_)
        refine sg_iload_n (pc := 18) (j := 2) dX7_kindsOf_18 rfl rfl ?_
        refine sg_ishl (pc := 19) dX7_kindsOf_19 ?_
        first | refine sg_iaddB (pc := 20) dX7_kindsOf_20 (by omega) (by omega) ?_ | refine sg_iadd (pc := 20) dX7_kindsOf_20 ?_
        refine sg_istore_n (pc := 21) (j := 1) dX7_kindsOf_21 rfl (by decide) ?_
        first | refine sg_iincB (pc := 22) dX7_kindsOf_22 rfl (by decide) (by decide) (by omega) (by omega) ?_ | refine sg_iinc (pc := 22) dX7_kindsOf_22 rfl (by decide) (by decide) ?_
        refine sg_goto (pc := 25) (tgt := 4) dX7_kindsOf_25 (by decide) ?_
        refine sg_lsub (lv' := [(2, _), (1, _), (0, _)]) ⟨rfl, rfl, rfl, trivial⟩ ?_
        exact ih _ _ (by omega) (by omega)
  refine sg_lsub (lv' := [(2, _), (1, _), (0, _)]) ⟨rfl, rfl, rfl, trivial⟩ ?_
  exact loop4 _ _ _ (by omega) (Nat.lt_succ_self _)
