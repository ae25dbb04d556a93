set_option maxRecDepth 100000 in
theorem s_X5_isAlike_N {w : sg_W} {Q : sg_O → sg_H → Prop} {h : sg_H} (g : sg_G w) {d : Nat} (hd : 14 ≤ d) {B : Nat} (hx : ck_X h B) {row other : Int} (hv : ¬ (row < 0 ∨ 4 ≤ row ∨ other < 0 ∨ 4 ≤ other)) (hQ : ∀ v : Int, (v = 0 ∨ v = 1) → Q (.inl (some (sg_i v))) h) : sg_C w mi_X5_isAlike d 0 0 [sg_r B, sg_i row, sg_i other] h Q := by
  refine sg_of pn_X5 (Nat.le_of_ble_eq_true rfl) ?_
  have y0 := ck_Y0 hx
  refine sg_aload_n (pc := 0) (j := 0) (dc_X5_isAlike_0.1.1.1.1) rfl rfl ?_
  refine sg_iload_n (pc := 1) (j := 1) (dc_X5_isAlike_0.1.1.1.2) rfl rfl ?_
  refine sg_cE1 (pc := 2) (d' := d - 1) (mc' := 0) (ms' := 0) 6 g (dc_X5_isAlike_0.1.1.2.1) cb_X5_rowOf ml_X5_36 mn_X5_rowOf rfl mv_X5_rowOf (Nat.le_of_ble_eq_true rfl) (ck_oc (by assumption)) (Nat.le_of_ble_eq_true rfl) (by first | exact jl_d0 hd rfl | omega) (by first | exact Nat.le_of_ble_eq_true rfl | omega) (by first | exact Nat.le_of_ble_eq_true rfl | omega) ?_
  refine s_X5_rowOf_N g (by first | exact jl_d1 hd rfl | omega) (by assumption) (by omega) (fun a2 l2 r2 r2b => sg_K1 ?_)
  refine sg_astore_n (pc := 5) (j := 3) (dc_X5_isAlike_0.1.1.2.2) rfl (by decide) ?_
  refine sg_aload_n (pc := 6) (j := 0) (dc_X5_isAlike_0.1.2.1.1) rfl rfl ?_
  refine sg_iload_n (pc := 7) (j := 2) (dc_X5_isAlike_0.1.2.1.2) rfl rfl ?_
  refine sg_cE1 (pc := 8) (d' := d - 1) (mc' := 0) (ms' := 0) 6 g (dc_X5_isAlike_0.1.2.2.1) cb_X5_rowOf ml_X5_36 mn_X5_rowOf rfl mv_X5_rowOf (Nat.le_of_ble_eq_true rfl) (ck_oc (by assumption)) (Nat.le_of_ble_eq_true rfl) (by first | exact jl_d0 hd rfl | omega) (by first | exact Nat.le_of_ble_eq_true rfl | omega) (by first | exact Nat.le_of_ble_eq_true rfl | omega) ?_
  refine s_X5_rowOf_N g (by first | exact jl_d1 hd rfl | omega) (by assumption) (by omega) (fun a8 l8 r8 r8b => sg_K1 ?_)
  refine sg_astore (pc := 11) (dc_X5_isAlike_0.1.2.2.2) (by decide) ?_
  refine sg_aload_n (pc := 13) (j := 3) (dc_X5_isAlike_0.2.1.1.1) rfl rfl ?_
  refine sg_cE0 (pc := 14) (d' := d - 1) (mc' := 0) (ms' := 0) 3 g (dc_X5_isAlike_0.2.1.1.2) cb_X0_size ml_X5_63 mn_X0_size rfl mv_X0_size (Nat.le_of_ble_eq_true rfl) (ck_lc (by assumption) (by first | assumption | exact ck_rev)) (Nat.le_of_ble_eq_true rfl) (by first | exact jl_d0 hd rfl | omega) (by first | exact Nat.le_of_ble_eq_true rfl | omega) (by first | exact Nat.le_of_ble_eq_true rfl | omega) ?_
  refine s_X0_size g (by first | exact jl_d1 hd rfl | omega) (by assumption) (by first | assumption | exact ck_rev) (fun z14 l14 u14 N14 => sg_K1 ?_)
  refine sg_aload (pc := 17) (dc_X5_isAlike_0.2.1.2.1) rfl ?_
  refine sg_cE0 (pc := 19) (d' := d - 1) (mc' := 0) (ms' := 0) 3 g (dc_X5_isAlike_0.2.1.2.2) cb_X0_size ml_X5_63 mn_X0_size rfl mv_X0_size (Nat.le_of_ble_eq_true rfl) (ck_lc (by assumption) (by first | assumption | exact ck_rev)) (Nat.le_of_ble_eq_true rfl) (by first | exact jl_d0 hd rfl | omega) (by first | exact Nat.le_of_ble_eq_true rfl | omega) (by first | exact Nat.le_of_ble_eq_true rfl | omega) ?_
  refine s_X0_size g (by first | exact jl_d1 hd rfl | omega) (by assumption) (by first | assumption | exact ck_rev) (fun z19 l19 u19 N19 => sg_K1 ?_)
  refine sg_icmp_eq (pc := 22) (tgt := 27) (dc_X5_isAlike_0.2.2.1.1) (by decide) (fun c22 => ?_) (fun c22 => ?_)
  · refine sg_iconst (pc := 27) (z := 0) (dc_X5_isAlike_0.2.2.2.2) (by decide) ?_
    refine sg_istore (pc := 28) (dc_X5_isAlike_28.1.1.1.1) (by decide) ?_
    have loop30 : ∀ (N : Nat) (p : Int), (0 ≤ p) → (40 - p).toNat < N → sg_R w mi_X5_isAlike d 0 0 Q 30 [(5, sg_i p), (0, sg_r B), (3, sg_r a2), (4, sg_r a8)] [] h 0 0 := by
      intro N
      induction N with
      | zero => intro p p0 hm; exact absurd hm (Nat.not_lt_zero _)
      | succ N ih =>
        intro p p0 hm
        refine sg_iload (pc := 30) (dc_X5_isAlike_28.1.1.1.2) rfl ?_
        refine sg_aload_n (pc := 32) (j := 3) (dc_X5_isAlike_28.1.1.2.1) rfl rfl ?_
        refine sg_cE0 (pc := 33) (d' := d - 1) (mc' := 0) (ms' := 0) 3 g (dc_X5_isAlike_28.1.1.2.2) cb_X0_size ml_X5_63 mn_X0_size rfl mv_X0_size (Nat.le_of_ble_eq_true rfl) (ck_lc (by assumption) (by first | assumption | exact ck_rev)) (Nat.le_of_ble_eq_true rfl) (by first | exact jl_d0 hd rfl | omega) (by first | exact Nat.le_of_ble_eq_true rfl | omega) (by first | exact Nat.le_of_ble_eq_true rfl | omega) ?_
        refine s_X0_size g (by first | exact jl_d1 hd rfl | omega) (by assumption) (by first | assumption | exact ck_rev) (fun z33 l33 u33 N33 => sg_K1 ?_)
        refine sg_icmp_ge (pc := 36) (tgt := 69) (dc_X5_isAlike_28.1.2.1.1) (by decide) (fun c36 => ?_) (fun c36 => ?_)
        · refine sg_iconst (pc := 69) (z := 1) (dc_X5_isAlike_63.2.1) (by decide) ?_
          refine sg_zret (pc := 70) (dc_X5_isAlike_63.2.2) rfl (by first | exact Or.inl rfl | exact Or.inr rfl | omega | assumption) (by first | exact Nat.le_of_ble_eq_true rfl | omega) (by first | exact Nat.le_of_ble_eq_true rfl | omega) ?_
          exact hQ _ (by first | exact Or.inl rfl | exact Or.inr rfl | omega | assumption)
        · refine sg_aload_n (pc := 39) (j := 3) (dc_X5_isAlike_28.1.2.1.2) rfl rfl ?_
          refine sg_iload (pc := 40) (dc_X5_isAlike_28.1.2.2.1) rfl ?_
          refine sg_cE1 (pc := 42) (d' := d - 1) (mc' := 0) (ms' := 0) 3 g (dc_X5_isAlike_28.1.2.2.2) cb_X0_get ml_X5_75 mn_X0_get rfl mv_X0_get (Nat.le_of_ble_eq_true rfl) (ck_lc (by assumption) (by first | assumption | exact ck_rev)) (Nat.le_of_ble_eq_true rfl) (by first | exact jl_d0 hd rfl | omega) (by first | exact Nat.le_of_ble_eq_true rfl | omega) (by first | exact Nat.le_of_ble_eq_true rfl | omega) ?_
          refine s_X0_get g (by first | exact jl_d1 hd rfl | omega) (by assumption) (by first | assumption | exact ck_rev) (fun z42 G42 v42 => sg_K1 ?_)
          refine sg_cS1 (pc := 45) (d' := d - 1) (mc' := 0) (ms' := 0) g (dc_X5_isAlike_28.2.1.1.1) cb_X2_upperOf ml_X5_78 ms_X2_upperOf (Nat.le_of_ble_eq_true rfl) (by first | exact jl_d0 hd rfl | omega) (by first | exact Nat.le_of_ble_eq_true rfl | omega) (by first | exact Nat.le_of_ble_eq_true rfl | omega) ?_
          refine s_X2_upperOf g (by first | exact jl_d1 hd rfl | omega) (fun z45 h45 => sg_K1 ?_)
          refine sg_aload (pc := 48) (dc_X5_isAlike_28.2.1.1.2) rfl ?_
          refine sg_iload (pc := 50) (dc_X5_isAlike_28.2.1.2.1) rfl ?_
          refine sg_cE1 (pc := 52) (d' := d - 1) (mc' := 0) (ms' := 0) 3 g (dc_X5_isAlike_28.2.1.2.2) cb_X0_get ml_X5_75 mn_X0_get rfl mv_X0_get (Nat.le_of_ble_eq_true rfl) (ck_lc (by assumption) (by first | assumption | exact ck_rev)) (Nat.le_of_ble_eq_true rfl) (by first | exact jl_d0 hd rfl | omega) (by first | exact Nat.le_of_ble_eq_true rfl | omega) (by first | exact Nat.le_of_ble_eq_true rfl | omega) ?_
          refine s_X0_get g (by first | exact jl_d1 hd rfl | omega) (by assumption) (by first | assumption | exact ck_rev) (fun z52 G52 v52 => sg_K1 ?_)
          refine sg_cS1 (pc := 55) (d' := d - 1) (mc' := 0) (ms' := 0) g (dc_X5_isAlike_28.2.2.1.1) cb_X2_upperOf ml_X5_78 ms_X2_upperOf (Nat.le_of_ble_eq_true rfl) (by first | exact jl_d0 hd rfl | omega) (by first | exact Nat.le_of_ble_eq_true rfl | omega) (by first | exact Nat.le_of_ble_eq_true rfl | omega) ?_
          refine s_X2_upperOf g (by first | exact jl_d1 hd rfl | omega) (fun z55 h55 => sg_K1 ?_)
          refine sg_icmp_eq (pc := 58) (tgt := 63) (dc_X5_isAlike_28.2.2.1.2) (by decide) (fun c58 => ?_) (fun c58 => ?_)
          · first | refine sg_iincB (pc := 63) (dc_X5_isAlike_63.1.1) rfl (by decide) (by decide) (by omega) (by omega) ?_ | refine sg_iinc (pc := 63) (dc_X5_isAlike_63.1.1) rfl (by decide) (by decide) ?_
            refine sg_goto (pc := 66) (tgt := 30) (dc_X5_isAlike_63.1.2) (by decide) ?_
            refine sg_lsub (lv' := [(5, _), (0, _), (3, _), (4, _)]) ⟨rfl, rfl, rfl, rfl, trivial⟩ ?_
            exact ih _ (by omega) (by first | exact jl_m1 hm (by omega) | exact jl_m2 hm (by omega) | omega)
          · refine sg_iconst (pc := 61) (z := 0) (dc_X5_isAlike_28.2.2.2.1) (by decide) ?_
            refine sg_zret (pc := 62) (dc_X5_isAlike_28.2.2.2.2) rfl (by first | exact Or.inl rfl | exact Or.inr rfl | omega | assumption) (by first | exact Nat.le_of_ble_eq_true rfl | omega) (by first | exact Nat.le_of_ble_eq_true rfl | omega) ?_
            exact hQ _ (by first | exact Or.inl rfl | exact Or.inr rfl | omega | assumption)
    refine sg_lsub (lv' := [(5, _), (0, _), (3, _), (4, _)]) ⟨rfl, rfl, rfl, rfl, trivial⟩ ?_
    exact loop30 _ _ (by omega) (Nat.lt_succ_self _)
  · refine sg_iconst (pc := 25) (z := 0) (dc_X5_isAlike_0.2.2.1.2) (by decide) ?_
    refine sg_zret (pc := 26) (dc_X5_isAlike_0.2.2.2.1) rfl (by first | exact Or.inl rfl | exact Or.inr rfl | omega | assumption) (by first | exact Nat.le_of_ble_eq_true rfl | omega) (by first | exact Nat.le_of_ble_eq_true rfl | omega) ?_
    exact hQ _ (by first | exact Or.inl rfl | exact Or.inr rfl | omega | assumption)

