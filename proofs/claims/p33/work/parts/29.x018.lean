set_option maxRecDepth 100000 in
theorem s_X5_isSound {w : sg_W} {Q : sg_O → sg_H → Prop} {h : sg_H} (g : sg_G w) {d : Nat} (hd : 14 ≤ d) {B : Nat} (hx : ck_X h B) (hQ : ∀ v : Int, (v = 0 ∨ v = 1) → Q (.inl (some (sg_i v))) h) : sg_C w mi_X5_isSound d 0 0 [sg_r B] h Q := by
  refine sg_of pn_X5 (Nat.le_of_ble_eq_true rfl) ?_
  have y0 := ck_Y0 hx
  refine sg_iconst (pc := 0) (z := 0) (dc_X5_isSound_0.1.1.1.1) (by decide) ?_
  refine sg_istore_n (pc := 1) (j := 1) (dc_X5_isSound_0.1.1.1.2) rfl (by decide) ?_
  have loop2 : ∀ (N : Nat) (p : Int), (0 ≤ p) → (4 - p).toNat < N → sg_R w mi_X5_isSound d 0 0 Q 2 [(1, sg_i p), (0, sg_r B)] [] h 0 0 := by
    intro N
    induction N with
    | zero => intro p p0 hm; exact absurd hm (Nat.not_lt_zero _)
    | succ N ih =>
      intro p p0 hm
      refine sg_iload_n (pc := 2) (j := 1) (dc_X5_isSound_0.1.1.2.1) rfl rfl ?_
      refine sg_iconst (pc := 3) (z := 4) (dc_X5_isSound_0.1.1.2.2) (by decide) ?_
      refine sg_icmp_ge (pc := 4) (tgt := 26) (dc_X5_isSound_0.1.2.1.1) (by decide) (fun c4 => ?_) (fun c4 => ?_)
      · refine sg_iconst (pc := 26) (z := 0) (dc_X5_isSound_0.2.2.2.1) (by decide) ?_
        refine sg_istore_n (pc := 27) (j := 1) (dc_X5_isSound_0.2.2.2.2) rfl (by decide) ?_
        have loop28 : ∀ (N : Nat) (p : Int), (0 ≤ p) → (2 - p).toNat < N → sg_R w mi_X5_isSound d 0 0 Q 28 [(1, sg_i p), (0, sg_r B)] [] h 0 0 := by
          intro N
          induction N with
          | zero => intro p p0 hm; exact absurd hm (Nat.not_lt_zero _)
          | succ N ih =>
            intro p p0 hm
            refine sg_iload_n (pc := 28) (j := 1) (dc_X5_isSound_28.1.1.1.1) rfl rfl ?_
            refine sg_iconst (pc := 29) (z := 2) (dc_X5_isSound_28.1.1.1.2) (by decide) ?_
            refine sg_icmp_ge (pc := 30) (tgt := 52) (dc_X5_isSound_28.1.1.2.1) (by decide) (fun c30 => ?_) (fun c30 => ?_)
            · refine sg_iconst (pc := 52) (z := 1) (dc_X5_isSound_28.2.2.1.1) (by decide) ?_
              refine sg_zret (pc := 53) (dc_X5_isSound_28.2.2.1.2) rfl (by first | exact Or.inl rfl | exact Or.inr rfl | omega | assumption) (by first | exact Nat.le_of_ble_eq_true rfl | omega) (by first | exact Nat.le_of_ble_eq_true rfl | omega) ?_
              exact hQ _ (by first | exact Or.inl rfl | exact Or.inr rfl | omega | assumption)
            · refine sg_aload_n (pc := 33) (j := 0) (dc_X5_isSound_28.1.1.2.2) rfl rfl ?_
              refine sg_iload_n (pc := 34) (j := 1) (dc_X5_isSound_28.1.2.1.1) rfl rfl ?_
              refine sg_cE1 (pc := 35) (d' := d - 1) (mc' := 0) (ms' := 0) 6 g (dc_X5_isSound_28.1.2.1.2) cb_X5_trackOf ml_X5_151 mn_X5_trackOf rfl mv_X5_trackOf (Nat.le_of_ble_eq_true rfl) (ck_oc (by assumption)) (Nat.le_of_ble_eq_true rfl) (by first | exact jl_d0 hd rfl | omega) (by first | exact Nat.le_of_ble_eq_true rfl | omega) (by first | exact Nat.le_of_ble_eq_true rfl | omega) ?_
              refine s_X5_trackOf_N g (by first | exact jl_d1 hd rfl | omega) (by assumption) (by omega) (fun a35 l35 r35 r35b => sg_K1 ?_)
              refine sg_cS1 (pc := 38) (d' := d - 1) (mc' := 0) (ms' := 0) g (dc_X5_isSound_28.1.2.2.1) cb_X5_isSoundTrack ml_X5_281 ms_X5_isSoundTrack (Nat.le_of_ble_eq_true rfl) (by first | exact jl_d0 hd rfl | omega) (by first | exact Nat.le_of_ble_eq_true rfl | omega) (by first | exact Nat.le_of_ble_eq_true rfl | omega) ?_
              refine s_X5_isSoundTrack g (by first | exact jl_d1 hd rfl | omega) (by assumption) (by assumption) (fun v38 b38 => sg_K1 ?_)
              refine sg_if_ne (pc := 41) (tgt := 46) (dc_X5_isSound_28.1.2.2.2) (by decide) (fun c41 => ?_) (fun c41 => ?_)
              · first | refine sg_iincB (pc := 46) (dc_X5_isSound_28.2.1.2.1) rfl (by decide) (by decide) (by omega) (by omega) ?_ | refine sg_iinc (pc := 46) (dc_X5_isSound_28.2.1.2.1) rfl (by decide) (by decide) ?_
                refine sg_goto (pc := 49) (tgt := 28) (dc_X5_isSound_28.2.1.2.2) (by decide) ?_
                refine sg_lsub (lv' := [(1, _), (0, _)]) ⟨rfl, rfl, trivial⟩ ?_
                exact ih _ (by omega) (by first | exact jl_m1 hm (by omega) | exact jl_m2 hm (by omega) | omega)
              · refine sg_iconst (pc := 44) (z := 0) (dc_X5_isSound_28.2.1.1.1) (by decide) ?_
                refine sg_zret (pc := 45) (dc_X5_isSound_28.2.1.1.2) rfl (by first | exact Or.inl rfl | exact Or.inr rfl | omega | assumption) (by first | exact Nat.le_of_ble_eq_true rfl | omega) (by first | exact Nat.le_of_ble_eq_true rfl | omega) ?_
                exact hQ _ (by first | exact Or.inl rfl | exact Or.inr rfl | omega | assumption)
        refine sg_lsub (lv' := [(1, _), (0, _)]) ⟨rfl, rfl, trivial⟩ ?_
        exact loop28 _ _ (by omega) (Nat.lt_succ_self _)
      · refine sg_aload_n (pc := 7) (j := 0) (dc_X5_isSound_0.1.2.1.2) rfl rfl ?_
        refine sg_iload_n (pc := 8) (j := 1) (dc_X5_isSound_0.1.2.2.1) rfl rfl ?_
        refine sg_cE1 (pc := 9) (d' := d - 1) (mc' := 0) (ms' := 0) 6 g (dc_X5_isSound_0.1.2.2.2) cb_X5_rowOf ml_X5_36 mn_X5_rowOf rfl mv_X5_rowOf (Nat.le_of_ble_eq_true rfl) (ck_oc (by assumption)) (Nat.le_of_ble_eq_true rfl) (by first | exact jl_d0 hd rfl | omega) (by first | exact Nat.le_of_ble_eq_true rfl | omega) (by first | exact Nat.le_of_ble_eq_true rfl | omega) ?_
        refine s_X5_rowOf_N g (by first | exact jl_d1 hd rfl | omega) (by assumption) (by omega) (fun a9 l9 r9 r9b => sg_K1 ?_)
        refine sg_cS1 (pc := 12) (d' := d - 1) (mc' := 0) (ms' := 0) g (dc_X5_isSound_0.2.1.1.1) cb_X5_isSoundRow ml_X5_278 ms_X5_isSoundRow (Nat.le_of_ble_eq_true rfl) (by first | exact jl_d0 hd rfl | omega) (by first | exact Nat.le_of_ble_eq_true rfl | omega) (by first | exact Nat.le_of_ble_eq_true rfl | omega) ?_
        refine s_X5_isSoundRow g (by first | exact jl_d1 hd rfl | omega) (by assumption) (by assumption) (fun v12 b12 => sg_K1 ?_)
        refine sg_if_ne (pc := 15) (tgt := 20) (dc_X5_isSound_0.2.1.1.2) (by decide) (fun c15 => ?_) (fun c15 => ?_)
        · first | refine sg_iincB (pc := 20) (dc_X5_isSound_0.2.2.1.1) rfl (by decide) (by decide) (by omega) (by omega) ?_ | refine sg_iinc (pc := 20) (dc_X5_isSound_0.2.2.1.1) rfl (by decide) (by decide) ?_
          refine sg_goto (pc := 23) (tgt := 2) (dc_X5_isSound_0.2.2.1.2) (by decide) ?_
          refine sg_lsub (lv' := [(1, _), (0, _)]) ⟨rfl, rfl, trivial⟩ ?_
          exact ih _ (by omega) (by first | exact jl_m1 hm (by omega) | exact jl_m2 hm (by omega) | omega)
        · refine sg_iconst (pc := 18) (z := 0) (dc_X5_isSound_0.2.1.2.1) (by decide) ?_
          refine sg_zret (pc := 19) (dc_X5_isSound_0.2.1.2.2) rfl (by first | exact Or.inl rfl | exact Or.inr rfl | omega | assumption) (by first | exact Nat.le_of_ble_eq_true rfl | omega) (by first | exact Nat.le_of_ble_eq_true rfl | omega) ?_
          exact hQ _ (by first | exact Or.inl rfl | exact Or.inr rfl | omega | assumption)
  refine sg_lsub (lv' := [(1, _), (0, _)]) ⟨rfl, rfl, trivial⟩ ?_
  exact loop2 _ _ (by omega) (Nat.lt_succ_self _)

