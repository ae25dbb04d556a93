set_option maxRecDepth 100000 in
theorem f_X5_word {w : sg_W} {Q : sg_O → sg_H → Prop} {h : sg_H} (g : sg_G w) {d : Nat} (hd : 14 ≤ d) {B : Nat} {A : fa_A} (hx : cf_X h B A) (ok : fa_ok A) {row k isl : Int} {L : List Int} (hL : fa_L A row.toNat = L) (hQ : ¬ (row < 0 ∨ 4 ≤ row ∨ fs_wat L k = -1) → ∀ v : Int, v = (if isl = 0 then fs_wat L k else fs_end L (fs_wat L k) - fs_wat L k) → Q (.inl (some (sg_i v))) h) (hXI : (row < 0 ∨ 4 ≤ row ∨ fs_wat L k = -1) → ∀ z, h.1 ≤ z → Q (.inr e_I) (z, h.2)) : sg_C w mi_X5_word d 8 48 [sg_r B, sg_i row, sg_i k, sg_i isl] h Q := by
  refine sg_of pn_X5 (Nat.le_of_ble_eq_true rfl) ?_
  obtain ⟨x0, ho, hS, hP, hK⟩ := id hx
  have y0 := ck_Y0 x0
  have hc40 : ck_cap 0 = 40 := rfl
  refine sg_aload_n (pc := 0) (j := 0) (dc_X5_word_0.1.1.1.1) rfl rfl ?_
  refine sg_iload_n (pc := 1) (j := 1) (dc_X5_word_0.1.1.1.2) rfl rfl ?_
  refine sg_cE1 (pc := 2) (d' := d - 1) (mc' := 1) (ms' := 6) 6 g (dc_X5_word_0.1.1.2.1) cb_X5_rowOf ml_X5_36 mn_X5_rowOf rfl mv_X5_rowOf (Nat.le_of_ble_eq_true rfl) (ck_oc (by assumption)) (Nat.le_of_ble_eq_true rfl) (by first | exact jl_d0 hd rfl | omega) (by first | exact Nat.le_of_ble_eq_true rfl | omega) (by first | exact Nat.le_of_ble_eq_true rfl | omega) ?_
  refine f_X5_rowOf g (by first | exact jl_d1 hd rfl | omega) (by assumption) (fun l2 r2 L2 => sg_K1 ?_) (fun t2 z2 w2 => sg_KX (by first | exact Nat.le_of_ble_eq_true rfl | omega) (by first | exact Nat.le_of_ble_eq_true rfl | omega) (hXI (by omega) z2 w2))
  obtain ⟨a2, ea2⟩ : ∃ a, a = B + 1 + 3 + 2 * row.toNat := ⟨_, rfl⟩
  rw [← ea2] at L2 ⊢
  have k2 : cf_l h a2 = L := by rw [ea2, cf_rl hx (by omega)]; exact hL
  have r42 := fa_row ok (i := row.toNat) (by omega)
  rw [hL] at r42
  refine sg_astore (pc := 5) (dc_X5_word_0.1.1.2.2) (by decide) ?_
  refine sg_aload (pc := 7) (dc_X5_word_0.1.2.1.1) rfl ?_
  refine sg_iload_n (pc := 9) (j := 2) (dc_X5_word_0.1.2.1.2) rfl rfl ?_
  refine sg_cS2 (pc := 10) (d' := d - 1) (mc' := 0) (ms' := 0) g (dc_X5_word_0.1.2.2.1) cb_X5_wordBegin ml_X5_223 ms_X5_wordBegin (Nat.le_of_ble_eq_true rfl) (by first | exact jl_d0 hd rfl | omega) (by first | exact Nat.le_of_ble_eq_true rfl | omega) (by first | exact Nat.le_of_ble_eq_true rfl | omega) ?_
  refine f_X5_wordBegin g (by first | exact jl_d1 hd rfl | omega) (by assumption) L2 k2 (fun z10 R10 => sg_K1 ?_)
  have E10 := fs_theE fs_wU R10
  have zr : z10 = -1 ∨ (0 ≤ z10 ∧ z10 < (L.length : Int)) := R10.elim (fun q => Or.inl q.1) (fun q => Or.inr ⟨q.1, q.2.1⟩)
  have E11 : z10 = fs_wat L k := E10
  refine sg_istore (pc := 13) (dc_X5_word_0.1.2.2.2) (by decide) ?_
  refine sg_iload (pc := 15) (dc_X5_word_0.2.1.1.1) rfl ?_
  refine sg_iconst (pc := 17) (z := -1) (dc_X5_word_0.2.1.1.2) (by decide) ?_
  refine sg_icmp_ne (pc := 18) (tgt := 31) (dc_X5_word_0.2.1.2.1) (by decide) (fun c18 => ?_) (fun c18 => ?_)
  · refine sg_iload_n (pc := 31) (j := 3) (dc_X5_word_31.1.1.1.1) rfl rfl ?_
    refine sg_if_ne (pc := 32) (tgt := 38) (dc_X5_word_31.1.1.1.2) (by decide) (fun c32 => ?_) (fun c32 => ?_)
    · refine sg_iload (pc := 38) (dc_X5_word_31.1.2.1.1) rfl ?_
      refine sg_istore (pc := 40) (dc_X5_word_31.1.2.1.2) (by decide) ?_
      have loop42 : ∀ (N : Nat) (p : Int), (z10 ≤ p ∧ p ≤ (L.length : Int)) → (∀ j : Nat, z10 ≤ (j : Int) → (j : Int) < p → fn_isOf (L.getD j 0) 2 ≠ 0) → ((L.length : Int) - p).toNat < N → sg_R w mi_X5_word d 8 48 Q 42 [(6, sg_i p), (5, sg_i z10), (0, sg_r B), (4, sg_r a2)] [] h 1 6 := by
        intro N
        induction N with
        | zero => intro p p0 p1 hm; exact absurd hm (Nat.not_lt_zero _)
        | succ N ih =>
          intro p p0 p1 hm
          refine sg_iload (pc := 42) (dc_X5_word_31.1.2.2.1) rfl ?_
          refine sg_aload (pc := 44) (dc_X5_word_31.1.2.2.2) rfl ?_
          refine sg_cE0 (pc := 46) (d' := d - 1) (mc' := 0) (ms' := 0) 3 g (dc_X5_word_31.2.1.1.1) cb_X0_size ml_X5_63 mn_X0_size rfl mv_X0_size (Nat.le_of_ble_eq_true rfl) (ck_lc (by assumption) (by first | assumption | exact ck_rev)) (Nat.le_of_ble_eq_true rfl) (by first | exact jl_d0 hd rfl | omega) (by first | exact Nat.le_of_ble_eq_true rfl | omega) (by first | exact Nat.le_of_ble_eq_true rfl | omega) ?_
          refine f_X0_size g (by first | exact jl_d1 hd rfl | omega) (by assumption) L2 (fun z46 e46 l046 u46 => sg_K1 ?_)
          rw [k2] at e46
          try rw [fa_tlen] at e46
          refine sg_icmp_ge (pc := 49) (tgt := 72) (dc_X5_word_31.2.1.1.2) (by decide) (fun c49 => ?_) (fun c49 => ?_)
          · refine sg_iload (pc := 72) (dc_X5_word_66.1.2.1) rfl ?_
            refine sg_iload (pc := 74) (dc_X5_word_66.1.2.2) rfl ?_
            first | refine sg_isubB (pc := 76) (dc_X5_word_66.2.1.1) (by omega) (by omega) ?_ | refine sg_isub (pc := 76) (dc_X5_word_66.2.1.1) ?_
            refine sg_iret (pc := 77) (dc_X5_word_66.2.1.2) rfl (by first | exact Nat.le_of_ble_eq_true rfl | omega) (by first | exact Nat.le_of_ble_eq_true rfl | omega) ?_
            have ee := fs_theE (fs_eU (L := L) (k := z10) (by omega)) (v := p) ⟨by omega, by omega, p1, Or.inl (by omega)⟩
            exact hQ (by omega) _ (by rw [if_neg (by omega)]; show _ = fs_end L (fs_wat L k) - fs_wat L k; rw [show fs_wat L k = z10 from E10.symm]; show _ = fs_the (fs_eR L z10) - z10; rw [← ee])
          · refine sg_aload (pc := 52) (dc_X5_word_31.2.1.2.1) rfl ?_
            refine sg_iload (pc := 54) (dc_X5_word_31.2.1.2.2) rfl ?_
            refine sg_cE1 (pc := 56) (d' := d - 1) (mc' := 0) (ms' := 0) 3 g (dc_X5_word_31.2.2.1.1) cb_X0_get ml_X5_75 mn_X0_get rfl mv_X0_get (Nat.le_of_ble_eq_true rfl) (ck_lc (by assumption) (by first | assumption | exact ck_rev)) (Nat.le_of_ble_eq_true rfl) (by first | exact jl_d0 hd rfl | omega) (by first | exact Nat.le_of_ble_eq_true rfl | omega) (by first | exact Nat.le_of_ble_eq_true rfl | omega) ?_
            refine f_X0_get g (by first | exact jl_d1 hd rfl | omega) (by assumption) L2 (fun z56 e56 v56 => sg_K1 ?_)
            rw [k2] at e56
            rw [k2] at v56
            try rw [fa_tg (by omega) (by omega)] at e56
            rw [gg_in (by omega) (by omega)] at e56
            subst e56
            refine sg_iconst (pc := 59) (z := 2) (dc_X5_word_31.2.2.1.2) (by decide) ?_
            refine sg_cS2 (pc := 60) (d' := d - 1) (mc' := 0) (ms' := 0) g (dc_X5_word_31.2.2.2.1) cb_X2_isOf ml_X5_96 ms_X2_isOf (Nat.le_of_ble_eq_true rfl) (by first | exact jl_d0 hd rfl | omega) (by first | exact Nat.le_of_ble_eq_true rfl | omega) (by first | exact Nat.le_of_ble_eq_true rfl | omega) ?_
            refine s_X2_isOf g (by first | exact jl_d1 hd rfl | omega) (fun z60 h60 b60 => sg_K1 ?_)
            refine sg_if_eq (pc := 63) (tgt := 72) (dc_X5_word_31.2.2.2.2) (by decide) (fun c63 => ?_) (fun c63 => ?_)
            · refine sg_iload (pc := 72) (dc_X5_word_66.1.2.1) rfl ?_
              refine sg_iload (pc := 74) (dc_X5_word_66.1.2.2) rfl ?_
              first | refine sg_isubB (pc := 76) (dc_X5_word_66.2.1.1) (by omega) (by omega) ?_ | refine sg_isub (pc := 76) (dc_X5_word_66.2.1.1) ?_
              refine sg_iret (pc := 77) (dc_X5_word_66.2.1.2) rfl (by first | exact Nat.le_of_ble_eq_true rfl | omega) (by first | exact Nat.le_of_ble_eq_true rfl | omega) ?_
              have ee := fs_theE (fs_eU (L := L) (k := z10) (by omega)) (v := p) ⟨by omega, by omega, p1, Or.inr (by omega)⟩
              exact hQ (by omega) _ (by rw [if_neg (by omega)]; show _ = fs_end L (fs_wat L k) - fs_wat L k; rw [show fs_wat L k = z10 from E10.symm]; show _ = fs_the (fs_eR L z10) - z10; rw [← ee])
            · first | refine sg_iincB (pc := 66) (dc_X5_word_66.1.1.1) rfl (by decide) (by decide) (by omega) (by omega) ?_ | refine sg_iinc (pc := 66) (dc_X5_word_66.1.1.1) rfl (by decide) (by decide) ?_
              refine sg_goto (pc := 69) (tgt := 42) (dc_X5_word_66.1.1.2) (by decide) ?_
              refine sg_lsub (lv' := [(6, _), (5, _), (0, _), (4, _)]) ⟨rfl, rfl, rfl, rfl, trivial⟩ ?_
              exact ih _ (by omega) (fun j j0 j1 => by
                by_cases q : j = p.toNat
                · subst q; omega
                · exact p1 j j0 (by omega)) (by first | exact jl_m1 hm (by omega) | exact jl_m2 hm (by omega) | omega)
      refine sg_lsub (lv' := [(6, _), (5, _), (0, _), (4, _)]) ⟨rfl, rfl, rfl, rfl, trivial⟩ ?_
      exact loop42 _ _ (by omega) (fun j j0 j1 => absurd j1 (by omega)) (Nat.lt_succ_self _)
    · refine sg_iload (pc := 35) (dc_X5_word_31.1.1.2.1) rfl ?_
      refine sg_iret (pc := 37) (dc_X5_word_31.1.1.2.2) rfl (by first | exact Nat.le_of_ble_eq_true rfl | omega) (by first | exact Nat.le_of_ble_eq_true rfl | omega) ?_
      exact hQ (by omega) _ (by rw [if_pos (by omega)]; exact E10)
  · refine sg_throw (pc := 21) g th_X5_226_228 (dc_X5_word_0.2.1.2.2) (dc_X5_word_0.2.2.1.1) (dc_X5_word_0.2.2.1.2) (dc_X5_word_0.2.2.2.1) (dc_X5_word_0.2.2.2.2) (by first | exact Nat.le_trans (Nat.le_of_ble_eq_true rfl) hd | omega) (Nat.le_of_ble_eq_true rfl) (by first | exact Nat.le_of_ble_eq_true rfl | omega) (by first | exact Nat.le_of_ble_eq_true rfl | omega) ?_
    exact fun z hz => hXI (by omega) z hz

