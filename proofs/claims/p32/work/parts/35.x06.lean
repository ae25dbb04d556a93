set_option maxRecDepth 100000 in
theorem f_X5_strip {w : sg_W} {Q : sg_O → sg_H → Prop} {h : sg_H} (g : sg_G w) {d : Nat} (hd : 14 ≤ d) {B : Nat} {A : fa_A} (hx : cf_X h B A) (ok : fa_ok A) {row : Int} {L : List Int} (hL : fa_L A row.toNat = L) (hQ : ¬ (row < 0 ∨ 4 ≤ row) → ∀ (v : Int) (h' : sg_H), v = (L.length : Int) - ((fs_strip L).length : Int) → cf_X h' B (fa_put A row.toNat (fs_strip L)) → ck_F B h h' → Q (.inl (some (sg_i v))) h') (hXI : (row < 0 ∨ 4 ≤ row) → ∀ z, h.1 ≤ z → Q (.inr e_I) (z, h.2)) : sg_C w mi_X5_strip d 8 48 [sg_r B, sg_i row] h Q := by
  refine sg_of pn_X5 (Nat.le_of_ble_eq_true rfl) ?_
  obtain ⟨x0, ho, hS, hP, hK⟩ := id hx
  have y0 := ck_Y0 x0
  refine sg_aload_n (pc := 0) (j := 0) (dc_X5_strip_0.1.1.1.1) rfl rfl ?_
  refine sg_iload_n (pc := 1) (j := 1) (dc_X5_strip_0.1.1.1.2) rfl rfl ?_
  refine sg_cE1 (pc := 2) (d' := d - 1) (mc' := 1) (ms' := 6) 6 g (dc_X5_strip_0.1.1.2.1) cb_X5_rowOf ml_X5_36 mn_X5_rowOf rfl mv_X5_rowOf (Nat.le_of_ble_eq_true rfl) (ck_oc (by assumption)) (Nat.le_of_ble_eq_true rfl) (by first | exact jl_d0 hd rfl | omega) (by first | exact Nat.le_of_ble_eq_true rfl | omega) (by first | exact Nat.le_of_ble_eq_true rfl | omega) ?_
  refine f_X5_rowOf g (by first | exact jl_d1 hd rfl | omega) (by assumption) (fun l2 r2 L2 => sg_K1 ?_) (fun t2 z2 w2 => sg_KX (by first | exact Nat.le_of_ble_eq_true rfl | omega) (by first | exact Nat.le_of_ble_eq_true rfl | omega) (hXI (by omega) z2 w2))
  obtain ⟨a2, ea2⟩ : ∃ a, a = B + 1 + 3 + 2 * row.toNat := ⟨_, rfl⟩
  rw [← ea2] at L2 ⊢
  have k2 : cf_l h a2 = L := by rw [ea2, cf_rl hx (by omega)]; exact hL
  have r42 := fa_row ok (i := row.toNat) (by omega)
  rw [hL] at r42
  refine sg_astore_n (pc := 5) (j := 2) (dc_X5_strip_0.1.1.2.2) rfl (by decide) ?_
  refine sg_aload_n (pc := 6) (j := 0) (dc_X5_strip_0.1.2.1.1) rfl rfl ?_
  refine ck_gob (pc := 7) g (dc_X5_strip_0.1.2.1.2) fk_X5_19 (by assumption) (fun _ => rfl) ?_
  refine sg_aload_n (pc := 10) (j := 0) (dc_X5_strip_0.1.2.2.1) rfl rfl ?_
  refine ck_gob (pc := 11) g (dc_X5_strip_0.1.2.2.2) fk_X5_10 (by assumption) (fun _ => rfl) ?_
  refine sg_cE1 (pc := 14) (d' := d - 1) (mc' := 0) (ms' := 0) 4 g (dc_X5_strip_0.2.1.1.1) cb_X1_keep ml_X5_55 mn_X1_keep rfl mv_X1_keep (Nat.le_of_ble_eq_true rfl) (ck_pc (by assumption)) (Nat.le_of_ble_eq_true rfl) (by first | exact jl_d0 hd rfl | omega) (by first | exact Nat.le_of_ble_eq_true rfl | omega) (by first | exact Nat.le_of_ble_eq_true rfl | omega) ?_
  refine f_X1_keep g (by first | exact jl_d1 hd rfl | omega) x0 ho (fun h14 x14 F14 fr14 ho14 P14 => sg_K0 ?_)
  have y14 : ck_Y h h14 B := ⟨x14, F14⟩
  have q14a2 : cf_l h14 a2 = cf_l h a2 := cf_lq (fr14 _ (by omega)) (fr14 _ (by omega))
  rw [k2] at q14a2
  refine sg_aload_n (pc := 17) (j := 2) (dc_X5_strip_0.2.1.1.2) rfl rfl ?_
  refine sg_cE0 (pc := 18) (d' := d - 1) (mc' := 0) (ms' := 0) 3 g (dc_X5_strip_0.2.1.2.1) cb_X0_size ml_X5_63 mn_X0_size rfl mv_X0_size (Nat.le_of_ble_eq_true rfl) (ck_lc (by assumption) (by first | assumption | exact ck_rev)) (Nat.le_of_ble_eq_true rfl) (by first | exact jl_d0 hd rfl | omega) (by first | exact Nat.le_of_ble_eq_true rfl | omega) (by first | exact Nat.le_of_ble_eq_true rfl | omega) ?_
  refine f_X0_size g (by first | exact jl_d1 hd rfl | omega) (by assumption) L2 (fun z18 e18 l018 u18 => sg_K1 ?_)
  rw [q14a2] at e18
  try rw [fa_tlen] at e18
  refine sg_istore_n (pc := 21) (j := 3) (dc_X5_strip_0.2.1.2.2) rfl (by decide) ?_
  refine sg_iconst (pc := 22) (z := 0) (dc_X5_strip_0.2.2.1.1) (by decide) ?_
  refine sg_istore (pc := 23) (dc_X5_strip_0.2.2.1.2) (by decide) ?_
  have loop25 : ∀ (N : Nat) (b : Int), (0 ≤ b ∧ b ≤ (L.length : Int)) → (∀ j : Nat, (j : Int) < b → fs_W L j) → ((L.length : Int) - b).toNat < N → sg_R w mi_X5_strip d 8 48 Q 25 [(4, sg_i b), (3, sg_i z18), (0, sg_r B), (2, sg_r a2)] [] h14 1 6 := by
    intro N
    induction N with
    | zero => intro b b0 b1 hm; exact absurd hm (Nat.not_lt_zero _)
    | succ N ih =>
      intro b b0 b1 hm
      refine sg_iload (pc := 25) (dc_X5_strip_0.2.2.2.1) rfl ?_
      refine sg_iload_n (pc := 27) (j := 3) (dc_X5_strip_0.2.2.2.2) rfl rfl ?_
      refine sg_icmp_ge (pc := 28) (tgt := 50) (dc_X5_strip_28.1.1.1.1) (by decide) (fun c28 => ?_) (fun c28 => ?_)
      · have b2 : b.toNat = L.length ∨ ¬ fs_W L b.toNat := Or.inl (by omega)
        refine sg_iload_n (pc := 50) (j := 3) (dc_X5_strip_28.2.1.1.2) rfl rfl ?_
        refine sg_istore (pc := 51) (dc_X5_strip_28.2.1.2.1) (by decide) ?_
        have loop53 : ∀ (N : Nat) (e : Int), (b ≤ e ∧ e ≤ (L.length : Int)) → (∀ j : Nat, e ≤ (j : Int) → j < L.length → fs_W L j) → e.toNat < N → sg_R w mi_X5_strip d 8 48 Q 53 [(5, sg_i e), (4, sg_i b), (3, sg_i z18), (0, sg_r B), (2, sg_r a2)] [] h14 1 6 := by
          intro N
          induction N with
          | zero => intro e e0 e1 hm; exact absurd hm (Nat.not_lt_zero _)
          | succ N ihb =>
            intro e e0 e1 hm
            refine sg_iload (pc := 53) (dc_X5_strip_28.2.1.2.2) rfl ?_
            refine sg_iload (pc := 55) (dc_X5_strip_28.2.2.1.1) rfl ?_
            refine sg_icmp_le (pc := 57) (tgt := 81) (dc_X5_strip_28.2.2.1.2) (by decide) (fun c57 => ?_) (fun c57 => ?_)
            · have rr : fs_R L b.toNat e.toNat := ⟨by omega, by omega, fun j hj => b1 j (by omega), b2, fun j j0 j1 => e1 j (by omega) j1, by first | exact Or.inl (by omega) | (refine Or.inr ?_; rw [show e.toNat - 1 = (e - 1).toNat by omega]; unfold fs_W; omega)⟩
              have sl := fs_stripl rr
              refine sg_aload_n (pc := 81) (j := 2) (dc_X5_strip_63.2.1.1.1) rfl rfl ?_
              refine sg_iload (pc := 82) (dc_X5_strip_63.2.1.1.2) rfl ?_
              refine sg_iload (pc := 84) (dc_X5_strip_63.2.1.2.1) rfl ?_
              refine sg_cE2 (pc := 86) (d' := d - 1) (mc' := 0) (ms' := 0) 3 g (dc_X5_strip_63.2.1.2.2) cb_X0_narrow ml_X5_103 mn_X0_narrow rfl mv_X0_narrow (Nat.le_of_ble_eq_true rfl) (ck_lc (by assumption) (by first | assumption | exact ck_rev)) (Nat.le_of_ble_eq_true rfl) (by first | exact jl_d0 hd rfl | omega) (by first | exact Nat.le_of_ble_eq_true rfl | omega) (by first | exact Nat.le_of_ble_eq_true rfl | omega) ?_
              refine f_X0_narrow g (by first | exact jl_d1 hd rfl | omega) (by assumption) L2 (by first | omega | (rw [q14a2]; omega)) (by first | omega | (rw [q14a2]; omega)) (by first | omega | (rw [q14a2]; omega)) (fun h86 x86 f86 l86 => sg_K0 ?_)
              rw [q14a2] at l86
              have y86 := ck_Yt (h0 := h) (by assumption) x86 f86.1
              refine sg_iload_n (pc := 89) (j := 3) (dc_X5_strip_63.2.2.1.1) rfl rfl ?_
              refine sg_aload_n (pc := 90) (j := 2) (dc_X5_strip_63.2.2.1.2) rfl rfl ?_
              refine sg_cE0 (pc := 91) (d' := d - 1) (mc' := 0) (ms' := 0) 3 g (dc_X5_strip_63.2.2.2.1) cb_X0_size ml_X5_63 mn_X0_size rfl mv_X0_size (Nat.le_of_ble_eq_true rfl) (ck_lc (by assumption) (by first | assumption | exact ck_rev)) (Nat.le_of_ble_eq_true rfl) (by first | exact jl_d0 hd rfl | omega) (by first | exact Nat.le_of_ble_eq_true rfl | omega) (by first | exact Nat.le_of_ble_eq_true rfl | omega) ?_
              refine f_X0_size g (by first | exact jl_d1 hd rfl | omega) (by assumption) L2 (fun z91 e91 l091 u91 => sg_K1 ?_)
              rw [l86] at e91
              try rw [fa_tlen] at e91
              have e91' : z91 = ((fs_strip L).length : Int) := by rw [e91, fs_stripE rr]
              first | refine sg_isubB (pc := 94) (dc_X5_strip_63.2.2.2.2) (by omega) (by omega) ?_ | refine sg_isub (pc := 94) (dc_X5_strip_63.2.2.2.2) ?_
              refine sg_iret (pc := 95) dc_X5_strip_95 rfl (by first | exact Nat.le_of_ble_eq_true rfl | omega) (by first | exact Nat.le_of_ble_eq_true rfl | omega) ?_
              exact hQ (by omega) _ _ (by rw [e91', e18]) (cf_put (i := row.toNat) hx fr14 ho14 P14 x86 f86 (by omega) (by omega) (by rw [l86, fs_stripE rr])) (ck_Ft F14 f86.1)
            · refine sg_aload_n (pc := 60) (j := 2) (dc_X5_strip_28.2.2.2.1) rfl rfl ?_
              refine sg_iload (pc := 61) (dc_X5_strip_28.2.2.2.2) rfl ?_
              refine sg_iconst (pc := 63) (z := 1) (dc_X5_strip_63.1.1.1.1) (by decide) ?_
              first | refine sg_isubB (pc := 64) (dc_X5_strip_63.1.1.1.2) (by omega) (by omega) ?_ | refine sg_isub (pc := 64) (dc_X5_strip_63.1.1.1.2) ?_
              refine sg_cE1 (pc := 65) (d' := d - 1) (mc' := 0) (ms' := 0) 3 g (dc_X5_strip_63.1.1.2.1) cb_X0_get ml_X5_75 mn_X0_get rfl mv_X0_get (Nat.le_of_ble_eq_true rfl) (ck_lc (by assumption) (by first | assumption | exact ck_rev)) (Nat.le_of_ble_eq_true rfl) (by first | exact jl_d0 hd rfl | omega) (by first | exact Nat.le_of_ble_eq_true rfl | omega) (by first | exact Nat.le_of_ble_eq_true rfl | omega) ?_
              refine f_X0_get g (by first | exact jl_d1 hd rfl | omega) (by assumption) L2 (fun z65 e65 v65 => sg_K1 ?_)
              rw [q14a2] at e65
              rw [q14a2] at v65
              try rw [fa_tg (by omega) (by omega)] at e65
              rw [gg_in (by omega) (by omega)] at e65
              subst e65
              refine sg_iconst (pc := 68) (z := 3) (dc_X5_strip_63.1.1.2.2) (by decide) ?_
              refine sg_cS2 (pc := 69) (d' := d - 1) (mc' := 0) (ms' := 0) g (dc_X5_strip_63.1.2.1.1) cb_X2_isOf ml_X5_96 ms_X2_isOf (Nat.le_of_ble_eq_true rfl) (by first | exact jl_d0 hd rfl | omega) (by first | exact Nat.le_of_ble_eq_true rfl | omega) (by first | exact Nat.le_of_ble_eq_true rfl | omega) ?_
              refine s_X2_isOf g (by first | exact jl_d1 hd rfl | omega) (fun z69 h69 b69 => sg_K1 ?_)
              refine sg_if_eq (pc := 72) (tgt := 81) (dc_X5_strip_63.1.2.1.2) (by decide) (fun c72 => ?_) (fun c72 => ?_)
              · have rr : fs_R L b.toNat e.toNat := ⟨by omega, by omega, fun j hj => b1 j (by omega), b2, fun j j0 j1 => e1 j (by omega) j1, by first | exact Or.inl (by omega) | (refine Or.inr ?_; rw [show e.toNat - 1 = (e - 1).toNat by omega]; unfold fs_W; omega)⟩
                have sl := fs_stripl rr
                refine sg_aload_n (pc := 81) (j := 2) (dc_X5_strip_63.2.1.1.1) rfl rfl ?_
                refine sg_iload (pc := 82) (dc_X5_strip_63.2.1.1.2) rfl ?_
                refine sg_iload (pc := 84) (dc_X5_strip_63.2.1.2.1) rfl ?_
                refine sg_cE2 (pc := 86) (d' := d - 1) (mc' := 0) (ms' := 0) 3 g (dc_X5_strip_63.2.1.2.2) cb_X0_narrow ml_X5_103 mn_X0_narrow rfl mv_X0_narrow (Nat.le_of_ble_eq_true rfl) (ck_lc (by assumption) (by first | assumption | exact ck_rev)) (Nat.le_of_ble_eq_true rfl) (by first | exact jl_d0 hd rfl | omega) (by first | exact Nat.le_of_ble_eq_true rfl | omega) (by first | exact Nat.le_of_ble_eq_true rfl | omega) ?_
                refine f_X0_narrow g (by first | exact jl_d1 hd rfl | omega) (by assumption) L2 (by first | omega | (rw [q14a2]; omega)) (by first | omega | (rw [q14a2]; omega)) (by first | omega | (rw [q14a2]; omega)) (fun h86 x86 f86 l86 => sg_K0 ?_)
                rw [q14a2] at l86
                have y86 := ck_Yt (h0 := h) (by assumption) x86 f86.1
                refine sg_iload_n (pc := 89) (j := 3) (dc_X5_strip_63.2.2.1.1) rfl rfl ?_
                refine sg_aload_n (pc := 90) (j := 2) (dc_X5_strip_63.2.2.1.2) rfl rfl ?_
                refine sg_cE0 (pc := 91) (d' := d - 1) (mc' := 0) (ms' := 0) 3 g (dc_X5_strip_63.2.2.2.1) cb_X0_size ml_X5_63 mn_X0_size rfl mv_X0_size (Nat.le_of_ble_eq_true rfl) (ck_lc (by assumption) (by first | assumption | exact ck_rev)) (Nat.le_of_ble_eq_true rfl) (by first | exact jl_d0 hd rfl | omega) (by first | exact Nat.le_of_ble_eq_true rfl | omega) (by first | exact Nat.le_of_ble_eq_true rfl | omega) ?_
                refine f_X0_size g (by first | exact jl_d1 hd rfl | omega) (by assumption) L2 (fun z91 e91 l091 u91 => sg_K1 ?_)
                rw [l86] at e91
                try rw [fa_tlen] at e91
                have e91' : z91 = ((fs_strip L).length : Int) := by rw [e91, fs_stripE rr]
                first | refine sg_isubB (pc := 94) (dc_X5_strip_63.2.2.2.2) (by omega) (by omega) ?_ | refine sg_isub (pc := 94) (dc_X5_strip_63.2.2.2.2) ?_
                refine sg_iret (pc := 95) dc_X5_strip_95 rfl (by first | exact Nat.le_of_ble_eq_true rfl | omega) (by first | exact Nat.le_of_ble_eq_true rfl | omega) ?_
                exact hQ (by omega) _ _ (by rw [e91', e18]) (cf_put (i := row.toNat) hx fr14 ho14 P14 x86 f86 (by omega) (by omega) (by rw [l86, fs_stripE rr])) (ck_Ft F14 f86.1)
              · first | refine sg_iincB (pc := 75) (dc_X5_strip_63.1.2.2.1) rfl (by decide) (by decide) (by omega) (by omega) ?_ | refine sg_iinc (pc := 75) (dc_X5_strip_63.1.2.2.1) rfl (by decide) (by decide) ?_
                refine sg_goto (pc := 78) (tgt := 53) (dc_X5_strip_63.1.2.2.2) (by decide) ?_
                refine sg_lsub (lv' := [(5, _), (4, _), (3, _), (0, _), (2, _)]) ⟨rfl, rfl, rfl, rfl, rfl, trivial⟩ ?_
                exact ihb _ (by omega) (fun j j0 j1 => by
                  by_cases q : j = (e - 1).toNat
                  · subst q; unfold fs_W; omega
                  · exact e1 j (by omega) j1) (by first | exact jl_m1 hm (by omega) | exact jl_m2 hm (by omega) | omega)
        refine sg_lsub (lv' := [(5, _), (4, _), (3, _), (0, _), (2, _)]) ⟨rfl, rfl, rfl, rfl, rfl, trivial⟩ ?_
        exact loop53 _ _ (by omega) (fun j j0 j1 => absurd j1 (by omega)) (Nat.lt_succ_self _)
      · refine sg_aload_n (pc := 31) (j := 2) (dc_X5_strip_28.1.1.1.2) rfl rfl ?_
        refine sg_iload (pc := 32) (dc_X5_strip_28.1.1.2.1) rfl ?_
        refine sg_cE1 (pc := 34) (d' := d - 1) (mc' := 0) (ms' := 0) 3 g (dc_X5_strip_28.1.1.2.2) cb_X0_get ml_X5_75 mn_X0_get rfl mv_X0_get (Nat.le_of_ble_eq_true rfl) (ck_lc (by assumption) (by first | assumption | exact ck_rev)) (Nat.le_of_ble_eq_true rfl) (by first | exact jl_d0 hd rfl | omega) (by first | exact Nat.le_of_ble_eq_true rfl | omega) (by first | exact Nat.le_of_ble_eq_true rfl | omega) ?_
        refine f_X0_get g (by first | exact jl_d1 hd rfl | omega) (by assumption) L2 (fun z34 e34 v34 => sg_K1 ?_)
        rw [q14a2] at e34
        rw [q14a2] at v34
        try rw [fa_tg (by omega) (by omega)] at e34
        rw [gg_in (by omega) (by omega)] at e34
        subst e34
        refine sg_iconst (pc := 37) (z := 3) (dc_X5_strip_28.1.2.1.1) (by decide) ?_
        refine sg_cS2 (pc := 38) (d' := d - 1) (mc' := 0) (ms' := 0) g (dc_X5_strip_28.1.2.1.2) cb_X2_isOf ml_X5_96 ms_X2_isOf (Nat.le_of_ble_eq_true rfl) (by first | exact jl_d0 hd rfl | omega) (by first | exact Nat.le_of_ble_eq_true rfl | omega) (by first | exact Nat.le_of_ble_eq_true rfl | omega) ?_
        refine s_X2_isOf g (by first | exact jl_d1 hd rfl | omega) (fun z38 h38 b38 => sg_K1 ?_)
        refine sg_if_eq (pc := 41) (tgt := 50) (dc_X5_strip_28.1.2.2.1) (by decide) (fun c41 => ?_) (fun c41 => ?_)
        · have b2 : b.toNat = L.length ∨ ¬ fs_W L b.toNat := Or.inr (by unfold fs_W; omega)
          refine sg_iload_n (pc := 50) (j := 3) (dc_X5_strip_28.2.1.1.2) rfl rfl ?_
          refine sg_istore (pc := 51) (dc_X5_strip_28.2.1.2.1) (by decide) ?_
          have loop53 : ∀ (N : Nat) (e : Int), (b ≤ e ∧ e ≤ (L.length : Int)) → (∀ j : Nat, e ≤ (j : Int) → j < L.length → fs_W L j) → e.toNat < N → sg_R w mi_X5_strip d 8 48 Q 53 [(5, sg_i e), (4, sg_i b), (3, sg_i z18), (0, sg_r B), (2, sg_r a2)] [] h14 1 6 := by
            intro N
            induction N with
            | zero => intro e e0 e1 hm; exact absurd hm (Nat.not_lt_zero _)
            | succ N ihb =>
              intro e e0 e1 hm
              refine sg_iload (pc := 53) (dc_X5_strip_28.2.1.2.2) rfl ?_
              refine sg_iload (pc := 55) (dc_X5_strip_28.2.2.1.1) rfl ?_
              refine sg_icmp_le (pc := 57) (tgt := 81) (dc_X5_strip_28.2.2.1.2) (by decide) (fun c57 => ?_) (fun c57 => ?_)
              · have rr : fs_R L b.toNat e.toNat := ⟨by omega, by omega, fun j hj => b1 j (by omega), b2, fun j j0 j1 => e1 j (by omega) j1, by first | exact Or.inl (by omega) | (refine Or.inr ?_; rw [show e.toNat - 1 = (e - 1).toNat by omega]; unfold fs_W; omega)⟩
                have sl := fs_stripl rr
                refine sg_aload_n (pc := 81) (j := 2) (dc_X5_strip_63.2.1.1.1) rfl rfl ?_
                refine sg_iload (pc := 82) (dc_X5_strip_63.2.1.1.2) rfl ?_
                refine sg_iload (pc := 84) (dc_X5_strip_63.2.1.2.1) rfl ?_
                refine sg_cE2 (pc := 86) (d' := d - 1) (mc' := 0) (ms' := 0) 3 g (dc_X5_strip_63.2.1.2.2) cb_X0_narrow ml_X5_103 mn_X0_narrow rfl mv_X0_narrow (Nat.le_of_ble_eq_true rfl) (ck_lc (by assumption) (by first | assumption | exact ck_rev)) (Nat.le_of_ble_eq_true rfl) (by first | exact jl_d0 hd rfl | omega) (by first | exact Nat.le_of_ble_eq_true rfl | omega) (by first | exact Nat.le_of_ble_eq_true rfl | omega) ?_
                refine f_X0_narrow g (by first | exact jl_d1 hd rfl | omega) (by assumption) L2 (by first | omega | (rw [q14a2]; omega)) (by first | omega | (rw [q14a2]; omega)) (by first | omega | (rw [q14a2]; omega)) (fun h86 x86 f86 l86 => sg_K0 ?_)
                rw [q14a2] at l86
                have y86 := ck_Yt (h0 := h) (by assumption) x86 f86.1
                refine sg_iload_n (pc := 89) (j := 3) (dc_X5_strip_63.2.2.1.1) rfl rfl ?_
                refine sg_aload_n (pc := 90) (j := 2) (dc_X5_strip_63.2.2.1.2) rfl rfl ?_
                refine sg_cE0 (pc := 91) (d' := d - 1) (mc' := 0) (ms' := 0) 3 g (dc_X5_strip_63.2.2.2.1) cb_X0_size ml_X5_63 mn_X0_size rfl mv_X0_size (Nat.le_of_ble_eq_true rfl) (ck_lc (by assumption) (by first | assumption | exact ck_rev)) (Nat.le_of_ble_eq_true rfl) (by first | exact jl_d0 hd rfl | omega) (by first | exact Nat.le_of_ble_eq_true rfl | omega) (by first | exact Nat.le_of_ble_eq_true rfl | omega) ?_
                refine f_X0_size g (by first | exact jl_d1 hd rfl | omega) (by assumption) L2 (fun z91 e91 l091 u91 => sg_K1 ?_)
                rw [l86] at e91
                try rw [fa_tlen] at e91
                have e91' : z91 = ((fs_strip L).length : Int) := by rw [e91, fs_stripE rr]
                first | refine sg_isubB (pc := 94) (dc_X5_strip_63.2.2.2.2) (by omega) (by omega) ?_ | refine sg_isub (pc := 94) (dc_X5_strip_63.2.2.2.2) ?_
                refine sg_iret (pc := 95) dc_X5_strip_95 rfl (by first | exact Nat.le_of_ble_eq_true rfl | omega) (by first | exact Nat.le_of_ble_eq_true rfl | omega) ?_
                exact hQ (by omega) _ _ (by rw [e91', e18]) (cf_put (i := row.toNat) hx fr14 ho14 P14 x86 f86 (by omega) (by omega) (by rw [l86, fs_stripE rr])) (ck_Ft F14 f86.1)
              · refine sg_aload_n (pc := 60) (j := 2) (dc_X5_strip_28.2.2.2.1) rfl rfl ?_
                refine sg_iload (pc := 61) (dc_X5_strip_28.2.2.2.2) rfl ?_
                refine sg_iconst (pc := 63) (z := 1) (dc_X5_strip_63.1.1.1.1) (by decide) ?_
                first | refine sg_isubB (pc := 64) (dc_X5_strip_63.1.1.1.2) (by omega) (by omega) ?_ | refine sg_isub (pc := 64) (dc_X5_strip_63.1.1.1.2) ?_
                refine sg_cE1 (pc := 65) (d' := d - 1) (mc' := 0) (ms' := 0) 3 g (dc_X5_strip_63.1.1.2.1) cb_X0_get ml_X5_75 mn_X0_get rfl mv_X0_get (Nat.le_of_ble_eq_true rfl) (ck_lc (by assumption) (by first | assumption | exact ck_rev)) (Nat.le_of_ble_eq_true rfl) (by first | exact jl_d0 hd rfl | omega) (by first | exact Nat.le_of_ble_eq_true rfl | omega) (by first | exact Nat.le_of_ble_eq_true rfl | omega) ?_
                refine f_X0_get g (by first | exact jl_d1 hd rfl | omega) (by assumption) L2 (fun z65 e65 v65 => sg_K1 ?_)
                rw [q14a2] at e65
                rw [q14a2] at v65
                try rw [fa_tg (by omega) (by omega)] at e65
                rw [gg_in (by omega) (by omega)] at e65
                subst e65
                refine sg_iconst (pc := 68) (z := 3) (dc_X5_strip_63.1.1.2.2) (by decide) ?_
                refine sg_cS2 (pc := 69) (d' := d - 1) (mc' := 0) (ms' := 0) g (dc_X5_strip_63.1.2.1.1) cb_X2_isOf ml_X5_96 ms_X2_isOf (Nat.le_of_ble_eq_true rfl) (by first | exact jl_d0 hd rfl | omega) (by first | exact Nat.le_of_ble_eq_true rfl | omega) (by first | exact Nat.le_of_ble_eq_true rfl | omega) ?_
                refine s_X2_isOf g (by first | exact jl_d1 hd rfl | omega) (fun z69 h69 b69 => sg_K1 ?_)
                refine sg_if_eq (pc := 72) (tgt := 81) (dc_X5_strip_63.1.2.1.2) (by decide) (fun c72 => ?_) (fun c72 => ?_)
                · have rr : fs_R L b.toNat e.toNat := ⟨by omega, by omega, fun j hj => b1 j (by omega), b2, fun j j0 j1 => e1 j (by omega) j1, by first | exact Or.inl (by omega) | (refine Or.inr ?_; rw [show e.toNat - 1 = (e - 1).toNat by omega]; unfold fs_W; omega)⟩
                  have sl := fs_stripl rr
                  refine sg_aload_n (pc := 81) (j := 2) (dc_X5_strip_63.2.1.1.1) rfl rfl ?_
                  refine sg_iload (pc := 82) (dc_X5_strip_63.2.1.1.2) rfl ?_
                  refine sg_iload (pc := 84) (dc_X5_strip_63.2.1.2.1) rfl ?_
                  refine sg_cE2 (pc := 86) (d' := d - 1) (mc' := 0) (ms' := 0) 3 g (dc_X5_strip_63.2.1.2.2) cb_X0_narrow ml_X5_103 mn_X0_narrow rfl mv_X0_narrow (Nat.le_of_ble_eq_true rfl) (ck_lc (by assumption) (by first | assumption | exact ck_rev)) (Nat.le_of_ble_eq_true rfl) (by first | exact jl_d0 hd rfl | omega) (by first | exact Nat.le_of_ble_eq_true rfl | omega) (by first | exact Nat.le_of_ble_eq_true rfl | omega) ?_
                  refine f_X0_narrow g (by first | exact jl_d1 hd rfl | omega) (by assumption) L2 (by first | omega | (rw [q14a2]; omega)) (by first | omega | (rw [q14a2]; omega)) (by first | omega | (rw [q14a2]; omega)) (fun h86 x86 f86 l86 => sg_K0 ?_)
                  rw [q14a2] at l86
                  have y86 := ck_Yt (h0 := h) (by assumption) x86 f86.1
                  refine sg_iload_n (pc := 89) (j := 3) (dc_X5_strip_63.2.2.1.1) rfl rfl ?_
                  refine sg_aload_n (pc := 90) (j := 2) (dc_X5_strip_63.2.2.1.2) rfl rfl ?_
                  refine sg_cE0 (pc := 91) (d' := d - 1) (mc' := 0) (ms' := 0) 3 g (dc_X5_strip_63.2.2.2.1) cb_X0_size ml_X5_63 mn_X0_size rfl mv_X0_size (Nat.le_of_ble_eq_true rfl) (ck_lc (by assumption) (by first | assumption | exact ck_rev)) (Nat.le_of_ble_eq_true rfl) (by first | exact jl_d0 hd rfl | omega) (by first | exact Nat.le_of_ble_eq_true rfl | omega) (by first | exact Nat.le_of_ble_eq_true rfl | omega) ?_
                  refine f_X0_size g (by first | exact jl_d1 hd rfl | omega) (by assumption) L2 (fun z91 e91 l091 u91 => sg_K1 ?_)
                  rw [l86] at e91
                  try rw [fa_tlen] at e91
                  have e91' : z91 = ((fs_strip L).length : Int) := by rw [e91, fs_stripE rr]
                  first | refine sg_isubB (pc := 94) (dc_X5_strip_63.2.2.2.2) (by omega) (by omega) ?_ | refine sg_isub (pc := 94) (dc_X5_strip_63.2.2.2.2) ?_
                  refine sg_iret (pc := 95) dc_X5_strip_95 rfl (by first | exact Nat.le_of_ble_eq_true rfl | omega) (by first | exact Nat.le_of_ble_eq_true rfl | omega) ?_
                  exact hQ (by omega) _ _ (by rw [e91', e18]) (cf_put (i := row.toNat) hx fr14 ho14 P14 x86 f86 (by omega) (by omega) (by rw [l86, fs_stripE rr])) (ck_Ft F14 f86.1)
                · first | refine sg_iincB (pc := 75) (dc_X5_strip_63.1.2.2.1) rfl (by decide) (by decide) (by omega) (by omega) ?_ | refine sg_iinc (pc := 75) (dc_X5_strip_63.1.2.2.1) rfl (by decide) (by decide) ?_
                  refine sg_goto (pc := 78) (tgt := 53) (dc_X5_strip_63.1.2.2.2) (by decide) ?_
                  refine sg_lsub (lv' := [(5, _), (4, _), (3, _), (0, _), (2, _)]) ⟨rfl, rfl, rfl, rfl, rfl, trivial⟩ ?_
                  exact ihb _ (by omega) (fun j j0 j1 => by
                    by_cases q : j = (e - 1).toNat
                    · subst q; unfold fs_W; omega
                    · exact e1 j (by omega) j1) (by first | exact jl_m1 hm (by omega) | exact jl_m2 hm (by omega) | omega)
          refine sg_lsub (lv' := [(5, _), (4, _), (3, _), (0, _), (2, _)]) ⟨rfl, rfl, rfl, rfl, rfl, trivial⟩ ?_
          exact loop53 _ _ (by omega) (fun j j0 j1 => absurd j1 (by omega)) (Nat.lt_succ_self _)
        · first | refine sg_iincB (pc := 44) (dc_X5_strip_28.1.2.2.2) rfl (by decide) (by decide) (by omega) (by omega) ?_ | refine sg_iinc (pc := 44) (dc_X5_strip_28.1.2.2.2) rfl (by decide) (by decide) ?_
          refine sg_goto (pc := 47) (tgt := 25) (dc_X5_strip_28.2.1.1.1) (by decide) ?_
          refine sg_lsub (lv' := [(4, _), (3, _), (0, _), (2, _)]) ⟨rfl, rfl, rfl, rfl, trivial⟩ ?_
          exact ih _ (by omega) (fun j j0 => by
            by_cases q : j = b.toNat
            · subst q; unfold fs_W; omega
            · exact b1 j (by omega)) (by first | exact jl_m1 hm (by omega) | exact jl_m2 hm (by omega) | omega)
  refine sg_lsub (lv' := [(4, _), (3, _), (0, _), (2, _)]) ⟨rfl, rfl, rfl, rfl, trivial⟩ ?_
  exact loop25 _ _ (by omega) (fun j j0 => absurd j0 (by omega)) (Nat.lt_succ_self _)

