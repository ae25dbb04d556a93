set_option maxRecDepth 100000 in
theorem f_X4_codeBegin {w : sg_W} {Q : sg_O → sg_H → Prop} {h : sg_H} (g : sg_G w) {d : Nat} (hd : 4 ≤ d) {B a1 : Nat} (hx : ck_X h B) (L1 : ck_L B a1 1) {L : List Int} (kk : cf_l h a1 = L) {t : Int} (hQ : ∀ z : Int, ((z = -1 ∧ (t < 0 ∨ ((fs_cs L L.length).length : Int) ≤ t)) ∨ (0 ≤ z ∧ z < (L.length : Int) ∧ fs_bg L z.toNat ∧ ((fs_cs L z.toNat).length : Int) = t)) → Q (.inl (some (sg_i z))) h) : sg_C w mi_X4_codeBegin d 0 0 [sg_r a1, sg_i t] h Q := by
  refine sg_of pn_X4 (Nat.le_of_ble_eq_true rfl) ?_
  have y0 := ck_Y0 hx
  have l24 := cf_40 hx L1
  rw [kk] at l24
  have hc24 : ck_cap 1 = 24 := rfl
  refine sg_iconst (pc := 0) (z := 0) (dc_X4_codeBegin_0.1.1.1.1) (by decide) ?_
  refine sg_istore_n (pc := 1) (j := 2) (dc_X4_codeBegin_0.1.1.1.2) rfl (by decide) ?_
  refine sg_iconst (pc := 2) (z := 0) (dc_X4_codeBegin_0.1.1.2.1) (by decide) ?_
  refine sg_istore_n (pc := 3) (j := 3) (dc_X4_codeBegin_0.1.1.2.2) rfl (by decide) ?_
  have loop4 : ∀ (N : Nat) (p s : Int), (0 ≤ p ∧ p ≤ (L.length : Int)) → (s = ((fs_cs L p.toNat).length : Int)) → (∀ j : Nat, (j : Int) < p → fs_bg L j → ((fs_cs L j).length : Int) ≠ t) → (t < 0 ∨ s ≤ t) → ((L.length : Int) - p).toNat < N → sg_R w mi_X4_codeBegin d 0 0 Q 4 [(3, sg_i p), (2, sg_i s), (0, sg_r a1), (1, sg_i t)] [] h 0 0 := by
    intro N
    induction N with
    | zero => intro p s p0 s0 p1 p2 hm; exact absurd hm (Nat.not_lt_zero _)
    | succ N ih =>
      intro p s p0 s0 p1 p2 hm
      have sb := fs_csl (L := L) (p := p.toNat)
      refine sg_iload_n (pc := 4) (j := 3) (dc_X4_codeBegin_0.1.2.1.1) rfl rfl ?_
      refine sg_aload_n (pc := 5) (j := 0) (dc_X4_codeBegin_0.1.2.1.2) rfl rfl ?_
      refine sg_cE0 (pc := 6) (d' := d - 1) (mc' := 0) (ms' := 0) 3 g (dc_X4_codeBegin_0.1.2.2.1) cb_X0_size ml_X4_46 mn_X0_size rfl mv_X0_size (Nat.le_of_ble_eq_true rfl) (ck_lc (by assumption) (by first | assumption | exact ck_rev)) (Nat.le_of_ble_eq_true rfl) (by first | exact jl_d0 hd rfl | omega) (by first | exact Nat.le_of_ble_eq_true rfl | omega) (by first | exact Nat.le_of_ble_eq_true rfl | omega) ?_
      refine f_X0_size g (by first | exact jl_d1 hd rfl | omega) (by assumption) L1 (fun z6 e6 l06 u6 => sg_K1 ?_)
      rw [kk] at e6
      try rw [fa_tlen] at e6
      refine sg_icmp_ge (pc := 9) (tgt := 36) (dc_X4_codeBegin_0.1.2.2.2) (by decide) (fun c9 => ?_) (fun c9 => ?_)
      · refine sg_iconst (pc := 36) (z := -1) (dc_X4_codeBegin_26.2.1.1) (by decide) ?_
        refine sg_iret (pc := 37) (dc_X4_codeBegin_26.2.1.2) rfl (by first | exact Nat.le_of_ble_eq_true rfl | omega) (by first | exact Nat.le_of_ble_eq_true rfl | omega) ?_
        exact hQ _ (Or.inl ⟨rfl, by rcases p2 with q | q
                                    · exact Or.inl q
                                    · exact Or.inr (by rw [show L.length = p.toNat by omega]; omega)⟩)
      · refine sg_aload_n (pc := 12) (j := 0) (dc_X4_codeBegin_0.2.1.1.1) rfl rfl ?_
        refine sg_iload_n (pc := 13) (j := 3) (dc_X4_codeBegin_0.2.1.1.2) rfl rfl ?_
        refine sg_cS2 (pc := 14) (d' := d - 1) (mc' := 0) (ms' := 0) g (dc_X4_codeBegin_0.2.1.2.1) cb_X4_isCodeBegin ml_X4_50 ms_X4_isCodeBegin (Nat.le_of_ble_eq_true rfl) (by first | exact jl_d0 hd rfl | omega) (by first | exact Nat.le_of_ble_eq_true rfl | omega) (by first | exact Nat.le_of_ble_eq_true rfl | omega) ?_
        refine f_X4_isCodeBegin g (by first | exact jl_d1 hd rfl | omega) (by assumption) L1 kk (by omega) (by omega) (fun z14 b14 => sg_K1 ?_)
        refine sg_if_eq (pc := 17) (tgt := 30) (dc_X4_codeBegin_0.2.1.2.2) (by decide) (fun c17 => ?_) (fun c17 => ?_)
        · have hb : jk_P (¬ fs_bg L p.toNat) := by
            rcases b14 with b | b
            · exact b.2
            · exact absurd b.1 (by omega)
          have bk : (fs_cs L (p + 1).toNat).length = (fs_cs L p.toNat).length + 0 := by rw [show (p + 1).toNat = p.toNat + 1 by omega, fs_css, if_neg (show ¬ fs_bg L p.toNat from hb), List.length_append]; rfl
          clear b14
          first | refine sg_iincB (pc := 30) (dc_X4_codeBegin_26.1.2.1) rfl (by decide) (by decide) (by omega) (by omega) ?_ | refine sg_iinc (pc := 30) (dc_X4_codeBegin_26.1.2.1) rfl (by decide) (by decide) ?_
          refine sg_goto (pc := 33) (tgt := 4) (dc_X4_codeBegin_26.1.2.2) (by decide) ?_
          refine sg_lsub (lv' := [(3, _), (2, _), (0, _), (1, _)]) ⟨rfl, rfl, rfl, rfl, trivial⟩ ?_
          exact ih _ _ (by omega) (by omega) (fun j j0 jw => by
            by_cases q : j = p.toNat
            · subst q
              first
                | exact absurd jw hb
                | omega
            · exact p1 j (by omega) jw) (by omega) (by first | exact jl_m1 hm (by omega) | exact jl_m2 hm (by omega) | omega)
        · have hb20 : fs_bg L p.toNat := by
            rcases b14 with b | b
            · exact absurd b.1 (by omega)
            · exact b.2
          refine sg_iload_n (pc := 20) (j := 2) (dc_X4_codeBegin_0.2.2.1.1) rfl rfl ?_
          refine sg_iload_n (pc := 21) (j := 1) (dc_X4_codeBegin_0.2.2.1.2) rfl rfl ?_
          refine sg_icmp_ne (pc := 22) (tgt := 27) (dc_X4_codeBegin_0.2.2.2.1) (by decide) (fun c22 => ?_) (fun c22 => ?_)
          · first | refine sg_iincB (pc := 27) (dc_X4_codeBegin_26.1.1.2) rfl (by decide) (by decide) (by omega) (by omega) ?_ | refine sg_iinc (pc := 27) (dc_X4_codeBegin_26.1.1.2) rfl (by decide) (by decide) ?_
            have hb : jk_P (fs_bg L p.toNat) := by
              rcases b14 with b | b
              · exact absurd b.1 (by omega)
              · exact b.2
            have bk : (fs_cs L (p + 1).toNat).length = (fs_cs L p.toNat).length + 1 := by rw [show (p + 1).toNat = p.toNat + 1 by omega, fs_css, if_pos (show fs_bg L p.toNat from hb), List.length_append]; rfl
            clear b14 hb20
            first | refine sg_iincB (pc := 30) (dc_X4_codeBegin_26.1.2.1) rfl (by decide) (by decide) (by omega) (by omega) ?_ | refine sg_iinc (pc := 30) (dc_X4_codeBegin_26.1.2.1) rfl (by decide) (by decide) ?_
            refine sg_goto (pc := 33) (tgt := 4) (dc_X4_codeBegin_26.1.2.2) (by decide) ?_
            refine sg_lsub (lv' := [(3, _), (2, _), (0, _), (1, _)]) ⟨rfl, rfl, rfl, rfl, trivial⟩ ?_
            exact ih _ _ (by omega) (by omega) (fun j j0 jw => by
              by_cases q : j = p.toNat
              · subst q
                first
                  | exact absurd jw hb
                  | omega
              · exact p1 j (by omega) jw) (by omega) (by first | exact jl_m1 hm (by omega) | exact jl_m2 hm (by omega) | omega)
          · refine sg_iload_n (pc := 25) (j := 3) (dc_X4_codeBegin_0.2.2.2.2) rfl rfl ?_
            refine sg_iret (pc := 26) (dc_X4_codeBegin_26.1.1.1) rfl (by first | exact Nat.le_of_ble_eq_true rfl | omega) (by first | exact Nat.le_of_ble_eq_true rfl | omega) ?_
            exact hQ _ (Or.inr ⟨by omega, by omega, hb20, by omega⟩)
  refine sg_lsub (lv' := [(3, _), (2, _), (0, _), (1, _)]) ⟨rfl, rfl, rfl, rfl, trivial⟩ ?_
  exact loop4 _ _ _ (by omega) rfl (fun j j0 => absurd j0 (by omega)) (by omega) (Nat.lt_succ_self _)

