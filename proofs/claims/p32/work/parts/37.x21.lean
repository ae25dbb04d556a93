set_option maxRecDepth 100000 in
theorem f_X5_wordBegin {w : sg_W} {Q : sg_O → sg_H → Prop} {h : sg_H} (g : sg_G w) {d : Nat} (hd : 12 ≤ d) {B a1 : Nat} (hx : ck_X h B) (L1 : ck_L B a1 0) {L : List Int} (kk : cf_l h a1 = L) {t : Int} (hQ : ∀ z : Int, fs_wR L t z → Q (.inl (some (sg_i z))) h) : sg_C w mi_X5_wordBegin d 0 0 [sg_r a1, sg_i t] h Q := by
  refine sg_of pn_X5 (Nat.le_of_ble_eq_true rfl) ?_
  have y0 := ck_Y0 hx
  have l40 := cf_40 hx L1
  rw [kk] at l40
  have hc40 : ck_cap 0 = 40 := rfl
  refine sg_iconst (pc := 0) (z := 0) (dc_X5_wordBegin_0.1.1.1.1) (by decide) ?_
  refine sg_istore_n (pc := 1) (j := 2) (dc_X5_wordBegin_0.1.1.1.2) rfl (by decide) ?_
  refine sg_iconst (pc := 2) (z := 0) (dc_X5_wordBegin_0.1.1.2.1) (by decide) ?_
  refine sg_istore_n (pc := 3) (j := 3) (dc_X5_wordBegin_0.1.1.2.2) rfl (by decide) ?_
  have loop4 : ∀ (N : Nat) (p s : Int), (0 ≤ p ∧ p ≤ (L.length : Int)) → (s = fs_wn L p.toNat) → (∀ j : Nat, (j : Int) < p → fs_wb L j → fs_wn L j ≠ t) → ((L.length : Int) - p).toNat < N → sg_R w mi_X5_wordBegin d 0 0 Q 4 [(3, sg_i p), (2, sg_i s), (0, sg_r a1), (1, sg_i t)] [] h 0 0 := by
    intro N
    induction N with
    | zero => intro p s p0 s0 p1 hm; exact absurd hm (Nat.not_lt_zero _)
    | succ N ih =>
      intro p s p0 s0 p1 hm
      have sb := fs_wnb (L := L) (n := p.toNat)
      rw [← s0] at sb
      refine sg_iload_n (pc := 4) (j := 3) (dc_X5_wordBegin_0.1.2.1.1) rfl rfl ?_
      refine sg_aload_n (pc := 5) (j := 0) (dc_X5_wordBegin_0.1.2.1.2) rfl rfl ?_
      refine sg_cE0 (pc := 6) (d' := d - 1) (mc' := 0) (ms' := 0) 3 g (dc_X5_wordBegin_0.1.2.2.1) cb_X0_size ml_X5_63 mn_X0_size rfl mv_X0_size (Nat.le_of_ble_eq_true rfl) (ck_lc (by assumption) (by first | assumption | exact ck_rev)) (Nat.le_of_ble_eq_true rfl) (by first | exact jl_d0 hd rfl | omega) (by first | exact Nat.le_of_ble_eq_true rfl | omega) (by first | exact Nat.le_of_ble_eq_true rfl | omega) ?_
      refine f_X0_size g (by first | exact jl_d1 hd rfl | omega) (by assumption) L1 (fun z6 e6 l06 u6 => sg_K1 ?_)
      rw [kk] at e6
      try rw [fa_tlen] at e6
      refine sg_icmp_ge (pc := 9) (tgt := 36) (dc_X5_wordBegin_0.1.2.2.2) (by decide) (fun c9 => ?_) (fun c9 => ?_)
      · refine sg_iconst (pc := 36) (z := -1) (dc_X5_wordBegin_26.2.1.1) (by decide) ?_
        refine sg_iret (pc := 37) (dc_X5_wordBegin_26.2.1.2) rfl (by first | exact Nat.le_of_ble_eq_true rfl | omega) (by first | exact Nat.le_of_ble_eq_true rfl | omega) ?_
        exact hQ _ (Or.inl ⟨rfl, fun j j0 => p1 j (by omega)⟩)
      · refine sg_aload_n (pc := 12) (j := 0) (dc_X5_wordBegin_0.2.1.1.1) rfl rfl ?_
        refine sg_iload_n (pc := 13) (j := 3) (dc_X5_wordBegin_0.2.1.1.2) rfl rfl ?_
        refine sg_cS2 (pc := 14) (d' := d - 1) (mc' := 0) (ms' := 0) g (dc_X5_wordBegin_0.2.1.2.1) cb_X5_isWordBegin ml_X5_219 ms_X5_isWordBegin (Nat.le_of_ble_eq_true rfl) (by first | exact jl_d0 hd rfl | omega) (by first | exact Nat.le_of_ble_eq_true rfl | omega) (by first | exact Nat.le_of_ble_eq_true rfl | omega) ?_
        refine f_X5_isWordBegin g (by first | exact jl_d1 hd rfl | omega) (by assumption) L1 kk (by omega) (by omega) (fun z14 b14 => sg_K1 ?_)
        refine sg_if_eq (pc := 17) (tgt := 30) (dc_X5_wordBegin_0.2.1.2.2) (by decide) (fun c17 => ?_) (fun c17 => ?_)
        · have hb : ¬ fs_wb L p.toNat := by
            rcases b14 with b | b
            · exact b.2
            · exact absurd b.1 (by omega)
          have bk := fs_wns (L := L) (p := p) (by omega)
          rw [if_neg hb] at bk
          first | refine sg_iincB (pc := 30) (dc_X5_wordBegin_26.1.2.1) rfl (by decide) (by decide) (by omega) (by omega) ?_ | refine sg_iinc (pc := 30) (dc_X5_wordBegin_26.1.2.1) rfl (by decide) (by decide) ?_
          refine sg_goto (pc := 33) (tgt := 4) (dc_X5_wordBegin_26.1.2.2) (by decide) ?_
          refine sg_lsub (lv' := [(3, _), (2, _), (0, _), (1, _)]) ⟨rfl, rfl, rfl, rfl, trivial⟩ ?_
          exact ih _ _ (by omega) (by omega) (fun j j0 jw => by
            by_cases q : j = p.toNat
            · subst q
              first
                | exact absurd jw hb
                | omega
            · exact p1 j (by omega) jw) (by first | exact jl_m1 hm (by omega) | exact jl_m2 hm (by omega) | omega)
        · have hb20 : fs_wb L p.toNat := by
            rcases b14 with b | b
            · exact absurd b.1 (by omega)
            · exact b.2
          refine sg_iload_n (pc := 20) (j := 2) (dc_X5_wordBegin_0.2.2.1.1) rfl rfl ?_
          refine sg_iload_n (pc := 21) (j := 1) (dc_X5_wordBegin_0.2.2.1.2) rfl rfl ?_
          refine sg_icmp_ne (pc := 22) (tgt := 27) (dc_X5_wordBegin_0.2.2.2.1) (by decide) (fun c22 => ?_) (fun c22 => ?_)
          · first | refine sg_iincB (pc := 27) (dc_X5_wordBegin_26.1.1.2) rfl (by decide) (by decide) (by omega) (by omega) ?_ | refine sg_iinc (pc := 27) (dc_X5_wordBegin_26.1.1.2) rfl (by decide) (by decide) ?_
            have hb : fs_wb L p.toNat := by
              rcases b14 with b | b
              · exact absurd b.1 (by omega)
              · exact b.2
            have bk := fs_wns (L := L) (p := p) (by omega)
            rw [if_pos hb] at bk
            first | refine sg_iincB (pc := 30) (dc_X5_wordBegin_26.1.2.1) rfl (by decide) (by decide) (by omega) (by omega) ?_ | refine sg_iinc (pc := 30) (dc_X5_wordBegin_26.1.2.1) rfl (by decide) (by decide) ?_
            refine sg_goto (pc := 33) (tgt := 4) (dc_X5_wordBegin_26.1.2.2) (by decide) ?_
            refine sg_lsub (lv' := [(3, _), (2, _), (0, _), (1, _)]) ⟨rfl, rfl, rfl, rfl, trivial⟩ ?_
            exact ih _ _ (by omega) (by omega) (fun j j0 jw => by
              by_cases q : j = p.toNat
              · subst q
                first
                  | exact absurd jw hb
                  | omega
              · exact p1 j (by omega) jw) (by first | exact jl_m1 hm (by omega) | exact jl_m2 hm (by omega) | omega)
          · refine sg_iload_n (pc := 25) (j := 3) (dc_X5_wordBegin_0.2.2.2.2) rfl rfl ?_
            refine sg_iret (pc := 26) (dc_X5_wordBegin_26.1.1.1) rfl (by first | exact Nat.le_of_ble_eq_true rfl | omega) (by first | exact Nat.le_of_ble_eq_true rfl | omega) ?_
            exact hQ _ (Or.inr ⟨by omega, by omega, hb20, by omega⟩)
  refine sg_lsub (lv' := [(3, _), (2, _), (0, _), (1, _)]) ⟨rfl, rfl, rfl, rfl, trivial⟩ ?_
  exact loop4 _ _ _ (by omega) rfl (fun j j0 => absurd j0 (by omega)) (Nat.lt_succ_self _)

