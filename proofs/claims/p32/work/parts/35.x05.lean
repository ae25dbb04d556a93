theorem tt_succ {α : Type} {n : Nat} {f : Nat → α} : tt_b (n + 1) f = tt_b n f ++ [f n] := by
  unfold tt_b
  rw [List.range_succ, List.map_append]
  rfl
/-! rows spelled and read -/
def fs_sp (L : List Int) (k : Nat) : Int := fn_digit (if k % 2 = 0 then L.getD (k / 2) 0 / 16 else L.getD (k / 2) 0 % 16) 16
def fs_spell (L : List Int) : List Int := tt_b (2 * L.length) (fs_sp L)
def fs_rd (L : List Int) (k : Nat) : Int := 16 * fn_num (L.getD (2 * k) 0) 16 + fn_num (L.getD (2 * k + 1) 0) 16
def fs_read (L : List Int) : List Int := tt_b (L.length / 2) (fs_rd L)
def fs_can (L : List Int) : Prop := L.length % 2 = 0 ∧ ∀ j, j < L.length → fn_num (L.getD j 0) 16 ≠ -1
set_option maxRecDepth 100000 in
theorem f_X5_sieve {w : sg_W} {Q : sg_O → sg_H → Prop} {h : sg_H} (g : sg_G w) {d : Nat} (hd : 14 ≤ d) {B : Nat} {A : fa_A} (hx : cf_X h B A) (ok : fa_ok A) {row kind isx : Int} {L : List Int} (hL : fa_L A row.toNat = L) (hQ : ¬ (row < 0 ∨ 4 ≤ row) → ¬ (kind < 0 ∨ 4 < kind) → ∀ (v : Int) (h' : sg_H), v = (L.length : Int) - ((L.filter (fs_is kind isx)).length : Int) → cf_X h' B (fa_put A row.toNat (L.filter (fs_is kind isx))) → ck_F B h h' → Q (.inl (some (sg_i v))) h') (hXI : (row < 0 ∨ 4 ≤ row) → ∀ z, h.1 ≤ z → Q (.inr e_I) (z, h.2)) (hXA : ¬ (row < 0 ∨ 4 ≤ row) → (kind < 0 ∨ 4 < kind) → ∀ z, h.1 ≤ z → Q (.inr e_A) (z, h.2)) : sg_C w mi_X5_sieve d 8 48 [sg_r B, sg_i row, sg_i kind, sg_i isx] h Q := by
  refine sg_of pn_X5 (Nat.le_of_ble_eq_true rfl) ?_
  obtain ⟨x0, ho, hS, hP, hK⟩ := id hx
  have y0 := ck_Y0 x0
  refine sg_aload_n (pc := 0) (j := 0) (dc_X5_sieve_0.1.1.1.1) rfl rfl ?_
  refine sg_iload_n (pc := 1) (j := 1) (dc_X5_sieve_0.1.1.1.2) rfl rfl ?_
  refine sg_cE1 (pc := 2) (d' := d - 1) (mc' := 1) (ms' := 6) 6 g (dc_X5_sieve_0.1.1.2.1) cb_X5_rowOf ml_X5_36 mn_X5_rowOf rfl mv_X5_rowOf (Nat.le_of_ble_eq_true rfl) (ck_oc (by assumption)) (Nat.le_of_ble_eq_true rfl) (by first | exact jl_d0 hd rfl | omega) (by first | exact Nat.le_of_ble_eq_true rfl | omega) (by first | exact Nat.le_of_ble_eq_true rfl | omega) ?_
  refine f_X5_rowOf g (by first | exact jl_d1 hd rfl | omega) (by assumption) (fun l2 r2 L2 => sg_K1 ?_) (fun t2 z2 w2 => sg_KX (by first | exact Nat.le_of_ble_eq_true rfl | omega) (by first | exact Nat.le_of_ble_eq_true rfl | omega) (hXI (by omega) z2 w2))
  obtain ⟨a2, ea2⟩ : ∃ a, a = B + 1 + 3 + 2 * row.toNat := ⟨_, rfl⟩
  rw [← ea2] at L2 ⊢
  have k2 : cf_l h a2 = L := by rw [ea2, cf_rl hx (by omega)]; exact hL
  have r42 := fa_row ok (i := row.toNat) (by omega)
  rw [hL] at r42
  refine sg_astore (pc := 5) (dc_X5_sieve_0.1.1.2.2) (by decide) ?_
  refine sg_iload_n (pc := 7) (j := 2) (dc_X5_sieve_0.1.2.1.1) rfl rfl ?_
  refine sg_cS1 (pc := 8) (d' := d - 1) (mc' := 1) (ms' := 6) g (dc_X5_sieve_0.1.2.1.2) cb_X5_checkKind ml_X5_93 ms_X5_checkKind (Nat.le_of_ble_eq_true rfl) (by first | exact jl_d0 hd rfl | omega) (by first | exact Nat.le_of_ble_eq_true rfl | omega) (by first | exact Nat.le_of_ble_eq_true rfl | omega) ?_
  refine s_X5_checkKind g (by first | exact jl_d1 hd rfl | omega) (fun v8 => sg_K0 ?_) (fun t8 z8 w8 => sg_KX (by first | exact Nat.le_of_ble_eq_true rfl | omega) (by first | exact Nat.le_of_ble_eq_true rfl | omega) (hXA (by omega) (by omega) z8 w8))
  refine sg_aload_n (pc := 11) (j := 0) (dc_X5_sieve_0.1.2.2.1) rfl rfl ?_
  refine ck_gob (pc := 12) g (dc_X5_sieve_0.1.2.2.2) fk_X5_19 (by assumption) (fun _ => rfl) ?_
  refine sg_aload_n (pc := 15) (j := 0) (dc_X5_sieve_0.2.1.1.1) rfl rfl ?_
  refine ck_gob (pc := 16) g (dc_X5_sieve_0.2.1.1.2) fk_X5_10 (by assumption) (fun _ => rfl) ?_
  refine sg_cE1 (pc := 19) (d' := d - 1) (mc' := 0) (ms' := 0) 4 g (dc_X5_sieve_0.2.1.2.1) cb_X1_keep ml_X5_55 mn_X1_keep rfl mv_X1_keep (Nat.le_of_ble_eq_true rfl) (ck_pc (by assumption)) (Nat.le_of_ble_eq_true rfl) (by first | exact jl_d0 hd rfl | omega) (by first | exact Nat.le_of_ble_eq_true rfl | omega) (by first | exact Nat.le_of_ble_eq_true rfl | omega) ?_
  refine f_X1_keep g (by first | exact jl_d1 hd rfl | omega) x0 ho (fun h19 x19 F19 fr19 ho19 P19 => sg_K0 ?_)
  have y19 : ck_Y h h19 B := ⟨x19, F19⟩
  have q19a2 : cf_l h19 a2 = cf_l h a2 := cf_lq (fr19 _ (by omega)) (fr19 _ (by omega))
  rw [k2] at q19a2
  refine sg_iconst (pc := 22) (z := 0) (dc_X5_sieve_0.2.1.2.2) (by decide) ?_
  refine sg_istore (pc := 23) (dc_X5_sieve_0.2.2.1.1) (by decide) ?_
  refine sg_iconst (pc := 25) (z := 0) (dc_X5_sieve_0.2.2.1.2) (by decide) ?_
  refine sg_istore (pc := 26) (dc_X5_sieve_0.2.2.2.1) (by decide) ?_
  have loop28 : ∀ (N : Nat) (h1 : sg_H) (p s : Int), (ck_X h1 B) → (ck_G B a2 h19 h1) → (0 ≤ p ∧ p ≤ (L.length : Int)) → (cf_l h1 a2 = fs_sv (fs_is kind isx) L p) → (s = ((fs_F (fs_is kind isx) L p).length : Int)) → ((L.length : Int) - p).toNat < N → sg_R w mi_X5_sieve d 8 48 Q 28 [(6, sg_i p), (5, sg_i s), (0, sg_r B), (2, sg_i kind), (3, sg_i isx), (4, sg_r a2)] [] h1 2 12 := by
    intro N
    induction N with
    | zero => intro h1 p s x1 G1 p0 l1 s0 hm; exact absurd hm (Nat.not_lt_zero _)
    | succ N ih =>
      intro h1 p s x1 G1 p0 l1 s0 hm
      have y1 : ck_Y h h1 B := ⟨x1, ck_Ft F19 G1.1⟩
      have fl := fs_Fl (P := fs_is kind isx) (L := L) (p := p)
      refine sg_iload (pc := 28) (dc_X5_sieve_0.2.2.2.2) rfl ?_
      refine sg_aload (pc := 30) (dc_X5_sieve_30.1.1.1.1) rfl ?_
      refine sg_cE0 (pc := 32) (d' := d - 1) (mc' := 0) (ms' := 0) 3 g (dc_X5_sieve_30.1.1.1.2) cb_X0_size ml_X5_63 mn_X0_size rfl mv_X0_size (Nat.le_of_ble_eq_true rfl) (ck_lc (by assumption) (by first | assumption | exact ck_rev)) (Nat.le_of_ble_eq_true rfl) (by first | exact jl_d0 hd rfl | omega) (by first | exact Nat.le_of_ble_eq_true rfl | omega) (by first | exact Nat.le_of_ble_eq_true rfl | omega) ?_
      refine f_X0_size g (by first | exact jl_d1 hd rfl | omega) (by assumption) L2 (fun z32 e32 l032 u32 => sg_K1 ?_)
      rw [l1] at e32
      try rw [fa_tlen] at e32
      rw [fs_svl (by omega)] at e32
      refine sg_icmp_ge (pc := 35) (tgt := 75) (dc_X5_sieve_30.1.1.2.1) (by decide) (fun c35 => ?_) (fun c35 => ?_)
      · refine sg_aload (pc := 75) (dc_X5_sieve_66.1.1.2.2) rfl ?_
        refine sg_cE0 (pc := 77) (d' := d - 1) (mc' := 0) (ms' := 0) 3 g (dc_X5_sieve_66.1.2.1.1) cb_X0_size ml_X5_63 mn_X0_size rfl mv_X0_size (Nat.le_of_ble_eq_true rfl) (ck_lc (by assumption) (by first | assumption | exact ck_rev)) (Nat.le_of_ble_eq_true rfl) (by first | exact jl_d0 hd rfl | omega) (by first | exact Nat.le_of_ble_eq_true rfl | omega) (by first | exact Nat.le_of_ble_eq_true rfl | omega) ?_
        refine f_X0_size g (by first | exact jl_d1 hd rfl | omega) (by assumption) L2 (fun z77 e77 l077 u77 => sg_K1 ?_)
        rw [l1] at e77
        try rw [fa_tlen] at e77
        rw [fs_svl (by omega)] at e77
        refine sg_iload (pc := 80) (dc_X5_sieve_66.1.2.1.2) rfl ?_
        first | refine sg_isubB (pc := 82) (dc_X5_sieve_66.1.2.2.1) (by omega) (by omega) ?_ | refine sg_isub (pc := 82) (dc_X5_sieve_66.1.2.2.1) ?_
        refine sg_istore (pc := 83) (dc_X5_sieve_66.1.2.2.2) (by decide) ?_
        refine sg_aload (pc := 85) (dc_X5_sieve_66.2.1.1.1) rfl ?_
        refine sg_iload (pc := 87) (dc_X5_sieve_66.2.1.1.2) rfl ?_
        have ls := fs_svl (P := fs_is kind isx) (L := L) (p := p) (by omega)
        refine sg_cE1 (pc := 89) (d' := d - 1) (mc' := 0) (ms' := 0) 3 g (dc_X5_sieve_66.2.1.2.1) cb_X0_takeAway ml_X5_100 mn_X0_takeAway rfl mv_X0_takeAway (Nat.le_of_ble_eq_true rfl) (ck_lc (by assumption) (by first | assumption | exact ck_rev)) (Nat.le_of_ble_eq_true rfl) (by first | exact jl_d0 hd rfl | omega) (by first | exact Nat.le_of_ble_eq_true rfl | omega) (by first | exact Nat.le_of_ble_eq_true rfl | omega) ?_
        refine f_X0_takeAway g (by first | exact jl_d1 hd rfl | omega) (by assumption) L2 (by first | omega | (rw [l1]; omega)) (by first | omega | (rw [l1]; omega)) (fun h89 x89 f89 l89 => sg_K0 ?_)
        rw [l1] at l89
        have y89 := ck_Yt (h0 := h) (by assumption) x89 f89.1
        refine sg_iload (pc := 92) (dc_X5_sieve_66.2.1.2.2) rfl ?_
        refine sg_iret (pc := 94) (dc_X5_sieve_66.2.2.1.1) rfl (by first | exact Nat.le_of_ble_eq_true rfl | omega) (by first | exact Nat.le_of_ble_eq_true rfl | omega) ?_
        exact hQ (by omega) (by omega) _ _ (by rw [← fs_Fn (P := fs_is kind isx) (L := L) (p := p) (by omega)]; omega) (cf_put (i := row.toNat) hx fr19 ho19 P19 x89 (ck_Gt G1 f89) (by omega) (by omega) (by rw [l89, fs_svl (by omega), show L.length - (z77 - s).toNat = (fs_F (fs_is kind isx) L p).length by omega, fs_svt, fs_Fn (by omega)])) (ck_Ft F19 (ck_Ft G1.1 f89.1))
      · refine sg_aload (pc := 38) (dc_X5_sieve_30.1.1.2.2) rfl ?_
        refine sg_iload (pc := 40) (dc_X5_sieve_30.1.2.1.1) rfl ?_
        refine sg_cE1 (pc := 42) (d' := d - 1) (mc' := 0) (ms' := 0) 3 g (dc_X5_sieve_30.1.2.1.2) cb_X0_get ml_X5_75 mn_X0_get rfl mv_X0_get (Nat.le_of_ble_eq_true rfl) (ck_lc (by assumption) (by first | assumption | exact ck_rev)) (Nat.le_of_ble_eq_true rfl) (by first | exact jl_d0 hd rfl | omega) (by first | exact Nat.le_of_ble_eq_true rfl | omega) (by first | exact Nat.le_of_ble_eq_true rfl | omega) ?_
        refine f_X0_get g (by first | exact jl_d1 hd rfl | omega) (by assumption) L2 (fun z42 e42 v42 => sg_K1 ?_)
        rw [l1] at e42
        rw [l1] at v42
        try rw [fa_tg (by omega) (by omega)] at e42
        rw [fs_svg (by omega) (by omega)] at e42
        subst e42
        refine sg_istore (pc := 45) (dc_X5_sieve_30.1.2.2.1) (by decide) ?_
        refine sg_iload (pc := 47) (dc_X5_sieve_30.1.2.2.2) rfl ?_
        refine sg_iload_n (pc := 49) (j := 2) (dc_X5_sieve_30.2.1.1.1) rfl rfl ?_
        refine sg_cS2 (pc := 50) (d' := d - 1) (mc' := 0) (ms' := 0) g (dc_X5_sieve_30.2.1.1.2) cb_X2_isOf ml_X5_96 ms_X2_isOf (Nat.le_of_ble_eq_true rfl) (by first | exact jl_d0 hd rfl | omega) (by first | exact Nat.le_of_ble_eq_true rfl | omega) (by first | exact Nat.le_of_ble_eq_true rfl | omega) ?_
        refine s_X2_isOf g (by first | exact jl_d1 hd rfl | omega) (fun z50 h50 b50 => sg_K1 ?_)
        refine sg_iload_n (pc := 53) (j := 3) (dc_X5_sieve_30.2.1.2.1) rfl rfl ?_
        refine sg_icmp_ne (pc := 54) (tgt := 69) (dc_X5_sieve_30.2.1.2.2) (by decide) (fun c54 => ?_) (fun c54 => ?_)
        · have bk := fs_sv0 (P := fs_is kind isx) (L := L) (p := p) (by omega) (by omega) (decide_eq_false (by omega))
          first | refine sg_iincB (pc := 69) (dc_X5_sieve_66.1.1.1.2) rfl (by decide) (by decide) (by omega) (by omega) ?_ | refine sg_iinc (pc := 69) (dc_X5_sieve_66.1.1.1.2) rfl (by decide) (by decide) ?_
          refine sg_goto (pc := 72) (tgt := 28) (dc_X5_sieve_66.1.1.2.1) (by decide) ?_
          refine sg_lsub (lv' := [(6, _), (5, _), (0, _), (2, _), (3, _), (4, _)]) ⟨rfl, rfl, rfl, rfl, rfl, rfl, trivial⟩ ?_
          exact ih _ _ _ x1 G1 (by omega) (l1.trans bk.1) (by omega) (by first | exact jl_m1 hm (by omega) | exact jl_m2 hm (by omega) | omega)
        · refine sg_aload (pc := 57) (dc_X5_sieve_30.2.2.1.1) rfl ?_
          refine sg_iload (pc := 59) (dc_X5_sieve_30.2.2.1.2) rfl ?_
          refine sg_iload (pc := 61) (dc_X5_sieve_30.2.2.2.1) rfl ?_
          refine sg_cE2 (pc := 63) (d' := d - 1) (mc' := 0) (ms' := 0) 3 g (dc_X5_sieve_30.2.2.2.2) cb_X0_set ml_X5_86 mn_X0_set rfl mv_X0_set (Nat.le_of_ble_eq_true rfl) (ck_lc (by assumption) (by first | assumption | exact ck_rev)) (Nat.le_of_ble_eq_true rfl) (by first | exact jl_d0 hd rfl | omega) (by first | exact Nat.le_of_ble_eq_true rfl | omega) (by first | exact Nat.le_of_ble_eq_true rfl | omega) ?_
          refine f_X0_set g (by first | exact jl_d1 hd rfl | omega) (by assumption) L2 (by first | exact ck_v0 | assumption | (simp only [ck_v1, ck_v2] at * <;> omega)) (by omega) (by rw [l1]; first | omega | (rw [fa_tlen]; omega) | (rw [fs_svl (by omega)]; omega)) (fun h63 x63 f63 n63 w63 => sg_K0 ?_)
          have l63 := cf_ls n63 w63
          rw [l1] at l63
          have y63 := ck_Yt (h0 := h) (by assumption) x63 f63.1
          first | refine sg_iincB (pc := 66) (dc_X5_sieve_66.1.1.1.1) rfl (by decide) (by decide) (by omega) (by omega) ?_ | refine sg_iinc (pc := 66) (dc_X5_sieve_66.1.1.1.1) rfl (by decide) (by decide) ?_
          have bk := fs_sv1 (P := fs_is kind isx) (L := L) (p := p) (by omega) (by omega) (decide_eq_true (by omega))
          rw [show s.toNat = (fs_F (fs_is kind isx) L p).length by omega] at l63
          first | refine sg_iincB (pc := 69) (dc_X5_sieve_66.1.1.1.2) rfl (by decide) (by decide) (by omega) (by omega) ?_ | refine sg_iinc (pc := 69) (dc_X5_sieve_66.1.1.1.2) rfl (by decide) (by decide) ?_
          refine sg_goto (pc := 72) (tgt := 28) (dc_X5_sieve_66.1.1.2.1) (by decide) ?_
          refine sg_lsub (lv' := [(6, _), (5, _), (0, _), (2, _), (3, _), (4, _)]) ⟨rfl, rfl, rfl, rfl, rfl, rfl, trivial⟩ ?_
          exact ih _ _ _ x63 (ck_Gt G1 f63) (by omega) (l63.trans bk.1) (by omega) (by first | exact jl_m1 hm (by omega) | exact jl_m2 hm (by omega) | omega)
  refine sg_lsub (lv' := [(6, _), (5, _), (0, _), (2, _), (3, _), (4, _)]) ⟨rfl, rfl, rfl, rfl, rfl, rfl, trivial⟩ ?_
  exact loop28 _ _ _ _ x19 ck_G0 (by omega) (by rw [q19a2]; unfold fs_sv fs_F; simp) (by unfold fs_F; simp) (Nat.lt_succ_self _)

