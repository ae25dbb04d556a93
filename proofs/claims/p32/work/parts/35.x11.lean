set_option maxRecDepth 100000 in
theorem f_X5_write {w : sg_W} {Q : sg_O → sg_H → Prop} {h : sg_H} (g : sg_G w) {d : Nat} (hd : 14 ≤ d) {B : Nat} {A : fa_A} (hx : cf_X h B A) (ok : fa_ok A) {row number radix : Int} {L : List Int} (hL : fa_L A row.toNat = L) (hQ : ¬ (row < 0 ∨ 4 ≤ row) → ¬ (number < 0 ∨ 999999 < number ∨ radix < 2 ∨ 36 < radix) → ∀ (v : Int) (h' : sg_H), ((40 < L.length + (fs_digs number radix).length ∧ v = -9 ∧ cf_X h' B A) ∨ (L.length + (fs_digs number radix).length ≤ 40 ∧ v = ((fs_digs number radix).length : Int) ∧ cf_X h' B (fa_put A row.toNat (L ++ fs_digs number radix)))) → ck_F B h h' → Q (.inl (some (sg_i v))) h') (hXI : (row < 0 ∨ 4 ≤ row) → ∀ z, h.1 ≤ z → Q (.inr e_I) (z, h.2)) (hXA : ¬ (row < 0 ∨ 4 ≤ row) → (number < 0 ∨ 999999 < number ∨ radix < 2 ∨ 36 < radix) → ∀ z, h.1 ≤ z → Q (.inr e_A) (z, h.2)) : sg_C w mi_X5_write d 8 48 [sg_r B, sg_i row, sg_i number, sg_i radix] h Q := by
  refine sg_of pn_X5 (Nat.le_of_ble_eq_true rfl) ?_
  obtain ⟨x0, ho, hS, hP, hK⟩ := id hx
  have y0 := ck_Y0 x0
  refine sg_aload_n (pc := 0) (j := 0) (dc_X5_write_0.1.1.1.1) rfl rfl ?_
  refine sg_iload_n (pc := 1) (j := 1) (dc_X5_write_0.1.1.1.2) rfl rfl ?_
  refine sg_cE1 (pc := 2) (d' := d - 1) (mc' := 1) (ms' := 6) 6 g (dc_X5_write_0.1.1.2.1) cb_X5_rowOf ml_X5_36 mn_X5_rowOf rfl mv_X5_rowOf (Nat.le_of_ble_eq_true rfl) (ck_oc (by assumption)) (Nat.le_of_ble_eq_true rfl) (by first | exact jl_d0 hd rfl | omega) (by first | exact Nat.le_of_ble_eq_true rfl | omega) (by first | exact Nat.le_of_ble_eq_true rfl | omega) ?_
  refine f_X5_rowOf g (by first | exact jl_d1 hd rfl | omega) (by assumption) (fun l2 r2 L2 => sg_K1 ?_) (fun t2 z2 w2 => sg_KX (by first | exact Nat.le_of_ble_eq_true rfl | omega) (by first | exact Nat.le_of_ble_eq_true rfl | omega) (hXI (by omega) z2 w2))
  obtain ⟨a2, ea2⟩ : ∃ a, a = B + 1 + 3 + 2 * row.toNat := ⟨_, rfl⟩
  rw [← ea2] at L2 ⊢
  have k2 : cf_l h a2 = L := by rw [ea2, cf_rl hx (by omega)]; exact hL
  have r42 := fa_row ok (i := row.toNat) (by omega)
  rw [hL] at r42
  refine sg_astore (pc := 5) (dc_X5_write_0.1.1.2.2) (by decide) ?_
  refine sg_iload_n (pc := 7) (j := 2) (dc_X5_write_0.1.2.1.1) rfl rfl ?_
  refine sg_if_lt (pc := 8) (tgt := 17) (dc_X5_write_0.1.2.1.2) (by decide) (fun c8 => ?_) (fun c8 => ?_)
  · refine sg_throw (pc := 17) g th_X5_110_112 (dc_X5_write_0.2.1.1.2) (dc_X5_write_0.2.1.2.1) (dc_X5_write_0.2.1.2.2) (dc_X5_write_0.2.2.1.1) (dc_X5_write_0.2.2.1.2) (by first | exact Nat.le_trans (Nat.le_of_ble_eq_true rfl) hd | omega) (Nat.le_of_ble_eq_true rfl) (by first | exact Nat.le_of_ble_eq_true rfl | omega) (by first | exact Nat.le_of_ble_eq_true rfl | omega) ?_
    exact fun z hz => hXA (by omega) (by omega) z hz
  · refine sg_iload_n (pc := 11) (j := 2) (dc_X5_write_0.1.2.2.1) rfl rfl ?_
    refine sg_ldc (pc := 12) (z := 999999) g (dc_X5_write_0.1.2.2.2) cn_X5_109 (by decide) ?_
    refine sg_icmp_le (pc := 14) (tgt := 27) (dc_X5_write_0.2.1.1.1) (by decide) (fun c14 => ?_) (fun c14 => ?_)
    · refine sg_iload_n (pc := 27) (j := 3) (dc_X5_write_0.2.2.2.1) rfl rfl ?_
      refine sg_cS1 (pc := 28) (d' := d - 1) (mc' := 1) (ms' := 6) g (dc_X5_write_0.2.2.2.2) cb_X5_checkRadix ml_X5_115 ms_X5_checkRadix (Nat.le_of_ble_eq_true rfl) (by first | exact jl_d0 hd rfl | omega) (by first | exact Nat.le_of_ble_eq_true rfl | omega) (by first | exact Nat.le_of_ble_eq_true rfl | omega) ?_
      refine s_X5_checkRadix g (by first | exact jl_d1 hd rfl | omega) (fun v28 => sg_K0 ?_) (fun t28 z28 w28 => sg_KX (by first | exact Nat.le_of_ble_eq_true rfl | omega) (by first | exact Nat.le_of_ble_eq_true rfl | omega) (hXA (by omega) (by omega) z28 w28))
      refine sg_iload_n (pc := 31) (j := 2) (dc_X5_write_31.1.1.1.1) rfl rfl ?_
      refine sg_iload_n (pc := 32) (j := 3) (dc_X5_write_31.1.1.1.2) rfl rfl ?_
      refine sg_cS2 (pc := 33) (d' := d - 1) (mc' := 0) (ms' := 0) g (dc_X5_write_31.1.1.2.1) cb_X2_digitsOf ml_X5_118 ms_X2_digitsOf (Nat.le_of_ble_eq_true rfl) (by first | exact jl_d0 hd rfl | omega) (by first | exact Nat.le_of_ble_eq_true rfl | omega) (by first | exact Nat.le_of_ble_eq_true rfl | omega) ?_
      refine f_X2_digitsOf g (by first | exact jl_d1 hd rfl | omega) (by omega) (by omega) (by omega) (fun z33 l33 u33 n33 => sg_K1 ?_)
      have dl : ((fs_digs number radix).length : Int) = z33 := by rw [fs_digsE n33, tt_len]; omega
      have hc40 : ck_cap 0 = 40 := rfl
      refine sg_istore (pc := 36) (dc_X5_write_31.1.1.2.2) (by decide) ?_
      refine sg_aload (pc := 38) (dc_X5_write_31.1.2.1.1) rfl ?_
      refine sg_iload (pc := 40) (dc_X5_write_31.1.2.1.2) rfl ?_
      refine sg_cE1 (pc := 42) (d' := d - 1) (mc' := 0) (ms' := 0) 3 g (dc_X5_write_31.1.2.2.1) cb_X0_hasRoomFor ml_X5_44 mn_X0_hasRoomFor rfl mv_X0_hasRoomFor (Nat.le_of_ble_eq_true rfl) (ck_lc (by assumption) (by first | assumption | exact ck_rev)) (Nat.le_of_ble_eq_true rfl) (by first | exact jl_d0 hd rfl | omega) (by first | exact Nat.le_of_ble_eq_true rfl | omega) (by first | exact Nat.le_of_ble_eq_true rfl | omega) ?_
      refine f_X0_hasRoomFor g (by first | exact jl_d1 hd rfl | omega) (by assumption) L2 (by omega) (fun z42 b42 i42 j42 => sg_K1 ?_)
      rw [k2] at i42 j42
      refine sg_if_ne (pc := 45) (tgt := 51) (dc_X5_write_31.1.2.2.2) (by decide) (fun c45 => ?_) (fun c45 => ?_)
      · refine sg_aload_n (pc := 51) (j := 0) (dc_X5_write_31.2.1.2.1) rfl rfl ?_
        refine ck_gob (pc := 52) g (dc_X5_write_31.2.1.2.2) fk_X5_19 (by assumption) (fun _ => rfl) ?_
        refine sg_aload_n (pc := 55) (j := 0) (dc_X5_write_31.2.2.1.1) rfl rfl ?_
        refine ck_gob (pc := 56) g (dc_X5_write_31.2.2.1.2) fk_X5_10 (by assumption) (fun _ => rfl) ?_
        refine sg_cE1 (pc := 59) (d' := d - 1) (mc' := 0) (ms' := 0) 4 g (dc_X5_write_31.2.2.2.1) cb_X1_keep ml_X5_55 mn_X1_keep rfl mv_X1_keep (Nat.le_of_ble_eq_true rfl) (ck_pc (by assumption)) (Nat.le_of_ble_eq_true rfl) (by first | exact jl_d0 hd rfl | omega) (by first | exact Nat.le_of_ble_eq_true rfl | omega) (by first | exact Nat.le_of_ble_eq_true rfl | omega) ?_
        refine f_X1_keep g (by first | exact jl_d1 hd rfl | omega) x0 ho (fun h59 x59 F59 fr59 ho59 P59 => sg_K0 ?_)
        have y59 : ck_Y h h59 B := ⟨x59, F59⟩
        have q59a2 : cf_l h59 a2 = cf_l h a2 := cf_lq (fr59 _ (by omega)) (fr59 _ (by omega))
        rw [k2] at q59a2
        refine sg_iload (pc := 62) (dc_X5_write_31.2.2.2.2) rfl ?_
        refine sg_iconst (pc := 64) (z := 1) (dc_X5_write_64.1.1.1.1) (by decide) ?_
        first | refine sg_isubB (pc := 65) (dc_X5_write_64.1.1.1.2) (by omega) (by omega) ?_ | refine sg_isub (pc := 65) (dc_X5_write_64.1.1.1.2) ?_
        refine sg_istore (pc := 66) (dc_X5_write_64.1.1.2.1) (by decide) ?_
        have loop68 : ∀ (N : Nat) (h1 : sg_H) (p : Int), (ck_X h1 B) → (ck_G B a2 h59 h1) → (-1 ≤ p ∧ p < z33) → (cf_l h1 a2 = L ++ tt_b (z33 - 1 - p).toNat (fun j => fs_dg number radix (z33.toNat - 1 - j))) → (p + 1).toNat < N → sg_R w mi_X5_write d 8 48 Q 68 [(6, sg_i p), (5, sg_i z33), (0, sg_r B), (2, sg_i number), (3, sg_i radix), (4, sg_r a2)] [] h1 2 12 := by
          intro N
          induction N with
          | zero => intro h1 p x1 G1 p0 l1 hm; exact absurd hm (Nat.not_lt_zero _)
          | succ N ih =>
            intro h1 p x1 G1 p0 l1 hm
            have y1 : ck_Y h h1 B := ⟨x1, ck_Ft F59 G1.1⟩
            refine sg_iload (pc := 68) (dc_X5_write_64.1.1.2.2) rfl ?_
            refine sg_if_lt (pc := 70) (tgt := 95) (dc_X5_write_64.1.2.1.1) (by decide) (fun c70 => ?_) (fun c70 => ?_)
            · refine sg_iload (pc := 95) (dc_X5_write_64.2.2.2.2) rfl ?_
              refine sg_iret (pc := 97) dc_X5_write_97 rfl (by first | exact Nat.le_of_ble_eq_true rfl | omega) (by first | exact Nat.le_of_ble_eq_true rfl | omega) ?_
              first
                | (exact hQ (by omega) (by omega) _ _ (Or.inl ⟨by omega, rfl, hx⟩) ck_F0)
                | (exact hQ (by omega) (by omega) _ _ (Or.inr ⟨by omega, by omega, cf_put (i := row.toNat) hx fr59 ho59 P59 x1 G1 (by omega) (by omega) (by rw [l1, show (z33 - 1 - p).toNat = z33.toNat by omega, ← fs_digsE n33])⟩) (ck_Ft F59 G1.1))
            · refine sg_aload (pc := 73) (dc_X5_write_64.1.2.1.2) rfl ?_
              refine sg_iload_n (pc := 75) (j := 2) (dc_X5_write_64.1.2.2.1) rfl rfl ?_
              refine sg_iload_n (pc := 76) (j := 3) (dc_X5_write_64.1.2.2.2) rfl rfl ?_
              refine sg_iload (pc := 77) (dc_X5_write_64.2.1.1.1) rfl ?_
              refine sg_cS3 (pc := 79) (d' := d - 1) (mc' := 0) (ms' := 0) g (dc_X5_write_64.2.1.1.2) cb_X2_digitNumber ml_X5_122 ms_X2_digitNumber (Nat.le_of_ble_eq_true rfl) (by first | exact jl_d0 hd rfl | omega) (by first | exact Nat.le_of_ble_eq_true rfl | omega) (by first | exact Nat.le_of_ble_eq_true rfl | omega) ?_
              refine f_X2_digitNumber g (by first | exact jl_d1 hd rfl | omega) (by omega) (by omega) (by omega) (by omega) (fun z79 h79 => sg_K1 ?_)
              refine sg_iload_n (pc := 82) (j := 3) (dc_X5_write_64.2.1.2.1) rfl rfl ?_
              refine sg_cS2 (pc := 83) (d' := d - 1) (mc' := 0) (ms' := 0) g (dc_X5_write_64.2.1.2.2) cb_X2_digitOf ml_X5_126 ms_X2_digitOf (Nat.le_of_ble_eq_true rfl) (by first | exact jl_d0 hd rfl | omega) (by first | exact Nat.le_of_ble_eq_true rfl | omega) (by first | exact Nat.le_of_ble_eq_true rfl | omega) ?_
              refine s_X2_digitOf g (by first | exact jl_d1 hd rfl | omega) (fun z83 h83 => sg_K1 ?_)
              (try simp only [fn_radix] at h83)
              refine sg_cE1 (pc := 86) (d' := d - 1) (mc' := 0) (ms' := 0) 3 g (dc_X5_write_64.2.2.1.1) cb_X0_add ml_X5_129 mn_X0_add rfl mv_X0_add (Nat.le_of_ble_eq_true rfl) (ck_lc (by assumption) (by first | assumption | exact ck_rev)) (Nat.le_of_ble_eq_true rfl) (by first | exact jl_d0 hd rfl | omega) (by first | exact Nat.le_of_ble_eq_true rfl | omega) (by first | exact Nat.le_of_ble_eq_true rfl | omega) ?_
              have nn86 := cf_len (by assumption) L2
              rw [l1] at nn86
              try simp only [List.length_append, tt_len, List.length_cons, List.length_nil] at nn86
              have hcap86 : ck_cap 0 = 40 := rfl
              refine f_X0_add g (by first | exact jl_d1 hd rfl | omega) (by assumption) L2 (by first | exact ck_v0 | assumption | (simp only [ck_v1, ck_v2] at * <;> omega)) (by omega) (fun h86 x86 f86 n86 w86 => sg_K0 ?_)
              have l86 := cf_la (by assumption) L2 (by omega) n86 w86
              rw [l1] at l86
              have y86 := ck_Yt (h0 := h) (by assumption) x86 f86.1
              first | refine sg_iincB (pc := 89) (dc_X5_write_64.2.2.1.2) rfl (by decide) (by decide) (by omega) (by omega) ?_ | refine sg_iinc (pc := 89) (dc_X5_write_64.2.2.1.2) rfl (by decide) (by decide) ?_
              refine sg_goto (pc := 92) (tgt := 68) (dc_X5_write_64.2.2.2.1) (by decide) ?_
              refine sg_lsub (lv' := [(6, _), (5, _), (0, _), (2, _), (3, _), (4, _)]) ⟨rfl, rfl, rfl, rfl, rfl, rfl, trivial⟩ ?_
              exact ih _ _ x86 (ck_Gt G1 f86) (by omega) (by rw [l86, List.append_assoc, show (z33 - 1 - (p + -1)).toNat = (z33 - 1 - p).toNat + 1 by omega, tt_succ, show z33.toNat - 1 - (z33 - 1 - p).toNat = p.toNat by omega]; unfold fs_dg; rw [← h79, ← h83]) (by first | exact jl_m1 hm (by omega) | exact jl_m2 hm (by omega) | omega)
        refine sg_lsub (lv' := [(6, _), (5, _), (0, _), (2, _), (3, _), (4, _)]) ⟨rfl, rfl, rfl, rfl, rfl, rfl, trivial⟩ ?_
        exact loop68 _ _ _ x59 ck_G0 (by omega) (by rw [q59a2, show (z33 - 1 - (z33 - 1)).toNat = 0 by omega]; unfold tt_b; simp) (Nat.lt_succ_self _)
      · refine sg_bipush (pc := 48) (z := -9) (dc_X5_write_31.2.1.1.1) (by decide) ?_
        refine sg_iret (pc := 50) (dc_X5_write_31.2.1.1.2) rfl (by first | exact Nat.le_of_ble_eq_true rfl | omega) (by first | exact Nat.le_of_ble_eq_true rfl | omega) ?_
        first
          | (exact hQ (by omega) (by omega) _ _ (Or.inl ⟨by omega, rfl, hx⟩) ck_F0)
          | (exact hQ (by omega) (by omega) _ _ (Or.inr ⟨by omega, by omega, cf_put (i := row.toNat) hx fr59 ho59 P59 x1 G1 (by omega) (by omega) (by rw [l1, show (z33 - 1 - p).toNat = z33.toNat by omega, ← fs_digsE n33])⟩) (ck_Ft F59 G1.1))
    · refine sg_throw (pc := 17) g th_X5_110_112 (dc_X5_write_0.2.1.1.2) (dc_X5_write_0.2.1.2.1) (dc_X5_write_0.2.1.2.2) (dc_X5_write_0.2.2.1.1) (dc_X5_write_0.2.2.1.2) (by first | exact Nat.le_trans (Nat.le_of_ble_eq_true rfl) hd | omega) (Nat.le_of_ble_eq_true rfl) (by first | exact Nat.le_of_ble_eq_true rfl | omega) (by first | exact Nat.le_of_ble_eq_true rfl | omega) ?_
      exact fun z hz => hXA (by omega) (by omega) z hz

