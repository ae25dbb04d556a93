set_option maxRecDepth 100000 in
theorem f_X5_nth {w : sg_W} {Q : sg_O → sg_H → Prop} {h : sg_H} (g : sg_G w) {d : Nat} (hd : 14 ≤ d) {B : Nat} {A : fa_A} (hx : cf_X h B A) (ok : fa_ok A) {trk k : Int} {L : List Int} (hL : fa_L A (4 + trk.toNat) = L) (hQ : ¬ (trk < 0 ∨ 2 ≤ trk ∨ k < 0 ∨ ((fs_codes L).length : Int) ≤ k) → ∀ v : Int, v = (fs_codes L).getD k.toNat 0 → Q (.inl (some (sg_i v))) h) (hXI : (trk < 0 ∨ 2 ≤ trk ∨ k < 0 ∨ ((fs_codes L).length : Int) ≤ k) → ∀ z, h.1 ≤ z → Q (.inr e_I) (z, h.2)) : sg_C w mi_X5_nth d 8 48 [sg_r B, sg_i trk, sg_i k] h Q := by
  refine sg_of pn_X5 (Nat.le_of_ble_eq_true rfl) ?_
  obtain ⟨x0, ho, hS, hP, hK⟩ := id hx
  have y0 := ck_Y0 x0
  have hc24 : ck_cap 1 = 24 := rfl
  refine sg_aload_n (pc := 0) (j := 0) (dc_X5_nth_0.1.1.1.1) rfl rfl ?_
  refine sg_iload_n (pc := 1) (j := 1) (dc_X5_nth_0.1.1.1.2) rfl rfl ?_
  refine sg_cE1 (pc := 2) (d' := d - 1) (mc' := 1) (ms' := 6) 6 g (dc_X5_nth_0.1.1.2.1) cb_X5_trackOf ml_X5_151 mn_X5_trackOf rfl mv_X5_trackOf (Nat.le_of_ble_eq_true rfl) (ck_oc (by assumption)) (Nat.le_of_ble_eq_true rfl) (by first | exact jl_d0 hd rfl | omega) (by first | exact Nat.le_of_ble_eq_true rfl | omega) (by first | exact Nat.le_of_ble_eq_true rfl | omega) ?_
  refine f_X5_trackOf g (by first | exact jl_d1 hd rfl | omega) (by assumption) (fun l2 r2 L2 => sg_K1 ?_) (fun t2 z2 w2 => sg_KX (by first | exact Nat.le_of_ble_eq_true rfl | omega) (by first | exact Nat.le_of_ble_eq_true rfl | omega) (hXI (by omega) z2 w2))
  obtain ⟨a2, ea2⟩ : ∃ a, a = B + 1 + 3 + 2 * (4 + trk.toNat) := ⟨_, rfl⟩
  rw [← ea2] at L2 ⊢
  have k2 : cf_l h a2 = L := by rw [ea2, cf_rl hx (by omega)]; exact hL
  have r42 := fa_trk ok (i := (4 + trk.toNat)) (by omega) (by omega)
  rw [hL] at r42
  refine sg_astore_n (pc := 5) (j := 3) (dc_X5_nth_0.1.1.2.2) rfl (by decide) ?_
  refine sg_aload_n (pc := 6) (j := 3) (dc_X5_nth_0.1.2.1.1) rfl rfl ?_
  refine sg_iload_n (pc := 7) (j := 2) (dc_X5_nth_0.1.2.1.2) rfl rfl ?_
  refine sg_cS2 (pc := 8) (d' := d - 1) (mc' := 0) (ms' := 0) g (dc_X5_nth_0.1.2.2.1) cb_X4_codeBegin ml_X5_269 ms_X4_codeBegin (Nat.le_of_ble_eq_true rfl) (by first | exact jl_d0 hd rfl | omega) (by first | exact Nat.le_of_ble_eq_true rfl | omega) (by first | exact Nat.le_of_ble_eq_true rfl | omega) ?_
  refine f_X4_codeBegin g (by first | exact jl_d1 hd rfl | omega) (by assumption) L2 k2 (fun z8 R8 => sg_K1 ?_)
  refine sg_istore (pc := 11) (dc_X5_nth_0.1.2.2.2) (by decide) ?_
  refine sg_iload (pc := 13) (dc_X5_nth_0.2.1.1.1) rfl ?_
  refine sg_iconst (pc := 15) (z := -1) (dc_X5_nth_0.2.1.1.2) (by decide) ?_
  refine sg_icmp_ne (pc := 16) (tgt := 29) (dc_X5_nth_0.2.1.2.1) (by decide) (fun c16 => ?_) (fun c16 => ?_)
  · have q8 : 0 ≤ z8 ∧ z8 < (L.length : Int) ∧ fs_bg L z8.toNat ∧ ((fs_cs L z8.toNat).length : Int) = k := by
      rcases R8 with q | q
      · exact absurd q.1 (by omega)
      · exact q
    have k9 := (fs_cat (L := L) (p := z8.toNat) (by omega) q8.2.2.1).2
    refine sg_aload_n (pc := 29) (j := 3) (dc_X5_nth_29.1.1) rfl rfl ?_
    refine sg_iload (pc := 30) (dc_X5_nth_29.1.2) rfl ?_
    refine sg_cS2 (pc := 32) (d' := d - 1) (mc' := 0) (ms' := 0) g (dc_X5_nth_29.2.1) cb_X4_codeFrom ml_X5_266 ms_X4_codeFrom (Nat.le_of_ble_eq_true rfl) (by first | exact jl_d0 hd rfl | omega) (by first | exact Nat.le_of_ble_eq_true rfl | omega) (by first | exact Nat.le_of_ble_eq_true rfl | omega) ?_
    refine f_X4_codeFrom g (by first | exact jl_d1 hd rfl | omega) (by assumption) L2 k2 r42.2 (by omega) (by omega) (fun z32 e32 => sg_K1 ?_)
    have r32 := fs_cdr r42.2 (p := z8.toNat) (by omega)
    rw [← e32] at r32
    refine sg_iret (pc := 35) (dc_X5_nth_29.2.2) rfl (by first | exact Nat.le_of_ble_eq_true rfl | omega) (by first | exact Nat.le_of_ble_eq_true rfl | omega) ?_
    exact hQ (by omega) _ (by rw [e32, ← (fs_cat (by omega) q8.2.2.1).1, show (fs_cs L z8.toNat).length = k.toNat by omega])
  · have bad : k < 0 ∨ ((fs_codes L).length : Int) ≤ k := by
      rcases R8 with q | q
      · exact q.2
      · exact absurd q.1 (by omega)
    refine sg_throw (pc := 19) g th_X5_226_159 (dc_X5_nth_0.2.1.2.2) (dc_X5_nth_0.2.2.1.1) (dc_X5_nth_0.2.2.1.2) (dc_X5_nth_0.2.2.2.1) (dc_X5_nth_0.2.2.2.2) (by first | exact Nat.le_trans (Nat.le_of_ble_eq_true rfl) hd | omega) (Nat.le_of_ble_eq_true rfl) (by first | exact Nat.le_of_ble_eq_true rfl | omega) (by first | exact Nat.le_of_ble_eq_true rfl | omega) ?_
    exact fun z hz => hXI (by omega) z hz

