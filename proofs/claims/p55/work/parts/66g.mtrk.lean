set_option maxRecDepth 100000 in
theorem f_X7_isNoPlace {w : sg_W} {Q : sg_O → sg_H → Prop} {h : sg_H} (g : sg_G w) {d : Nat} (hd : 4 ≤ d) {M : Nat} {trk p : Int} (hv : (0 : Nat) = 0) {A : fa_A} {L : List Int} (hA : md_ab h M = A) (hL : fa_L A (4 + trk.toNat) = L) (hx : md_M w h M) (hQ : ∀ v : Int, (v = 0 ∨ v = 1) → (v = 0 → 0 ≤ trk ∧ trk < 2 ∧ 0 ≤ p ∧ p < (L.length : Int)) → (v = 1 → trk < 0 ∨ 2 ≤ trk ∨ p < 0 ∨ (L.length : Int) ≤ p) → Q (.inl (some (sg_i v))) h) : sg_C w mi_X7_isNoPlace d 0 0 [sg_r M, sg_i trk, sg_i p] h Q := by
  refine sg_of pn_X7 (Nat.le_of_ble_eq_true rfl) ?_
  have y0 := md_Y0 hx
  have hk := hx.2.1
  refine sg_iload_n (pc := 0) (j := 1) (dc_X7_isNoPlace_0.1.1.1.1) rfl rfl ?_
  refine sg_cS1 (pc := 1) (d' := d - 1) (mc' := 0) (ms' := 0) g (dc_X7_isNoPlace_0.1.1.1.2) cb_X7_isNoTrack ml_X7_129 ms_X7_isNoTrack (Nat.le_of_ble_eq_true rfl) (by first | exact jl_d0 hd rfl | omega) (by first | exact Nat.le_of_ble_eq_true rfl | omega) (by first | exact Nat.le_of_ble_eq_true rfl | omega) ?_
  refine s_X7_isNoTrack g (by first | exact jl_d1 hd rfl | omega) (fun z1 h1 b1 => sg_K1 ?_)
  (try simp only [fm_no, fm_one, fn_betw, fn_sign, fn_radix, fn_high, fn_low] at h1)
  refine sg_if_ne (pc := 4) (tgt := 26) (dc_X7_isNoPlace_0.1.1.2.1) (by decide) (fun c4 => ?_) (fun c4 => ?_)
  · refine sg_iconst (pc := 26) (z := 1) (dc_X7_isNoPlace_26.1.1) (by decide) ?_
    refine sg_goto (pc := 27) (tgt := 31) (dc_X7_isNoPlace_26.1.2) (by decide) ?_
    refine sg_zret (pc := 31) (dc_X7_isNoPlace_26.2.2) rfl (by first | exact Or.inl rfl | exact Or.inr rfl | omega | assumption) (by first | exact Nat.le_of_ble_eq_true rfl | omega) (by first | exact Nat.le_of_ble_eq_true rfl | omega) ?_
    exact hQ _ (by omega) (by omega) (by omega)
  · refine sg_iload_n (pc := 7) (j := 2) (dc_X7_isNoPlace_0.1.1.2.2) rfl rfl ?_
    refine sg_iconst (pc := 8) (z := 0) (dc_X7_isNoPlace_0.1.2.1.1) (by decide) ?_
    refine sg_aload_n (pc := 9) (j := 0) (dc_X7_isNoPlace_0.1.2.1.2) rfl rfl ?_
    refine md_grw (pc := 10) g (dc_X7_isNoPlace_0.1.2.2.1) fk_X7_9 (by assumption) (fun r10 => ?_)
    refine sg_iconst (pc := 13) (z := 4) (dc_X7_isNoPlace_0.1.2.2.2) (by decide) ?_
    refine sg_iload_n (pc := 14) (j := 1) (dc_X7_isNoPlace_0.2.1.1.1) rfl rfl ?_
    first | refine sg_iaddB (pc := 15) (dc_X7_isNoPlace_0.2.1.1.2) (by omega) (by omega) ?_ | refine sg_iadd (pc := 15) (dc_X7_isNoPlace_0.2.1.1.2) ?_
    first | refine md_alX (pc := 16) (dc_X7_isNoPlace_0.2.1.2.1) hA (by assumption) (by assumption) (by omega) (by omega) (fun X16 l16 => ?_) | refine md_alXt (pc := 16) (dc_X7_isNoPlace_0.2.1.2.1) hA (by assumption) (by assumption) (by omega) (by omega) (fun X16 l16 => ?_)
    refine md_xlen (pc := 17) (dc_X7_isNoPlace_0.2.1.2.2) (by assumption) (by omega) ?_
    refine sg_iconst (pc := 18) (z := 1) (dc_X7_isNoPlace_0.2.2.1.1) (by decide) ?_
    first | refine sg_isubB (pc := 19) (dc_X7_isNoPlace_0.2.2.1.2) (by omega) (by omega) ?_ | refine sg_isub (pc := 19) (dc_X7_isNoPlace_0.2.2.1.2) ?_
    refine sg_cS3 (pc := 20) (d' := d - 1) (mc' := 0) (ms' := 0) g (dc_X7_isNoPlace_0.2.2.2.1) cb_X7_isOf ml_X7_22 ms_X7_isOf (Nat.le_of_ble_eq_true rfl) (by first | exact jl_d0 hd rfl | omega) (by first | exact Nat.le_of_ble_eq_true rfl | omega) (by first | exact Nat.le_of_ble_eq_true rfl | omega) ?_
    refine s_X7_isOf g (by first | exact jl_d1 hd rfl | omega) (fun z20 h20 b20 => sg_K1 ?_)
    (try simp only [fm_no, fm_one, fn_betw, fn_sign, fn_radix, fn_high, fn_low] at h20)
    refine sg_if_ne (pc := 23) (tgt := 30) (dc_X7_isNoPlace_0.2.2.2.2) (by decide) (fun c23 => ?_) (fun c23 => ?_)
    · refine sg_iconst (pc := 30) (z := 0) (dc_X7_isNoPlace_26.2.1) (by decide) ?_
      refine sg_zret (pc := 31) (dc_X7_isNoPlace_26.2.2) rfl (by first | exact Or.inl rfl | exact Or.inr rfl | omega | assumption) (by first | exact Nat.le_of_ble_eq_true rfl | omega) (by first | exact Nat.le_of_ble_eq_true rfl | omega) ?_
      exact hQ _ (by omega) (by omega) (by omega)
    · refine sg_iconst (pc := 26) (z := 1) (dc_X7_isNoPlace_26.1.1) (by decide) ?_
      refine sg_goto (pc := 27) (tgt := 31) (dc_X7_isNoPlace_26.1.2) (by decide) ?_
      refine sg_zret (pc := 31) (dc_X7_isNoPlace_26.2.2) rfl (by first | exact Or.inl rfl | exact Or.inr rfl | omega | assumption) (by first | exact Nat.le_of_ble_eq_true rfl | omega) (by first | exact Nat.le_of_ble_eq_true rfl | omega) ?_
      exact hQ _ (by omega) (by omega) (by omega)

set_option maxRecDepth 100000 in
theorem f_X7_codeAt {w : sg_W} {Q : sg_O → sg_H → Prop} {h : sg_H} (g : sg_G w) {d : Nat} (hd : 9 ≤ d) {M : Nat} {trk p : Int} {A : fa_A} {L : List Int} (hA : md_ab h M = A) (hL : fa_L A (4 + trk.toNat) = L) (hx : md_M w h M) (hQ : ∀ (v : Int) (h' : sg_H), ((trk < 0 ∨ 2 ≤ trk ∨ p < 0 ∨ (L.length : Int) ≤ p) → md_t h' M = 1) → (¬ (trk < 0 ∨ 2 ≤ trk ∨ p < 0 ∨ (L.length : Int) ≤ p) → md_t h' M = 0) → (md_t h' M = 0 → v = fs_cd L p.toNat) → md_Y w h h' M → Q (.inl (some (sg_i v))) h') : sg_C w mi_X7_codeAt d 0 0 [sg_r M, sg_i trk, sg_i p] h Q := by
  refine sg_of pn_X7 (Nat.le_of_ble_eq_true rfl) ?_
  have y0 := md_Y0 hx
  have hk := hx.2.1
  refine sg_aload_n (pc := 0) (j := 0) (dc_X7_codeAt_0.1.1.1.1) rfl rfl ?_
  refine sg_aload_n (pc := 1) (j := 0) (dc_X7_codeAt_0.1.1.1.2) rfl rfl ?_
  refine sg_iload_n (pc := 2) (j := 1) (dc_X7_codeAt_0.1.1.2.1) rfl rfl ?_
  refine sg_iload_n (pc := 3) (j := 2) (dc_X7_codeAt_0.1.1.2.2) rfl rfl ?_
  refine sg_cE2 (pc := 4) (d' := d - 1) (mc' := 0) (ms' := 0) 8 g (dc_X7_codeAt_0.1.2.1.1) cb_X7_isNoPlace ml_X7_232 mn_X7_isNoPlace rfl mv_X7_isNoPlace (Nat.le_of_ble_eq_true rfl) (md_oc (by assumption)) (Nat.le_of_ble_eq_true rfl) (by first | exact jl_d0 hd rfl | omega) (by first | exact Nat.le_of_ble_eq_true rfl | omega) (by first | exact Nat.le_of_ble_eq_true rfl | omega) ?_
  refine f_X7_isNoPlace g (by first | exact jl_d1 hd rfl | omega) rfl (md_Ya (h0 := h) (by assumption) hA) hL (by assumption) (fun v4 b4 i4 j4 => sg_K1 ?_)
  refine sg_iconst (pc := 7) (z := 1) (dc_X7_codeAt_0.1.2.1.2) (by decide) ?_
  refine sg_cE2 (pc := 8) (d' := d - 1) (mc' := 0) (ms' := 0) 8 g (dc_X7_codeAt_0.1.2.2.1) cb_X7_start ml_X7_71 mn_X7_start rfl mv_X7_start (Nat.le_of_ble_eq_true rfl) (md_oc (by assumption)) (Nat.le_of_ble_eq_true rfl) (by first | exact jl_d0 hd rfl | omega) (by first | exact Nat.le_of_ble_eq_true rfl | omega) (by first | exact Nat.le_of_ble_eq_true rfl | omega) ?_
  refine s_X7_start g (by first | exact jl_d1 hd rfl | omega) (by omega) (by assumption) (fun v8 h8 b8 i8 t8 s8 u8 y8 => sg_K1 ?_)
  have x8 := y8.1
  have hk8 := x8.2.1
  have y8 := md_Yt (h0 := h) (by assumption) y8
  refine sg_if_eq (pc := 11) (tgt := 18) (dc_X7_codeAt_0.1.2.2.2) (by decide) (fun c11 => ?_) (fun c11 => ?_)
  · refine sg_aload_n (pc := 18) (j := 0) (dc_X7_codeAt_0.2.1.2.1) rfl rfl ?_
    refine sg_iload_n (pc := 19) (j := 1) (dc_X7_codeAt_0.2.1.2.2) rfl rfl ?_
    refine sg_iload_n (pc := 20) (j := 2) (dc_X7_codeAt_0.2.2.1.1) rfl rfl ?_
    refine sg_cE2 (pc := 21) (d' := d - 1) (mc' := 0) (ms' := 0) 8 g (dc_X7_codeAt_0.2.2.1.2) cb_X7_codeOf ml_X7_150 mn_X7_codeOf rfl mv_X7_codeOf (Nat.le_of_ble_eq_true rfl) (md_oc (by assumption)) (Nat.le_of_ble_eq_true rfl) (by first | exact jl_d0 hd rfl | omega) (by first | exact Nat.le_of_ble_eq_true rfl | omega) (by first | exact Nat.le_of_ble_eq_true rfl | omega) ?_
    refine f_X7_codeOf g (by first | exact jl_d1 hd rfl | omega) (by omega) (md_Ya (h0 := h) (by assumption) hA) hL (by omega) (by assumption) (fun v21 e21 => sg_K1 ?_)
    refine sg_iret (pc := 24) (dc_X7_codeAt_0.2.2.2.1) rfl (by first | exact Nat.le_of_ble_eq_true rfl | omega) (by first | exact Nat.le_of_ble_eq_true rfl | omega) ?_
    first
      | exact hQ _ _ (by omega) (by omega) (fun q => absurd q (by omega)) (by assumption)
      | exact hQ _ _ (by omega) (by omega) (fun _ => e21) (by assumption)
  · refine sg_iconst (pc := 14) (z := 0) (dc_X7_codeAt_0.2.1.1.1) (by decide) ?_
    refine sg_goto (pc := 15) (tgt := 24) (dc_X7_codeAt_0.2.1.1.2) (by decide) ?_
    refine sg_iret (pc := 24) (dc_X7_codeAt_0.2.2.2.1) rfl (by first | exact Nat.le_of_ble_eq_true rfl | omega) (by first | exact Nat.le_of_ble_eq_true rfl | omega) ?_
    first
      | exact hQ _ _ (by omega) (by omega) (fun q => absurd q (by omega)) (by assumption)
      | exact hQ _ _ (by omega) (by omega) (fun _ => e21) (by assumption)

