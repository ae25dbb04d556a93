section
variable {w : sg_W} {mi : sg_M} {d mc ms : Nat} {Q : sg_O → sg_H → Prop} {pc : Nat} {lv : List (Nat × sg_V)} {st : List sg_V} {h h0 : sg_H} {k n M : Nat} {A : fa_A} {L : List Int}
end
set_option maxRecDepth 100000 in
theorem f_X7_nth {w : sg_W} {Q : sg_O → sg_H → Prop} {h : sg_H} (g : sg_G w) {d : Nat} (hd : 9 ≤ d) {M : Nat} {trk kk : Int} {A : fa_A} {L : List Int} (hA : md_ab h M = A) (hL : fa_L A (4 + trk.toNat) = L) (hx : md_M w h M) (hQ : ∀ (v : Int) (h' : sg_H), ((trk < 0 ∨ 2 ≤ trk ∨ kk < 0 ∨ ((fs_codes L).length : Int) ≤ kk) → md_t h' M = 1) → (¬ (trk < 0 ∨ 2 ≤ trk ∨ kk < 0 ∨ ((fs_codes L).length : Int) ≤ kk) → md_t h' M = 0) → (md_t h' M = 0 → v = (fs_codes L).getD kk.toNat 0) → md_Y w h h' M → Q (.inl (some (sg_i v))) h') : sg_C w mi_X7_nth d 152 1350 [sg_r M, sg_i trk, sg_i kk] h Q := by
  refine sg_of pn_X7 (Nat.le_of_ble_eq_true rfl) ?_
  have y0 := md_Y0 hx
  have hk := hx.2.1
  have cl : (0 ≤ trk ∧ trk < 2) → (fs_codes L).length ≤ 24 := fun q => by
    obtain ⟨-, r2⟩ := md_rT hx (i := 4 + trk) (by omega) (by omega)
    rw [hA, show (4 + trk).toNat = 4 + trk.toNat by omega, hL] at r2
    exact Nat.le_trans fs_csl r2
  refine sg_aload_n (pc := 0) (j := 0) (dc_X7_nth_0.1.1.1.1) rfl rfl ?_
  refine sg_iload_n (pc := 1) (j := 1) (dc_X7_nth_0.1.1.1.2) rfl rfl ?_
  refine sg_cS1 (pc := 2) (d' := d - 1) (mc' := 0) (ms' := 0) g (dc_X7_nth_0.1.1.2.1) cb_X7_isNoTrack ml_X7_129 ms_X7_isNoTrack (Nat.le_of_ble_eq_true rfl) (by first | exact jl_d0 hd rfl | omega) (by first | exact Nat.le_of_ble_eq_true rfl | omega) (by first | exact Nat.le_of_ble_eq_true rfl | omega) ?_
  refine s_X7_isNoTrack g (by first | exact jl_d1 hd rfl | omega) (fun z2 h2 b2 => sg_K1 ?_)
  (try simp only [fm_no, fm_one, fn_betw, fn_sign, fn_radix, fn_high, fn_low] at h2)
  refine sg_if_ne (pc := 5) (tgt := 24) (dc_X7_nth_0.1.1.2.2) (by decide) (fun c5 => ?_) (fun c5 => ?_)
  · refine sg_iconst (pc := 24) (z := 1) (dc_X7_nth_0.2.2.2.1) (by decide) ?_
    refine sg_goto (pc := 25) (tgt := 29) (dc_X7_nth_0.2.2.2.2) (by decide) ?_
    refine sg_iconst (pc := 29) (z := 1) (dc_X7_nth_28.1.1.1.2) (by decide) ?_
    refine sg_cE2 (pc := 30) (d' := d - 1) (mc' := 0) (ms' := 0) 8 g (dc_X7_nth_28.1.1.2.1) cb_X7_start ml_X7_71 mn_X7_start rfl mv_X7_start (Nat.le_of_ble_eq_true rfl) (md_oc (by assumption)) (Nat.le_of_ble_eq_true rfl) (by first | exact jl_d0 hd rfl | omega) (by first | exact Nat.le_of_ble_eq_true rfl | omega) (by first | exact Nat.le_of_ble_eq_true rfl | omega) ?_
    refine s_X7_start g (by first | exact jl_d1 hd rfl | omega) (by omega) (by assumption) (fun v30 h30 b30 i30 t30 s30 u30 y30 => sg_K1 ?_)
    have x30 := y30.1
    have hk30 := x30.2.1
    have y30 := md_Yt (h0 := h) (by assumption) y30
    refine sg_if_eq (pc := 33) (tgt := 40) (dc_X7_nth_28.1.1.2.2) (by decide) (fun c33 => absurd c33 (by omega)) (fun c33 => ?_)
    refine sg_iconst (pc := 36) (z := 0) (dc_X7_nth_28.1.2.1.1) (by decide) ?_
    refine sg_goto (pc := 37) (tgt := 47) (dc_X7_nth_28.1.2.1.2) (by decide) ?_
    refine sg_iret (pc := 47) (dc_X7_nth_28.2.1.2.2) rfl (by first | exact Nat.le_of_ble_eq_true rfl | omega) (by first | exact Nat.le_of_ble_eq_true rfl | omega) ?_
    first
      | exact hQ _ _ (by omega) (by omega) (fun q => absurd q (by omega)) (by assumption)
      | exact hQ _ _ (by omega) (by omega) (fun _ => rfl) (by assumption)
  · refine sg_iload_n (pc := 8) (j := 2) (dc_X7_nth_0.1.2.1.1) rfl rfl ?_
    refine sg_iconst (pc := 9) (z := 0) (dc_X7_nth_0.1.2.1.2) (by decide) ?_
    refine sg_aload_n (pc := 10) (j := 0) (dc_X7_nth_0.1.2.2.1) rfl rfl ?_
    refine sg_iload_n (pc := 11) (j := 1) (dc_X7_nth_0.1.2.2.2) rfl rfl ?_
    refine sg_cE1 (pc := 12) (d' := d - 1) (mc' := 76) (ms' := 675) 8 g (dc_X7_nth_0.2.1.1.1) cb_X7_codes ml_X7_153 mn_X7_codes rfl mv_X7_codes (Nat.le_of_ble_eq_true rfl) (md_oc (by assumption)) (Nat.le_of_ble_eq_true rfl) (by first | exact jl_d0 hd rfl | omega) (by first | exact Nat.le_of_ble_eq_true rfl | omega) (by first | exact Nat.le_of_ble_eq_true rfl | omega) ?_
    refine f_X7_codes g (by first | exact jl_d1 hd rfl | omega) (by omega) (md_Ya (h0 := h) (by assumption) hA) hL (by assumption) (fun h12 a12 E12 C12 => sg_K1 ?_)
    have x12 : md_M w h12 M := md_ME (by assumption) E12
    have hk12 := x12.2.1
    have th12 := md_tE (w := w) (M := M) (by assumption) E12
    have y12 : md_Y w h h12 M := md_YE (by assumption) E12
    refine md_xlen (pc := 15) (dc_X7_nth_0.2.1.1.2) C12 (by have := cl (by omega); omega) ?_
    refine sg_iconst (pc := 16) (z := 1) (dc_X7_nth_0.2.1.2.1) (by decide) ?_
    first | refine sg_isubB (pc := 17) (dc_X7_nth_0.2.1.2.2) (by omega) (by omega) ?_ | refine sg_isub (pc := 17) (dc_X7_nth_0.2.1.2.2) ?_
    refine sg_cS3 (pc := 18) (d' := d - 1) (mc' := 0) (ms' := 0) g (dc_X7_nth_0.2.2.1.1) cb_X7_isOf ml_X7_22 ms_X7_isOf (Nat.le_of_ble_eq_true rfl) (by first | exact jl_d0 hd rfl | omega) (by first | exact Nat.le_of_ble_eq_true rfl | omega) (by first | exact Nat.le_of_ble_eq_true rfl | omega) ?_
    refine s_X7_isOf g (by first | exact jl_d1 hd rfl | omega) (fun z18 h18 b18 => sg_K1 ?_)
    (try simp only [fm_no, fm_one, fn_betw, fn_sign, fn_radix, fn_high, fn_low] at h18)
    refine sg_if_ne (pc := 21) (tgt := 28) (dc_X7_nth_0.2.2.1.2) (by decide) (fun c21 => ?_) (fun c21 => ?_)
    · refine sg_iconst (pc := 28) (z := 0) (dc_X7_nth_28.1.1.1.1) (by decide) ?_
      refine sg_iconst (pc := 29) (z := 1) (dc_X7_nth_28.1.1.1.2) (by decide) ?_
      refine sg_cE2 (pc := 30) (d' := d - 1) (mc' := 0) (ms' := 0) 8 g (dc_X7_nth_28.1.1.2.1) cb_X7_start ml_X7_71 mn_X7_start rfl mv_X7_start (Nat.le_of_ble_eq_true rfl) (md_oc (by assumption)) (Nat.le_of_ble_eq_true rfl) (by first | exact jl_d0 hd rfl | omega) (by first | exact Nat.le_of_ble_eq_true rfl | omega) (by first | exact Nat.le_of_ble_eq_true rfl | omega) ?_
      refine s_X7_start g (by first | exact jl_d1 hd rfl | omega) (by omega) (by assumption) (fun v30 h30 b30 i30 t30 s30 u30 y30 => sg_K1 ?_)
      have x30 := y30.1
      have hk30 := x30.2.1
      have y30 := md_Yt (h0 := h) (by assumption) y30
      refine sg_if_eq (pc := 33) (tgt := 40) (dc_X7_nth_28.1.1.2.2) (by decide) (fun c33 => ?_) (fun c33 => absurd c33 (by omega))
      refine sg_aload_n (pc := 40) (j := 0) (dc_X7_nth_28.1.2.2.1) rfl rfl ?_
      refine sg_iload_n (pc := 41) (j := 1) (dc_X7_nth_28.1.2.2.2) rfl rfl ?_
      refine sg_cE1 (pc := 42) (d' := d - 1) (mc' := 76) (ms' := 675) 8 g (dc_X7_nth_28.2.1.1.1) cb_X7_codes ml_X7_153 mn_X7_codes rfl mv_X7_codes (Nat.le_of_ble_eq_true rfl) (md_oc (by assumption)) (Nat.le_of_ble_eq_true rfl) (by first | exact jl_d0 hd rfl | omega) (by first | exact Nat.le_of_ble_eq_true rfl | omega) (by first | exact Nat.le_of_ble_eq_true rfl | omega) ?_
      refine f_X7_codes g (by first | exact jl_d1 hd rfl | omega) (by omega) (md_Ya (h0 := h) (by assumption) hA) hL (by assumption) (fun h42 a42 E42 C42 => sg_K1 ?_)
      have x42 : md_M w h42 M := md_ME (by assumption) E42
      have hk42 := x42.2.1
      have th42 := md_tE (w := w) (M := M) (by assumption) E42
      have y42 : md_Y w h h42 M := md_YE (by assumption) E42
      refine sg_iload_n (pc := 45) (j := 2) (dc_X7_nth_28.2.1.1.2) rfl rfl ?_
      refine md_xld (pc := 46) (dc_X7_nth_28.2.1.2.1) C42 (by omega) (by omega) (fun g46 => ?_)
      refine sg_iret (pc := 47) (dc_X7_nth_28.2.1.2.2) rfl (by first | exact Nat.le_of_ble_eq_true rfl | omega) (by first | exact Nat.le_of_ble_eq_true rfl | omega) ?_
      first
        | exact hQ _ _ (by omega) (by omega) (fun q => absurd q (by omega)) (by assumption)
        | exact hQ _ _ (by omega) (by omega) (fun _ => rfl) (by assumption)
    · refine sg_iconst (pc := 24) (z := 1) (dc_X7_nth_0.2.2.2.1) (by decide) ?_
      refine sg_goto (pc := 25) (tgt := 29) (dc_X7_nth_0.2.2.2.2) (by decide) ?_
      refine sg_iconst (pc := 29) (z := 1) (dc_X7_nth_28.1.1.1.2) (by decide) ?_
      refine sg_cE2 (pc := 30) (d' := d - 1) (mc' := 0) (ms' := 0) 8 g (dc_X7_nth_28.1.1.2.1) cb_X7_start ml_X7_71 mn_X7_start rfl mv_X7_start (Nat.le_of_ble_eq_true rfl) (md_oc (by assumption)) (Nat.le_of_ble_eq_true rfl) (by first | exact jl_d0 hd rfl | omega) (by first | exact Nat.le_of_ble_eq_true rfl | omega) (by first | exact Nat.le_of_ble_eq_true rfl | omega) ?_
      refine s_X7_start g (by first | exact jl_d1 hd rfl | omega) (by omega) (by assumption) (fun v30 h30 b30 i30 t30 s30 u30 y30 => sg_K1 ?_)
      have x30 := y30.1
      have hk30 := x30.2.1
      have y30 := md_Yt (h0 := h) (by assumption) y30
      refine sg_if_eq (pc := 33) (tgt := 40) (dc_X7_nth_28.1.1.2.2) (by decide) (fun c33 => absurd c33 (by omega)) (fun c33 => ?_)
      refine sg_iconst (pc := 36) (z := 0) (dc_X7_nth_28.1.2.1.1) (by decide) ?_
      refine sg_goto (pc := 37) (tgt := 47) (dc_X7_nth_28.1.2.1.2) (by decide) ?_
      refine sg_iret (pc := 47) (dc_X7_nth_28.2.1.2.2) rfl (by first | exact Nat.le_of_ble_eq_true rfl | omega) (by first | exact Nat.le_of_ble_eq_true rfl | omega) ?_
      first
        | exact hQ _ _ (by omega) (by omega) (fun q => absurd q (by omega)) (by assumption)
        | exact hQ _ _ (by omega) (by omega) (fun _ => rfl) (by assumption)

