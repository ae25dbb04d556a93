set_option maxRecDepth 100000 in
set_option maxHeartbeats 400000 in
theorem f_X7_spell {w : sg_W} {Q : sg_O → sg_H → Prop} {h : sg_H} (g : sg_G w) {d : Nat} (hd : 9 ≤ d) {M : Nat} {fr to : Int} {A : fa_A} {L Z : List Int} (hA : md_ab h M = A) (hL : fa_L A fr.toNat = L) (hN : fa_L A to.toNat = Z) (ok : fa_ok A) (hx : md_M w h M) (hQ : ∀ (v : Int) (h' : sg_H), ((fr < 0 ∨ 4 ≤ fr ∨ to < 0 ∨ 4 ≤ to) → md_t h' M = 1) → (¬ (fr < 0 ∨ 4 ≤ fr ∨ to < 0 ∨ 4 ≤ to) → (fr = to) → md_t h' M = 2) → (¬ (fr < 0 ∨ 4 ≤ fr ∨ to < 0 ∨ 4 ≤ to) → ¬ (fr = to) → md_t h' M = 0) → (md_t h' M = 0 → v = (if 40 < 2 * L.length then (-9 : Int) else 2 * (L.length : Int)) ∧ md_ab h' M = (if 40 < 2 * L.length then A else fa_put A to.toNat (fs_spell L))) → (md_t h' M ≠ 0 → md_ab h' M = A) → md_W w h h' M → Q (.inl (some (sg_i v))) h') : sg_C w mi_X7_spell d 3 56 [sg_r M, sg_i fr, sg_i to] h Q := by
  refine sg_of pn_X7 (Nat.le_of_ble_eq_true rfl) ?_
  have y0 := md_Y0 hx
  have hk := hx.2.1
  refine sg_aload_n (pc := 0) (j := 0) (dc_X7_spell_0.1.1.1.1) rfl rfl ?_
  refine sg_iload_n (pc := 1) (j := 1) (dc_X7_spell_0.1.1.1.2) rfl rfl ?_
  refine sg_cS1 (pc := 2) (d' := d - 1) (mc' := 0) (ms' := 0) g (dc_X7_spell_0.1.1.2.1) cb_X7_isNoRow ml_X7_68 ms_X7_isNoRow (Nat.le_of_ble_eq_true rfl) (by first | exact jl_d0 hd rfl | omega) (by first | exact Nat.le_of_ble_eq_true rfl | omega) (by first | exact Nat.le_of_ble_eq_true rfl | omega) ?_
  refine s_X7_isNoRow g (by first | exact jl_d1 hd rfl | omega) (fun z2 h2 b2 => sg_K1 ?_)
  (try simp only [fm_no, fm_one, fn_betw, fn_sign, fn_radix, fn_high, fn_low, if_true, if_false] at h2)
  refine sg_if_ne (pc := 5) (tgt := 15) (dc_X7_spell_0.1.1.2.2) (by decide) (fun c5 => ?_) (fun c5 => ?_)
  · refine sg_iconst (pc := 15) (z := 1) (dc_X7_spell_0.1.2.2.2) (by decide) ?_
    refine sg_goto (pc := 16) (tgt := 20) (dc_X7_spell_0.2.1.1.1) (by decide) ?_
    refine sg_iconst (pc := 20) (z := 1) (dc_X7_spell_0.2.1.2.1) (by decide) ?_
    refine sg_cE2 (pc := 21) (d' := d - 1) (mc' := 0) (ms' := 0) 8 g (dc_X7_spell_0.2.1.2.2) cb_X7_start ml_X7_71 mn_X7_start rfl mv_X7_start (Nat.le_of_ble_eq_true rfl) (md_oc (by assumption)) (Nat.le_of_ble_eq_true rfl) (by first | exact jl_d0 hd rfl | omega) (by first | exact Nat.le_of_ble_eq_true rfl | omega) (by first | exact Nat.le_of_ble_eq_true rfl | omega) ?_
    refine s_X7_start g (by first | exact jl_d1 hd rfl | omega) (by omega) (by assumption) (fun v21 h21 b21 i21 t21 s21 u21 y21 => sg_K1 ?_)
    have x21 := y21.1
    have hk21 := x21.2.1
    have y21 := md_Yt (h0 := h) (by assumption) y21
    refine sg_if_ne (pc := 24) (tgt := 45) (dc_X7_spell_0.2.2.1.1) (by decide) (fun c24 => ?_) (fun c24 => absurd c24 (by omega))
    refine sg_iconst (pc := 45) (z := 0) (dc_X7_spell_30.1.2.2.2) (by decide) ?_
    refine sg_iret (pc := 46) (dc_X7_spell_30.2.1.1.1) rfl (by first | exact Nat.le_of_ble_eq_true rfl | omega) (by first | exact Nat.le_of_ble_eq_true rfl | omega) ?_
    exact hQ _ _ (by omega) (by omega) (by omega) (fun q => absurd q (by omega)) (fun _ => md_Ya (by assumption) hA) (md_YW (by assumption))
  · refine sg_iload_n (pc := 8) (j := 2) (dc_X7_spell_0.1.2.1.1) rfl rfl ?_
    refine sg_cS1 (pc := 9) (d' := d - 1) (mc' := 0) (ms' := 0) g (dc_X7_spell_0.1.2.1.2) cb_X7_isNoRow ml_X7_68 ms_X7_isNoRow (Nat.le_of_ble_eq_true rfl) (by first | exact jl_d0 hd rfl | omega) (by first | exact Nat.le_of_ble_eq_true rfl | omega) (by first | exact Nat.le_of_ble_eq_true rfl | omega) ?_
    refine s_X7_isNoRow g (by first | exact jl_d1 hd rfl | omega) (fun z9 h9 b9 => sg_K1 ?_)
    (try simp only [fm_no, fm_one, fn_betw, fn_sign, fn_radix, fn_high, fn_low, if_true, if_false] at h9)
    refine sg_if_eq (pc := 12) (tgt := 19) (dc_X7_spell_0.1.2.2.1) (by decide) (fun c12 => ?_) (fun c12 => ?_)
    · refine sg_iconst (pc := 19) (z := 0) (dc_X7_spell_0.2.1.1.2) (by decide) ?_
      refine sg_iconst (pc := 20) (z := 1) (dc_X7_spell_0.2.1.2.1) (by decide) ?_
      refine sg_cE2 (pc := 21) (d' := d - 1) (mc' := 0) (ms' := 0) 8 g (dc_X7_spell_0.2.1.2.2) cb_X7_start ml_X7_71 mn_X7_start rfl mv_X7_start (Nat.le_of_ble_eq_true rfl) (md_oc (by assumption)) (Nat.le_of_ble_eq_true rfl) (by first | exact jl_d0 hd rfl | omega) (by first | exact Nat.le_of_ble_eq_true rfl | omega) (by first | exact Nat.le_of_ble_eq_true rfl | omega) ?_
      refine s_X7_start g (by first | exact jl_d1 hd rfl | omega) (by omega) (by assumption) (fun v21 h21 b21 i21 t21 s21 u21 y21 => sg_K1 ?_)
      have x21 := y21.1
      have hk21 := x21.2.1
      have y21 := md_Yt (h0 := h) (by assumption) y21
      refine sg_if_ne (pc := 24) (tgt := 45) (dc_X7_spell_0.2.2.1.1) (by decide) (fun c24 => absurd c24 (by omega)) (fun c24 => ?_)
      refine sg_aload_n (pc := 27) (j := 0) (dc_X7_spell_0.2.2.1.2) rfl rfl ?_
      refine sg_iload_n (pc := 28) (j := 1) (dc_X7_spell_0.2.2.2.1) rfl rfl ?_
      refine sg_iload_n (pc := 29) (j := 2) (dc_X7_spell_0.2.2.2.2) rfl rfl ?_
      refine sg_icmp_ne (pc := 30) (tgt := 37) (dc_X7_spell_30.1.1.1.1) (by decide) (fun c30 => ?_) (fun c30 => ?_)
      · refine sg_iconst (pc := 37) (z := 0) (dc_X7_spell_30.1.1.2.2) (by decide) ?_
        refine sg_iconst (pc := 38) (z := 2) (dc_X7_spell_30.1.2.1.1) (by decide) ?_
        refine sg_cE2 (pc := 39) (d' := d - 1) (mc' := 0) (ms' := 0) 8 g (dc_X7_spell_30.1.2.1.2) cb_X7_refuse ml_X7_45 mn_X7_refuse rfl mv_X7_refuse (Nat.le_of_ble_eq_true rfl) (md_oc (by assumption)) (Nat.le_of_ble_eq_true rfl) (by first | exact jl_d0 hd rfl | omega) (by first | exact Nat.le_of_ble_eq_true rfl | omega) (by first | exact Nat.le_of_ble_eq_true rfl | omega) ?_
        refine s_X7_refuse g (by first | exact jl_d1 hd rfl | omega) (by omega) (by assumption) (fun v39 h39 b39 i39 t39 s39 u39 y39 => sg_K1 ?_)
        have x39 := y39.1
        have hk39 := x39.2.1
        have y39 := md_Yt (h0 := h) (by assumption) y39
        refine sg_if_eq (pc := 42) (tgt := 47) (dc_X7_spell_30.1.2.2.1) (by decide) (fun c42 => ?_) (fun c42 => absurd c42 (by omega))
        have r4 := fa_row ok (i := fr.toNat) (by omega)
        rw [hL] at r4
        refine sg_iconst (pc := 47) (z := 2) (dc_X7_spell_30.2.1.1.2) (by decide) ?_
        refine sg_aload_n (pc := 48) (j := 0) (dc_X7_spell_30.2.1.2.1) rfl rfl ?_
        refine md_grw (pc := 49) g (dc_X7_spell_30.2.1.2.2) fk_X7_9 (by assumption) (fun r49 => ?_)
        refine sg_iload_n (pc := 52) (j := 1) (dc_X7_spell_30.2.2.1.1) rfl rfl ?_
        first | refine md_alX (pc := 53) (dc_X7_spell_30.2.2.1.2) hA (by assumption) (by assumption) (by omega) (by omega) (fun X53 l53 => ?_) | refine md_alXt (pc := 53) (dc_X7_spell_30.2.2.1.2) hA (by assumption) (by assumption) (by omega) (by omega) (fun X53 l53 => ?_)
        refine md_xlen (pc := 54) (dc_X7_spell_30.2.2.2.1) (by assumption) (by omega) ?_
        first | refine sg_imulB (pc := 55) (dc_X7_spell_30.2.2.2.2) (by omega) (by omega) ?_ | refine sg_imul (pc := 55) (dc_X7_spell_30.2.2.2.2) ?_
        refine sg_bipush (pc := 56) (z := 40) (dc_X7_spell_56.1.1.1.1) (by decide) ?_
        refine sg_icmp_le (pc := 58) (tgt := 66) (dc_X7_spell_56.1.1.1.2) (by decide) (fun c58 => ?_) (fun c58 => ?_)
        · refine sg_aload_n (pc := 66) (j := 0) (dc_X7_spell_56.1.2.1.1) rfl rfl ?_
          refine sg_iload_n (pc := 67) (j := 2) (dc_X7_spell_56.1.2.1.2) rfl rfl ?_
          refine sg_aload_n (pc := 68) (j := 0) (dc_X7_spell_56.1.2.2.1) rfl rfl ?_
          refine md_grw (pc := 69) g (dc_X7_spell_56.1.2.2.2) fk_X7_9 (by assumption) (fun r69 => ?_)
          refine sg_iload_n (pc := 72) (j := 1) (dc_X7_spell_56.2.1.1.1) rfl rfl ?_
          first | refine md_alX (pc := 73) (dc_X7_spell_56.2.1.1.2) hA (by assumption) (by assumption) (by omega) (by omega) (fun X73 l73 => ?_) | refine md_alXt (pc := 73) (dc_X7_spell_56.2.1.1.2) hA (by assumption) (by assumption) (by omega) (by omega) (fun X73 l73 => ?_)
          refine sg_cS1 (pc := 74) (d' := d - 1) (mc' := 1) (ms' := (2 * L.length)) g (dc_X7_spell_56.2.1.2.1) cb_X7_spelledOf ml_X7_112 ms_X7_spelledOf (Nat.le_of_ble_eq_true rfl) (by first | exact jl_d0 hd rfl | omega) (by first | exact Nat.le_of_ble_eq_true rfl | omega) (by first | exact Nat.le_of_ble_eq_true rfl | omega) ?_
          refine f_X7_spelledOf (c := 0) g (by first | exact jl_d1 hd rfl | omega) (by assumption) (by omega) r4.2 (fun h74 t74 => sg_K1 ?_)
          have x74 : md_M w h74 M := md_ME (by assumption) (md_FE t74)
          have th74 := md_tE (w := w) (M := M) (by assumption) (md_FE t74)
          have hk74 := x74.2.1
          have y74 : md_Y w h h74 M := md_YE (by assumption) (md_FE t74)
          refine sg_cE2 (pc := 77) (d' := d - 1) (mc' := 2) (ms' := 16) 8 g (dc_X7_spell_56.2.1.2.2) cb_X7_set ml_X7_78 mn_X7_set rfl mv_X7_set (Nat.le_of_ble_eq_true rfl) (md_oc (by assumption)) (Nat.le_of_ble_eq_true rfl) (by first | exact jl_d0 hd rfl | omega) (by first | exact Nat.le_of_ble_eq_true rfl | omega) (by first | exact Nat.le_of_ble_eq_true rfl | omega) ?_
          refine s_X7_set g (by first | exact jl_d1 hd rfl | omega) (by omega) (by assumption) (fun q => ⟨md_XA (md_X0 (md_FX t74)), by rw [show (fs_spell L).length = 2 * L.length from tt_len]; omega⟩) (fun q => absurd q (by omega)) (fun h77 y77 t77 ab77 => sg_K1 ?_)
          rw [md_Ya y74 hA, md_xl (md_X0 (md_FX t74))] at ab77
          have x77 := y77.1
          have hk77 := x77.2.1
          have z77 : md_W w h h77 M := md_Wt y74 y77
          refine sg_iret (pc := 80) (dc_X7_spell_56.2.2.1.1) rfl (by first | exact Nat.le_of_ble_eq_true rfl | omega) (by first | exact Nat.le_of_ble_eq_true rfl | omega) ?_
          exact hQ _ _ (by omega) (by omega) (by omega) (fun _ => ⟨by rw [if_neg (by omega)]; rw [show (fs_spell L).length = 2 * L.length from tt_len]; omega, by rw [if_neg (by omega)]; exact ab77⟩) (fun q => absurd (by omega) q) z77
        · refine sg_bipush (pc := 61) (z := -9) (dc_X7_spell_56.1.1.2.1) (by decide) ?_
          refine sg_goto (pc := 63) (tgt := 80) (dc_X7_spell_56.1.1.2.2) (by decide) ?_
          refine sg_iret (pc := 80) (dc_X7_spell_56.2.2.1.1) rfl (by first | exact Nat.le_of_ble_eq_true rfl | omega) (by first | exact Nat.le_of_ble_eq_true rfl | omega) ?_
          exact hQ _ _ (by omega) (by omega) (by omega) (fun _ => ⟨by rw [if_pos (by omega)], by rw [if_pos (by omega)]; exact md_Ya (by assumption) hA⟩) (fun q => absurd (by omega) q) (md_YW (by assumption))
      · refine sg_iconst (pc := 33) (z := 1) (dc_X7_spell_30.1.1.1.2) (by decide) ?_
        refine sg_goto (pc := 34) (tgt := 38) (dc_X7_spell_30.1.1.2.1) (by decide) ?_
        refine sg_iconst (pc := 38) (z := 2) (dc_X7_spell_30.1.2.1.1) (by decide) ?_
        refine sg_cE2 (pc := 39) (d' := d - 1) (mc' := 0) (ms' := 0) 8 g (dc_X7_spell_30.1.2.1.2) cb_X7_refuse ml_X7_45 mn_X7_refuse rfl mv_X7_refuse (Nat.le_of_ble_eq_true rfl) (md_oc (by assumption)) (Nat.le_of_ble_eq_true rfl) (by first | exact jl_d0 hd rfl | omega) (by first | exact Nat.le_of_ble_eq_true rfl | omega) (by first | exact Nat.le_of_ble_eq_true rfl | omega) ?_
        refine s_X7_refuse g (by first | exact jl_d1 hd rfl | omega) (by omega) (by assumption) (fun v39 h39 b39 i39 t39 s39 u39 y39 => sg_K1 ?_)
        have x39 := y39.1
        have hk39 := x39.2.1
        have y39 := md_Yt (h0 := h) (by assumption) y39
        refine sg_if_eq (pc := 42) (tgt := 47) (dc_X7_spell_30.1.2.2.1) (by decide) (fun c42 => absurd c42 (by omega)) (fun c42 => ?_)
        refine sg_iconst (pc := 45) (z := 0) (dc_X7_spell_30.1.2.2.2) (by decide) ?_
        refine sg_iret (pc := 46) (dc_X7_spell_30.2.1.1.1) rfl (by first | exact Nat.le_of_ble_eq_true rfl | omega) (by first | exact Nat.le_of_ble_eq_true rfl | omega) ?_
        exact hQ _ _ (by omega) (by omega) (by omega) (fun q => absurd q (by omega)) (fun _ => md_Ya (by assumption) hA) (md_YW (by assumption))
    · refine sg_iconst (pc := 15) (z := 1) (dc_X7_spell_0.1.2.2.2) (by decide) ?_
      refine sg_goto (pc := 16) (tgt := 20) (dc_X7_spell_0.2.1.1.1) (by decide) ?_
      refine sg_iconst (pc := 20) (z := 1) (dc_X7_spell_0.2.1.2.1) (by decide) ?_
      refine sg_cE2 (pc := 21) (d' := d - 1) (mc' := 0) (ms' := 0) 8 g (dc_X7_spell_0.2.1.2.2) cb_X7_start ml_X7_71 mn_X7_start rfl mv_X7_start (Nat.le_of_ble_eq_true rfl) (md_oc (by assumption)) (Nat.le_of_ble_eq_true rfl) (by first | exact jl_d0 hd rfl | omega) (by first | exact Nat.le_of_ble_eq_true rfl | omega) (by first | exact Nat.le_of_ble_eq_true rfl | omega) ?_
      refine s_X7_start g (by first | exact jl_d1 hd rfl | omega) (by omega) (by assumption) (fun v21 h21 b21 i21 t21 s21 u21 y21 => sg_K1 ?_)
      have x21 := y21.1
      have hk21 := x21.2.1
      have y21 := md_Yt (h0 := h) (by assumption) y21
      refine sg_if_ne (pc := 24) (tgt := 45) (dc_X7_spell_0.2.2.1.1) (by decide) (fun c24 => ?_) (fun c24 => absurd c24 (by omega))
      refine sg_iconst (pc := 45) (z := 0) (dc_X7_spell_30.1.2.2.2) (by decide) ?_
      refine sg_iret (pc := 46) (dc_X7_spell_30.2.1.1.1) rfl (by first | exact Nat.le_of_ble_eq_true rfl | omega) (by first | exact Nat.le_of_ble_eq_true rfl | omega) ?_
      exact hQ _ _ (by omega) (by omega) (by omega) (fun q => absurd q (by omega)) (fun _ => md_Ya (by assumption) hA) (md_YW (by assumption))

set_option maxRecDepth 100000 in
set_option maxHeartbeats 400000 in
theorem f_X7_read {w : sg_W} {Q : sg_O → sg_H → Prop} {h : sg_H} (g : sg_G w) {d : Nat} (hd : 9 ≤ d) {M : Nat} {fr to : Int} {A : fa_A} {L Z : List Int} (hA : md_ab h M = A) (hL : fa_L A fr.toNat = L) (hN : fa_L A to.toNat = Z) (ok : fa_ok A) (hx : md_M w h M) (hQ : ∀ (v : Int) (h' : sg_H), ((fr < 0 ∨ 4 ≤ fr ∨ to < 0 ∨ 4 ≤ to) → md_t h' M = 1) → (¬ (fr < 0 ∨ 4 ≤ fr ∨ to < 0 ∨ 4 ≤ to) → (fr = to) → md_t h' M = 2) → (¬ (fr < 0 ∨ 4 ≤ fr ∨ to < 0 ∨ 4 ≤ to) → ¬ (fr = to) → md_t h' M = 0) → (md_t h' M = 0 → v = @ite Int (fs_can L) (Classical.propDecidable _) ((fs_read L).length : Int) (-9) ∧ md_ab h' M = @ite fa_A (fs_can L) (Classical.propDecidable _) (fa_put A to.toNat (fs_read L)) A) → (md_t h' M ≠ 0 → md_ab h' M = A) → md_W w h h' M → Q (.inl (some (sg_i v))) h') : sg_C w mi_X7_read d 3 56 [sg_r M, sg_i fr, sg_i to] h Q := by
  refine sg_of pn_X7 (Nat.le_of_ble_eq_true rfl) ?_
  have y0 := md_Y0 hx
  have hk := hx.2.1
  refine sg_aload_n (pc := 0) (j := 0) (dc_X7_read_0.1.1.1.1) rfl rfl ?_
  refine sg_iload_n (pc := 1) (j := 1) (dc_X7_read_0.1.1.1.2) rfl rfl ?_
  refine sg_cS1 (pc := 2) (d' := d - 1) (mc' := 0) (ms' := 0) g (dc_X7_read_0.1.1.2.1) cb_X7_isNoRow ml_X7_68 ms_X7_isNoRow (Nat.le_of_ble_eq_true rfl) (by first | exact jl_d0 hd rfl | omega) (by first | exact Nat.le_of_ble_eq_true rfl | omega) (by first | exact Nat.le_of_ble_eq_true rfl | omega) ?_
  refine s_X7_isNoRow g (by first | exact jl_d1 hd rfl | omega) (fun z2 h2 b2 => sg_K1 ?_)
  (try simp only [fm_no, fm_one, fn_betw, fn_sign, fn_radix, fn_high, fn_low, if_true, if_false] at h2)
  refine sg_if_ne (pc := 5) (tgt := 15) (dc_X7_read_0.1.1.2.2) (by decide) (fun c5 => ?_) (fun c5 => ?_)
  · refine sg_iconst (pc := 15) (z := 1) (dc_X7_read_0.1.2.2.2) (by decide) ?_
    refine sg_goto (pc := 16) (tgt := 20) (dc_X7_read_0.2.1.1.1) (by decide) ?_
    refine sg_iconst (pc := 20) (z := 1) (dc_X7_read_0.2.1.2.1) (by decide) ?_
    refine sg_cE2 (pc := 21) (d' := d - 1) (mc' := 0) (ms' := 0) 8 g (dc_X7_read_0.2.1.2.2) cb_X7_start ml_X7_71 mn_X7_start rfl mv_X7_start (Nat.le_of_ble_eq_true rfl) (md_oc (by assumption)) (Nat.le_of_ble_eq_true rfl) (by first | exact jl_d0 hd rfl | omega) (by first | exact Nat.le_of_ble_eq_true rfl | omega) (by first | exact Nat.le_of_ble_eq_true rfl | omega) ?_
    refine s_X7_start g (by first | exact jl_d1 hd rfl | omega) (by omega) (by assumption) (fun v21 h21 b21 i21 t21 s21 u21 y21 => sg_K1 ?_)
    have x21 := y21.1
    have hk21 := x21.2.1
    have y21 := md_Yt (h0 := h) (by assumption) y21
    refine sg_if_ne (pc := 24) (tgt := 45) (dc_X7_read_0.2.2.1.1) (by decide) (fun c24 => ?_) (fun c24 => absurd c24 (by omega))
    refine sg_iconst (pc := 45) (z := 0) (dc_X7_read_30.1.2.2.2) (by decide) ?_
    refine sg_iret (pc := 46) (dc_X7_read_30.2.1.1.1) rfl (by first | exact Nat.le_of_ble_eq_true rfl | omega) (by first | exact Nat.le_of_ble_eq_true rfl | omega) ?_
    exact hQ _ _ (by omega) (by omega) (by omega) (fun q => absurd q (by omega)) (fun _ => md_Ya (by assumption) hA) (md_YW (by assumption))
  · refine sg_iload_n (pc := 8) (j := 2) (dc_X7_read_0.1.2.1.1) rfl rfl ?_
    refine sg_cS1 (pc := 9) (d' := d - 1) (mc' := 0) (ms' := 0) g (dc_X7_read_0.1.2.1.2) cb_X7_isNoRow ml_X7_68 ms_X7_isNoRow (Nat.le_of_ble_eq_true rfl) (by first | exact jl_d0 hd rfl | omega) (by first | exact Nat.le_of_ble_eq_true rfl | omega) (by first | exact Nat.le_of_ble_eq_true rfl | omega) ?_
    refine s_X7_isNoRow g (by first | exact jl_d1 hd rfl | omega) (fun z9 h9 b9 => sg_K1 ?_)
    (try simp only [fm_no, fm_one, fn_betw, fn_sign, fn_radix, fn_high, fn_low, if_true, if_false] at h9)
    refine sg_if_eq (pc := 12) (tgt := 19) (dc_X7_read_0.1.2.2.1) (by decide) (fun c12 => ?_) (fun c12 => ?_)
    · refine sg_iconst (pc := 19) (z := 0) (dc_X7_read_0.2.1.1.2) (by decide) ?_
      refine sg_iconst (pc := 20) (z := 1) (dc_X7_read_0.2.1.2.1) (by decide) ?_
      refine sg_cE2 (pc := 21) (d' := d - 1) (mc' := 0) (ms' := 0) 8 g (dc_X7_read_0.2.1.2.2) cb_X7_start ml_X7_71 mn_X7_start rfl mv_X7_start (Nat.le_of_ble_eq_true rfl) (md_oc (by assumption)) (Nat.le_of_ble_eq_true rfl) (by first | exact jl_d0 hd rfl | omega) (by first | exact Nat.le_of_ble_eq_true rfl | omega) (by first | exact Nat.le_of_ble_eq_true rfl | omega) ?_
      refine s_X7_start g (by first | exact jl_d1 hd rfl | omega) (by omega) (by assumption) (fun v21 h21 b21 i21 t21 s21 u21 y21 => sg_K1 ?_)
      have x21 := y21.1
      have hk21 := x21.2.1
      have y21 := md_Yt (h0 := h) (by assumption) y21
      refine sg_if_ne (pc := 24) (tgt := 45) (dc_X7_read_0.2.2.1.1) (by decide) (fun c24 => absurd c24 (by omega)) (fun c24 => ?_)
      refine sg_aload_n (pc := 27) (j := 0) (dc_X7_read_0.2.2.1.2) rfl rfl ?_
      refine sg_iload_n (pc := 28) (j := 1) (dc_X7_read_0.2.2.2.1) rfl rfl ?_
      refine sg_iload_n (pc := 29) (j := 2) (dc_X7_read_0.2.2.2.2) rfl rfl ?_
      refine sg_icmp_ne (pc := 30) (tgt := 37) (dc_X7_read_30.1.1.1.1) (by decide) (fun c30 => ?_) (fun c30 => ?_)
      · refine sg_iconst (pc := 37) (z := 0) (dc_X7_read_30.1.1.2.2) (by decide) ?_
        refine sg_iconst (pc := 38) (z := 2) (dc_X7_read_30.1.2.1.1) (by decide) ?_
        refine sg_cE2 (pc := 39) (d' := d - 1) (mc' := 0) (ms' := 0) 8 g (dc_X7_read_30.1.2.1.2) cb_X7_refuse ml_X7_45 mn_X7_refuse rfl mv_X7_refuse (Nat.le_of_ble_eq_true rfl) (md_oc (by assumption)) (Nat.le_of_ble_eq_true rfl) (by first | exact jl_d0 hd rfl | omega) (by first | exact Nat.le_of_ble_eq_true rfl | omega) (by first | exact Nat.le_of_ble_eq_true rfl | omega) ?_
        refine s_X7_refuse g (by first | exact jl_d1 hd rfl | omega) (by omega) (by assumption) (fun v39 h39 b39 i39 t39 s39 u39 y39 => sg_K1 ?_)
        have x39 := y39.1
        have hk39 := x39.2.1
        have y39 := md_Yt (h0 := h) (by assumption) y39
        refine sg_if_eq (pc := 42) (tgt := 47) (dc_X7_read_30.1.2.2.1) (by decide) (fun c42 => ?_) (fun c42 => absurd c42 (by omega))
        refine sg_aload_n (pc := 47) (j := 0) (dc_X7_read_30.2.1.1.2) rfl rfl ?_
        refine md_grw (pc := 48) g (dc_X7_read_30.2.1.2.1) fk_X7_9 (by assumption) (fun r48 => ?_)
        refine sg_iload_n (pc := 51) (j := 1) (dc_X7_read_30.2.1.2.2) rfl rfl ?_
        first | refine md_alX (pc := 52) (dc_X7_read_30.2.2.1.1) hA (by assumption) (by assumption) (by omega) (by omega) (fun X52 l52 => ?_) | refine md_alXt (pc := 52) (dc_X7_read_30.2.2.1.1) hA (by assumption) (by assumption) (by omega) (by omega) (fun X52 l52 => ?_)
        obtain ⟨a52, ea52⟩ : ∃ a, a = md_a h39 (md_r h39 M) fr := ⟨_, rfl⟩
        rw [← ea52] at X52 ⊢
        refine sg_astore_n (pc := 53) (j := 3) (dc_X7_read_30.2.2.1.2) rfl (by decide) ?_
        refine sg_aload_n (pc := 54) (j := 3) (dc_X7_read_30.2.2.2.1) rfl rfl ?_
        refine sg_astore (pc := 55) (dc_X7_read_30.2.2.2.2) (by decide) ?_
        refine sg_aload (pc := 57) (dc_X7_read_57.1.1.1.1) rfl ?_
        refine md_xlen (pc := 59) (dc_X7_read_57.1.1.1.2) X52 (by omega) ?_
        refine sg_istore (pc := 60) (dc_X7_read_57.1.1.2.1) (by decide) ?_
        refine sg_iconst (pc := 62) (z := 0) (dc_X7_read_57.1.1.2.2) (by decide) ?_
        refine sg_istore (pc := 63) (dc_X7_read_57.1.2.1.1) (by decide) ?_
        have loop65 : ∀ (N : Nat) (p : Int), (0 ≤ p ∧ p ≤ (L.length : Int)) → (∀ j : Nat, (j : Int) < p → fn_num (L.getD j 0) 16 ≠ -1) → ((L.length : Int) - p).toNat < N → sg_R w mi_X7_read d 3 56 Q 65 [(6, sg_i p), (5, sg_i (L.length : Int)), (4, sg_r a52), (0, sg_r M), (1, sg_i fr), (2, sg_i to), (3, sg_r a52)] [] h39 0 0 := by
          intro N
          induction N with
          | zero => intro p p0 p1 hm; exact absurd hm (Nat.not_lt_zero _)
          | succ N ih =>
            intro p p0 p1 hm
            refine sg_iload (pc := 65) (dc_X7_read_57.1.2.1.2) rfl ?_
            refine sg_iload (pc := 67) (dc_X7_read_57.1.2.2.1) rfl ?_
            refine sg_icmp_ge (pc := 69) (tgt := 99) (dc_X7_read_57.1.2.2.2) (by decide) (fun c69 => ?_) (fun c69 => ?_)
            · refine sg_aload_n (pc := 99) (j := 3) (dc_X7_read_87.1.2.1.2) rfl rfl ?_
              refine md_xlen (pc := 100) (dc_X7_read_87.1.2.2.1) X52 (by omega) ?_
              refine sg_iconst (pc := 101) (z := 2) (dc_X7_read_87.1.2.2.2) (by decide) ?_
              first | refine sg_iremP (pc := 102) (dc_X7_read_87.2.1.1.1) (by omega) (by omega) ?_ | refine sg_irem (pc := 102) (dc_X7_read_87.2.1.1.1) (by first | omega | assumption) ?_
              refine sg_iconst (pc := 103) (z := 1) (dc_X7_read_87.2.1.1.2) (by decide) ?_
              refine sg_icmp_ne (pc := 104) (tgt := 110) (dc_X7_read_87.2.1.2.1) (by decide) (fun c104 => ?_) (fun c104 => ?_)
              · have hcan : fs_can L := ⟨by omega, fun j hj => p1 j (by omega)⟩
                obtain ⟨S, eS⟩ : ∃ S, S = fs_read L := ⟨_, rfl⟩
                have lS : S.length = L.length / 2 := by rw [eS]; exact tt_len
                have gS : ∀ p : Int, 0 ≤ p → p < (S.length : Int) → S.getD p.toNat 0 = fs_rd L p.toNat := fun p p0 p1 => by rw [eS]; exact tt_get (by omega)
                refine sg_aload_n (pc := 110) (j := 3) (dc_X7_read_87.2.2.1.2) rfl rfl ?_
                refine md_xlen (pc := 111) (dc_X7_read_87.2.2.2.1) X52 (by omega) ?_
                refine sg_iconst (pc := 112) (z := 2) (dc_X7_read_87.2.2.2.2) (by decide) ?_
                first | refine sg_idivP (pc := 113) (dc_X7_read_113.1.1.1.1) (by omega) (by omega) (by omega) ?_ | refine sg_idiv (pc := 113) (dc_X7_read_113.1.1.1.1) (by first | omega | assumption) ?_
                refine sg_newa (t := 100) (N := (L.length / 2)) (pc := 114) g (dc_X7_read_113.1.1.1.2) ac_int rfl (by decide) (by decide) rfl rfl (by decide) (by omega) (by omega) (by omega) (by omega) ?_
                refine sg_astore (pc := 116) (dc_X7_read_113.1.1.2.1) (by decide) ?_
                refine sg_iconst (pc := 118) (z := 0) (dc_X7_read_113.1.1.2.2) (by decide) ?_
                refine sg_istore (pc := 119) (dc_X7_read_113.1.2.1.1) (by decide) ?_
                have loop121 : ∀ (N : Nat) (h1 : sg_H) (p : Int), (md_F 0 h39 h1 (fx S p.toNat)) → (0 ≤ p) → ((S.length : Int) - p).toNat < N → sg_R w mi_X7_read d 3 56 Q 121 [(5, sg_i p), (4, sg_r h39.1), (0, sg_r M), (2, sg_i to), (3, sg_r a52)] [] h1 1 (0 + (L.length / 2)) := by
                  intro N
                  induction N with
                  | zero => intro h1 p t1 p0 hm; exact absurd hm (Nat.not_lt_zero _)
                  | succ N ihb =>
                    intro h1 p t1 p0 hm
                    have x1 : md_M w h1 M := md_ME x39 (md_FE t1)
                    have hk1 := x1.2.1
                    have y1 : md_Y w h h1 M := md_YE y39 (md_FE t1)
                    have th1 := md_tE (w := w) (M := M) x39 (md_FE t1)
                    refine sg_iload (pc := 121) (dc_X7_read_113.1.2.1.2) rfl ?_
                    refine sg_aload (pc := 123) (dc_X7_read_113.1.2.2.1) rfl ?_
                    refine md_xlen (pc := 125) (dc_X7_read_113.1.2.2.2) (md_FX t1) (by rw [fx_len]; omega) ?_
                    rw [fx_len]
                    refine sg_icmp_ge (pc := 126) (tgt := 168) (dc_X7_read_113.2.1.1.1) (by decide) (fun c126 => ?_) (fun c126 => ?_)
                    · have eS1 := fx_e (S := S) (k := p.toNat) (by omega)
                      rw [eS1] at t1
                      refine sg_aload_n (pc := 168) (j := 0) (dc_X7_read_165.1.1.2) rfl rfl ?_
                      refine sg_iload_n (pc := 169) (j := 2) (dc_X7_read_165.1.2.1) rfl rfl ?_
                      refine sg_aload (pc := 170) (dc_X7_read_165.1.2.2) rfl ?_
                      refine sg_cE2 (pc := 172) (d' := d - 1) (mc' := 2) (ms' := 16) 8 g (dc_X7_read_165.2.1.1) cb_X7_set ml_X7_78 mn_X7_set rfl mv_X7_set (Nat.le_of_ble_eq_true rfl) (md_oc (by assumption)) (Nat.le_of_ble_eq_true rfl) (by first | exact jl_d0 hd rfl | omega) (by first | exact Nat.le_of_ble_eq_true rfl | omega) (by first | exact Nat.le_of_ble_eq_true rfl | omega) ?_
                      refine s_X7_set g (by first | exact jl_d1 hd rfl | omega) (by omega) (by assumption) (fun q => ⟨md_XA (md_FX t1), by omega⟩) (fun q => absurd q (by omega)) (fun h172 y172 t172 ab172 => sg_K1 ?_)
                      rw [md_Ya y1 hA, md_xl (md_FX t1)] at ab172
                      have x172 := y172.1
                      have hk172 := x172.2.1
                      have z172 : md_W w h h172 M := md_Wt y1 y172
                      refine sg_iret (pc := 175) (dc_X7_read_165.2.1.2) rfl (by first | exact Nat.le_of_ble_eq_true rfl | omega) (by first | exact Nat.le_of_ble_eq_true rfl | omega) ?_
                      exact hQ _ _ (by omega) (by omega) (by omega) (fun _ => ⟨by rw [if_pos hcan, eS], by rw [if_pos hcan, ← eS]; exact ab172⟩) (fun q => absurd (by omega) q) z172
                    · refine sg_aload (pc := 129) (dc_X7_read_113.2.1.1.2) rfl ?_
                      refine sg_iload (pc := 131) (dc_X7_read_113.2.1.2.1) rfl ?_
                      refine sg_bipush (pc := 133) (z := 16) (dc_X7_read_113.2.1.2.2) (by decide) ?_
                      refine sg_aload_n (pc := 135) (j := 3) (dc_X7_read_113.2.2.1.1) rfl rfl ?_
                      refine sg_iconst (pc := 136) (z := 2) (dc_X7_read_113.2.2.1.2) (by decide) ?_
                      refine sg_iload (pc := 137) (dc_X7_read_113.2.2.2.1) rfl ?_
                      first | refine sg_imulB (pc := 139) (dc_X7_read_113.2.2.2.2) (by omega) (by omega) ?_ | refine sg_imul (pc := 139) (dc_X7_read_113.2.2.2.2) ?_
                      refine md_xld (pc := 140) (dc_X7_read_140.1.1.1.1) (md_XE X52 (md_FE t1)) (by omega) (by omega) (fun g140 => ?_)
                      refine sg_bipush (pc := 141) (z := 16) (dc_X7_read_140.1.1.1.2) (by decide) ?_
                      refine sg_cS2 (pc := 143) (d' := d - 1) (mc' := 0) (ms' := 0) g (dc_X7_read_140.1.1.2.1) cb_X7_numberOf ml_X7_115 ms_X7_numberOf (Nat.le_of_ble_eq_true rfl) (by first | exact jl_d0 hd rfl | omega) (by first | exact Nat.le_of_ble_eq_true rfl | omega) (by first | exact Nat.le_of_ble_eq_true rfl | omega) ?_
                      refine s_X7_numberOf g (by first | exact jl_d1 hd rfl | omega) (fun z143 h143 => sg_K1 ?_)
                      (try simp only [fm_no, fm_one, fn_betw, fn_sign, fn_radix, fn_high, fn_low, if_true, if_false] at h143)
                      have nb1 := fn_numb (L.getD (2 * p).toNat 0)
                      rw [← h143] at nb1
                      first | refine sg_imulB (pc := 146) (dc_X7_read_140.1.1.2.2) (by omega) (by omega) ?_ | refine sg_imul (pc := 146) (dc_X7_read_140.1.1.2.2) ?_
                      refine sg_aload_n (pc := 147) (j := 3) (dc_X7_read_140.1.2.1.1) rfl rfl ?_
                      refine sg_iconst (pc := 148) (z := 2) (dc_X7_read_140.1.2.1.2) (by decide) ?_
                      refine sg_iload (pc := 149) (dc_X7_read_140.1.2.2.1) rfl ?_
                      first | refine sg_imulB (pc := 151) (dc_X7_read_140.1.2.2.2) (by omega) (by omega) ?_ | refine sg_imul (pc := 151) (dc_X7_read_140.1.2.2.2) ?_
                      refine sg_iconst (pc := 152) (z := 1) (dc_X7_read_140.2.1.1.1) (by decide) ?_
                      first | refine sg_iaddB (pc := 153) (dc_X7_read_140.2.1.1.2) (by omega) (by omega) ?_ | refine sg_iadd (pc := 153) (dc_X7_read_140.2.1.1.2) ?_
                      refine md_xld (pc := 154) (dc_X7_read_140.2.1.2.1) (md_XE X52 (md_FE t1)) (by omega) (by omega) (fun g154 => ?_)
                      refine sg_bipush (pc := 155) (z := 16) (dc_X7_read_140.2.1.2.2) (by decide) ?_
                      refine sg_cS2 (pc := 157) (d' := d - 1) (mc' := 0) (ms' := 0) g (dc_X7_read_140.2.2.1.1) cb_X7_numberOf ml_X7_115 ms_X7_numberOf (Nat.le_of_ble_eq_true rfl) (by first | exact jl_d0 hd rfl | omega) (by first | exact Nat.le_of_ble_eq_true rfl | omega) (by first | exact Nat.le_of_ble_eq_true rfl | omega) ?_
                      refine s_X7_numberOf g (by first | exact jl_d1 hd rfl | omega) (fun z157 h157 => sg_K1 ?_)
                      (try simp only [fm_no, fm_one, fn_betw, fn_sign, fn_radix, fn_high, fn_low, if_true, if_false] at h157)
                      have nb2 := fn_numb (L.getD (2 * p + 1).toNat 0)
                      rw [← h157] at nb2
                      first | refine sg_iaddB (pc := 160) (dc_X7_read_140.2.2.1.2) (by omega) (by omega) ?_ | refine sg_iadd (pc := 160) (dc_X7_read_140.2.2.1.2) ?_
                      have e161 : 16 * z143 + z157 = S.getD p.toNat 0 := by
                        rw [gS p (by omega) (by omega)]
                        unfold fs_rd
                        rw [h143, h157, show 2 * p.toNat + 1 = (2 * p + 1).toNat by omega, show 2 * p.toNat = (2 * p).toNat by omega]
                      refine md_astF (pc := 161) (dc_X7_read_140.2.2.2.1) t1 ck_v0 (by omega) (by rw [fx_len]; omega) (fun h161 t161 => ?_)
                      first | refine sg_iincB (pc := 162) (dc_X7_read_140.2.2.2.2) rfl (by decide) (by decide) (by omega) (by omega) ?_ | refine sg_iinc (pc := 162) (dc_X7_read_140.2.2.2.2) rfl (by decide) (by decide) ?_
                      refine sg_goto (pc := 165) (tgt := 121) (dc_X7_read_165.1.1.1) (by decide) ?_
                      refine sg_lsub (lv' := [(5, _), (4, _), (0, _), (2, _), (3, _)]) ⟨rfl, rfl, rfl, rfl, rfl, trivial⟩ ?_
                      exact ihb _ _ (md_Fw t161 (fx_s (by omega) (by omega) rfl e161)) (by omega) (by first | exact jl_m1 hm (by omega) | exact jl_m2 hm (by omega) | omega)
                refine sg_lsub (lv' := [(5, _), (4, _), (0, _), (2, _), (3, _)]) ⟨rfl, rfl, rfl, rfl, rfl, trivial⟩ ?_
                exact loop121 _ _ _ (md_Fw md_newF (fx_0 rfl lS)) (by omega) (Nat.lt_succ_self _)
              · have nc : ¬ fs_can L := fun q => by have := q.1; omega
                refine sg_bipush (pc := 107) (z := -9) (dc_X7_read_87.2.1.2.2) (by decide) ?_
                refine sg_iret (pc := 109) (dc_X7_read_87.2.2.1.1) rfl (by first | exact Nat.le_of_ble_eq_true rfl | omega) (by first | exact Nat.le_of_ble_eq_true rfl | omega) ?_
                exact hQ _ _ (by omega) (by omega) (by omega) (fun _ => ⟨by rw [if_neg nc], by rw [if_neg nc]; exact md_Ya y39 hA⟩) (fun q => absurd (by omega) q) (md_YW y39)
            · refine sg_aload (pc := 72) (dc_X7_read_57.2.1.1.1) rfl ?_
              refine sg_iload (pc := 74) (dc_X7_read_57.2.1.1.2) rfl ?_
              refine md_xld (pc := 76) (dc_X7_read_57.2.1.2.1) X52 (by omega) (by omega) (fun g76 => ?_)
              refine sg_istore (pc := 77) (dc_X7_read_57.2.1.2.2) (by decide) ?_
              refine sg_iload (pc := 79) (dc_X7_read_57.2.2.1.1) rfl ?_
              refine sg_bipush (pc := 81) (z := 16) (dc_X7_read_57.2.2.1.2) (by decide) ?_
              refine sg_cS2 (pc := 83) (d' := d - 1) (mc' := 0) (ms' := 0) g (dc_X7_read_57.2.2.2.1) cb_X7_numberOf ml_X7_115 ms_X7_numberOf (Nat.le_of_ble_eq_true rfl) (by first | exact jl_d0 hd rfl | omega) (by first | exact Nat.le_of_ble_eq_true rfl | omega) (by first | exact Nat.le_of_ble_eq_true rfl | omega) ?_
              refine s_X7_numberOf g (by first | exact jl_d1 hd rfl | omega) (fun z83 h83 => sg_K1 ?_)
              (try simp only [fm_no, fm_one, fn_betw, fn_sign, fn_radix, fn_high, fn_low, if_true, if_false] at h83)
              refine sg_iconst (pc := 86) (z := -1) (dc_X7_read_57.2.2.2.2) (by decide) ?_
              refine sg_icmp_ne (pc := 87) (tgt := 93) (dc_X7_read_87.1.1.1.1) (by decide) (fun c87 => ?_) (fun c87 => ?_)
              · first | refine sg_iincB (pc := 93) (dc_X7_read_87.1.1.2.2) rfl (by decide) (by decide) (by omega) (by omega) ?_ | refine sg_iinc (pc := 93) (dc_X7_read_87.1.1.2.2) rfl (by decide) (by decide) ?_
                refine sg_goto (pc := 96) (tgt := 65) (dc_X7_read_87.1.2.1.1) (by decide) ?_
                refine sg_lsub (lv' := [(6, _), (5, _), (4, _), (0, _), (1, _), (2, _), (3, _)]) ⟨rfl, rfl, rfl, rfl, rfl, rfl, rfl, trivial⟩ ?_
                exact ih _ (by omega) (fun j j0 => by
                  by_cases c : j = p.toNat
                  · subst c; rw [← h83]; omega
                  · exact p1 j (by omega)) (by first | exact jl_m1 hm (by omega) | exact jl_m2 hm (by omega) | omega)
              · have nc : ¬ fs_can L := fun q => absurd (h83.symm.trans (by omega)) (q.2 p.toNat (by omega))
                refine sg_bipush (pc := 90) (z := -9) (dc_X7_read_87.1.1.1.2) (by decide) ?_
                refine sg_iret (pc := 92) (dc_X7_read_87.1.1.2.1) rfl (by first | exact Nat.le_of_ble_eq_true rfl | omega) (by first | exact Nat.le_of_ble_eq_true rfl | omega) ?_
                exact hQ _ _ (by omega) (by omega) (by omega) (fun _ => ⟨by rw [if_neg nc], by rw [if_neg nc]; exact md_Ya y39 hA⟩) (fun q => absurd (by omega) q) (md_YW y39)
        refine sg_lsub (lv' := [(6, _), (5, _), (4, _), (0, _), (1, _), (2, _), (3, _)]) ⟨rfl, rfl, rfl, rfl, rfl, rfl, rfl, trivial⟩ ?_
        exact loop65 _ _ (by omega) (fun j j0 => absurd j0 (by omega)) (Nat.lt_succ_self _)
      · refine sg_iconst (pc := 33) (z := 1) (dc_X7_read_30.1.1.1.2) (by decide) ?_
        refine sg_goto (pc := 34) (tgt := 38) (dc_X7_read_30.1.1.2.1) (by decide) ?_
        refine sg_iconst (pc := 38) (z := 2) (dc_X7_read_30.1.2.1.1) (by decide) ?_
        refine sg_cE2 (pc := 39) (d' := d - 1) (mc' := 0) (ms' := 0) 8 g (dc_X7_read_30.1.2.1.2) cb_X7_refuse ml_X7_45 mn_X7_refuse rfl mv_X7_refuse (Nat.le_of_ble_eq_true rfl) (md_oc (by assumption)) (Nat.le_of_ble_eq_true rfl) (by first | exact jl_d0 hd rfl | omega) (by first | exact Nat.le_of_ble_eq_true rfl | omega) (by first | exact Nat.le_of_ble_eq_true rfl | omega) ?_
        refine s_X7_refuse g (by first | exact jl_d1 hd rfl | omega) (by omega) (by assumption) (fun v39 h39 b39 i39 t39 s39 u39 y39 => sg_K1 ?_)
        have x39 := y39.1
        have hk39 := x39.2.1
        have y39 := md_Yt (h0 := h) (by assumption) y39
        refine sg_if_eq (pc := 42) (tgt := 47) (dc_X7_read_30.1.2.2.1) (by decide) (fun c42 => absurd c42 (by omega)) (fun c42 => ?_)
        refine sg_iconst (pc := 45) (z := 0) (dc_X7_read_30.1.2.2.2) (by decide) ?_
        refine sg_iret (pc := 46) (dc_X7_read_30.2.1.1.1) rfl (by first | exact Nat.le_of_ble_eq_true rfl | omega) (by first | exact Nat.le_of_ble_eq_true rfl | omega) ?_
        exact hQ _ _ (by omega) (by omega) (by omega) (fun q => absurd q (by omega)) (fun _ => md_Ya (by assumption) hA) (md_YW (by assumption))
    · refine sg_iconst (pc := 15) (z := 1) (dc_X7_read_0.1.2.2.2) (by decide) ?_
      refine sg_goto (pc := 16) (tgt := 20) (dc_X7_read_0.2.1.1.1) (by decide) ?_
      refine sg_iconst (pc := 20) (z := 1) (dc_X7_read_0.2.1.2.1) (by decide) ?_
      refine sg_cE2 (pc := 21) (d' := d - 1) (mc' := 0) (ms' := 0) 8 g (dc_X7_read_0.2.1.2.2) cb_X7_start ml_X7_71 mn_X7_start rfl mv_X7_start (Nat.le_of_ble_eq_true rfl) (md_oc (by assumption)) (Nat.le_of_ble_eq_true rfl) (by first | exact jl_d0 hd rfl | omega) (by first | exact Nat.le_of_ble_eq_true rfl | omega) (by first | exact Nat.le_of_ble_eq_true rfl | omega) ?_
      refine s_X7_start g (by first | exact jl_d1 hd rfl | omega) (by omega) (by assumption) (fun v21 h21 b21 i21 t21 s21 u21 y21 => sg_K1 ?_)
      have x21 := y21.1
      have hk21 := x21.2.1
      have y21 := md_Yt (h0 := h) (by assumption) y21
      refine sg_if_ne (pc := 24) (tgt := 45) (dc_X7_read_0.2.2.1.1) (by decide) (fun c24 => ?_) (fun c24 => absurd c24 (by omega))
      refine sg_iconst (pc := 45) (z := 0) (dc_X7_read_30.1.2.2.2) (by decide) ?_
      refine sg_iret (pc := 46) (dc_X7_read_30.2.1.1.1) rfl (by first | exact Nat.le_of_ble_eq_true rfl | omega) (by first | exact Nat.le_of_ble_eq_true rfl | omega) ?_
      exact hQ _ _ (by omega) (by omega) (by omega) (fun q => absurd q (by omega)) (fun _ => md_Ya (by assumption) hA) (md_YW (by assumption))

set_option maxRecDepth 100000 in
set_option maxHeartbeats 400000 in
theorem f_X7_behind {w : sg_W} {Q : sg_O → sg_H → Prop} {h : sg_H} (g : sg_G w) {d : Nat} (hd : 8 ≤ d) {M : Nat} {trk : Int} {a : Nat} (hv : 0 ≤ trk ∧ trk < 2) {A : fa_A} {L Z : List Int} (hA : md_ab h M = A) (hL : fa_L A (4 + trk.toNat) = L) (hB : md_X 1 h a Z) (hm : Z.length ≤ 40) (hx : md_M w h M) (hQ : ∀ (v : Int) (h' : sg_H), v = (if 24 < L.length + Z.length then (-9 : Int) else (L.length : Int) + (Z.length : Int)) → md_t h' M = md_t h M → md_ab h' M = (if 24 < L.length + Z.length then A else fa_put A (4 + trk.toNat) (L ++ Z)) → md_W w h h' M → Q (.inl (some (sg_i v))) h') : sg_C w mi_X7_behind d 3 80 [sg_r M, sg_i trk, sg_r a] h Q := by
  refine sg_of pn_X7 (Nat.le_of_ble_eq_true rfl) ?_
  have y0 := md_Y0 hx
  have hk := hx.2.1
  refine sg_aload_n (pc := 0) (j := 0) (dc_X7_behind_0.1.1.1.1) rfl rfl ?_
  refine md_grw (pc := 1) g (dc_X7_behind_0.1.1.1.2) fk_X7_9 (by assumption) (fun r1 => ?_)
  refine sg_iconst (pc := 4) (z := 4) (dc_X7_behind_0.1.1.2.1) (by decide) ?_
  refine sg_iload_n (pc := 5) (j := 1) (dc_X7_behind_0.1.1.2.2) rfl rfl ?_
  first | refine sg_iaddB (pc := 6) (dc_X7_behind_0.1.2.1.1) (by omega) (by omega) ?_ | refine sg_iadd (pc := 6) (dc_X7_behind_0.1.2.1.1) ?_
  first | refine md_alX (pc := 7) (dc_X7_behind_0.1.2.1.2) hA (by assumption) (by assumption) (by omega) (by omega) (fun X7 l7 => ?_) | refine md_alXt (pc := 7) (dc_X7_behind_0.1.2.1.2) hA (by assumption) (by assumption) (by omega) (by omega) (fun X7 l7 => ?_)
  refine md_xlen (pc := 8) (dc_X7_behind_0.1.2.2.1) (by assumption) (by omega) ?_
  refine sg_aload_n (pc := 9) (j := 2) (dc_X7_behind_0.1.2.2.2) rfl rfl ?_
  refine md_xlen (pc := 10) (dc_X7_behind_0.2.1.1.1) hB (by omega) ?_
  first | refine sg_iaddB (pc := 11) (dc_X7_behind_0.2.1.1.2) (by omega) (by omega) ?_ | refine sg_iadd (pc := 11) (dc_X7_behind_0.2.1.1.2) ?_
  refine sg_bipush (pc := 12) (z := 24) (dc_X7_behind_0.2.1.2.1) (by decide) ?_
  refine sg_icmp_le (pc := 14) (tgt := 22) (dc_X7_behind_0.2.1.2.2) (by decide) (fun c14 => ?_) (fun c14 => ?_)
  · refine sg_aload_n (pc := 22) (j := 0) (dc_X7_behind_0.2.2.2.1) rfl rfl ?_
    refine sg_iconst (pc := 23) (z := 4) (dc_X7_behind_0.2.2.2.2) (by decide) ?_
    refine sg_iload_n (pc := 24) (j := 1) (dc_X7_behind_24.1.1.1.1) rfl rfl ?_
    first | refine sg_iaddB (pc := 25) (dc_X7_behind_24.1.1.1.2) (by omega) (by omega) ?_ | refine sg_iadd (pc := 25) (dc_X7_behind_24.1.1.1.2) ?_
    refine sg_aload_n (pc := 26) (j := 0) (dc_X7_behind_24.1.1.2.1) rfl rfl ?_
    refine md_grw (pc := 27) g (dc_X7_behind_24.1.1.2.2) fk_X7_9 (by assumption) (fun r27 => ?_)
    refine sg_iconst (pc := 30) (z := 4) (dc_X7_behind_24.1.2.1.1) (by decide) ?_
    refine sg_iload_n (pc := 31) (j := 1) (dc_X7_behind_24.1.2.1.2) rfl rfl ?_
    first | refine sg_iaddB (pc := 32) (dc_X7_behind_24.1.2.2.1) (by omega) (by omega) ?_ | refine sg_iadd (pc := 32) (dc_X7_behind_24.1.2.2.1) ?_
    first | refine md_alX (pc := 33) (dc_X7_behind_24.1.2.2.2) hA (by assumption) (by assumption) (by omega) (by omega) (fun X33 l33 => ?_) | refine md_alXt (pc := 33) (dc_X7_behind_24.1.2.2.2) hA (by assumption) (by assumption) (by omega) (by omega) (fun X33 l33 => ?_)
    refine sg_aload_n (pc := 34) (j := 2) (dc_X7_behind_24.2.1.1.1) rfl rfl ?_
    refine sg_cS2 (pc := 35) (d' := d - 1) (mc' := 1) (ms' := (L.length + Z.length)) g (dc_X7_behind_24.2.1.1.2) cb_X7_joined ml_X7_61 ms_X7_joined (Nat.le_of_ble_eq_true rfl) (by first | exact jl_d0 hd rfl | omega) (by first | exact Nat.le_of_ble_eq_true rfl | omega) (by first | exact Nat.le_of_ble_eq_true rfl | omega) ?_
    refine f_X7_joined (c := 1) g (by first | exact jl_d1 hd rfl | omega) (by assumption) hB (by omega) (by omega) (fun h35 t35 => sg_K1 ?_)
    have x35 : md_M w h35 M := md_ME (by assumption) (md_FE t35)
    have th35 := md_tE (w := w) (M := M) (by assumption) (md_FE t35)
    have hk35 := x35.2.1
    have y35 : md_Y w h h35 M := md_YE (by assumption) (md_FE t35)
    refine sg_cE2 (pc := 38) (d' := d - 1) (mc' := 2) (ms' := 16) 8 g (dc_X7_behind_24.2.1.2.1) cb_X7_set ml_X7_78 mn_X7_set rfl mv_X7_set (Nat.le_of_ble_eq_true rfl) (md_oc (by assumption)) (Nat.le_of_ble_eq_true rfl) (by first | exact jl_d0 hd rfl | omega) (by first | exact Nat.le_of_ble_eq_true rfl | omega) (by first | exact Nat.le_of_ble_eq_true rfl | omega) ?_
    refine s_X7_set g (by first | exact jl_d1 hd rfl | omega) (by omega) (by assumption) (fun q => absurd q (by omega)) (fun q => ⟨md_XA (md_FX t35), by first | omega | (simp only [List.length_take, List.length_reverse, List.length_map, List.length_append, tt_len]; omega)⟩) (fun h38 y38 t38 ab38 => sg_K1 ?_)
    rw [md_Ya y35 hA, md_xl (md_FX t35)] at ab38
    rw [show (4 + trk).toNat = 4 + trk.toNat by omega] at ab38
    have x38 := y38.1
    have hk38 := x38.2.1
    have z38 : md_W w h h38 M := md_Wt y35 y38
    refine sg_iret (pc := 41) (dc_X7_behind_24.2.1.2.2) rfl (by first | exact Nat.le_of_ble_eq_true rfl | omega) (by first | exact Nat.le_of_ble_eq_true rfl | omega) ?_
    exact hQ _ _ (by rw [if_neg (by omega), List.length_append]; omega) (t38.trans th35) (by rw [if_neg (by omega)]; exact ab38) z38
  · refine sg_bipush (pc := 17) (z := -9) (dc_X7_behind_0.2.2.1.1) (by decide) ?_
    refine sg_goto (pc := 19) (tgt := 41) (dc_X7_behind_0.2.2.1.2) (by decide) ?_
    refine sg_iret (pc := 41) (dc_X7_behind_24.2.1.2.2) rfl (by first | exact Nat.le_of_ble_eq_true rfl | omega) (by first | exact Nat.le_of_ble_eq_true rfl | omega) ?_
    exact hQ _ _ (by rw [if_pos (by omega)]) rfl (by rw [if_pos (by omega)]; exact hA) (md_YW y0)

set_option maxRecDepth 100000 in
set_option maxHeartbeats 400000 in
theorem f_X7_send {w : sg_W} {Q : sg_O → sg_H → Prop} {h : sg_H} (g : sg_G w) {d : Nat} (hd : 9 ≤ d) {M : Nat} {trk x : Int} {A : fa_A} {L : List Int} (hA : md_ab h M = A) (hL : fa_L A (4 + trk.toNat) = L) (ok : fa_ok A) (hx : md_M w h M) (hQ : ∀ (v : Int) (h' : sg_H), ((trk < 0 ∨ 2 ≤ trk) → md_t h' M = 1) → (¬ (trk < 0 ∨ 2 ≤ trk) → (x < 0 ∨ 1114111 < x) → md_t h' M = 2) → (¬ (trk < 0 ∨ 2 ≤ trk) → ¬ (x < 0 ∨ 1114111 < x) → md_t h' M = 0) → (md_t h' M = 0 → v = (if 24 < L.length + (fs_sent x).length then (-9 : Int) else (L.length : Int) + ((fs_sent x).length : Nat)) ∧ md_ab h' M = (if 24 < L.length + (fs_sent x).length then A else fa_put A (4 + trk.toNat) (L ++ fs_sent x))) → (md_t h' M ≠ 0 → md_ab h' M = A) → md_W w h h' M → Q (.inl (some (sg_i v))) h') : sg_C w mi_X7_send d 4 82 [sg_r M, sg_i trk, sg_i x] h Q := by
  refine sg_of pn_X7 (Nat.le_of_ble_eq_true rfl) ?_
  have y0 := md_Y0 hx
  have hk := hx.2.1
  refine sg_aload_n (pc := 0) (j := 0) (dc_X7_send_0.1.1.1.1) rfl rfl ?_
  refine sg_iload_n (pc := 1) (j := 1) (dc_X7_send_0.1.1.1.2) rfl rfl ?_
  refine sg_cS1 (pc := 2) (d' := d - 1) (mc' := 0) (ms' := 0) g (dc_X7_send_0.1.1.2.1) cb_X7_isNoTrack ml_X7_129 ms_X7_isNoTrack (Nat.le_of_ble_eq_true rfl) (by first | exact jl_d0 hd rfl | omega) (by first | exact Nat.le_of_ble_eq_true rfl | omega) (by first | exact Nat.le_of_ble_eq_true rfl | omega) ?_
  refine s_X7_isNoTrack g (by first | exact jl_d1 hd rfl | omega) (fun z2 h2 b2 => sg_K1 ?_)
  (try simp only [fm_no, fm_one, fn_betw, fn_sign, fn_radix, fn_high, fn_low, if_true, if_false] at h2)
  refine sg_iconst (pc := 5) (z := 1) (dc_X7_send_0.1.1.2.2) (by decide) ?_
  refine sg_cE2 (pc := 6) (d' := d - 1) (mc' := 0) (ms' := 0) 8 g (dc_X7_send_0.1.2.1.1) cb_X7_start ml_X7_71 mn_X7_start rfl mv_X7_start (Nat.le_of_ble_eq_true rfl) (md_oc (by assumption)) (Nat.le_of_ble_eq_true rfl) (by first | exact jl_d0 hd rfl | omega) (by first | exact Nat.le_of_ble_eq_true rfl | omega) (by first | exact Nat.le_of_ble_eq_true rfl | omega) ?_
  refine s_X7_start g (by first | exact jl_d1 hd rfl | omega) (by omega) (by assumption) (fun v6 h6 b6 i6 t6 s6 u6 y6 => sg_K1 ?_)
  have x6 := y6.1
  have hk6 := x6.2.1
  have y6 := md_Yt (h0 := h) (by assumption) y6
  refine sg_if_ne (pc := 9) (tgt := 35) (dc_X7_send_0.1.2.1.2) (by decide) (fun c9 => ?_) (fun c9 => ?_)
  · refine sg_iconst (pc := 35) (z := 0) (dc_X7_send_29.1.1.2.1) (by decide) ?_
    refine sg_goto (pc := 36) (tgt := 48) (dc_X7_send_29.1.1.2.2) (by decide) ?_
    refine sg_iret (pc := 48) (dc_X7_send_29.2.1.1.2) rfl (by first | exact Nat.le_of_ble_eq_true rfl | omega) (by first | exact Nat.le_of_ble_eq_true rfl | omega) ?_
    exact hQ _ _ (by omega) (by omega) (by omega) (fun q => absurd q (by omega)) (fun _ => md_Ya (by assumption) hA) (md_YW (by assumption))
  · refine sg_aload_n (pc := 12) (j := 0) (dc_X7_send_0.1.2.2.1) rfl rfl ?_
    refine sg_iload_n (pc := 13) (j := 2) (dc_X7_send_0.1.2.2.2) rfl rfl ?_
    refine sg_iconst (pc := 14) (z := 0) (dc_X7_send_0.2.1.1.1) (by decide) ?_
    refine sg_ldc (pc := 15) (z := 1114111) g (dc_X7_send_0.2.1.1.2) cn_X7_132 (by decide) ?_
    refine sg_cS3 (pc := 17) (d' := d - 1) (mc' := 0) (ms' := 0) g (dc_X7_send_0.2.1.2.1) cb_X7_isOf ml_X7_22 ms_X7_isOf (Nat.le_of_ble_eq_true rfl) (by first | exact jl_d0 hd rfl | omega) (by first | exact Nat.le_of_ble_eq_true rfl | omega) (by first | exact Nat.le_of_ble_eq_true rfl | omega) ?_
    refine s_X7_isOf g (by first | exact jl_d1 hd rfl | omega) (fun z17 h17 b17 => sg_K1 ?_)
    (try simp only [fm_no, fm_one, fn_betw, fn_sign, fn_radix, fn_high, fn_low, if_true, if_false] at h17)
    refine sg_if_ne (pc := 20) (tgt := 27) (dc_X7_send_0.2.1.2.2) (by decide) (fun c20 => ?_) (fun c20 => ?_)
    · refine sg_iconst (pc := 27) (z := 0) (dc_X7_send_0.2.2.2.1) (by decide) ?_
      refine sg_iconst (pc := 28) (z := 2) (dc_X7_send_0.2.2.2.2) (by decide) ?_
      refine sg_cE2 (pc := 29) (d' := d - 1) (mc' := 0) (ms' := 0) 8 g (dc_X7_send_29.1.1.1.1) cb_X7_refuse ml_X7_45 mn_X7_refuse rfl mv_X7_refuse (Nat.le_of_ble_eq_true rfl) (md_oc (by assumption)) (Nat.le_of_ble_eq_true rfl) (by first | exact jl_d0 hd rfl | omega) (by first | exact Nat.le_of_ble_eq_true rfl | omega) (by first | exact Nat.le_of_ble_eq_true rfl | omega) ?_
      refine s_X7_refuse g (by first | exact jl_d1 hd rfl | omega) (by omega) (by assumption) (fun v29 h29 b29 i29 t29 s29 u29 y29 => sg_K1 ?_)
      have x29 := y29.1
      have hk29 := x29.2.1
      have y29 := md_Yt (h0 := h) (by assumption) y29
      refine sg_if_eq (pc := 32) (tgt := 39) (dc_X7_send_29.1.1.1.2) (by decide) (fun c32 => ?_) (fun c32 => absurd c32 (by omega))
      refine sg_aload_n (pc := 39) (j := 0) (dc_X7_send_29.1.2.1.1) rfl rfl ?_
      refine sg_iload_n (pc := 40) (j := 1) (dc_X7_send_29.1.2.1.2) rfl rfl ?_
      refine sg_iload_n (pc := 41) (j := 2) (dc_X7_send_29.1.2.2.1) rfl rfl ?_
      refine sg_cS1 (pc := 42) (d' := d - 1) (mc' := 1) (ms' := 2) g (dc_X7_send_29.1.2.2.2) cb_X7_sent ml_X7_133 ms_X7_sent (Nat.le_of_ble_eq_true rfl) (by first | exact jl_d0 hd rfl | omega) (by first | exact Nat.le_of_ble_eq_true rfl | omega) (by first | exact Nat.le_of_ble_eq_true rfl | omega) ?_
      refine f_X7_sent g (by first | exact jl_d1 hd rfl | omega) (by omega) (fun h42 t42 => sg_K1 ?_)
      have x42 : md_M w h42 M := md_ME (by assumption) (md_FE t42)
      have th42 := md_tE (w := w) (M := M) (by assumption) (md_FE t42)
      have hk42 := x42.2.1
      have y42 : md_Y w h h42 M := md_YE (by assumption) (md_FE t42)
      have sl9 := fs_sl (c := x)
      have sl8 : (fs_sent x).length ≤ 2 := by split at sl9 <;> omega
      refine sg_cE2 (pc := 45) (d' := d - 1) (mc' := 3) (ms' := 80) 8 g (dc_X7_send_29.2.1.1.1) cb_X7_behind ml_X7_137 mn_X7_behind rfl mv_X7_behind (Nat.le_of_ble_eq_true rfl) (md_oc (by assumption)) (Nat.le_of_ble_eq_true rfl) (by first | exact jl_d0 hd rfl | omega) (by first | exact Nat.le_of_ble_eq_true rfl | omega) (by first | exact Nat.le_of_ble_eq_true rfl | omega) ?_
      refine f_X7_behind g (by first | exact jl_d1 hd rfl | omega) (by omega) (md_Ya y42 hA) hL (md_FX t42) (by first | omega | exact Nat.le_of_ble_eq_true rfl) (by assumption) (fun v45 h45 e45 t45 ab45 y45 => sg_K1 ?_)
      have z45 : md_W w h h45 M := md_Wt y42 y45
      refine sg_iret (pc := 48) (dc_X7_send_29.2.1.1.2) rfl (by first | exact Nat.le_of_ble_eq_true rfl | omega) (by first | exact Nat.le_of_ble_eq_true rfl | omega) ?_
      exact hQ _ _ (by omega) (by omega) (by omega) (fun _ => ⟨e45, ab45⟩) (fun q => absurd (by omega) q) z45
    · refine sg_iconst (pc := 23) (z := 1) (dc_X7_send_0.2.2.1.1) (by decide) ?_
      refine sg_goto (pc := 24) (tgt := 28) (dc_X7_send_0.2.2.1.2) (by decide) ?_
      refine sg_iconst (pc := 28) (z := 2) (dc_X7_send_0.2.2.2.2) (by decide) ?_
      refine sg_cE2 (pc := 29) (d' := d - 1) (mc' := 0) (ms' := 0) 8 g (dc_X7_send_29.1.1.1.1) cb_X7_refuse ml_X7_45 mn_X7_refuse rfl mv_X7_refuse (Nat.le_of_ble_eq_true rfl) (md_oc (by assumption)) (Nat.le_of_ble_eq_true rfl) (by first | exact jl_d0 hd rfl | omega) (by first | exact Nat.le_of_ble_eq_true rfl | omega) (by first | exact Nat.le_of_ble_eq_true rfl | omega) ?_
      refine s_X7_refuse g (by first | exact jl_d1 hd rfl | omega) (by omega) (by assumption) (fun v29 h29 b29 i29 t29 s29 u29 y29 => sg_K1 ?_)
      have x29 := y29.1
      have hk29 := x29.2.1
      have y29 := md_Yt (h0 := h) (by assumption) y29
      refine sg_if_eq (pc := 32) (tgt := 39) (dc_X7_send_29.1.1.1.2) (by decide) (fun c32 => absurd c32 (by omega)) (fun c32 => ?_)
      refine sg_iconst (pc := 35) (z := 0) (dc_X7_send_29.1.1.2.1) (by decide) ?_
      refine sg_goto (pc := 36) (tgt := 48) (dc_X7_send_29.1.1.2.2) (by decide) ?_
      refine sg_iret (pc := 48) (dc_X7_send_29.2.1.1.2) rfl (by first | exact Nat.le_of_ble_eq_true rfl | omega) (by first | exact Nat.le_of_ble_eq_true rfl | omega) ?_
      exact hQ _ _ (by omega) (by omega) (by omega) (fun q => absurd q (by omega)) (fun _ => md_Ya (by assumption) hA) (md_YW (by assumption))

set_option maxRecDepth 100000 in
set_option maxHeartbeats 400000 in
theorem f_X7_put {w : sg_W} {Q : sg_O → sg_H → Prop} {h : sg_H} (g : sg_G w) {d : Nat} (hd : 9 ≤ d) {M : Nat} {trk x : Int} {A : fa_A} {L : List Int} (hA : md_ab h M = A) (hL : fa_L A (4 + trk.toNat) = L) (ok : fa_ok A) (hx : md_M w h M) (hQ : ∀ (v : Int) (h' : sg_H), ((trk < 0 ∨ 2 ≤ trk) → md_t h' M = 1) → (¬ (trk < 0 ∨ 2 ≤ trk) → (x < 0 ∨ 65535 < x) → md_t h' M = 2) → (¬ (trk < 0 ∨ 2 ≤ trk) → ¬ (x < 0 ∨ 65535 < x) → md_t h' M = 0) → (md_t h' M = 0 → v = (if 24 < L.length + 1 then (-9 : Int) else (L.length : Int) + (1 : Nat)) ∧ md_ab h' M = (if 24 < L.length + 1 then A else fa_put A (4 + trk.toNat) (L ++ [x]))) → (md_t h' M ≠ 0 → md_ab h' M = A) → md_W w h h' M → Q (.inl (some (sg_i v))) h') : sg_C w mi_X7_put d 4 81 [sg_r M, sg_i trk, sg_i x] h Q := by
  refine sg_of pn_X7 (Nat.le_of_ble_eq_true rfl) ?_
  have y0 := md_Y0 hx
  have hk := hx.2.1
  refine sg_aload_n (pc := 0) (j := 0) (dc_X7_put_0.1.1.1.1) rfl rfl ?_
  refine sg_iload_n (pc := 1) (j := 1) (dc_X7_put_0.1.1.1.2) rfl rfl ?_
  refine sg_cS1 (pc := 2) (d' := d - 1) (mc' := 0) (ms' := 0) g (dc_X7_put_0.1.1.2.1) cb_X7_isNoTrack ml_X7_129 ms_X7_isNoTrack (Nat.le_of_ble_eq_true rfl) (by first | exact jl_d0 hd rfl | omega) (by first | exact Nat.le_of_ble_eq_true rfl | omega) (by first | exact Nat.le_of_ble_eq_true rfl | omega) ?_
  refine s_X7_isNoTrack g (by first | exact jl_d1 hd rfl | omega) (fun z2 h2 b2 => sg_K1 ?_)
  (try simp only [fm_no, fm_one, fn_betw, fn_sign, fn_radix, fn_high, fn_low, if_true, if_false] at h2)
  refine sg_iconst (pc := 5) (z := 1) (dc_X7_put_0.1.1.2.2) (by decide) ?_
  refine sg_cE2 (pc := 6) (d' := d - 1) (mc' := 0) (ms' := 0) 8 g (dc_X7_put_0.1.2.1.1) cb_X7_start ml_X7_71 mn_X7_start rfl mv_X7_start (Nat.le_of_ble_eq_true rfl) (md_oc (by assumption)) (Nat.le_of_ble_eq_true rfl) (by first | exact jl_d0 hd rfl | omega) (by first | exact Nat.le_of_ble_eq_true rfl | omega) (by first | exact Nat.le_of_ble_eq_true rfl | omega) ?_
  refine s_X7_start g (by first | exact jl_d1 hd rfl | omega) (by omega) (by assumption) (fun v6 h6 b6 i6 t6 s6 u6 y6 => sg_K1 ?_)
  have x6 := y6.1
  have hk6 := x6.2.1
  have y6 := md_Yt (h0 := h) (by assumption) y6
  refine sg_if_ne (pc := 9) (tgt := 35) (dc_X7_put_0.1.2.1.2) (by decide) (fun c9 => ?_) (fun c9 => ?_)
  · refine sg_iconst (pc := 35) (z := 0) (dc_X7_put_29.1.1.2.1) (by decide) ?_
    refine sg_goto (pc := 36) (tgt := 51) (dc_X7_put_29.1.1.2.2) (by decide) ?_
    refine sg_iret (pc := 51) (dc_X7_put_29.2.2.1.2) rfl (by first | exact Nat.le_of_ble_eq_true rfl | omega) (by first | exact Nat.le_of_ble_eq_true rfl | omega) ?_
    exact hQ _ _ (by omega) (by omega) (by omega) (fun q => absurd q (by omega)) (fun _ => md_Ya (by assumption) hA) (md_YW (by assumption))
  · refine sg_aload_n (pc := 12) (j := 0) (dc_X7_put_0.1.2.2.1) rfl rfl ?_
    refine sg_iload_n (pc := 13) (j := 2) (dc_X7_put_0.1.2.2.2) rfl rfl ?_
    refine sg_iconst (pc := 14) (z := 0) (dc_X7_put_0.2.1.1.1) (by decide) ?_
    refine sg_ldc (pc := 15) (z := 65535) g (dc_X7_put_0.2.1.1.2) cn_X7_140 (by decide) ?_
    refine sg_cS3 (pc := 17) (d' := d - 1) (mc' := 0) (ms' := 0) g (dc_X7_put_0.2.1.2.1) cb_X7_isOf ml_X7_22 ms_X7_isOf (Nat.le_of_ble_eq_true rfl) (by first | exact jl_d0 hd rfl | omega) (by first | exact Nat.le_of_ble_eq_true rfl | omega) (by first | exact Nat.le_of_ble_eq_true rfl | omega) ?_
    refine s_X7_isOf g (by first | exact jl_d1 hd rfl | omega) (fun z17 h17 b17 => sg_K1 ?_)
    (try simp only [fm_no, fm_one, fn_betw, fn_sign, fn_radix, fn_high, fn_low, if_true, if_false] at h17)
    refine sg_if_ne (pc := 20) (tgt := 27) (dc_X7_put_0.2.1.2.2) (by decide) (fun c20 => ?_) (fun c20 => ?_)
    · refine sg_iconst (pc := 27) (z := 0) (dc_X7_put_0.2.2.2.1) (by decide) ?_
      refine sg_iconst (pc := 28) (z := 2) (dc_X7_put_0.2.2.2.2) (by decide) ?_
      refine sg_cE2 (pc := 29) (d' := d - 1) (mc' := 0) (ms' := 0) 8 g (dc_X7_put_29.1.1.1.1) cb_X7_refuse ml_X7_45 mn_X7_refuse rfl mv_X7_refuse (Nat.le_of_ble_eq_true rfl) (md_oc (by assumption)) (Nat.le_of_ble_eq_true rfl) (by first | exact jl_d0 hd rfl | omega) (by first | exact Nat.le_of_ble_eq_true rfl | omega) (by first | exact Nat.le_of_ble_eq_true rfl | omega) ?_
      refine s_X7_refuse g (by first | exact jl_d1 hd rfl | omega) (by omega) (by assumption) (fun v29 h29 b29 i29 t29 s29 u29 y29 => sg_K1 ?_)
      have x29 := y29.1
      have hk29 := x29.2.1
      have y29 := md_Yt (h0 := h) (by assumption) y29
      refine sg_if_eq (pc := 32) (tgt := 39) (dc_X7_put_29.1.1.1.2) (by decide) (fun c32 => ?_) (fun c32 => absurd c32 (by omega))
      refine sg_aload_n (pc := 39) (j := 0) (dc_X7_put_29.1.2.1.1) rfl rfl ?_
      refine sg_iload_n (pc := 40) (j := 1) (dc_X7_put_29.1.2.1.2) rfl rfl ?_
      refine sg_iconst (pc := 41) (z := 1) (dc_X7_put_29.1.2.2.1) (by decide) ?_
      refine sg_newa (t := 100) (N := 1) (pc := 42) g (dc_X7_put_29.1.2.2.2) ac_int rfl (by decide) (by decide) rfl rfl (by decide) (by omega) (by omega) (by omega) (by omega) ?_
      refine sg_dup (pc := 44) (dc_X7_put_29.2.1.1.1) rfl ?_
      refine sg_iconst (pc := 45) (z := 0) (dc_X7_put_29.2.1.1.2) (by decide) ?_
      refine sg_iload_n (pc := 46) (j := 2) (dc_X7_put_29.2.1.2.1) rfl rfl ?_
      refine md_astF (pc := 47) (dc_X7_put_29.2.1.2.2) (md_newF (c := 1)) (by rw [ck_v1]; omega) (by decide) (by decide) (fun h47 t47 => ?_)
      have t47 : md_F 1 _ h47 [x] := t47
      have x47 : md_M w h47 M := md_ME (by assumption) (md_FE t47)
      have th47 := md_tE (w := w) (M := M) (by assumption) (md_FE t47)
      have hk47 := x47.2.1
      have y47 : md_Y w h h47 M := md_YE (by assumption) (md_FE t47)
      refine sg_cE2 (pc := 48) (d' := d - 1) (mc' := 3) (ms' := 80) 8 g (dc_X7_put_29.2.2.1.1) cb_X7_behind ml_X7_137 mn_X7_behind rfl mv_X7_behind (Nat.le_of_ble_eq_true rfl) (md_oc (by assumption)) (Nat.le_of_ble_eq_true rfl) (by first | exact jl_d0 hd rfl | omega) (by first | exact Nat.le_of_ble_eq_true rfl | omega) (by first | exact Nat.le_of_ble_eq_true rfl | omega) ?_
      refine f_X7_behind g (by first | exact jl_d1 hd rfl | omega) (by omega) (md_Ya y47 hA) hL (md_FX t47) (by first | omega | exact Nat.le_of_ble_eq_true rfl) (by assumption) (fun v48 h48 e48 t48 ab48 y48 => sg_K1 ?_)
      have z48 : md_W w h h48 M := md_Wt y47 y48
      refine sg_iret (pc := 51) (dc_X7_put_29.2.2.1.2) rfl (by first | exact Nat.le_of_ble_eq_true rfl | omega) (by first | exact Nat.le_of_ble_eq_true rfl | omega) ?_
      exact hQ _ _ (by omega) (by omega) (by omega) (fun _ => ⟨e48, ab48⟩) (fun q => absurd (by omega) q) z48
    · refine sg_iconst (pc := 23) (z := 1) (dc_X7_put_0.2.2.1.1) (by decide) ?_
      refine sg_goto (pc := 24) (tgt := 28) (dc_X7_put_0.2.2.1.2) (by decide) ?_
      refine sg_iconst (pc := 28) (z := 2) (dc_X7_put_0.2.2.2.2) (by decide) ?_
      refine sg_cE2 (pc := 29) (d' := d - 1) (mc' := 0) (ms' := 0) 8 g (dc_X7_put_29.1.1.1.1) cb_X7_refuse ml_X7_45 mn_X7_refuse rfl mv_X7_refuse (Nat.le_of_ble_eq_true rfl) (md_oc (by assumption)) (Nat.le_of_ble_eq_true rfl) (by first | exact jl_d0 hd rfl | omega) (by first | exact Nat.le_of_ble_eq_true rfl | omega) (by first | exact Nat.le_of_ble_eq_true rfl | omega) ?_
      refine s_X7_refuse g (by first | exact jl_d1 hd rfl | omega) (by omega) (by assumption) (fun v29 h29 b29 i29 t29 s29 u29 y29 => sg_K1 ?_)
      have x29 := y29.1
      have hk29 := x29.2.1
      have y29 := md_Yt (h0 := h) (by assumption) y29
      refine sg_if_eq (pc := 32) (tgt := 39) (dc_X7_put_29.1.1.1.2) (by decide) (fun c32 => absurd c32 (by omega)) (fun c32 => ?_)
      refine sg_iconst (pc := 35) (z := 0) (dc_X7_put_29.1.1.2.1) (by decide) ?_
      refine sg_goto (pc := 36) (tgt := 51) (dc_X7_put_29.1.1.2.2) (by decide) ?_
      refine sg_iret (pc := 51) (dc_X7_put_29.2.2.1.2) rfl (by first | exact Nat.le_of_ble_eq_true rfl | omega) (by first | exact Nat.le_of_ble_eq_true rfl | omega) ?_
      exact hQ _ _ (by omega) (by omega) (by omega) (fun q => absurd q (by omega)) (fun _ => md_Ya (by assumption) hA) (md_YW (by assumption))

set_option maxRecDepth 100000 in
set_option maxHeartbeats 400000 in
theorem f_X7_flip {w : sg_W} {Q : sg_O → sg_H → Prop} {h : sg_H} (g : sg_G w) {d : Nat} (hd : 9 ≤ d) {M : Nat} {trk : Int} {A : fa_A} {L : List Int} (hA : md_ab h M = A) (hL : fa_L A (4 + trk.toNat) = L) (ok : fa_ok A) (hx : md_M w h M) (hQ : ∀ (v : Int) (h' : sg_H), ((trk < 0 ∨ 2 ≤ trk) → md_t h' M = 1) → (¬ (trk < 0 ∨ 2 ≤ trk) → md_t h' M = 0) → (md_t h' M = 0 → v = fs_hf L L.length ∧ md_ab h' M = fa_put A (4 + trk.toNat) (L.map fn_turn)) → (md_t h' M ≠ 0 → md_ab h' M = A) → md_W w h h' M → Q (.inl (some (sg_i v))) h') : sg_C w mi_X7_flip d 3 56 [sg_r M, sg_i trk] h Q := by
  refine sg_of pn_X7 (Nat.le_of_ble_eq_true rfl) ?_
  have y0 := md_Y0 hx
  have hk := hx.2.1
  refine sg_aload_n (pc := 0) (j := 0) (dc_X7_flip_0.1.1.1.1) rfl rfl ?_
  refine sg_iload_n (pc := 1) (j := 1) (dc_X7_flip_0.1.1.1.2) rfl rfl ?_
  refine sg_cS1 (pc := 2) (d' := d - 1) (mc' := 0) (ms' := 0) g (dc_X7_flip_0.1.1.2.1) cb_X7_isNoTrack ml_X7_129 ms_X7_isNoTrack (Nat.le_of_ble_eq_true rfl) (by first | exact jl_d0 hd rfl | omega) (by first | exact Nat.le_of_ble_eq_true rfl | omega) (by first | exact Nat.le_of_ble_eq_true rfl | omega) ?_
  refine s_X7_isNoTrack g (by first | exact jl_d1 hd rfl | omega) (fun z2 h2 b2 => sg_K1 ?_)
  (try simp only [fm_no, fn_betw] at h2)
  refine sg_iconst (pc := 5) (z := 1) (dc_X7_flip_0.1.1.2.2) (by decide) ?_
  refine sg_cE2 (pc := 6) (d' := d - 1) (mc' := 0) (ms' := 0) 8 g (dc_X7_flip_0.1.2.1.1) cb_X7_start ml_X7_71 mn_X7_start rfl mv_X7_start (Nat.le_of_ble_eq_true rfl) (md_oc (by assumption)) (Nat.le_of_ble_eq_true rfl) (by first | exact jl_d0 hd rfl | omega) (by first | exact Nat.le_of_ble_eq_true rfl | omega) (by first | exact Nat.le_of_ble_eq_true rfl | omega) ?_
  refine s_X7_start g (by first | exact jl_d1 hd rfl | omega) (by omega) (by assumption) (fun v6 h6 b6 i6 t6 s6 u6 y6 => sg_K1 ?_)
  have x6 := y6.1
  have hk6 := x6.2.1
  have y6 := md_Yt (h0 := h) (by assumption) y6
  refine sg_if_eq (pc := 9) (tgt := 14) (dc_X7_flip_0.1.2.1.2) (by decide) (fun c9 => ?_) (fun c9 => ?_)
  · obtain ⟨S, eS⟩ : ∃ S, S = (L.map fn_turn) := ⟨_, rfl⟩
    have lS : S.length = L.length := by rw [eS, List.length_map]
    have gS : ∀ p : Int, 0 ≤ p → p < (L.length : Int) → S.getD p.toNat 0 = fn_turn (L.getD p.toNat 0) := fun p p0 p1 => by rw [eS]; exact gd_map (by omega)
    refine sg_aload_n (pc := 14) (j := 0) (dc_X7_flip_0.2.1.1.1) rfl rfl ?_
    refine md_grw (pc := 15) g (dc_X7_flip_0.2.1.1.2) fk_X7_9 (by assumption) (fun r15 => ?_)
    refine sg_iconst (pc := 18) (z := 4) (dc_X7_flip_0.2.1.2.1) (by decide) ?_
    refine sg_iload_n (pc := 19) (j := 1) (dc_X7_flip_0.2.1.2.2) rfl rfl ?_
    first | refine sg_iaddB (pc := 20) (dc_X7_flip_0.2.2.1.1) (by omega) (by omega) ?_ | refine sg_iadd (pc := 20) (dc_X7_flip_0.2.2.1.1) ?_
    first | refine md_alX (pc := 21) (dc_X7_flip_0.2.2.1.2) hA (by assumption) (by assumption) (by omega) (by omega) (fun X21 l21 => ?_) | refine md_alXt (pc := 21) (dc_X7_flip_0.2.2.1.2) hA (by assumption) (by assumption) (by omega) (by omega) (fun X21 l21 => ?_)
    refine md_xlen (pc := 22) (dc_X7_flip_0.2.2.2.1) (by assumption) (by omega) ?_
    refine sg_newa (t := 100) (N := L.length) (pc := 23) g (dc_X7_flip_0.2.2.2.2) ac_int rfl (by decide) (by decide) rfl rfl (by decide) (by omega) (by omega) (by omega) (by omega) ?_
    refine sg_astore_n (pc := 25) (j := 2) (dc_X7_flip_25.1.1.1.1) rfl (by decide) ?_
    refine sg_iconst (pc := 26) (z := 0) (dc_X7_flip_25.1.1.1.2) (by decide) ?_
    refine sg_istore_n (pc := 27) (j := 3) (dc_X7_flip_25.1.1.2.1) rfl (by decide) ?_
    refine sg_iconst (pc := 28) (z := 0) (dc_X7_flip_25.1.1.2.2) (by decide) ?_
    refine sg_istore (pc := 29) (dc_X7_flip_25.1.2.1.1) (by decide) ?_
    have loop31 : ∀ (N : Nat) (h1 : sg_H) (p s : Int), (md_F 1 h6 h1 (fx S p.toNat)) → (0 ≤ p ∧ p ≤ (L.length : Int)) → (s = fs_hf L p.toNat) → ((L.length : Int) - p).toNat < N → sg_R w mi_X7_flip d 3 56 Q 31 [(4, sg_i p), (3, sg_i s), (0, sg_r M), (1, sg_i trk), (2, sg_r h6.1)] [] h1 1 (0 + L.length) := by
      intro N
      induction N with
      | zero => intro h1 p s t1 p0 s0 hm; exact absurd hm (Nat.not_lt_zero _)
      | succ N ih =>
        intro h1 p s t1 p0 s0 hm
        have x1 : md_M w h1 M := md_ME x6 (md_FE t1)
        have hk1 := x1.2.1
        have y1 : md_Y w h h1 M := md_YE y6 (md_FE t1)
        have th1 := md_tE (w := w) (M := M) x6 (md_FE t1)
        have bz := fs_hfb (L := L) (n := p.toNat)
        rw [← s0] at bz
        refine sg_iload (pc := 31) (dc_X7_flip_25.1.2.1.2) rfl ?_
        refine sg_aload_n (pc := 33) (j := 2) (dc_X7_flip_25.1.2.2.1) rfl rfl ?_
        refine md_xlen (pc := 34) (dc_X7_flip_25.1.2.2.2) (md_FX t1) (by rw [fx_len]; omega) ?_
        rw [fx_len, lS]
        refine sg_icmp_ge (pc := 35) (tgt := 75) (dc_X7_flip_25.2.1.1.1) (by decide) (fun c35 => ?_) (fun c35 => ?_)
        · have eS1 := fx_e (S := S) (k := p.toNat) (by omega)
          rw [eS1, eS] at t1
          refine sg_aload_n (pc := 75) (j := 0) (dc_X7_flip_48.2.2.2.2) rfl rfl ?_
          refine sg_iconst (pc := 76) (z := 4) (dc_X7_flip_76.1.1.1) (by decide) ?_
          refine sg_iload_n (pc := 77) (j := 1) (dc_X7_flip_76.1.1.2) rfl rfl ?_
          first | refine sg_iaddB (pc := 78) (dc_X7_flip_76.1.2.1) (by omega) (by omega) ?_ | refine sg_iadd (pc := 78) (dc_X7_flip_76.1.2.1) ?_
          refine sg_aload_n (pc := 79) (j := 2) (dc_X7_flip_76.1.2.2) rfl rfl ?_
          refine sg_cE2 (pc := 80) (d' := d - 1) (mc' := 2) (ms' := 16) 8 g (dc_X7_flip_76.2.1.1) cb_X7_set ml_X7_78 mn_X7_set rfl mv_X7_set (Nat.le_of_ble_eq_true rfl) (md_oc (by assumption)) (Nat.le_of_ble_eq_true rfl) (by first | exact jl_d0 hd rfl | omega) (by first | exact Nat.le_of_ble_eq_true rfl | omega) (by first | exact Nat.le_of_ble_eq_true rfl | omega) ?_
          refine s_X7_set g (by first | exact jl_d1 hd rfl | omega) (by omega) (by assumption) (fun q => absurd q (by omega)) (fun q => ⟨md_XA (md_FX t1), by first | omega | (simp only [List.length_take, List.length_reverse, List.length_map, List.length_append, tt_len]; omega)⟩) (fun h80 y80 t80 ab80 => sg_K1 ?_)
          rw [md_Ya y1 hA, md_xl (md_FX t1)] at ab80
          rw [show (4 + trk).toNat = 4 + trk.toNat by omega] at ab80
          have x80 := y80.1
          have hk80 := x80.2.1
          have z80 : md_W w h h80 M := md_Wt y1 y80
          refine sg_pop (pc := 83) (dc_X7_flip_76.2.1.2) rfl ?_
          refine sg_iload_n (pc := 84) (j := 3) (dc_X7_flip_76.2.2.1) rfl rfl ?_
          refine sg_iret (pc := 85) (dc_X7_flip_76.2.2.2) rfl (by first | exact Nat.le_of_ble_eq_true rfl | omega) (by first | exact Nat.le_of_ble_eq_true rfl | omega) ?_
          exact hQ _ _ (by omega) (by omega) (fun _ => ⟨by rw [s0, show p.toNat = L.length by omega], ab80⟩) (fun q => absurd (by omega) q) z80
        · refine sg_aload_n (pc := 38) (j := 2) (dc_X7_flip_25.2.1.1.2) rfl rfl ?_
          refine sg_iload (pc := 39) (dc_X7_flip_25.2.1.2.1) rfl ?_
          refine sg_aload_n (pc := 41) (j := 0) (dc_X7_flip_25.2.1.2.2) rfl rfl ?_
          refine md_grw (pc := 42) g (dc_X7_flip_25.2.2.1.1) fk_X7_9 (by assumption) (fun r42 => ?_)
          refine sg_iconst (pc := 45) (z := 4) (dc_X7_flip_25.2.2.1.2) (by decide) ?_
          refine sg_iload_n (pc := 46) (j := 1) (dc_X7_flip_25.2.2.2.1) rfl rfl ?_
          first | refine sg_iaddB (pc := 47) (dc_X7_flip_25.2.2.2.2) (by omega) (by omega) ?_ | refine sg_iadd (pc := 47) (dc_X7_flip_25.2.2.2.2) ?_
          first | refine md_alX (pc := 48) (dc_X7_flip_48.1.1.1.1) hA (by assumption) (by assumption) (by omega) (by omega) (fun X48 l48 => ?_) | refine md_alXt (pc := 48) (dc_X7_flip_48.1.1.1.1) hA (by assumption) (by assumption) (by omega) (by omega) (fun X48 l48 => ?_)
          refine sg_iload (pc := 49) (dc_X7_flip_48.1.1.1.2) rfl ?_
          refine md_xld (pc := 51) (dc_X7_flip_48.1.1.2.1) X48 (by omega) (by omega) (fun g51 => ?_)
          have q51 := ck_v1.mp g51
          refine sg_cS1 (pc := 52) (d' := d - 1) (mc' := 0) (ms' := 0) g (dc_X7_flip_48.1.1.2.2) cb_X7_turnedUnit ml_X7_141 ms_X7_turnedUnit (Nat.le_of_ble_eq_true rfl) (by first | exact jl_d0 hd rfl | omega) (by first | exact Nat.le_of_ble_eq_true rfl | omega) (by first | exact Nat.le_of_ble_eq_true rfl | omega) ?_
          refine s_X7_turnedUnit g (by first | exact jl_d1 hd rfl | omega) (fun z52 h52 => sg_K1 ?_)
          have et : z52 = fn_turn (L.getD p.toNat 0) := h52 (by omega)
          have e55 : z52 = S.getD p.toNat 0 := by rw [gS p (by omega) (by omega)]; exact et
          have q52 : 0 ≤ z52 ∧ z52 ≤ 65535 := by rw [et]; unfold fn_turn; omega
          refine md_astF (pc := 55) (dc_X7_flip_48.1.2.1.1) t1 (by rw [ck_v1]; exact q52) (by omega) (by rw [fx_len]; omega) (fun h55 t55 => ?_)
          have t56 : md_F 1 h6 h55 (fx S (p + 1).toNat) := md_Fw t55 (fx_s (by omega) (by omega) rfl e55)
          refine sg_iload_n (pc := 56) (j := 3) (dc_X7_flip_48.1.2.1.2) rfl rfl ?_
          refine sg_aload_n (pc := 57) (j := 2) (dc_X7_flip_48.1.2.2.1) rfl rfl ?_
          refine sg_iload (pc := 58) (dc_X7_flip_48.1.2.2.2) rfl ?_
          refine md_xld (pc := 60) (dc_X7_flip_48.2.1.1.1) (md_FX t56) (by omega) (by rw [fx_len]; omega) (fun g60 => ?_)
          rw [fx_g (by omega), gS p (by omega) (by omega)]
          refine sg_cS1 (pc := 61) (d' := d - 1) (mc' := 0) (ms' := 0) g (dc_X7_flip_48.2.1.1.2) cb_X7_isHalf ml_X7_144 ms_X7_isHalf (Nat.le_of_ble_eq_true rfl) (by first | exact jl_d0 hd rfl | omega) (by first | exact Nat.le_of_ble_eq_true rfl | omega) (by first | exact Nat.le_of_ble_eq_true rfl | omega) ?_
          refine s_X7_isHalf g (by first | exact jl_d1 hd rfl | omega) (fun z61 h61 b61 => sg_K1 ?_)
          (try simp only [fm_no, fn_betw] at h61)
          have hb9 := fn_hb (fn_turn (L.getD p.toNat 0))
          rw [← h61] at hb9
          have hh64 : fm_one z61 = z61 := by unfold fm_one; split <;> omega
          refine sg_cS1 (pc := 64) (d' := d - 1) (mc' := 0) (ms' := 0) g (dc_X7_flip_48.2.1.2.1) cb_X7_one ml_X7_92 ms_X7_one (Nat.le_of_ble_eq_true rfl) (by first | exact jl_d0 hd rfl | omega) (by first | exact Nat.le_of_ble_eq_true rfl | omega) (by first | exact Nat.le_of_ble_eq_true rfl | omega) ?_
          refine s_X7_one g (by first | exact jl_d1 hd rfl | omega) (fun z64 h64 b64 => sg_K1 ?_)
          (try simp only [fm_no, fn_betw] at h64)
          rw [hh64, h61] at h64
          rw [h61] at hb9
          first | refine sg_iaddB (pc := 67) (dc_X7_flip_48.2.1.2.2) (by omega) (by omega) ?_ | refine sg_iadd (pc := 67) (dc_X7_flip_48.2.1.2.2) ?_
          refine sg_istore_n (pc := 68) (j := 3) (dc_X7_flip_48.2.2.1.1) rfl (by decide) ?_
          first | refine sg_iincB (pc := 69) (dc_X7_flip_48.2.2.1.2) rfl (by decide) (by decide) (by omega) (by omega) ?_ | refine sg_iinc (pc := 69) (dc_X7_flip_48.2.2.1.2) rfl (by decide) (by decide) ?_
          refine sg_goto (pc := 72) (tgt := 31) (dc_X7_flip_48.2.2.2.1) (by decide) ?_
          refine sg_lsub (lv' := [(4, _), (3, _), (0, _), (1, _), (2, _)]) ⟨rfl, rfl, rfl, rfl, rfl, trivial⟩ ?_
          exact ih _ _ _ t56 (by omega) (by unfold fs_hf; rw [fz_s (by omega)]; unfold fs_hf at s0; omega) (by first | exact jl_m1 hm (by omega) | exact jl_m2 hm (by omega) | omega)
    refine sg_lsub (lv' := [(4, _), (3, _), (0, _), (1, _), (2, _)]) ⟨rfl, rfl, rfl, rfl, rfl, trivial⟩ ?_
    exact loop31 _ _ _ _ (md_Fw md_newF (fx_0 rfl lS)) (by omega) rfl (Nat.lt_succ_self _)
  · refine sg_iconst (pc := 12) (z := 0) (dc_X7_flip_0.1.2.2.1) (by decide) ?_
    refine sg_iret (pc := 13) (dc_X7_flip_0.1.2.2.2) rfl (by first | exact Nat.le_of_ble_eq_true rfl | omega) (by first | exact Nat.le_of_ble_eq_true rfl | omega) ?_
    exact hQ _ _ (by omega) (by omega) (fun q => absurd q (by omega)) (fun _ => md_Ya (by assumption) hA) (md_YW (by assumption))

