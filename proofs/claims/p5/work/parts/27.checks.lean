set_option maxRecDepth 100000 in
theorem s_X5_checkSign {w : sg_W} {Q : sg_O → sg_H → Prop} {h : sg_H} (g : sg_G w) {d : Nat} (hd : 11 ≤ d) {x : Int} (hQ : (0 ≤ x ∧ x ≤ 255) → Q (.inl none) h) (hX : (x < 0 ∨ 255 < x) → ∀ z, h.1 ≤ z → Q (.inr e_A) (z, h.2)) : sg_C w mi_X5_checkSign d 1 6 [sg_i x] h Q := by
  refine sg_of pn_X5 (Nat.le_of_ble_eq_true rfl) ?_
  refine sg_iload_n (pc := 0) (j := 0) (dc_X5_checkSign_0.1.1.1.1) rfl rfl ?_
  refine sg_cS1 (pc := 1) (d' := d - 1) (mc' := 0) (ms' := 0) g (dc_X5_checkSign_0.1.1.1.2) cb_X2_isSign ml_X5_83 ms_X2_isSign (Nat.le_of_ble_eq_true rfl) (by first | exact jl_d0 hd rfl | omega) (by first | exact Nat.le_of_ble_eq_true rfl | omega) (by first | exact Nat.le_of_ble_eq_true rfl | omega) ?_
  refine s_X2_isSign g (by first | exact jl_d1 hd rfl | omega) (fun z1 h1 b1 => sg_K1 ?_)
  (try simp only [fn_sign, fn_radix, fn_unit] at h1)
  refine sg_if_ne (pc := 4) (tgt := 18) (dc_X5_checkSign_0.1.1.2.1) (by decide) (fun c4 => ?_) (fun c4 => ?_)
  · refine sg_vret (pc := 18) (dc_X5_checkSign_0.2.1.1.1) rfl (by first | exact Nat.le_of_ble_eq_true rfl | omega) (by first | exact Nat.le_of_ble_eq_true rfl | omega) ?_
    exact hQ (by omega)
  · refine sg_throwW (pc := 7) g th_X5_110_321 (dc_X5_checkSign_0.1.1.2.2) (dc_X5_checkSign_0.1.2.1.1) (dc_X5_checkSign_0.1.2.1.2) (dc_X5_checkSign_0.1.2.2.1) (dc_X5_checkSign_0.1.2.2.2) (by first | exact Nat.le_trans (Nat.le_of_ble_eq_true rfl) hd | omega) (Nat.le_of_ble_eq_true rfl) (by first | exact Nat.le_of_ble_eq_true rfl | omega) (by first | exact Nat.le_of_ble_eq_true rfl | omega) ?_
    exact fun z hz => hX (by omega) z hz

set_option maxRecDepth 100000 in
theorem s_X5_checkKind {w : sg_W} {Q : sg_O → sg_H → Prop} {h : sg_H} (g : sg_G w) {d : Nat} (hd : 11 ≤ d) {x : Int} (hQ : (0 ≤ x ∧ x ≤ 4) → Q (.inl none) h) (hX : (x < 0 ∨ 4 < x) → ∀ z, h.1 ≤ z → Q (.inr e_A) (z, h.2)) : sg_C w mi_X5_checkKind d 1 6 [sg_i x] h Q := by
  refine sg_of pn_X5 (Nat.le_of_ble_eq_true rfl) ?_
  refine sg_iload_n (pc := 0) (j := 0) (dc_X5_checkKind_0.1.1.1.1) rfl rfl ?_
  refine sg_if_lt (pc := 1) (tgt := 9) (dc_X5_checkKind_0.1.1.1.2) (by decide) (fun c1 => ?_) (fun c1 => ?_)
  · refine sg_throwW (pc := 9) g th_X5_110_323 (dc_X5_checkKind_0.1.2.1.2) (dc_X5_checkKind_0.1.2.2.1) (dc_X5_checkKind_0.1.2.2.2) (dc_X5_checkKind_0.2.1.1.1) (dc_X5_checkKind_0.2.1.1.2) (by first | exact Nat.le_trans (Nat.le_of_ble_eq_true rfl) hd | omega) (Nat.le_of_ble_eq_true rfl) (by first | exact Nat.le_of_ble_eq_true rfl | omega) (by first | exact Nat.le_of_ble_eq_true rfl | omega) ?_
    exact fun z hz => hX (by omega) z hz
  · refine sg_iload_n (pc := 4) (j := 0) (dc_X5_checkKind_0.1.1.2.1) rfl rfl ?_
    refine sg_iconst (pc := 5) (z := 5) (dc_X5_checkKind_0.1.1.2.2) (by decide) ?_
    refine sg_icmp_lt (pc := 6) (tgt := 20) (dc_X5_checkKind_0.1.2.1.1) (by decide) (fun c6 => ?_) (fun c6 => ?_)
    · refine sg_vret (pc := 20) (dc_X5_checkKind_0.2.1.2.1) rfl (by first | exact Nat.le_of_ble_eq_true rfl | omega) (by first | exact Nat.le_of_ble_eq_true rfl | omega) ?_
      exact hQ (by omega)
    · refine sg_throwW (pc := 9) g th_X5_110_323 (dc_X5_checkKind_0.1.2.1.2) (dc_X5_checkKind_0.1.2.2.1) (dc_X5_checkKind_0.1.2.2.2) (dc_X5_checkKind_0.2.1.1.1) (dc_X5_checkKind_0.2.1.1.2) (by first | exact Nat.le_trans (Nat.le_of_ble_eq_true rfl) hd | omega) (Nat.le_of_ble_eq_true rfl) (by first | exact Nat.le_of_ble_eq_true rfl | omega) (by first | exact Nat.le_of_ble_eq_true rfl | omega) ?_
      exact fun z hz => hX (by omega) z hz

set_option maxRecDepth 100000 in
theorem s_X5_checkKind_N {w : sg_W} {Q : sg_O → sg_H → Prop} {h : sg_H} (g : sg_G w) {d : Nat} (hd : 11 ≤ d) {x : Int} (hv : 0 ≤ x ∧ x ≤ 4) (hQ : Q (.inl none) h) : sg_C w mi_X5_checkKind d 0 0 [sg_i x] h Q := by
  refine sg_of pn_X5 (Nat.le_of_ble_eq_true rfl) ?_
  refine sg_iload_n (pc := 0) (j := 0) (dc_X5_checkKind_0.1.1.1.1) rfl rfl ?_
  refine sg_if_lt (pc := 1) (tgt := 9) (dc_X5_checkKind_0.1.1.1.2) (by decide) (fun c1 => ?_) (fun c1 => ?_)
  · exfalso; omega
  · refine sg_iload_n (pc := 4) (j := 0) (dc_X5_checkKind_0.1.1.2.1) rfl rfl ?_
    refine sg_iconst (pc := 5) (z := 5) (dc_X5_checkKind_0.1.1.2.2) (by decide) ?_
    refine sg_icmp_lt (pc := 6) (tgt := 20) (dc_X5_checkKind_0.1.2.1.1) (by decide) (fun c6 => ?_) (fun c6 => ?_)
    · refine sg_vret (pc := 20) (dc_X5_checkKind_0.2.1.2.1) rfl (by first | exact Nat.le_of_ble_eq_true rfl | omega) (by first | exact Nat.le_of_ble_eq_true rfl | omega) ?_
      exact hQ
    · exfalso; omega

set_option maxRecDepth 100000 in
theorem s_X5_checkRadix {w : sg_W} {Q : sg_O → sg_H → Prop} {h : sg_H} (g : sg_G w) {d : Nat} (hd : 11 ≤ d) {x : Int} (hQ : (2 ≤ x ∧ x ≤ 36) → Q (.inl none) h) (hX : (x < 2 ∨ 36 < x) → ∀ z, h.1 ≤ z → Q (.inr e_A) (z, h.2)) : sg_C w mi_X5_checkRadix d 1 6 [sg_i x] h Q := by
  refine sg_of pn_X5 (Nat.le_of_ble_eq_true rfl) ?_
  refine sg_iload_n (pc := 0) (j := 0) (dc_X5_checkRadix_0.1.1.1.1) rfl rfl ?_
  refine sg_cS1 (pc := 1) (d' := d - 1) (mc' := 0) (ms' := 0) g (dc_X5_checkRadix_0.1.1.1.2) cb_X2_isRadix ml_X5_325 ms_X2_isRadix (Nat.le_of_ble_eq_true rfl) (by first | exact jl_d0 hd rfl | omega) (by first | exact Nat.le_of_ble_eq_true rfl | omega) (by first | exact Nat.le_of_ble_eq_true rfl | omega) ?_
  refine s_X2_isRadix g (by first | exact jl_d1 hd rfl | omega) (fun z1 h1 b1 => sg_K1 ?_)
  (try simp only [fn_sign, fn_radix, fn_unit] at h1)
  refine sg_if_ne (pc := 4) (tgt := 18) (dc_X5_checkRadix_0.1.1.2.1) (by decide) (fun c4 => ?_) (fun c4 => ?_)
  · refine sg_vret (pc := 18) (dc_X5_checkRadix_0.2.1.1.1) rfl (by first | exact Nat.le_of_ble_eq_true rfl | omega) (by first | exact Nat.le_of_ble_eq_true rfl | omega) ?_
    exact hQ (by omega)
  · refine sg_throwW (pc := 7) g th_X5_110_328 (dc_X5_checkRadix_0.1.1.2.2) (dc_X5_checkRadix_0.1.2.1.1) (dc_X5_checkRadix_0.1.2.1.2) (dc_X5_checkRadix_0.1.2.2.1) (dc_X5_checkRadix_0.1.2.2.2) (by first | exact Nat.le_trans (Nat.le_of_ble_eq_true rfl) hd | omega) (Nat.le_of_ble_eq_true rfl) (by first | exact Nat.le_of_ble_eq_true rfl | omega) (by first | exact Nat.le_of_ble_eq_true rfl | omega) ?_
    exact fun z hz => hX (by omega) z hz

set_option maxRecDepth 100000 in
theorem s_X5_checkRadix_N {w : sg_W} {Q : sg_O → sg_H → Prop} {h : sg_H} (g : sg_G w) {d : Nat} (hd : 11 ≤ d) {x : Int} (hv : 2 ≤ x ∧ x ≤ 36) (hQ : Q (.inl none) h) : sg_C w mi_X5_checkRadix d 0 0 [sg_i x] h Q := by
  refine sg_of pn_X5 (Nat.le_of_ble_eq_true rfl) ?_
  refine sg_iload_n (pc := 0) (j := 0) (dc_X5_checkRadix_0.1.1.1.1) rfl rfl ?_
  refine sg_cS1 (pc := 1) (d' := d - 1) (mc' := 0) (ms' := 0) g (dc_X5_checkRadix_0.1.1.1.2) cb_X2_isRadix ml_X5_325 ms_X2_isRadix (Nat.le_of_ble_eq_true rfl) (by first | exact jl_d0 hd rfl | omega) (by first | exact Nat.le_of_ble_eq_true rfl | omega) (by first | exact Nat.le_of_ble_eq_true rfl | omega) ?_
  refine s_X2_isRadix g (by first | exact jl_d1 hd rfl | omega) (fun z1 h1 b1 => sg_K1 ?_)
  (try simp only [fn_sign, fn_radix, fn_unit] at h1)
  refine sg_if_ne (pc := 4) (tgt := 18) (dc_X5_checkRadix_0.1.1.2.1) (by decide) (fun c4 => ?_) (fun c4 => ?_)
  · refine sg_vret (pc := 18) (dc_X5_checkRadix_0.2.1.1.1) rfl (by first | exact Nat.le_of_ble_eq_true rfl | omega) (by first | exact Nat.le_of_ble_eq_true rfl | omega) ?_
    exact hQ
  · exfalso; omega

set_option maxRecDepth 100000 in
theorem s_X5_checkUnit {w : sg_W} {Q : sg_O → sg_H → Prop} {h : sg_H} (g : sg_G w) {d : Nat} (hd : 11 ≤ d) {x : Int} (hQ : (0 ≤ x ∧ x < 65536) → Q (.inl none) h) (hX : (x < 0 ∨ 65536 ≤ x) → ∀ z, h.1 ≤ z → Q (.inr e_A) (z, h.2)) : sg_C w mi_X5_checkUnit d 1 6 [sg_i x] h Q := by
  refine sg_of pn_X5 (Nat.le_of_ble_eq_true rfl) ?_
  refine sg_iload_n (pc := 0) (j := 0) (dc_X5_checkUnit_0.1.1.1.1) rfl rfl ?_
  refine sg_cS1 (pc := 1) (d' := d - 1) (mc' := 0) (ms' := 0) g (dc_X5_checkUnit_0.1.1.1.2) cb_X4_isUnit ml_X5_234 ms_X4_isUnit (Nat.le_of_ble_eq_true rfl) (by first | exact jl_d0 hd rfl | omega) (by first | exact Nat.le_of_ble_eq_true rfl | omega) (by first | exact Nat.le_of_ble_eq_true rfl | omega) ?_
  refine s_X4_isUnit g (by first | exact jl_d1 hd rfl | omega) (fun z1 h1 b1 => sg_K1 ?_)
  (try simp only [fn_sign, fn_radix, fn_unit] at h1)
  refine sg_if_ne (pc := 4) (tgt := 18) (dc_X5_checkUnit_0.1.1.2.1) (by decide) (fun c4 => ?_) (fun c4 => ?_)
  · refine sg_vret (pc := 18) (dc_X5_checkUnit_0.2.1.1.1) rfl (by first | exact Nat.le_of_ble_eq_true rfl | omega) (by first | exact Nat.le_of_ble_eq_true rfl | omega) ?_
    exact hQ (by omega)
  · refine sg_throwW (pc := 7) g th_X5_110_330 (dc_X5_checkUnit_0.1.1.2.2) (dc_X5_checkUnit_0.1.2.1.1) (dc_X5_checkUnit_0.1.2.1.2) (dc_X5_checkUnit_0.1.2.2.1) (dc_X5_checkUnit_0.1.2.2.2) (by first | exact Nat.le_trans (Nat.le_of_ble_eq_true rfl) hd | omega) (Nat.le_of_ble_eq_true rfl) (by first | exact Nat.le_of_ble_eq_true rfl | omega) (by first | exact Nat.le_of_ble_eq_true rfl | omega) ?_
    exact fun z hz => hX (by omega) z hz

set_option maxRecDepth 100000 in
theorem s_X5_checkUnit_N {w : sg_W} {Q : sg_O → sg_H → Prop} {h : sg_H} (g : sg_G w) {d : Nat} (hd : 11 ≤ d) {x : Int} (hv : 0 ≤ x ∧ x < 65536) (hQ : Q (.inl none) h) : sg_C w mi_X5_checkUnit d 0 0 [sg_i x] h Q := by
  refine sg_of pn_X5 (Nat.le_of_ble_eq_true rfl) ?_
  refine sg_iload_n (pc := 0) (j := 0) (dc_X5_checkUnit_0.1.1.1.1) rfl rfl ?_
  refine sg_cS1 (pc := 1) (d' := d - 1) (mc' := 0) (ms' := 0) g (dc_X5_checkUnit_0.1.1.1.2) cb_X4_isUnit ml_X5_234 ms_X4_isUnit (Nat.le_of_ble_eq_true rfl) (by first | exact jl_d0 hd rfl | omega) (by first | exact Nat.le_of_ble_eq_true rfl | omega) (by first | exact Nat.le_of_ble_eq_true rfl | omega) ?_
  refine s_X4_isUnit g (by first | exact jl_d1 hd rfl | omega) (fun z1 h1 b1 => sg_K1 ?_)
  (try simp only [fn_sign, fn_radix, fn_unit] at h1)
  refine sg_if_ne (pc := 4) (tgt := 18) (dc_X5_checkUnit_0.1.1.2.1) (by decide) (fun c4 => ?_) (fun c4 => ?_)
  · refine sg_vret (pc := 18) (dc_X5_checkUnit_0.2.1.1.1) rfl (by first | exact Nat.le_of_ble_eq_true rfl | omega) (by first | exact Nat.le_of_ble_eq_true rfl | omega) ?_
    exact hQ
  · exfalso; omega

set_option maxRecDepth 100000 in
theorem s_X5_checkAreTwo {w : sg_W} {Q : sg_O → sg_H → Prop} {h : sg_H} (g : sg_G w) {d : Nat} (hd : 11 ≤ d) {x y : Int} (hQ : (x ≠ y) → Q (.inl none) h) (hX : (x = y) → ∀ z, h.1 ≤ z → Q (.inr e_A) (z, h.2)) : sg_C w mi_X5_checkAreTwo d 1 6 [sg_i x, sg_i y] h Q := by
  refine sg_of pn_X5 (Nat.le_of_ble_eq_true rfl) ?_
  refine sg_iload_n (pc := 0) (j := 0) (dc_X5_checkAreTwo_0.1.1.1.1) rfl rfl ?_
  refine sg_iload_n (pc := 1) (j := 1) (dc_X5_checkAreTwo_0.1.1.1.2) rfl rfl ?_
  refine sg_icmp_ne (pc := 2) (tgt := 16) (dc_X5_checkAreTwo_0.1.1.2.1) (by decide) (fun c2 => ?_) (fun c2 => ?_)
  · refine sg_vret (pc := 16) (dc_X5_checkAreTwo_0.2.1.1.1) rfl (by first | exact Nat.le_of_ble_eq_true rfl | omega) (by first | exact Nat.le_of_ble_eq_true rfl | omega) ?_
    exact hQ (by omega)
  · refine sg_throwW (pc := 5) g th_X5_110_332 (dc_X5_checkAreTwo_0.1.1.2.2) (dc_X5_checkAreTwo_0.1.2.1.1) (dc_X5_checkAreTwo_0.1.2.1.2) (dc_X5_checkAreTwo_0.1.2.2.1) (dc_X5_checkAreTwo_0.1.2.2.2) (by first | exact Nat.le_trans (Nat.le_of_ble_eq_true rfl) hd | omega) (Nat.le_of_ble_eq_true rfl) (by first | exact Nat.le_of_ble_eq_true rfl | omega) (by first | exact Nat.le_of_ble_eq_true rfl | omega) ?_
    exact fun z hz => hX (by omega) z hz

set_option maxRecDepth 100000 in
theorem s_X5_rowOf_N {w : sg_W} {Q : sg_O → sg_H → Prop} {h : sg_H} (g : sg_G w) {d : Nat} (hd : 11 ≤ d) {B : Nat} (hx : ck_X h B) {row : Int} (hv : 0 ≤ row ∧ row < 4) (hQ : ∀ a, ck_L B a 0 → 0 ≤ row → row < 4 → Q (.inl (some (sg_r a))) h) : sg_C w mi_X5_rowOf d 0 0 [sg_r B, sg_i row] h Q := by
  refine sg_of pn_X5 (Nat.le_of_ble_eq_true rfl) ?_
  have y0 := ck_Y0 hx
  refine sg_iload_n (pc := 0) (j := 1) (dc_X5_rowOf_0.1.1.1.1) rfl rfl ?_
  refine sg_if_lt (pc := 1) (tgt := 9) (dc_X5_rowOf_0.1.1.1.2) (by decide) (fun c1 => ?_) (fun c1 => ?_)
  · exfalso; omega
  · refine sg_iload_n (pc := 4) (j := 1) (dc_X5_rowOf_0.1.1.2.1) rfl rfl ?_
    refine sg_iconst (pc := 5) (z := 4) (dc_X5_rowOf_0.1.1.2.2) (by decide) ?_
    refine sg_icmp_lt (pc := 6) (tgt := 20) (dc_X5_rowOf_0.1.2.1.1) (by decide) (fun c6 => ?_) (fun c6 => ?_)
    · obtain ⟨hS0, hS1, hS2⟩ := ck_sl hx ck_now
      refine sg_aload_n (pc := 20) (j := 0) (dc_X5_rowOf_0.2.1.2.1) rfl rfl ?_
      refine ck_gob (pc := 21) g (dc_X5_rowOf_0.2.1.2.2) fk_X5_10 (by assumption) (fun _ => rfl) ?_
      refine sg_getN (pc := 24) g (dc_X5_rowOf_0.2.2.1.1) fk_X5_312 hS0 rfl rfl ?_
      refine sg_iload_n (pc := 27) (j := 1) (dc_X5_rowOf_0.2.2.1.2) rfl rfl ?_
      obtain ⟨b28, e28, l28⟩ := ck_row (p := row) ck_now (by omega) (by omega)
      refine sg_aald (pc := 28) (dc_X5_rowOf_0.2.2.2.1) hS1 (by decide) (by omega) e28 ?_
      refine sg_aret (pc := 29) (dc_X5_rowOf_0.2.2.2.2) rfl (by first | exact Or.inl ⟨_, rfl⟩ | exact Or.inr ⟨_, rfl⟩) (by first | exact Nat.le_of_ble_eq_true rfl | omega) (by first | exact Nat.le_of_ble_eq_true rfl | omega) ?_
      exact hQ _ l28 (by omega) (by omega)
    · exfalso; omega

set_option maxRecDepth 100000 in
theorem s_X5_trackOf_N {w : sg_W} {Q : sg_O → sg_H → Prop} {h : sg_H} (g : sg_G w) {d : Nat} (hd : 11 ≤ d) {B : Nat} (hx : ck_X h B) {trk : Int} (hv : 0 ≤ trk ∧ trk < 2) (hQ : ∀ a, ck_L B a 1 → 0 ≤ trk → trk < 2 → Q (.inl (some (sg_r a))) h) : sg_C w mi_X5_trackOf d 0 0 [sg_r B, sg_i trk] h Q := by
  refine sg_of pn_X5 (Nat.le_of_ble_eq_true rfl) ?_
  have y0 := ck_Y0 hx
  refine sg_iload_n (pc := 0) (j := 1) (dc_X5_trackOf_0.1.1.1.1) rfl rfl ?_
  refine sg_if_lt (pc := 1) (tgt := 9) (dc_X5_trackOf_0.1.1.1.2) (by decide) (fun c1 => ?_) (fun c1 => ?_)
  · exfalso; omega
  · refine sg_iload_n (pc := 4) (j := 1) (dc_X5_trackOf_0.1.1.2.1) rfl rfl ?_
    refine sg_iconst (pc := 5) (z := 2) (dc_X5_trackOf_0.1.1.2.2) (by decide) ?_
    refine sg_icmp_lt (pc := 6) (tgt := 20) (dc_X5_trackOf_0.1.2.1.1) (by decide) (fun c6 => ?_) (fun c6 => ?_)
    · obtain ⟨hS0, hS1, hS2⟩ := ck_sl hx ck_now
      refine sg_aload_n (pc := 20) (j := 0) (dc_X5_trackOf_0.2.1.2.1) rfl rfl ?_
      refine ck_gob (pc := 21) g (dc_X5_trackOf_0.2.1.2.2) fk_X5_10 (by assumption) (fun _ => rfl) ?_
      refine sg_getN (pc := 24) g (dc_X5_trackOf_0.2.2.1.1) fk_X5_318 hS0 rfl rfl ?_
      refine sg_iload_n (pc := 27) (j := 1) (dc_X5_trackOf_0.2.2.1.2) rfl rfl ?_
      obtain ⟨b28, e28, l28⟩ := ck_trk (p := trk) ck_now (by omega) (by omega)
      refine sg_aald (pc := 28) (dc_X5_trackOf_0.2.2.2.1) hS2 (by decide) (by omega) e28 ?_
      refine sg_aret (pc := 29) (dc_X5_trackOf_0.2.2.2.2) rfl (by first | exact Or.inl ⟨_, rfl⟩ | exact Or.inr ⟨_, rfl⟩) (by first | exact Nat.le_of_ble_eq_true rfl | omega) (by first | exact Nat.le_of_ble_eq_true rfl | omega) ?_
      exact hQ _ l28 (by omega) (by omega)
    · exfalso; omega

