set_option maxRecDepth 100000 in
theorem s_X7_kindTold {w : sg_W} {Q : sg_O → sg_H → Prop} {h : sg_H} (g : sg_G w) {d : Nat} (hd : 6 ≤ d) {M : Nat} {x y : Int} (y0 : 0 ≤ y ∧ y ≤ 4) (hx : md_M w h M) (hQ : ∀ (v : Int) (h' : sg_H), ((x < 0 ∨ 255 < x) → md_t h' M = 1) → (¬ (x < 0 ∨ 255 < x) → md_t h' M = 0 ∧ v = fn_isOf x y) → (v = 0 ∨ v = 1) → md_Y w h h' M → Q (.inl (some (sg_i v))) h') : sg_C w mi_X7_kindTold d 0 0 [sg_r M, sg_i x, sg_i y] h Q := by
  refine sg_of pn_X7 (Nat.le_of_ble_eq_true rfl) ?_
  have y0 := md_Y0 hx
  have hk := hx.2.1
  refine sg_aload_n (pc := 0) (j := 0) (dc_X7_kindTold_0.1.1.1.1) rfl rfl ?_
  refine sg_iload_n (pc := 1) (j := 1) (dc_X7_kindTold_0.1.1.1.2) rfl rfl ?_
  refine sg_cS1 (pc := 2) (d' := d - 1) (mc' := 0) (ms' := 0) g (dc_X7_kindTold_0.1.1.2.1) cb_X7_isSign ml_X7_65 ms_X7_isSign (Nat.le_of_ble_eq_true rfl) (by first | exact jl_d0 hd rfl | omega) (by first | exact Nat.le_of_ble_eq_true rfl | omega) (by first | exact Nat.le_of_ble_eq_true rfl | omega) ?_
  refine s_X7_isSign g (by first | exact jl_d1 hd rfl | omega) (fun z2 h2 b2 => sg_K1 ?_)
  (try simp only [fm_no, fm_one, fn_betw, fn_sign, fn_radix, fn_high, fn_low] at h2)
  refine sg_if_ne (pc := 5) (tgt := 12) (dc_X7_kindTold_0.1.1.2.2) (by decide) (fun c5 => ?_) (fun c5 => ?_)
  · refine sg_iconst (pc := 12) (z := 0) (dc_X7_kindTold_0.1.2.2.1) (by decide) ?_
    refine sg_iconst (pc := 13) (z := 1) (dc_X7_kindTold_0.1.2.2.2) (by decide) ?_
    refine sg_cE2 (pc := 14) (d' := d - 1) (mc' := 0) (ms' := 0) 8 g (dc_X7_kindTold_0.2.1.1.1) cb_X7_start ml_X7_71 mn_X7_start rfl mv_X7_start (Nat.le_of_ble_eq_true rfl) (md_oc (by assumption)) (Nat.le_of_ble_eq_true rfl) (by first | exact jl_d0 hd rfl | omega) (by first | exact Nat.le_of_ble_eq_true rfl | omega) (by first | exact Nat.le_of_ble_eq_true rfl | omega) ?_
    refine s_X7_start g (by first | exact jl_d1 hd rfl | omega) (by omega) (by assumption) (fun v14 h14 b14 i14 t14 s14 u14 y14 => sg_K1 ?_)
    have x14 := y14.1
    have hk14 := x14.2.1
    have y14 := md_Yt (h0 := h) (by assumption) y14
    refine sg_if_ne (pc := 17) (tgt := 32) (dc_X7_kindTold_0.2.1.1.2) (by decide) (fun c17 => absurd c17 (by omega)) (fun c17 => ?_)
    refine sg_iload_n (pc := 20) (j := 1) (dc_X7_kindTold_0.2.1.2.1) rfl rfl ?_
    refine sg_iload_n (pc := 21) (j := 2) (dc_X7_kindTold_0.2.1.2.2) rfl rfl ?_
    refine sg_cS2 (pc := 22) (d' := d - 1) (mc' := 0) (ms' := 0) g (dc_X7_kindTold_0.2.2.1.1) cb_X7_isKind ml_X7_26 ms_X7_isKind (Nat.le_of_ble_eq_true rfl) (by first | exact jl_d0 hd rfl | omega) (by first | exact Nat.le_of_ble_eq_true rfl | omega) (by first | exact Nat.le_of_ble_eq_true rfl | omega) ?_
    refine s_X7_isKind g (by first | exact jl_d1 hd rfl | omega) (by assumption) (by omega) (by omega) (fun z22 e22 b22 => sg_K1 ?_)
    refine sg_if_eq (pc := 25) (tgt := 32) (dc_X7_kindTold_0.2.2.1.2) (by decide) (fun c25 => ?_) (fun c25 => ?_)
    · refine sg_iconst (pc := 32) (z := 0) (dc_X7_kindTold_32.1) (by decide) ?_
      refine sg_zret (pc := 33) (dc_X7_kindTold_32.2) rfl (by first | exact Or.inl rfl | exact Or.inr rfl | omega | assumption) (by first | exact Nat.le_of_ble_eq_true rfl | omega) (by first | exact Nat.le_of_ble_eq_true rfl | omega) ?_
      exact hQ _ _ (by omega) (by omega) (by first | exact Or.inl rfl | exact Or.inr rfl | omega | assumption) (by assumption)
    · refine sg_iconst (pc := 28) (z := 1) (dc_X7_kindTold_0.2.2.2.1) (by decide) ?_
      refine sg_goto (pc := 29) (tgt := 33) (dc_X7_kindTold_0.2.2.2.2) (by decide) ?_
      refine sg_zret (pc := 33) (dc_X7_kindTold_32.2) rfl (by first | exact Or.inl rfl | exact Or.inr rfl | omega | assumption) (by first | exact Nat.le_of_ble_eq_true rfl | omega) (by first | exact Nat.le_of_ble_eq_true rfl | omega) ?_
      exact hQ _ _ (by omega) (by omega) (by first | exact Or.inl rfl | exact Or.inr rfl | omega | assumption) (by assumption)
  · refine sg_iconst (pc := 8) (z := 1) (dc_X7_kindTold_0.1.2.1.1) (by decide) ?_
    refine sg_goto (pc := 9) (tgt := 13) (dc_X7_kindTold_0.1.2.1.2) (by decide) ?_
    refine sg_iconst (pc := 13) (z := 1) (dc_X7_kindTold_0.1.2.2.2) (by decide) ?_
    refine sg_cE2 (pc := 14) (d' := d - 1) (mc' := 0) (ms' := 0) 8 g (dc_X7_kindTold_0.2.1.1.1) cb_X7_start ml_X7_71 mn_X7_start rfl mv_X7_start (Nat.le_of_ble_eq_true rfl) (md_oc (by assumption)) (Nat.le_of_ble_eq_true rfl) (by first | exact jl_d0 hd rfl | omega) (by first | exact Nat.le_of_ble_eq_true rfl | omega) (by first | exact Nat.le_of_ble_eq_true rfl | omega) ?_
    refine s_X7_start g (by first | exact jl_d1 hd rfl | omega) (by omega) (by assumption) (fun v14 h14 b14 i14 t14 s14 u14 y14 => sg_K1 ?_)
    have x14 := y14.1
    have hk14 := x14.2.1
    have y14 := md_Yt (h0 := h) (by assumption) y14
    refine sg_if_ne (pc := 17) (tgt := 32) (dc_X7_kindTold_0.2.1.1.2) (by decide) (fun c17 => ?_) (fun c17 => absurd c17 (by omega))
    refine sg_iconst (pc := 32) (z := 0) (dc_X7_kindTold_32.1) (by decide) ?_
    refine sg_zret (pc := 33) (dc_X7_kindTold_32.2) rfl (by first | exact Or.inl rfl | exact Or.inr rfl | omega | assumption) (by first | exact Nat.le_of_ble_eq_true rfl | omega) (by first | exact Nat.le_of_ble_eq_true rfl | omega) ?_
    exact hQ _ _ (by omega) (by omega) (by first | exact Or.inl rfl | exact Or.inr rfl | omega | assumption) (by assumption)

set_option maxRecDepth 100000 in
theorem s_X7_isDigit {w : sg_W} {Q : sg_O → sg_H → Prop} {h : sg_H} (g : sg_G w) {d : Nat} (hd : 8 ≤ d) {M : Nat} {x : Int}  (hx : md_M w h M) (hQ : ∀ (v : Int) (h' : sg_H), ((x < 0 ∨ 255 < x) → md_t h' M = 1) → (¬ (x < 0 ∨ 255 < x) → md_t h' M = 0 ∧ v = fn_isOf x 0) → (v = 0 ∨ v = 1) → md_Y w h h' M → Q (.inl (some (sg_i v))) h') : sg_C w mi_X7_isDigit d 0 0 [sg_r M, sg_i x] h Q := by
  refine sg_of pn_X7 (Nat.le_of_ble_eq_true rfl) ?_
  have y0 := md_Y0 hx
  have hk := hx.2.1
  refine sg_aload_n (pc := 0) (j := 0) (dc_X7_isDigit_0.1.1.1) rfl rfl ?_
  refine sg_iload_n (pc := 1) (j := 1) (dc_X7_isDigit_0.1.1.2) rfl rfl ?_
  refine sg_iconst (pc := 2) (z := 0) (dc_X7_isDigit_0.1.2.1) (by decide) ?_
  refine sg_cE2 (pc := 3) (d' := d - 1) (mc' := 0) (ms' := 0) 8 g (dc_X7_isDigit_0.1.2.2) cb_X7_kindTold ml_X7_164 mn_X7_kindTold rfl mv_X7_kindTold (Nat.le_of_ble_eq_true rfl) (md_oc (by assumption)) (Nat.le_of_ble_eq_true rfl) (by first | exact jl_d0 hd rfl | omega) (by first | exact Nat.le_of_ble_eq_true rfl | omega) (by first | exact Nat.le_of_ble_eq_true rfl | omega) ?_
  refine s_X7_kindTold g (by first | exact jl_d1 hd rfl | omega) (by decide) (by assumption) (fun v3 h3 e3 f3 b3 y3 => sg_K1 ?_)
  refine sg_zret (pc := 6) (dc_X7_isDigit_0.2.1.1) rfl (by first | exact Or.inl rfl | exact Or.inr rfl | omega | assumption) (by first | exact Nat.le_of_ble_eq_true rfl | omega) (by first | exact Nat.le_of_ble_eq_true rfl | omega) ?_
  exact hQ _ _ (by assumption) (by assumption) (by assumption) (by assumption)

set_option maxRecDepth 100000 in
theorem s_X7_isLetter {w : sg_W} {Q : sg_O → sg_H → Prop} {h : sg_H} (g : sg_G w) {d : Nat} (hd : 8 ≤ d) {M : Nat} {x : Int}  (hx : md_M w h M) (hQ : ∀ (v : Int) (h' : sg_H), ((x < 0 ∨ 255 < x) → md_t h' M = 1) → (¬ (x < 0 ∨ 255 < x) → md_t h' M = 0 ∧ v = fn_isOf x 1) → (v = 0 ∨ v = 1) → md_Y w h h' M → Q (.inl (some (sg_i v))) h') : sg_C w mi_X7_isLetter d 0 0 [sg_r M, sg_i x] h Q := by
  refine sg_of pn_X7 (Nat.le_of_ble_eq_true rfl) ?_
  have y0 := md_Y0 hx
  have hk := hx.2.1
  refine sg_aload_n (pc := 0) (j := 0) (dc_X7_isLetter_0.1.1.1) rfl rfl ?_
  refine sg_iload_n (pc := 1) (j := 1) (dc_X7_isLetter_0.1.1.2) rfl rfl ?_
  refine sg_iconst (pc := 2) (z := 1) (dc_X7_isLetter_0.1.2.1) (by decide) ?_
  refine sg_cE2 (pc := 3) (d' := d - 1) (mc' := 0) (ms' := 0) 8 g (dc_X7_isLetter_0.1.2.2) cb_X7_kindTold ml_X7_164 mn_X7_kindTold rfl mv_X7_kindTold (Nat.le_of_ble_eq_true rfl) (md_oc (by assumption)) (Nat.le_of_ble_eq_true rfl) (by first | exact jl_d0 hd rfl | omega) (by first | exact Nat.le_of_ble_eq_true rfl | omega) (by first | exact Nat.le_of_ble_eq_true rfl | omega) ?_
  refine s_X7_kindTold g (by first | exact jl_d1 hd rfl | omega) (by decide) (by assumption) (fun v3 h3 e3 f3 b3 y3 => sg_K1 ?_)
  refine sg_zret (pc := 6) (dc_X7_isLetter_0.2.1.1) rfl (by first | exact Or.inl rfl | exact Or.inr rfl | omega | assumption) (by first | exact Nat.le_of_ble_eq_true rfl | omega) (by first | exact Nat.le_of_ble_eq_true rfl | omega) ?_
  exact hQ _ _ (by assumption) (by assumption) (by assumption) (by assumption)

set_option maxRecDepth 100000 in
theorem s_X7_isLetterOrDigit {w : sg_W} {Q : sg_O → sg_H → Prop} {h : sg_H} (g : sg_G w) {d : Nat} (hd : 8 ≤ d) {M : Nat} {x : Int}  (hx : md_M w h M) (hQ : ∀ (v : Int) (h' : sg_H), ((x < 0 ∨ 255 < x) → md_t h' M = 1) → (¬ (x < 0 ∨ 255 < x) → md_t h' M = 0 ∧ v = fn_isOf x 2) → (v = 0 ∨ v = 1) → md_Y w h h' M → Q (.inl (some (sg_i v))) h') : sg_C w mi_X7_isLetterOrDigit d 0 0 [sg_r M, sg_i x] h Q := by
  refine sg_of pn_X7 (Nat.le_of_ble_eq_true rfl) ?_
  have y0 := md_Y0 hx
  have hk := hx.2.1
  refine sg_aload_n (pc := 0) (j := 0) (dc_X7_isLetterOrDigit_0.1.1.1) rfl rfl ?_
  refine sg_iload_n (pc := 1) (j := 1) (dc_X7_isLetterOrDigit_0.1.1.2) rfl rfl ?_
  refine sg_iconst (pc := 2) (z := 2) (dc_X7_isLetterOrDigit_0.1.2.1) (by decide) ?_
  refine sg_cE2 (pc := 3) (d' := d - 1) (mc' := 0) (ms' := 0) 8 g (dc_X7_isLetterOrDigit_0.1.2.2) cb_X7_kindTold ml_X7_164 mn_X7_kindTold rfl mv_X7_kindTold (Nat.le_of_ble_eq_true rfl) (md_oc (by assumption)) (Nat.le_of_ble_eq_true rfl) (by first | exact jl_d0 hd rfl | omega) (by first | exact Nat.le_of_ble_eq_true rfl | omega) (by first | exact Nat.le_of_ble_eq_true rfl | omega) ?_
  refine s_X7_kindTold g (by first | exact jl_d1 hd rfl | omega) (by decide) (by assumption) (fun v3 h3 e3 f3 b3 y3 => sg_K1 ?_)
  refine sg_zret (pc := 6) (dc_X7_isLetterOrDigit_0.2.1.1) rfl (by first | exact Or.inl rfl | exact Or.inr rfl | omega | assumption) (by first | exact Nat.le_of_ble_eq_true rfl | omega) (by first | exact Nat.le_of_ble_eq_true rfl | omega) ?_
  exact hQ _ _ (by assumption) (by assumption) (by assumption) (by assumption)

set_option maxRecDepth 100000 in
theorem s_X7_isWhite {w : sg_W} {Q : sg_O → sg_H → Prop} {h : sg_H} (g : sg_G w) {d : Nat} (hd : 8 ≤ d) {M : Nat} {x : Int}  (hx : md_M w h M) (hQ : ∀ (v : Int) (h' : sg_H), ((x < 0 ∨ 255 < x) → md_t h' M = 1) → (¬ (x < 0 ∨ 255 < x) → md_t h' M = 0 ∧ v = fn_isOf x 3) → (v = 0 ∨ v = 1) → md_Y w h h' M → Q (.inl (some (sg_i v))) h') : sg_C w mi_X7_isWhite d 0 0 [sg_r M, sg_i x] h Q := by
  refine sg_of pn_X7 (Nat.le_of_ble_eq_true rfl) ?_
  have y0 := md_Y0 hx
  have hk := hx.2.1
  refine sg_aload_n (pc := 0) (j := 0) (dc_X7_isWhite_0.1.1.1) rfl rfl ?_
  refine sg_iload_n (pc := 1) (j := 1) (dc_X7_isWhite_0.1.1.2) rfl rfl ?_
  refine sg_iconst (pc := 2) (z := 3) (dc_X7_isWhite_0.1.2.1) (by decide) ?_
  refine sg_cE2 (pc := 3) (d' := d - 1) (mc' := 0) (ms' := 0) 8 g (dc_X7_isWhite_0.1.2.2) cb_X7_kindTold ml_X7_164 mn_X7_kindTold rfl mv_X7_kindTold (Nat.le_of_ble_eq_true rfl) (md_oc (by assumption)) (Nat.le_of_ble_eq_true rfl) (by first | exact jl_d0 hd rfl | omega) (by first | exact Nat.le_of_ble_eq_true rfl | omega) (by first | exact Nat.le_of_ble_eq_true rfl | omega) ?_
  refine s_X7_kindTold g (by first | exact jl_d1 hd rfl | omega) (by decide) (by assumption) (fun v3 h3 e3 f3 b3 y3 => sg_K1 ?_)
  refine sg_zret (pc := 6) (dc_X7_isWhite_0.2.1.1) rfl (by first | exact Or.inl rfl | exact Or.inr rfl | omega | assumption) (by first | exact Nat.le_of_ble_eq_true rfl | omega) (by first | exact Nat.le_of_ble_eq_true rfl | omega) ?_
  exact hQ _ _ (by assumption) (by assumption) (by assumption) (by assumption)

set_option maxRecDepth 100000 in
theorem s_X7_isGreat {w : sg_W} {Q : sg_O → sg_H → Prop} {h : sg_H} (g : sg_G w) {d : Nat} (hd : 8 ≤ d) {M : Nat} {x : Int}  (hx : md_M w h M) (hQ : ∀ (v : Int) (h' : sg_H), ((x < 0 ∨ 255 < x) → md_t h' M = 1) → (¬ (x < 0 ∨ 255 < x) → md_t h' M = 0 ∧ v = fn_isOf x 4) → (v = 0 ∨ v = 1) → md_Y w h h' M → Q (.inl (some (sg_i v))) h') : sg_C w mi_X7_isGreat d 0 0 [sg_r M, sg_i x] h Q := by
  refine sg_of pn_X7 (Nat.le_of_ble_eq_true rfl) ?_
  have y0 := md_Y0 hx
  have hk := hx.2.1
  refine sg_aload_n (pc := 0) (j := 0) (dc_X7_isGreat_0.1.1.1) rfl rfl ?_
  refine sg_iload_n (pc := 1) (j := 1) (dc_X7_isGreat_0.1.1.2) rfl rfl ?_
  refine sg_iconst (pc := 2) (z := 4) (dc_X7_isGreat_0.1.2.1) (by decide) ?_
  refine sg_cE2 (pc := 3) (d' := d - 1) (mc' := 0) (ms' := 0) 8 g (dc_X7_isGreat_0.1.2.2) cb_X7_kindTold ml_X7_164 mn_X7_kindTold rfl mv_X7_kindTold (Nat.le_of_ble_eq_true rfl) (md_oc (by assumption)) (Nat.le_of_ble_eq_true rfl) (by first | exact jl_d0 hd rfl | omega) (by first | exact Nat.le_of_ble_eq_true rfl | omega) (by first | exact Nat.le_of_ble_eq_true rfl | omega) ?_
  refine s_X7_kindTold g (by first | exact jl_d1 hd rfl | omega) (by decide) (by assumption) (fun v3 h3 e3 f3 b3 y3 => sg_K1 ?_)
  refine sg_zret (pc := 6) (dc_X7_isGreat_0.2.1.1) rfl (by first | exact Or.inl rfl | exact Or.inr rfl | omega | assumption) (by first | exact Nat.le_of_ble_eq_true rfl | omega) (by first | exact Nat.le_of_ble_eq_true rfl | omega) ?_
  exact hQ _ _ (by assumption) (by assumption) (by assumption) (by assumption)

set_option maxRecDepth 100000 in
theorem s_X7_kinds {w : sg_W} {Q : sg_O → sg_H → Prop} {h : sg_H} (g : sg_G w) {d : Nat} (hd : 9 ≤ d) {M : Nat} {x : Int}  (hx : md_M w h M) (hQ : ∀ (v : Int) (h' : sg_H), ((x < 0 ∨ 255 < x) → md_t h' M = 1) → (¬ (x < 0 ∨ 255 < x) → md_t h' M = 0 ∧ v = fn_kinds x) → md_Y w h h' M → Q (.inl (some (sg_i v))) h') : sg_C w mi_X7_kinds d 0 0 [sg_r M, sg_i x] h Q := by
  refine sg_of pn_X7 (Nat.le_of_ble_eq_true rfl) ?_
  have y0 := md_Y0 hx
  have hk := hx.2.1
  refine sg_aload_n (pc := 0) (j := 0) (dc_X7_kinds_0.1.1.1.1) rfl rfl ?_
  refine sg_iload_n (pc := 1) (j := 1) (dc_X7_kinds_0.1.1.1.2) rfl rfl ?_
  refine sg_cS1 (pc := 2) (d' := d - 1) (mc' := 0) (ms' := 0) g (dc_X7_kinds_0.1.1.2.1) cb_X7_isSign ml_X7_65 ms_X7_isSign (Nat.le_of_ble_eq_true rfl) (by first | exact jl_d0 hd rfl | omega) (by first | exact Nat.le_of_ble_eq_true rfl | omega) (by first | exact Nat.le_of_ble_eq_true rfl | omega) ?_
  refine s_X7_isSign g (by first | exact jl_d1 hd rfl | omega) (fun z2 h2 b2 => sg_K1 ?_)
  (try simp only [fm_no, fm_one, fn_betw, fn_sign, fn_radix, fn_high, fn_low] at h2)
  refine sg_if_ne (pc := 5) (tgt := 12) (dc_X7_kinds_0.1.1.2.2) (by decide) (fun c5 => ?_) (fun c5 => ?_)
  · refine sg_iconst (pc := 12) (z := 0) (dc_X7_kinds_0.1.2.2.1) (by decide) ?_
    refine sg_iconst (pc := 13) (z := 1) (dc_X7_kinds_0.1.2.2.2) (by decide) ?_
    refine sg_cE2 (pc := 14) (d' := d - 1) (mc' := 0) (ms' := 0) 8 g (dc_X7_kinds_0.2.1.1.1) cb_X7_start ml_X7_71 mn_X7_start rfl mv_X7_start (Nat.le_of_ble_eq_true rfl) (md_oc (by assumption)) (Nat.le_of_ble_eq_true rfl) (by first | exact jl_d0 hd rfl | omega) (by first | exact Nat.le_of_ble_eq_true rfl | omega) (by first | exact Nat.le_of_ble_eq_true rfl | omega) ?_
    refine s_X7_start g (by first | exact jl_d1 hd rfl | omega) (by omega) (by assumption) (fun v14 h14 b14 i14 t14 s14 u14 y14 => sg_K1 ?_)
    have x14 := y14.1
    have hk14 := x14.2.1
    have y14 := md_Yt (h0 := h) (by assumption) y14
    refine sg_if_eq (pc := 17) (tgt := 24) (dc_X7_kinds_0.2.1.1.2) (by decide) (fun c17 => ?_) (fun c17 => absurd c17 (by omega))
    refine sg_iload_n (pc := 24) (j := 1) (dc_X7_kinds_0.2.2.1.1) rfl rfl ?_
    refine sg_cS1 (pc := 25) (d' := d - 1) (mc' := 0) (ms' := 0) g (dc_X7_kinds_0.2.2.1.2) cb_X7_kindsOf ml_X7_167 ms_X7_kindsOf (Nat.le_of_ble_eq_true rfl) (by first | exact jl_d0 hd rfl | omega) (by first | exact Nat.le_of_ble_eq_true rfl | omega) (by first | exact Nat.le_of_ble_eq_true rfl | omega) ?_
    refine s_X7_kindsOf g (by first | exact jl_d1 hd rfl | omega) (by assumption) (fun z25 h25 => sg_K1 ?_)
    refine sg_iret (pc := 28) (dc_X7_kinds_0.2.2.2.1) rfl (by first | exact Nat.le_of_ble_eq_true rfl | omega) (by first | exact Nat.le_of_ble_eq_true rfl | omega) ?_
    exact hQ _ _ (by omega) (by omega) (by assumption)
  · refine sg_iconst (pc := 8) (z := 1) (dc_X7_kinds_0.1.2.1.1) (by decide) ?_
    refine sg_goto (pc := 9) (tgt := 13) (dc_X7_kinds_0.1.2.1.2) (by decide) ?_
    refine sg_iconst (pc := 13) (z := 1) (dc_X7_kinds_0.1.2.2.2) (by decide) ?_
    refine sg_cE2 (pc := 14) (d' := d - 1) (mc' := 0) (ms' := 0) 8 g (dc_X7_kinds_0.2.1.1.1) cb_X7_start ml_X7_71 mn_X7_start rfl mv_X7_start (Nat.le_of_ble_eq_true rfl) (md_oc (by assumption)) (Nat.le_of_ble_eq_true rfl) (by first | exact jl_d0 hd rfl | omega) (by first | exact Nat.le_of_ble_eq_true rfl | omega) (by first | exact Nat.le_of_ble_eq_true rfl | omega) ?_
    refine s_X7_start g (by first | exact jl_d1 hd rfl | omega) (by omega) (by assumption) (fun v14 h14 b14 i14 t14 s14 u14 y14 => sg_K1 ?_)
    have x14 := y14.1
    have hk14 := x14.2.1
    have y14 := md_Yt (h0 := h) (by assumption) y14
    refine sg_if_eq (pc := 17) (tgt := 24) (dc_X7_kinds_0.2.1.1.2) (by decide) (fun c17 => absurd c17 (by omega)) (fun c17 => ?_)
    refine sg_iconst (pc := 20) (z := 0) (dc_X7_kinds_0.2.1.2.1) (by decide) ?_
    refine sg_goto (pc := 21) (tgt := 28) (dc_X7_kinds_0.2.1.2.2) (by decide) ?_
    refine sg_iret (pc := 28) (dc_X7_kinds_0.2.2.2.1) rfl (by first | exact Nat.le_of_ble_eq_true rfl | omega) (by first | exact Nat.le_of_ble_eq_true rfl | omega) ?_
    exact hQ _ _ (by omega) (by omega) (by assumption)

set_option maxRecDepth 100000 in
theorem s_X7_upper {w : sg_W} {Q : sg_O → sg_H → Prop} {h : sg_H} (g : sg_G w) {d : Nat} (hd : 9 ≤ d) {M : Nat} {x c : Int}  (hx : md_M w h M) (hQ : ∀ (v : Int) (h' : sg_H), ((x < 0 ∨ 255 < x) → md_t h' M = 1) → (¬ (x < 0 ∨ 255 < x) → md_t h' M = 0 ∧ v = fn_upper x) → md_Y w h h' M → Q (.inl (some (sg_i v))) h') : sg_C w mi_X7_upper d 0 0 [sg_r M, sg_i x, sg_i c] h Q := by
  refine sg_of pn_X7 (Nat.le_of_ble_eq_true rfl) ?_
  have y0 := md_Y0 hx
  have hk := hx.2.1
  refine sg_aload_n (pc := 0) (j := 0) (dc_X7_upper_0.1.1.1.1) rfl rfl ?_
  refine sg_iload_n (pc := 1) (j := 1) (dc_X7_upper_0.1.1.1.2) rfl rfl ?_
  refine sg_cS1 (pc := 2) (d' := d - 1) (mc' := 0) (ms' := 0) g (dc_X7_upper_0.1.1.2.1) cb_X7_isSign ml_X7_65 ms_X7_isSign (Nat.le_of_ble_eq_true rfl) (by first | exact jl_d0 hd rfl | omega) (by first | exact Nat.le_of_ble_eq_true rfl | omega) (by first | exact Nat.le_of_ble_eq_true rfl | omega) ?_
  refine s_X7_isSign g (by first | exact jl_d1 hd rfl | omega) (fun z2 h2 b2 => sg_K1 ?_)
  (try simp only [fm_no, fm_one, fn_betw, fn_sign, fn_radix, fn_high, fn_low] at h2)
  refine sg_if_ne (pc := 5) (tgt := 12) (dc_X7_upper_0.1.1.2.2) (by decide) (fun c5 => ?_) (fun c5 => ?_)
  · refine sg_iconst (pc := 12) (z := 0) (dc_X7_upper_0.1.2.2.1) (by decide) ?_
    refine sg_iconst (pc := 13) (z := 1) (dc_X7_upper_0.1.2.2.2) (by decide) ?_
    refine sg_cE2 (pc := 14) (d' := d - 1) (mc' := 0) (ms' := 0) 8 g (dc_X7_upper_0.2.1.1.1) cb_X7_start ml_X7_71 mn_X7_start rfl mv_X7_start (Nat.le_of_ble_eq_true rfl) (md_oc (by assumption)) (Nat.le_of_ble_eq_true rfl) (by first | exact jl_d0 hd rfl | omega) (by first | exact Nat.le_of_ble_eq_true rfl | omega) (by first | exact Nat.le_of_ble_eq_true rfl | omega) ?_
    refine s_X7_start g (by first | exact jl_d1 hd rfl | omega) (by omega) (by assumption) (fun v14 h14 b14 i14 t14 s14 u14 y14 => sg_K1 ?_)
    have x14 := y14.1
    have hk14 := x14.2.1
    have y14 := md_Yt (h0 := h) (by assumption) y14
    refine sg_if_eq (pc := 17) (tgt := 24) (dc_X7_upper_0.2.1.1.2) (by decide) (fun c17 => ?_) (fun c17 => absurd c17 (by omega))
    refine sg_iload_n (pc := 24) (j := 1) (dc_X7_upper_0.2.2.1.1) rfl rfl ?_
    refine sg_cS1 (pc := 25) (d' := d - 1) (mc' := 0) (ms' := 0) g (dc_X7_upper_0.2.2.1.2) cb_X7_upperOf ml_X7_86 ms_X7_upperOf (Nat.le_of_ble_eq_true rfl) (by first | exact jl_d0 hd rfl | omega) (by first | exact Nat.le_of_ble_eq_true rfl | omega) (by first | exact Nat.le_of_ble_eq_true rfl | omega) ?_
    refine s_X7_upperOf g (by first | exact jl_d1 hd rfl | omega) (fun z25 h25 => sg_K1 ?_)
    (try simp only [fm_no, fm_one, fn_betw, fn_sign, fn_radix, fn_high, fn_low] at h25)
    refine sg_iret (pc := 28) (dc_X7_upper_0.2.2.2.1) rfl (by first | exact Nat.le_of_ble_eq_true rfl | omega) (by first | exact Nat.le_of_ble_eq_true rfl | omega) ?_
    exact hQ _ _ (by omega) (by omega) (by assumption)
  · refine sg_iconst (pc := 8) (z := 1) (dc_X7_upper_0.1.2.1.1) (by decide) ?_
    refine sg_goto (pc := 9) (tgt := 13) (dc_X7_upper_0.1.2.1.2) (by decide) ?_
    refine sg_iconst (pc := 13) (z := 1) (dc_X7_upper_0.1.2.2.2) (by decide) ?_
    refine sg_cE2 (pc := 14) (d' := d - 1) (mc' := 0) (ms' := 0) 8 g (dc_X7_upper_0.2.1.1.1) cb_X7_start ml_X7_71 mn_X7_start rfl mv_X7_start (Nat.le_of_ble_eq_true rfl) (md_oc (by assumption)) (Nat.le_of_ble_eq_true rfl) (by first | exact jl_d0 hd rfl | omega) (by first | exact Nat.le_of_ble_eq_true rfl | omega) (by first | exact Nat.le_of_ble_eq_true rfl | omega) ?_
    refine s_X7_start g (by first | exact jl_d1 hd rfl | omega) (by omega) (by assumption) (fun v14 h14 b14 i14 t14 s14 u14 y14 => sg_K1 ?_)
    have x14 := y14.1
    have hk14 := x14.2.1
    have y14 := md_Yt (h0 := h) (by assumption) y14
    refine sg_if_eq (pc := 17) (tgt := 24) (dc_X7_upper_0.2.1.1.2) (by decide) (fun c17 => absurd c17 (by omega)) (fun c17 => ?_)
    refine sg_iconst (pc := 20) (z := 0) (dc_X7_upper_0.2.1.2.1) (by decide) ?_
    refine sg_goto (pc := 21) (tgt := 28) (dc_X7_upper_0.2.1.2.2) (by decide) ?_
    refine sg_iret (pc := 28) (dc_X7_upper_0.2.2.2.1) rfl (by first | exact Nat.le_of_ble_eq_true rfl | omega) (by first | exact Nat.le_of_ble_eq_true rfl | omega) ?_
    exact hQ _ _ (by omega) (by omega) (by assumption)

set_option maxRecDepth 100000 in
theorem s_X7_lower {w : sg_W} {Q : sg_O → sg_H → Prop} {h : sg_H} (g : sg_G w) {d : Nat} (hd : 9 ≤ d) {M : Nat} {x c : Int}  (hx : md_M w h M) (hQ : ∀ (v : Int) (h' : sg_H), ((x < 0 ∨ 255 < x) → md_t h' M = 1) → (¬ (x < 0 ∨ 255 < x) → md_t h' M = 0 ∧ v = fn_lower x) → md_Y w h h' M → Q (.inl (some (sg_i v))) h') : sg_C w mi_X7_lower d 0 0 [sg_r M, sg_i x, sg_i c] h Q := by
  refine sg_of pn_X7 (Nat.le_of_ble_eq_true rfl) ?_
  have y0 := md_Y0 hx
  have hk := hx.2.1
  refine sg_aload_n (pc := 0) (j := 0) (dc_X7_lower_0.1.1.1.1) rfl rfl ?_
  refine sg_iload_n (pc := 1) (j := 1) (dc_X7_lower_0.1.1.1.2) rfl rfl ?_
  refine sg_cS1 (pc := 2) (d' := d - 1) (mc' := 0) (ms' := 0) g (dc_X7_lower_0.1.1.2.1) cb_X7_isSign ml_X7_65 ms_X7_isSign (Nat.le_of_ble_eq_true rfl) (by first | exact jl_d0 hd rfl | omega) (by first | exact Nat.le_of_ble_eq_true rfl | omega) (by first | exact Nat.le_of_ble_eq_true rfl | omega) ?_
  refine s_X7_isSign g (by first | exact jl_d1 hd rfl | omega) (fun z2 h2 b2 => sg_K1 ?_)
  (try simp only [fm_no, fm_one, fn_betw, fn_sign, fn_radix, fn_high, fn_low] at h2)
  refine sg_if_ne (pc := 5) (tgt := 12) (dc_X7_lower_0.1.1.2.2) (by decide) (fun c5 => ?_) (fun c5 => ?_)
  · refine sg_iconst (pc := 12) (z := 0) (dc_X7_lower_0.1.2.2.1) (by decide) ?_
    refine sg_iconst (pc := 13) (z := 1) (dc_X7_lower_0.1.2.2.2) (by decide) ?_
    refine sg_cE2 (pc := 14) (d' := d - 1) (mc' := 0) (ms' := 0) 8 g (dc_X7_lower_0.2.1.1.1) cb_X7_start ml_X7_71 mn_X7_start rfl mv_X7_start (Nat.le_of_ble_eq_true rfl) (md_oc (by assumption)) (Nat.le_of_ble_eq_true rfl) (by first | exact jl_d0 hd rfl | omega) (by first | exact Nat.le_of_ble_eq_true rfl | omega) (by first | exact Nat.le_of_ble_eq_true rfl | omega) ?_
    refine s_X7_start g (by first | exact jl_d1 hd rfl | omega) (by omega) (by assumption) (fun v14 h14 b14 i14 t14 s14 u14 y14 => sg_K1 ?_)
    have x14 := y14.1
    have hk14 := x14.2.1
    have y14 := md_Yt (h0 := h) (by assumption) y14
    refine sg_if_eq (pc := 17) (tgt := 24) (dc_X7_lower_0.2.1.1.2) (by decide) (fun c17 => ?_) (fun c17 => absurd c17 (by omega))
    refine sg_iload_n (pc := 24) (j := 1) (dc_X7_lower_0.2.2.1.1) rfl rfl ?_
    refine sg_cS1 (pc := 25) (d' := d - 1) (mc' := 0) (ms' := 0) g (dc_X7_lower_0.2.2.1.2) cb_X7_lowerOf ml_X7_89 ms_X7_lowerOf (Nat.le_of_ble_eq_true rfl) (by first | exact jl_d0 hd rfl | omega) (by first | exact Nat.le_of_ble_eq_true rfl | omega) (by first | exact Nat.le_of_ble_eq_true rfl | omega) ?_
    refine s_X7_lowerOf g (by first | exact jl_d1 hd rfl | omega) (by assumption) (fun z25 e25 => sg_K1 ?_)
    refine sg_iret (pc := 28) (dc_X7_lower_0.2.2.2.1) rfl (by first | exact Nat.le_of_ble_eq_true rfl | omega) (by first | exact Nat.le_of_ble_eq_true rfl | omega) ?_
    exact hQ _ _ (by omega) (by omega) (by assumption)
  · refine sg_iconst (pc := 8) (z := 1) (dc_X7_lower_0.1.2.1.1) (by decide) ?_
    refine sg_goto (pc := 9) (tgt := 13) (dc_X7_lower_0.1.2.1.2) (by decide) ?_
    refine sg_iconst (pc := 13) (z := 1) (dc_X7_lower_0.1.2.2.2) (by decide) ?_
    refine sg_cE2 (pc := 14) (d' := d - 1) (mc' := 0) (ms' := 0) 8 g (dc_X7_lower_0.2.1.1.1) cb_X7_start ml_X7_71 mn_X7_start rfl mv_X7_start (Nat.le_of_ble_eq_true rfl) (md_oc (by assumption)) (Nat.le_of_ble_eq_true rfl) (by first | exact jl_d0 hd rfl | omega) (by first | exact Nat.le_of_ble_eq_true rfl | omega) (by first | exact Nat.le_of_ble_eq_true rfl | omega) ?_
    refine s_X7_start g (by first | exact jl_d1 hd rfl | omega) (by omega) (by assumption) (fun v14 h14 b14 i14 t14 s14 u14 y14 => sg_K1 ?_)
    have x14 := y14.1
    have hk14 := x14.2.1
    have y14 := md_Yt (h0 := h) (by assumption) y14
    refine sg_if_eq (pc := 17) (tgt := 24) (dc_X7_lower_0.2.1.1.2) (by decide) (fun c17 => absurd c17 (by omega)) (fun c17 => ?_)
    refine sg_iconst (pc := 20) (z := 0) (dc_X7_lower_0.2.1.2.1) (by decide) ?_
    refine sg_goto (pc := 21) (tgt := 28) (dc_X7_lower_0.2.1.2.2) (by decide) ?_
    refine sg_iret (pc := 28) (dc_X7_lower_0.2.2.2.1) rfl (by first | exact Nat.le_of_ble_eq_true rfl | omega) (by first | exact Nat.le_of_ble_eq_true rfl | omega) ?_
    exact hQ _ _ (by omega) (by omega) (by assumption)

set_option maxRecDepth 100000 in
theorem s_X7_value {w : sg_W} {Q : sg_O → sg_H → Prop} {h : sg_H} (g : sg_G w) {d : Nat} (hd : 9 ≤ d) {M : Nat} {x c : Int}  (hx : md_M w h M) (hQ : ∀ (v : Int) (h' : sg_H), ((x < 0 ∨ 255 < x) → md_t h' M = 1) → (¬ (x < 0 ∨ 255 < x) → md_t h' M = 0 ∧ v = fn_val x) → md_Y w h h' M → Q (.inl (some (sg_i v))) h') : sg_C w mi_X7_value d 0 0 [sg_r M, sg_i x, sg_i c] h Q := by
  refine sg_of pn_X7 (Nat.le_of_ble_eq_true rfl) ?_
  have y0 := md_Y0 hx
  have hk := hx.2.1
  refine sg_aload_n (pc := 0) (j := 0) (dc_X7_value_0.1.1.1.1) rfl rfl ?_
  refine sg_iload_n (pc := 1) (j := 1) (dc_X7_value_0.1.1.1.2) rfl rfl ?_
  refine sg_cS1 (pc := 2) (d' := d - 1) (mc' := 0) (ms' := 0) g (dc_X7_value_0.1.1.2.1) cb_X7_isSign ml_X7_65 ms_X7_isSign (Nat.le_of_ble_eq_true rfl) (by first | exact jl_d0 hd rfl | omega) (by first | exact Nat.le_of_ble_eq_true rfl | omega) (by first | exact Nat.le_of_ble_eq_true rfl | omega) ?_
  refine s_X7_isSign g (by first | exact jl_d1 hd rfl | omega) (fun z2 h2 b2 => sg_K1 ?_)
  (try simp only [fm_no, fm_one, fn_betw, fn_sign, fn_radix, fn_high, fn_low] at h2)
  refine sg_if_ne (pc := 5) (tgt := 12) (dc_X7_value_0.1.1.2.2) (by decide) (fun c5 => ?_) (fun c5 => ?_)
  · refine sg_iconst (pc := 12) (z := 0) (dc_X7_value_0.1.2.2.1) (by decide) ?_
    refine sg_iconst (pc := 13) (z := 1) (dc_X7_value_0.1.2.2.2) (by decide) ?_
    refine sg_cE2 (pc := 14) (d' := d - 1) (mc' := 0) (ms' := 0) 8 g (dc_X7_value_0.2.1.1.1) cb_X7_start ml_X7_71 mn_X7_start rfl mv_X7_start (Nat.le_of_ble_eq_true rfl) (md_oc (by assumption)) (Nat.le_of_ble_eq_true rfl) (by first | exact jl_d0 hd rfl | omega) (by first | exact Nat.le_of_ble_eq_true rfl | omega) (by first | exact Nat.le_of_ble_eq_true rfl | omega) ?_
    refine s_X7_start g (by first | exact jl_d1 hd rfl | omega) (by omega) (by assumption) (fun v14 h14 b14 i14 t14 s14 u14 y14 => sg_K1 ?_)
    have x14 := y14.1
    have hk14 := x14.2.1
    have y14 := md_Yt (h0 := h) (by assumption) y14
    refine sg_if_eq (pc := 17) (tgt := 24) (dc_X7_value_0.2.1.1.2) (by decide) (fun c17 => ?_) (fun c17 => absurd c17 (by omega))
    refine sg_iload_n (pc := 24) (j := 1) (dc_X7_value_0.2.2.1.1) rfl rfl ?_
    refine sg_cS1 (pc := 25) (d' := d - 1) (mc' := 0) (ms' := 0) g (dc_X7_value_0.2.2.1.2) cb_X7_valueOf ml_X7_33 ms_X7_valueOf (Nat.le_of_ble_eq_true rfl) (by first | exact jl_d0 hd rfl | omega) (by first | exact Nat.le_of_ble_eq_true rfl | omega) (by first | exact Nat.le_of_ble_eq_true rfl | omega) ?_
    refine s_X7_valueOf g (by first | exact jl_d1 hd rfl | omega) (fun z25 h25 => sg_K1 ?_)
    (try simp only [fm_no, fm_one, fn_betw, fn_sign, fn_radix, fn_high, fn_low] at h25)
    refine sg_iret (pc := 28) (dc_X7_value_0.2.2.2.1) rfl (by first | exact Nat.le_of_ble_eq_true rfl | omega) (by first | exact Nat.le_of_ble_eq_true rfl | omega) ?_
    exact hQ _ _ (by omega) (by omega) (by assumption)
  · refine sg_iconst (pc := 8) (z := 1) (dc_X7_value_0.1.2.1.1) (by decide) ?_
    refine sg_goto (pc := 9) (tgt := 13) (dc_X7_value_0.1.2.1.2) (by decide) ?_
    refine sg_iconst (pc := 13) (z := 1) (dc_X7_value_0.1.2.2.2) (by decide) ?_
    refine sg_cE2 (pc := 14) (d' := d - 1) (mc' := 0) (ms' := 0) 8 g (dc_X7_value_0.2.1.1.1) cb_X7_start ml_X7_71 mn_X7_start rfl mv_X7_start (Nat.le_of_ble_eq_true rfl) (md_oc (by assumption)) (Nat.le_of_ble_eq_true rfl) (by first | exact jl_d0 hd rfl | omega) (by first | exact Nat.le_of_ble_eq_true rfl | omega) (by first | exact Nat.le_of_ble_eq_true rfl | omega) ?_
    refine s_X7_start g (by first | exact jl_d1 hd rfl | omega) (by omega) (by assumption) (fun v14 h14 b14 i14 t14 s14 u14 y14 => sg_K1 ?_)
    have x14 := y14.1
    have hk14 := x14.2.1
    have y14 := md_Yt (h0 := h) (by assumption) y14
    refine sg_if_eq (pc := 17) (tgt := 24) (dc_X7_value_0.2.1.1.2) (by decide) (fun c17 => absurd c17 (by omega)) (fun c17 => ?_)
    refine sg_iconst (pc := 20) (z := 0) (dc_X7_value_0.2.1.2.1) (by decide) ?_
    refine sg_goto (pc := 21) (tgt := 28) (dc_X7_value_0.2.1.2.2) (by decide) ?_
    refine sg_iret (pc := 28) (dc_X7_value_0.2.2.2.1) rfl (by first | exact Nat.le_of_ble_eq_true rfl | omega) (by first | exact Nat.le_of_ble_eq_true rfl | omega) ?_
    exact hQ _ _ (by omega) (by omega) (by assumption)

set_option maxRecDepth 100000 in
theorem s_X7_number {w : sg_W} {Q : sg_O → sg_H → Prop} {h : sg_H} (g : sg_G w) {d : Nat} (hd : 9 ≤ d) {M : Nat} {x r c : Int}  (hx : md_M w h M) (hQ : ∀ (v : Int) (h' : sg_H), ((x < 0 ∨ 255 < x) → md_t h' M = 1) → (¬ (x < 0 ∨ 255 < x) → md_t h' M = 0 ∧ v = fn_num x r) → md_Y w h h' M → Q (.inl (some (sg_i v))) h') : sg_C w mi_X7_number d 0 0 [sg_r M, sg_i x, sg_i r, sg_i c] h Q := by
  refine sg_of pn_X7 (Nat.le_of_ble_eq_true rfl) ?_
  have y0 := md_Y0 hx
  have hk := hx.2.1
  refine sg_aload_n (pc := 0) (j := 0) (dc_X7_number_0.1.1.1.1) rfl rfl ?_
  refine sg_iload_n (pc := 1) (j := 1) (dc_X7_number_0.1.1.1.2) rfl rfl ?_
  refine sg_cS1 (pc := 2) (d' := d - 1) (mc' := 0) (ms' := 0) g (dc_X7_number_0.1.1.2.1) cb_X7_isSign ml_X7_65 ms_X7_isSign (Nat.le_of_ble_eq_true rfl) (by first | exact jl_d0 hd rfl | omega) (by first | exact Nat.le_of_ble_eq_true rfl | omega) (by first | exact Nat.le_of_ble_eq_true rfl | omega) ?_
  refine s_X7_isSign g (by first | exact jl_d1 hd rfl | omega) (fun z2 h2 b2 => sg_K1 ?_)
  (try simp only [fm_no, fm_one, fn_betw, fn_sign, fn_radix, fn_high, fn_low] at h2)
  refine sg_if_ne (pc := 5) (tgt := 12) (dc_X7_number_0.1.1.2.2) (by decide) (fun c5 => ?_) (fun c5 => ?_)
  · refine sg_iconst (pc := 12) (z := 0) (dc_X7_number_0.1.2.2.1) (by decide) ?_
    refine sg_iconst (pc := 13) (z := 1) (dc_X7_number_0.1.2.2.2) (by decide) ?_
    refine sg_cE2 (pc := 14) (d' := d - 1) (mc' := 0) (ms' := 0) 8 g (dc_X7_number_0.2.1.1.1) cb_X7_start ml_X7_71 mn_X7_start rfl mv_X7_start (Nat.le_of_ble_eq_true rfl) (md_oc (by assumption)) (Nat.le_of_ble_eq_true rfl) (by first | exact jl_d0 hd rfl | omega) (by first | exact Nat.le_of_ble_eq_true rfl | omega) (by first | exact Nat.le_of_ble_eq_true rfl | omega) ?_
    refine s_X7_start g (by first | exact jl_d1 hd rfl | omega) (by omega) (by assumption) (fun v14 h14 b14 i14 t14 s14 u14 y14 => sg_K1 ?_)
    have x14 := y14.1
    have hk14 := x14.2.1
    have y14 := md_Yt (h0 := h) (by assumption) y14
    refine sg_if_eq (pc := 17) (tgt := 24) (dc_X7_number_0.2.1.1.2) (by decide) (fun c17 => ?_) (fun c17 => absurd c17 (by omega))
    refine sg_iload_n (pc := 24) (j := 1) (dc_X7_number_0.2.2.1.1) rfl rfl ?_
    refine sg_iload_n (pc := 25) (j := 2) (dc_X7_number_0.2.2.1.2) rfl rfl ?_
    refine sg_cS2 (pc := 26) (d' := d - 1) (mc' := 0) (ms' := 0) g (dc_X7_number_0.2.2.2.1) cb_X7_numberOf ml_X7_115 ms_X7_numberOf (Nat.le_of_ble_eq_true rfl) (by first | exact jl_d0 hd rfl | omega) (by first | exact Nat.le_of_ble_eq_true rfl | omega) (by first | exact Nat.le_of_ble_eq_true rfl | omega) ?_
    refine s_X7_numberOf g (by first | exact jl_d1 hd rfl | omega) (fun z26 h26 => sg_K1 ?_)
    (try simp only [fm_no, fm_one, fn_betw, fn_sign, fn_radix, fn_high, fn_low] at h26)
    refine sg_iret (pc := 29) (dc_X7_number_0.2.2.2.2) rfl (by first | exact Nat.le_of_ble_eq_true rfl | omega) (by first | exact Nat.le_of_ble_eq_true rfl | omega) ?_
    exact hQ _ _ (by omega) (by omega) (by assumption)
  · refine sg_iconst (pc := 8) (z := 1) (dc_X7_number_0.1.2.1.1) (by decide) ?_
    refine sg_goto (pc := 9) (tgt := 13) (dc_X7_number_0.1.2.1.2) (by decide) ?_
    refine sg_iconst (pc := 13) (z := 1) (dc_X7_number_0.1.2.2.2) (by decide) ?_
    refine sg_cE2 (pc := 14) (d' := d - 1) (mc' := 0) (ms' := 0) 8 g (dc_X7_number_0.2.1.1.1) cb_X7_start ml_X7_71 mn_X7_start rfl mv_X7_start (Nat.le_of_ble_eq_true rfl) (md_oc (by assumption)) (Nat.le_of_ble_eq_true rfl) (by first | exact jl_d0 hd rfl | omega) (by first | exact Nat.le_of_ble_eq_true rfl | omega) (by first | exact Nat.le_of_ble_eq_true rfl | omega) ?_
    refine s_X7_start g (by first | exact jl_d1 hd rfl | omega) (by omega) (by assumption) (fun v14 h14 b14 i14 t14 s14 u14 y14 => sg_K1 ?_)
    have x14 := y14.1
    have hk14 := x14.2.1
    have y14 := md_Yt (h0 := h) (by assumption) y14
    refine sg_if_eq (pc := 17) (tgt := 24) (dc_X7_number_0.2.1.1.2) (by decide) (fun c17 => absurd c17 (by omega)) (fun c17 => ?_)
    refine sg_iconst (pc := 20) (z := 0) (dc_X7_number_0.2.1.2.1) (by decide) ?_
    refine sg_goto (pc := 21) (tgt := 29) (dc_X7_number_0.2.1.2.2) (by decide) ?_
    refine sg_iret (pc := 29) (dc_X7_number_0.2.2.2.2) rfl (by first | exact Nat.le_of_ble_eq_true rfl | omega) (by first | exact Nat.le_of_ble_eq_true rfl | omega) ?_
    exact hQ _ _ (by omega) (by omega) (by assumption)

set_option maxRecDepth 100000 in
theorem s_X7_length {w : sg_W} {Q : sg_O → sg_H → Prop} {h : sg_H} (g : sg_G w) {d : Nat} (hd : 9 ≤ d) {M : Nat} {row : Int}  (hx : md_M w h M) (hQ : ∀ (v : Int) (h' : sg_H), md_Y w h h' M → Q (.inl (some (sg_i v))) h') : sg_C w mi_X7_length d 0 0 [sg_r M, sg_i row] h Q := by
  refine sg_of pn_X7 (Nat.le_of_ble_eq_true rfl) ?_
  have y0 := md_Y0 hx
  have hk := hx.2.1
  refine sg_aload_n (pc := 0) (j := 0) (dc_X7_length_0.1.1.1.1) rfl rfl ?_
  refine sg_iload_n (pc := 1) (j := 1) (dc_X7_length_0.1.1.1.2) rfl rfl ?_
  refine sg_cS1 (pc := 2) (d' := d - 1) (mc' := 0) (ms' := 0) g (dc_X7_length_0.1.1.2.1) cb_X7_isNoRow ml_X7_68 ms_X7_isNoRow (Nat.le_of_ble_eq_true rfl) (by first | exact jl_d0 hd rfl | omega) (by first | exact Nat.le_of_ble_eq_true rfl | omega) (by first | exact Nat.le_of_ble_eq_true rfl | omega) ?_
  refine s_X7_isNoRow g (by first | exact jl_d1 hd rfl | omega) (fun z2 h2 b2 => sg_K1 ?_)
  (try simp only [fm_no, fm_one, fn_betw, fn_sign, fn_radix, fn_high, fn_low] at h2)
  refine sg_iconst (pc := 5) (z := 1) (dc_X7_length_0.1.1.2.2) (by decide) ?_
  refine sg_cE2 (pc := 6) (d' := d - 1) (mc' := 0) (ms' := 0) 8 g (dc_X7_length_0.1.2.1.1) cb_X7_start ml_X7_71 mn_X7_start rfl mv_X7_start (Nat.le_of_ble_eq_true rfl) (md_oc (by assumption)) (Nat.le_of_ble_eq_true rfl) (by first | exact jl_d0 hd rfl | omega) (by first | exact Nat.le_of_ble_eq_true rfl | omega) (by first | exact Nat.le_of_ble_eq_true rfl | omega) ?_
  refine s_X7_start g (by first | exact jl_d1 hd rfl | omega) (by omega) (by assumption) (fun v6 h6 b6 i6 t6 s6 u6 y6 => sg_K1 ?_)
  have x6 := y6.1
  have hk6 := x6.2.1
  have y6 := md_Yt (h0 := h) (by assumption) y6
  refine sg_if_eq (pc := 9) (tgt := 16) (dc_X7_length_0.1.2.1.2) (by decide) (fun c9 => ?_) (fun c9 => ?_)
  · refine sg_aload_n (pc := 16) (j := 0) (dc_X7_length_0.2.1.1.1) rfl rfl ?_
    refine md_grw (pc := 17) g (dc_X7_length_0.2.1.1.2) fk_X7_9 (by assumption) (fun r17 => ?_)
    refine sg_iload_n (pc := 20) (j := 1) (dc_X7_length_0.2.1.2.1) rfl rfl ?_
    first | refine md_alr (pc := 21) (dc_X7_length_0.2.1.2.2) (by assumption) (by omega) (by omega) (fun A21 l21 => ?_) | refine md_alt (pc := 21) (dc_X7_length_0.2.1.2.2) (by assumption) (by omega) (by omega) (fun A21 l21 => ?_)
    refine md_len (pc := 22) (dc_X7_length_0.2.2.1.1) (by assumption) (by omega) ?_
    refine sg_iret (pc := 23) (dc_X7_length_0.2.2.1.2) rfl (by first | exact Nat.le_of_ble_eq_true rfl | omega) (by first | exact Nat.le_of_ble_eq_true rfl | omega) ?_
    exact hQ _ _ (by assumption)
  · refine sg_iconst (pc := 12) (z := 0) (dc_X7_length_0.1.2.2.1) (by decide) ?_
    refine sg_goto (pc := 13) (tgt := 23) (dc_X7_length_0.1.2.2.2) (by decide) ?_
    refine sg_iret (pc := 23) (dc_X7_length_0.2.2.1.2) rfl (by first | exact Nat.le_of_ble_eq_true rfl | omega) (by first | exact Nat.le_of_ble_eq_true rfl | omega) ?_
    exact hQ _ _ (by assumption)

set_option maxRecDepth 100000 in
theorem s_X7_at {w : sg_W} {Q : sg_O → sg_H → Prop} {h : sg_H} (g : sg_G w) {d : Nat} (hd : 9 ≤ d) {M : Nat} {row p : Int}  (hx : md_M w h M) (hQ : ∀ (v : Int) (h' : sg_H), md_Y w h h' M → Q (.inl (some (sg_i v))) h') : sg_C w mi_X7_at d 0 0 [sg_r M, sg_i row, sg_i p] h Q := by
  refine sg_of pn_X7 (Nat.le_of_ble_eq_true rfl) ?_
  have y0 := md_Y0 hx
  have hk := hx.2.1
  refine sg_aload_n (pc := 0) (j := 0) (dc_X7_at_0.1.1.1.1) rfl rfl ?_
  refine sg_iload_n (pc := 1) (j := 1) (dc_X7_at_0.1.1.1.2) rfl rfl ?_
  refine sg_cS1 (pc := 2) (d' := d - 1) (mc' := 0) (ms' := 0) g (dc_X7_at_0.1.1.2.1) cb_X7_isNoRow ml_X7_68 ms_X7_isNoRow (Nat.le_of_ble_eq_true rfl) (by first | exact jl_d0 hd rfl | omega) (by first | exact Nat.le_of_ble_eq_true rfl | omega) (by first | exact Nat.le_of_ble_eq_true rfl | omega) ?_
  refine s_X7_isNoRow g (by first | exact jl_d1 hd rfl | omega) (fun z2 h2 b2 => sg_K1 ?_)
  (try simp only [fm_no, fm_one, fn_betw, fn_sign, fn_radix, fn_high, fn_low] at h2)
  refine sg_if_ne (pc := 5) (tgt := 25) (dc_X7_at_0.1.1.2.2) (by decide) (fun c5 => ?_) (fun c5 => ?_)
  · refine sg_iconst (pc := 25) (z := 1) (dc_X7_at_0.2.2.2.2) (by decide) ?_
    refine sg_goto (pc := 26) (tgt := 30) (dc_X7_at_26.1.1.1.1) (by decide) ?_
    refine sg_iconst (pc := 30) (z := 1) (dc_X7_at_26.1.1.2.1) (by decide) ?_
    refine sg_cE2 (pc := 31) (d' := d - 1) (mc' := 0) (ms' := 0) 8 g (dc_X7_at_26.1.1.2.2) cb_X7_start ml_X7_71 mn_X7_start rfl mv_X7_start (Nat.le_of_ble_eq_true rfl) (md_oc (by assumption)) (Nat.le_of_ble_eq_true rfl) (by first | exact jl_d0 hd rfl | omega) (by first | exact Nat.le_of_ble_eq_true rfl | omega) (by first | exact Nat.le_of_ble_eq_true rfl | omega) ?_
    refine s_X7_start g (by first | exact jl_d1 hd rfl | omega) (by omega) (by assumption) (fun v31 h31 b31 i31 t31 s31 u31 y31 => sg_K1 ?_)
    have x31 := y31.1
    have hk31 := x31.2.1
    have y31 := md_Yt (h0 := h) (by assumption) y31
    refine sg_if_eq (pc := 34) (tgt := 41) (dc_X7_at_26.1.2.1.1) (by decide) (fun c34 => absurd c34 (by omega)) (fun c34 => ?_)
    refine sg_iconst (pc := 37) (z := 0) (dc_X7_at_26.1.2.1.2) (by decide) ?_
    refine sg_goto (pc := 38) (tgt := 49) (dc_X7_at_26.1.2.2.1) (by decide) ?_
    refine sg_iret (pc := 49) (dc_X7_at_26.2.2.1.2) rfl (by first | exact Nat.le_of_ble_eq_true rfl | omega) (by first | exact Nat.le_of_ble_eq_true rfl | omega) ?_
    exact hQ _ _ (by assumption)
  · refine sg_iload_n (pc := 8) (j := 2) (dc_X7_at_0.1.2.1.1) rfl rfl ?_
    refine sg_iconst (pc := 9) (z := 0) (dc_X7_at_0.1.2.1.2) (by decide) ?_
    refine sg_aload_n (pc := 10) (j := 0) (dc_X7_at_0.1.2.2.1) rfl rfl ?_
    refine md_grw (pc := 11) g (dc_X7_at_0.1.2.2.2) fk_X7_9 (by assumption) (fun r11 => ?_)
    refine sg_iload_n (pc := 14) (j := 1) (dc_X7_at_0.2.1.1.1) rfl rfl ?_
    first | refine md_alr (pc := 15) (dc_X7_at_0.2.1.1.2) (by assumption) (by omega) (by omega) (fun A15 l15 => ?_) | refine md_alt (pc := 15) (dc_X7_at_0.2.1.1.2) (by assumption) (by omega) (by omega) (fun A15 l15 => ?_)
    refine md_len (pc := 16) (dc_X7_at_0.2.1.2.1) (by assumption) (by omega) ?_
    refine sg_iconst (pc := 17) (z := 1) (dc_X7_at_0.2.1.2.2) (by decide) ?_
    first | refine sg_isubB (pc := 18) (dc_X7_at_0.2.2.1.1) (by omega) (by omega) ?_ | refine sg_isub (pc := 18) (dc_X7_at_0.2.2.1.1) ?_
    refine sg_cS3 (pc := 19) (d' := d - 1) (mc' := 0) (ms' := 0) g (dc_X7_at_0.2.2.1.2) cb_X7_isOf ml_X7_22 ms_X7_isOf (Nat.le_of_ble_eq_true rfl) (by first | exact jl_d0 hd rfl | omega) (by first | exact Nat.le_of_ble_eq_true rfl | omega) (by first | exact Nat.le_of_ble_eq_true rfl | omega) ?_
    refine s_X7_isOf g (by first | exact jl_d1 hd rfl | omega) (fun z19 h19 b19 => sg_K1 ?_)
    (try simp only [fm_no, fm_one, fn_betw, fn_sign, fn_radix, fn_high, fn_low] at h19)
    refine sg_if_ne (pc := 22) (tgt := 29) (dc_X7_at_0.2.2.2.1) (by decide) (fun c22 => ?_) (fun c22 => ?_)
    · refine sg_iconst (pc := 29) (z := 0) (dc_X7_at_26.1.1.1.2) (by decide) ?_
      refine sg_iconst (pc := 30) (z := 1) (dc_X7_at_26.1.1.2.1) (by decide) ?_
      refine sg_cE2 (pc := 31) (d' := d - 1) (mc' := 0) (ms' := 0) 8 g (dc_X7_at_26.1.1.2.2) cb_X7_start ml_X7_71 mn_X7_start rfl mv_X7_start (Nat.le_of_ble_eq_true rfl) (md_oc (by assumption)) (Nat.le_of_ble_eq_true rfl) (by first | exact jl_d0 hd rfl | omega) (by first | exact Nat.le_of_ble_eq_true rfl | omega) (by first | exact Nat.le_of_ble_eq_true rfl | omega) ?_
      refine s_X7_start g (by first | exact jl_d1 hd rfl | omega) (by omega) (by assumption) (fun v31 h31 b31 i31 t31 s31 u31 y31 => sg_K1 ?_)
      have x31 := y31.1
      have hk31 := x31.2.1
      have y31 := md_Yt (h0 := h) (by assumption) y31
      refine sg_if_eq (pc := 34) (tgt := 41) (dc_X7_at_26.1.2.1.1) (by decide) (fun c34 => ?_) (fun c34 => absurd c34 (by omega))
      have s41 := s31 row
      refine sg_aload_n (pc := 41) (j := 0) (dc_X7_at_26.1.2.2.2) rfl rfl ?_
      refine md_grw (pc := 42) g (dc_X7_at_26.2.1.1.1) fk_X7_9 (by assumption) (fun r42 => ?_)
      refine sg_iload_n (pc := 45) (j := 1) (dc_X7_at_26.2.1.1.2) rfl rfl ?_
      first | refine md_alr (pc := 46) (dc_X7_at_26.2.1.2.1) (by assumption) (by omega) (by omega) (fun A46 l46 => ?_) | refine md_alt (pc := 46) (dc_X7_at_26.2.1.2.1) (by assumption) (by omega) (by omega) (fun A46 l46 => ?_)
      refine sg_iload_n (pc := 47) (j := 2) (dc_X7_at_26.2.1.2.2) rfl rfl ?_
      refine md_ald (pc := 48) (dc_X7_at_26.2.2.1.1) (by assumption) (by omega) (by omega) (fun x48 g48 => ?_)
      try have q48 := ck_v1.mp g48
      refine sg_iret (pc := 49) (dc_X7_at_26.2.2.1.2) rfl (by first | exact Nat.le_of_ble_eq_true rfl | omega) (by first | exact Nat.le_of_ble_eq_true rfl | omega) ?_
      exact hQ _ _ (by assumption)
    · refine sg_iconst (pc := 25) (z := 1) (dc_X7_at_0.2.2.2.2) (by decide) ?_
      refine sg_goto (pc := 26) (tgt := 30) (dc_X7_at_26.1.1.1.1) (by decide) ?_
      refine sg_iconst (pc := 30) (z := 1) (dc_X7_at_26.1.1.2.1) (by decide) ?_
      refine sg_cE2 (pc := 31) (d' := d - 1) (mc' := 0) (ms' := 0) 8 g (dc_X7_at_26.1.1.2.2) cb_X7_start ml_X7_71 mn_X7_start rfl mv_X7_start (Nat.le_of_ble_eq_true rfl) (md_oc (by assumption)) (Nat.le_of_ble_eq_true rfl) (by first | exact jl_d0 hd rfl | omega) (by first | exact Nat.le_of_ble_eq_true rfl | omega) (by first | exact Nat.le_of_ble_eq_true rfl | omega) ?_
      refine s_X7_start g (by first | exact jl_d1 hd rfl | omega) (by omega) (by assumption) (fun v31 h31 b31 i31 t31 s31 u31 y31 => sg_K1 ?_)
      have x31 := y31.1
      have hk31 := x31.2.1
      have y31 := md_Yt (h0 := h) (by assumption) y31
      refine sg_if_eq (pc := 34) (tgt := 41) (dc_X7_at_26.1.2.1.1) (by decide) (fun c34 => absurd c34 (by omega)) (fun c34 => ?_)
      refine sg_iconst (pc := 37) (z := 0) (dc_X7_at_26.1.2.1.2) (by decide) ?_
      refine sg_goto (pc := 38) (tgt := 49) (dc_X7_at_26.1.2.2.1) (by decide) ?_
      refine sg_iret (pc := 49) (dc_X7_at_26.2.2.1.2) rfl (by first | exact Nat.le_of_ble_eq_true rfl | omega) (by first | exact Nat.le_of_ble_eq_true rfl | omega) ?_
      exact hQ _ _ (by assumption)

set_option maxRecDepth 100000 in
theorem s_X7_countOf {w : sg_W} {Q : sg_O → sg_H → Prop} {h : sg_H} (g : sg_G w) {d : Nat} (hd : 6 ≤ d) {M : Nat} {row y : Int} (hv : 0 ≤ row ∧ row < 4 ∧ 0 ≤ y ∧ y ≤ 4) (hx : md_M w h M) (hQ : ∀ v : Int, Q (.inl (some (sg_i v))) h) : sg_C w mi_X7_countOf d 0 0 [sg_r M, sg_i row, sg_i y] h Q := by
  refine sg_of pn_X7 (Nat.le_of_ble_eq_true rfl) ?_
  have y0 := md_Y0 hx
  have hk := hx.2.1
  refine sg_iconst (pc := 0) (z := 0) (dc_X7_countOf_0.1.1.1.1) (by decide) ?_
  refine sg_istore_n (pc := 1) (j := 3) (dc_X7_countOf_0.1.1.1.2) rfl (by decide) ?_
  refine sg_aload_n (pc := 2) (j := 0) (dc_X7_countOf_0.1.1.2.1) rfl rfl ?_
  refine md_grw (pc := 3) g (dc_X7_countOf_0.1.1.2.2) fk_X7_9 (by assumption) (fun r3 => ?_)
  refine sg_iload_n (pc := 6) (j := 1) (dc_X7_countOf_0.1.2.1.1) rfl rfl ?_
  first | refine md_alr (pc := 7) (dc_X7_countOf_0.1.2.1.2) (by assumption) (by omega) (by omega) (fun A7 l7 => ?_) | refine md_alt (pc := 7) (dc_X7_countOf_0.1.2.1.2) (by assumption) (by omega) (by omega) (fun A7 l7 => ?_)
  refine sg_astore (pc := 8) (dc_X7_countOf_0.1.2.2.1) (by decide) ?_
  refine sg_aload (pc := 10) (dc_X7_countOf_0.1.2.2.2) rfl ?_
  refine md_len (pc := 12) (dc_X7_countOf_0.2.1.1.1) (by assumption) (by omega) ?_
  refine sg_istore (pc := 13) (dc_X7_countOf_0.2.1.1.2) (by decide) ?_
  refine sg_iconst (pc := 15) (z := 0) (dc_X7_countOf_0.2.1.2.1) (by decide) ?_
  refine sg_istore (pc := 16) (dc_X7_countOf_0.2.1.2.2) (by decide) ?_
  have loop18 : ∀ (N : Nat) (p s : Int), (0 ≤ p) → (((md_n h (md_a h (md_r h M) row)) : Int) - p).toNat < N → sg_R w mi_X7_countOf d 0 0 Q 18 [(6, sg_i p), (3, sg_i s), (0, sg_r M), (1, sg_i row), (2, sg_i y), (4, sg_r (md_a h (md_r h M) row)), (5, sg_i ((md_n h (md_a h (md_r h M) row)) : Int))] [] h 0 0 := by
    intro N
    induction N with
    | zero => intro p s p0 hm; exact absurd hm (Nat.not_lt_zero _)
    | succ N ih =>
      intro p s p0 hm
      refine sg_iload (pc := 18) (dc_X7_countOf_0.2.2.1.1) rfl ?_
      refine sg_iload (pc := 20) (dc_X7_countOf_0.2.2.1.2) rfl ?_
      refine sg_icmp_ge (pc := 22) (tgt := 50) (dc_X7_countOf_0.2.2.2.1) (by decide) (fun c22 => ?_) (fun c22 => ?_)
      · refine sg_iload_n (pc := 50) (j := 3) (dc_X7_countOf_27.2.2.1.1) rfl rfl ?_
        refine sg_iret (pc := 51) (dc_X7_countOf_27.2.2.1.2) rfl (by first | exact Nat.le_of_ble_eq_true rfl | omega) (by first | exact Nat.le_of_ble_eq_true rfl | omega) ?_
        exact hQ _
      · refine sg_aload (pc := 25) (dc_X7_countOf_0.2.2.2.2) rfl ?_
        refine sg_iload (pc := 27) (dc_X7_countOf_27.1.1.1.1) rfl ?_
        refine md_ald (pc := 29) (dc_X7_countOf_27.1.1.1.2) (by assumption) (by omega) (by omega) (fun x29 g29 => ?_)
        try have q29 := ck_v1.mp g29
        refine sg_istore (pc := 30) (dc_X7_countOf_27.1.1.2.1) (by decide) ?_
        refine sg_iload_n (pc := 32) (j := 3) (dc_X7_countOf_27.1.1.2.2) rfl rfl ?_
        refine sg_iload (pc := 33) (dc_X7_countOf_27.1.2.1.1) rfl ?_
        refine sg_iload_n (pc := 35) (j := 2) (dc_X7_countOf_27.1.2.1.2) rfl rfl ?_
        refine sg_cS2 (pc := 36) (d' := d - 1) (mc' := 0) (ms' := 0) g (dc_X7_countOf_27.1.2.2.1) cb_X7_isKind ml_X7_26 ms_X7_isKind (Nat.le_of_ble_eq_true rfl) (by first | exact jl_d0 hd rfl | omega) (by first | exact Nat.le_of_ble_eq_true rfl | omega) (by first | exact Nat.le_of_ble_eq_true rfl | omega) ?_
        refine s_X7_isKind g (by first | exact jl_d1 hd rfl | omega) (by assumption) (by omega) (by omega) (fun z36 e36 b36 => sg_K1 ?_)
        refine sg_cS1 (pc := 39) (d' := d - 1) (mc' := 0) (ms' := 0) g (dc_X7_countOf_27.1.2.2.2) cb_X7_one ml_X7_92 ms_X7_one (Nat.le_of_ble_eq_true rfl) (by first | exact jl_d0 hd rfl | omega) (by first | exact Nat.le_of_ble_eq_true rfl | omega) (by first | exact Nat.le_of_ble_eq_true rfl | omega) ?_
        refine s_X7_one g (by first | exact jl_d1 hd rfl | omega) (fun z39 h39 b39 => sg_K1 ?_)
        (try simp only [fm_no, fm_one, fn_betw, fn_sign, fn_radix, fn_high, fn_low] at h39)
        first | refine sg_iaddB (pc := 42) (dc_X7_countOf_27.2.1.1.1) (by omega) (by omega) ?_ | refine sg_iadd (pc := 42) (dc_X7_countOf_27.2.1.1.1) ?_
        refine sg_istore_n (pc := 43) (j := 3) (dc_X7_countOf_27.2.1.1.2) rfl (by decide) ?_
        first | refine sg_iincB (pc := 44) (dc_X7_countOf_27.2.1.2.1) rfl (by decide) (by decide) (by omega) (by omega) ?_ | refine sg_iinc (pc := 44) (dc_X7_countOf_27.2.1.2.1) rfl (by decide) (by decide) ?_
        refine sg_goto (pc := 47) (tgt := 18) (dc_X7_countOf_27.2.1.2.2) (by decide) ?_
        refine sg_lsub (lv' := [(6, _), (3, _), (0, _), (1, _), (2, _), (4, _), (5, _)]) ⟨rfl, rfl, rfl, rfl, rfl, rfl, rfl, trivial⟩ ?_
        exact ih _ _ (by omega) (by first | exact jl_m1 hm (by omega) | exact jl_m2 hm (by omega) | omega)
  refine sg_lsub (lv' := [(6, _), (3, _), (0, _), (1, _), (2, _), (4, _), (5, _)]) ⟨rfl, rfl, rfl, rfl, rfl, rfl, rfl, trivial⟩ ?_
  exact loop18 _ _ _ (by omega) (Nat.lt_succ_self _)

set_option maxRecDepth 100000 in
theorem s_X7_count {w : sg_W} {Q : sg_O → sg_H → Prop} {h : sg_H} (g : sg_G w) {d : Nat} (hd : 9 ≤ d) {M : Nat} {row y : Int}  (hx : md_M w h M) (hQ : ∀ (v : Int) (h' : sg_H), md_Y w h h' M → Q (.inl (some (sg_i v))) h') : sg_C w mi_X7_count d 0 0 [sg_r M, sg_i row, sg_i y] h Q := by
  refine sg_of pn_X7 (Nat.le_of_ble_eq_true rfl) ?_
  have y0 := md_Y0 hx
  have hk := hx.2.1
  refine sg_aload_n (pc := 0) (j := 0) (dc_X7_count_0.1.1.1.1) rfl rfl ?_
  refine sg_iload_n (pc := 1) (j := 1) (dc_X7_count_0.1.1.1.2) rfl rfl ?_
  refine sg_cS1 (pc := 2) (d' := d - 1) (mc' := 0) (ms' := 0) g (dc_X7_count_0.1.1.2.1) cb_X7_isNoRow ml_X7_68 ms_X7_isNoRow (Nat.le_of_ble_eq_true rfl) (by first | exact jl_d0 hd rfl | omega) (by first | exact Nat.le_of_ble_eq_true rfl | omega) (by first | exact Nat.le_of_ble_eq_true rfl | omega) ?_
  refine s_X7_isNoRow g (by first | exact jl_d1 hd rfl | omega) (fun z2 h2 b2 => sg_K1 ?_)
  (try simp only [fm_no, fm_one, fn_betw, fn_sign, fn_radix, fn_high, fn_low] at h2)
  refine sg_iconst (pc := 5) (z := 1) (dc_X7_count_0.1.1.2.2) (by decide) ?_
  refine sg_cE2 (pc := 6) (d' := d - 1) (mc' := 0) (ms' := 0) 8 g (dc_X7_count_0.1.2.1.1) cb_X7_start ml_X7_71 mn_X7_start rfl mv_X7_start (Nat.le_of_ble_eq_true rfl) (md_oc (by assumption)) (Nat.le_of_ble_eq_true rfl) (by first | exact jl_d0 hd rfl | omega) (by first | exact Nat.le_of_ble_eq_true rfl | omega) (by first | exact Nat.le_of_ble_eq_true rfl | omega) ?_
  refine s_X7_start g (by first | exact jl_d1 hd rfl | omega) (by omega) (by assumption) (fun v6 h6 b6 i6 t6 s6 u6 y6 => sg_K1 ?_)
  have x6 := y6.1
  have hk6 := x6.2.1
  have y6 := md_Yt (h0 := h) (by assumption) y6
  refine sg_if_ne (pc := 9) (tgt := 24) (dc_X7_count_0.1.2.1.2) (by decide) (fun c9 => ?_) (fun c9 => ?_)
  · refine sg_iconst (pc := 24) (z := 0) (dc_X7_count_0.2.2.1.1) (by decide) ?_
    refine sg_goto (pc := 25) (tgt := 34) (dc_X7_count_0.2.2.1.2) (by decide) ?_
    refine sg_iret (pc := 34) (dc_X7_count_30.2.1) rfl (by first | exact Nat.le_of_ble_eq_true rfl | omega) (by first | exact Nat.le_of_ble_eq_true rfl | omega) ?_
    exact hQ _ _ (by assumption)
  · refine sg_aload_n (pc := 12) (j := 0) (dc_X7_count_0.1.2.2.1) rfl rfl ?_
    refine sg_iload_n (pc := 13) (j := 2) (dc_X7_count_0.1.2.2.2) rfl rfl ?_
    refine sg_cS1 (pc := 14) (d' := d - 1) (mc' := 0) (ms' := 0) g (dc_X7_count_0.2.1.1.1) cb_X7_isNoKind ml_X7_100 ms_X7_isNoKind (Nat.le_of_ble_eq_true rfl) (by first | exact jl_d0 hd rfl | omega) (by first | exact Nat.le_of_ble_eq_true rfl | omega) (by first | exact Nat.le_of_ble_eq_true rfl | omega) ?_
    refine s_X7_isNoKind g (by first | exact jl_d1 hd rfl | omega) (fun z14 h14 b14 => sg_K1 ?_)
    (try simp only [fm_no, fm_one, fn_betw, fn_sign, fn_radix, fn_high, fn_low] at h14)
    refine sg_iconst (pc := 17) (z := 2) (dc_X7_count_0.2.1.1.2) (by decide) ?_
    refine sg_cE2 (pc := 18) (d' := d - 1) (mc' := 0) (ms' := 0) 8 g (dc_X7_count_0.2.1.2.1) cb_X7_refuse ml_X7_45 mn_X7_refuse rfl mv_X7_refuse (Nat.le_of_ble_eq_true rfl) (md_oc (by assumption)) (Nat.le_of_ble_eq_true rfl) (by first | exact jl_d0 hd rfl | omega) (by first | exact Nat.le_of_ble_eq_true rfl | omega) (by first | exact Nat.le_of_ble_eq_true rfl | omega) ?_
    refine s_X7_refuse g (by first | exact jl_d1 hd rfl | omega) (by omega) (by assumption) (fun v18 h18 b18 i18 t18 s18 u18 y18 => sg_K1 ?_)
    have x18 := y18.1
    have hk18 := x18.2.1
    have y18 := md_Yt (h0 := h) (by assumption) y18
    refine sg_if_eq (pc := 21) (tgt := 28) (dc_X7_count_0.2.1.2.2) (by decide) (fun c21 => ?_) (fun c21 => ?_)
    · refine sg_aload_n (pc := 28) (j := 0) (dc_X7_count_0.2.2.2.1) rfl rfl ?_
      refine sg_iload_n (pc := 29) (j := 1) (dc_X7_count_0.2.2.2.2) rfl rfl ?_
      refine sg_iload_n (pc := 30) (j := 2) (dc_X7_count_30.1.1) rfl rfl ?_
      refine sg_cE2 (pc := 31) (d' := d - 1) (mc' := 0) (ms' := 0) 8 g (dc_X7_count_30.1.2) cb_X7_countOf ml_X7_170 mn_X7_countOf rfl mv_X7_countOf (Nat.le_of_ble_eq_true rfl) (md_oc (by assumption)) (Nat.le_of_ble_eq_true rfl) (by first | exact jl_d0 hd rfl | omega) (by first | exact Nat.le_of_ble_eq_true rfl | omega) (by first | exact Nat.le_of_ble_eq_true rfl | omega) ?_
      refine s_X7_countOf g (by first | exact jl_d1 hd rfl | omega) (by omega) (by assumption) (fun v31 => sg_K1 ?_)
      refine sg_iret (pc := 34) (dc_X7_count_30.2.1) rfl (by first | exact Nat.le_of_ble_eq_true rfl | omega) (by first | exact Nat.le_of_ble_eq_true rfl | omega) ?_
      exact hQ _ _ (by assumption)
    · refine sg_iconst (pc := 24) (z := 0) (dc_X7_count_0.2.2.1.1) (by decide) ?_
      refine sg_goto (pc := 25) (tgt := 34) (dc_X7_count_0.2.2.1.2) (by decide) ?_
      refine sg_iret (pc := 34) (dc_X7_count_30.2.1) rfl (by first | exact Nat.le_of_ble_eq_true rfl | omega) (by first | exact Nat.le_of_ble_eq_true rfl | omega) ?_
      exact hQ _ _ (by assumption)

set_option maxRecDepth 100000 in
theorem s_X7_first {w : sg_W} {Q : sg_O → sg_H → Prop} {h : sg_H} (g : sg_G w) {d : Nat} (hd : 9 ≤ d) {M : Nat} {row y f : Int}  (hx : md_M w h M) (hQ : ∀ (v : Int) (h' : sg_H), md_Y w h h' M → Q (.inl (some (sg_i v))) h') : sg_C w mi_X7_first d 0 0 [sg_r M, sg_i row, sg_i y, sg_i f] h Q := by
  refine sg_of pn_X7 (Nat.le_of_ble_eq_true rfl) ?_
  have y0 := md_Y0 hx
  have hk := hx.2.1
  refine sg_aload_n (pc := 0) (j := 0) (dc_X7_first_0.1.1.1.1) rfl rfl ?_
  refine sg_iload_n (pc := 1) (j := 1) (dc_X7_first_0.1.1.1.2) rfl rfl ?_
  refine sg_cS1 (pc := 2) (d' := d - 1) (mc' := 0) (ms' := 0) g (dc_X7_first_0.1.1.2.1) cb_X7_isNoRow ml_X7_68 ms_X7_isNoRow (Nat.le_of_ble_eq_true rfl) (by first | exact jl_d0 hd rfl | omega) (by first | exact Nat.le_of_ble_eq_true rfl | omega) (by first | exact Nat.le_of_ble_eq_true rfl | omega) ?_
  refine s_X7_isNoRow g (by first | exact jl_d1 hd rfl | omega) (fun z2 h2 b2 => sg_K1 ?_)
  (try simp only [fm_no, fm_one, fn_betw, fn_sign, fn_radix, fn_high, fn_low] at h2)
  refine sg_iconst (pc := 5) (z := 1) (dc_X7_first_0.1.1.2.2) (by decide) ?_
  refine sg_cE2 (pc := 6) (d' := d - 1) (mc' := 0) (ms' := 0) 8 g (dc_X7_first_0.1.2.1.1) cb_X7_start ml_X7_71 mn_X7_start rfl mv_X7_start (Nat.le_of_ble_eq_true rfl) (md_oc (by assumption)) (Nat.le_of_ble_eq_true rfl) (by first | exact jl_d0 hd rfl | omega) (by first | exact Nat.le_of_ble_eq_true rfl | omega) (by first | exact Nat.le_of_ble_eq_true rfl | omega) ?_
  refine s_X7_start g (by first | exact jl_d1 hd rfl | omega) (by omega) (by assumption) (fun v6 h6 b6 i6 t6 s6 u6 y6 => sg_K1 ?_)
  have x6 := y6.1
  have hk6 := x6.2.1
  have y6 := md_Yt (h0 := h) (by assumption) y6
  refine sg_if_ne (pc := 9) (tgt := 36) (dc_X7_first_0.1.2.1.2) (by decide) (fun c9 => ?_) (fun c9 => ?_)
  · refine sg_iconst (pc := 36) (z := 0) (dc_X7_first_30.1.1.2.1) (by decide) ?_
    refine sg_iret (pc := 37) (dc_X7_first_30.1.1.2.2) rfl (by first | exact Nat.le_of_ble_eq_true rfl | omega) (by first | exact Nat.le_of_ble_eq_true rfl | omega) ?_
    exact hQ _ _ (by assumption)
  · refine sg_aload_n (pc := 12) (j := 0) (dc_X7_first_0.1.2.2.1) rfl rfl ?_
    refine sg_iload_n (pc := 13) (j := 2) (dc_X7_first_0.1.2.2.2) rfl rfl ?_
    refine sg_cS1 (pc := 14) (d' := d - 1) (mc' := 0) (ms' := 0) g (dc_X7_first_0.2.1.1.1) cb_X7_isNoKind ml_X7_100 ms_X7_isNoKind (Nat.le_of_ble_eq_true rfl) (by first | exact jl_d0 hd rfl | omega) (by first | exact Nat.le_of_ble_eq_true rfl | omega) (by first | exact Nat.le_of_ble_eq_true rfl | omega) ?_
    refine s_X7_isNoKind g (by first | exact jl_d1 hd rfl | omega) (fun z14 h14 b14 => sg_K1 ?_)
    (try simp only [fm_no, fm_one, fn_betw, fn_sign, fn_radix, fn_high, fn_low] at h14)
    refine sg_if_ne (pc := 17) (tgt := 24) (dc_X7_first_0.2.1.1.2) (by decide) (fun c17 => ?_) (fun c17 => ?_)
    · refine sg_iconst (pc := 24) (z := 1) (dc_X7_first_0.2.2.1.1) (by decide) ?_
      refine sg_goto (pc := 25) (tgt := 29) (dc_X7_first_0.2.2.1.2) (by decide) ?_
      refine sg_iconst (pc := 29) (z := 2) (dc_X7_first_0.2.2.2.2) (by decide) ?_
      refine sg_cE2 (pc := 30) (d' := d - 1) (mc' := 0) (ms' := 0) 8 g (dc_X7_first_30.1.1.1.1) cb_X7_refuse ml_X7_45 mn_X7_refuse rfl mv_X7_refuse (Nat.le_of_ble_eq_true rfl) (md_oc (by assumption)) (Nat.le_of_ble_eq_true rfl) (by first | exact jl_d0 hd rfl | omega) (by first | exact Nat.le_of_ble_eq_true rfl | omega) (by first | exact Nat.le_of_ble_eq_true rfl | omega) ?_
      refine s_X7_refuse g (by first | exact jl_d1 hd rfl | omega) (by omega) (by assumption) (fun v30 h30 b30 i30 t30 s30 u30 y30 => sg_K1 ?_)
      have x30 := y30.1
      have hk30 := x30.2.1
      have y30 := md_Yt (h0 := h) (by assumption) y30
      refine sg_if_eq (pc := 33) (tgt := 38) (dc_X7_first_30.1.1.1.2) (by decide) (fun c33 => absurd c33 (by omega)) (fun c33 => ?_)
      refine sg_iconst (pc := 36) (z := 0) (dc_X7_first_30.1.1.2.1) (by decide) ?_
      refine sg_iret (pc := 37) (dc_X7_first_30.1.1.2.2) rfl (by first | exact Nat.le_of_ble_eq_true rfl | omega) (by first | exact Nat.le_of_ble_eq_true rfl | omega) ?_
      exact hQ _ _ (by assumption)
    · refine sg_iload_n (pc := 20) (j := 3) (dc_X7_first_0.2.1.2.1) rfl rfl ?_
      refine sg_if_ge (pc := 21) (tgt := 28) (dc_X7_first_0.2.1.2.2) (by decide) (fun c21 => ?_) (fun c21 => ?_)
      · refine sg_iconst (pc := 28) (z := 0) (dc_X7_first_0.2.2.2.1) (by decide) ?_
        refine sg_iconst (pc := 29) (z := 2) (dc_X7_first_0.2.2.2.2) (by decide) ?_
        refine sg_cE2 (pc := 30) (d' := d - 1) (mc' := 0) (ms' := 0) 8 g (dc_X7_first_30.1.1.1.1) cb_X7_refuse ml_X7_45 mn_X7_refuse rfl mv_X7_refuse (Nat.le_of_ble_eq_true rfl) (md_oc (by assumption)) (Nat.le_of_ble_eq_true rfl) (by first | exact jl_d0 hd rfl | omega) (by first | exact Nat.le_of_ble_eq_true rfl | omega) (by first | exact Nat.le_of_ble_eq_true rfl | omega) ?_
        refine s_X7_refuse g (by first | exact jl_d1 hd rfl | omega) (by omega) (by assumption) (fun v30 h30 b30 i30 t30 s30 u30 y30 => sg_K1 ?_)
        have x30 := y30.1
        have hk30 := x30.2.1
        have y30 := md_Yt (h0 := h) (by assumption) y30
        refine sg_if_eq (pc := 33) (tgt := 38) (dc_X7_first_30.1.1.1.2) (by decide) (fun c33 => ?_) (fun c33 => absurd c33 (by omega))
        refine sg_iload_n (pc := 38) (j := 3) (dc_X7_first_30.1.2.1.1) rfl rfl ?_
        refine sg_istore (pc := 39) (dc_X7_first_30.1.2.1.2) (by decide) ?_
        have loop41 : ∀ (N : Nat) (p : Int), (0 ≤ p) → (40 - p).toNat < N → sg_R w mi_X7_first d 0 0 Q 41 [(4, sg_i p), (0, sg_r M), (1, sg_i row), (2, sg_i y)] [] h30 0 0 := by
          intro N
          induction N with
          | zero => intro p p0 hm; exact absurd hm (Nat.not_lt_zero _)
          | succ N ih =>
            intro p p0 hm
            refine sg_iload (pc := 41) (dc_X7_first_30.1.2.2.1) rfl ?_
            refine sg_aload_n (pc := 43) (j := 0) (dc_X7_first_30.1.2.2.2) rfl rfl ?_
            refine md_grw (pc := 44) g (dc_X7_first_30.2.1.1.1) fk_X7_9 (by assumption) (fun r44 => ?_)
            refine sg_iload_n (pc := 47) (j := 1) (dc_X7_first_30.2.1.1.2) rfl rfl ?_
            first | refine md_alr (pc := 48) (dc_X7_first_30.2.1.2.1) (by assumption) (by omega) (by omega) (fun A48 l48 => ?_) | refine md_alt (pc := 48) (dc_X7_first_30.2.1.2.1) (by assumption) (by omega) (by omega) (fun A48 l48 => ?_)
            refine md_len (pc := 49) (dc_X7_first_30.2.1.2.2) (by assumption) (by omega) ?_
            refine sg_icmp_ge (pc := 50) (tgt := 78) (dc_X7_first_30.2.2.1.1) (by decide) (fun c50 => ?_) (fun c50 => ?_)
            · refine sg_iconst (pc := 78) (z := -1) (dc_X7_first_58.2.1.2.1) (by decide) ?_
              refine sg_iret (pc := 79) (dc_X7_first_58.2.1.2.2) rfl (by first | exact Nat.le_of_ble_eq_true rfl | omega) (by first | exact Nat.le_of_ble_eq_true rfl | omega) ?_
              exact hQ _ _ (by assumption)
            · refine sg_aload_n (pc := 53) (j := 0) (dc_X7_first_30.2.2.1.2) rfl rfl ?_
              refine md_grw (pc := 54) g (dc_X7_first_30.2.2.2.1) fk_X7_9 (by assumption) (fun r54 => ?_)
              refine sg_iload_n (pc := 57) (j := 1) (dc_X7_first_30.2.2.2.2) rfl rfl ?_
              first | refine md_alr (pc := 58) (dc_X7_first_58.1.1.1.1) (by assumption) (by omega) (by omega) (fun A58 l58 => ?_) | refine md_alt (pc := 58) (dc_X7_first_58.1.1.1.1) (by assumption) (by omega) (by omega) (fun A58 l58 => ?_)
              refine sg_iload (pc := 59) (dc_X7_first_58.1.1.1.2) rfl ?_
              refine md_ald (pc := 61) (dc_X7_first_58.1.1.2.1) (by assumption) (by omega) (by omega) (fun x61 g61 => ?_)
              try have q61 := ck_v1.mp g61
              refine sg_iload_n (pc := 62) (j := 2) (dc_X7_first_58.1.1.2.2) rfl rfl ?_
              refine sg_cS2 (pc := 63) (d' := d - 1) (mc' := 0) (ms' := 0) g (dc_X7_first_58.1.2.1.1) cb_X7_isKind ml_X7_26 ms_X7_isKind (Nat.le_of_ble_eq_true rfl) (by first | exact jl_d0 hd rfl | omega) (by first | exact Nat.le_of_ble_eq_true rfl | omega) (by first | exact Nat.le_of_ble_eq_true rfl | omega) ?_
              refine s_X7_isKind g (by first | exact jl_d1 hd rfl | omega) (by assumption) (by omega) (by omega) (fun z63 e63 b63 => sg_K1 ?_)
              refine sg_if_eq (pc := 66) (tgt := 72) (dc_X7_first_58.1.2.1.2) (by decide) (fun c66 => ?_) (fun c66 => ?_)
              · first | refine sg_iincB (pc := 72) (dc_X7_first_58.2.1.1.1) rfl (by decide) (by decide) (by omega) (by omega) ?_ | refine sg_iinc (pc := 72) (dc_X7_first_58.2.1.1.1) rfl (by decide) (by decide) ?_
                refine sg_goto (pc := 75) (tgt := 41) (dc_X7_first_58.2.1.1.2) (by decide) ?_
                refine sg_lsub (lv' := [(4, _), (0, _), (1, _), (2, _)]) ⟨rfl, rfl, rfl, rfl, trivial⟩ ?_
                exact ih _ (by omega) (by first | exact jl_m1 hm (by omega) | exact jl_m2 hm (by omega) | omega)
              · refine sg_iload (pc := 69) (dc_X7_first_58.1.2.2.1) rfl ?_
                refine sg_iret (pc := 71) (dc_X7_first_58.1.2.2.2) rfl (by first | exact Nat.le_of_ble_eq_true rfl | omega) (by first | exact Nat.le_of_ble_eq_true rfl | omega) ?_
                exact hQ _ _ (by assumption)
        refine sg_lsub (lv' := [(4, _), (0, _), (1, _), (2, _)]) ⟨rfl, rfl, rfl, rfl, trivial⟩ ?_
        exact loop41 _ _ (by omega) (Nat.lt_succ_self _)
      · refine sg_iconst (pc := 24) (z := 1) (dc_X7_first_0.2.2.1.1) (by decide) ?_
        refine sg_goto (pc := 25) (tgt := 29) (dc_X7_first_0.2.2.1.2) (by decide) ?_
        refine sg_iconst (pc := 29) (z := 2) (dc_X7_first_0.2.2.2.2) (by decide) ?_
        refine sg_cE2 (pc := 30) (d' := d - 1) (mc' := 0) (ms' := 0) 8 g (dc_X7_first_30.1.1.1.1) cb_X7_refuse ml_X7_45 mn_X7_refuse rfl mv_X7_refuse (Nat.le_of_ble_eq_true rfl) (md_oc (by assumption)) (Nat.le_of_ble_eq_true rfl) (by first | exact jl_d0 hd rfl | omega) (by first | exact Nat.le_of_ble_eq_true rfl | omega) (by first | exact Nat.le_of_ble_eq_true rfl | omega) ?_
        refine s_X7_refuse g (by first | exact jl_d1 hd rfl | omega) (by omega) (by assumption) (fun v30 h30 b30 i30 t30 s30 u30 y30 => sg_K1 ?_)
        have x30 := y30.1
        have hk30 := x30.2.1
        have y30 := md_Yt (h0 := h) (by assumption) y30
        refine sg_if_eq (pc := 33) (tgt := 38) (dc_X7_first_30.1.1.1.2) (by decide) (fun c33 => absurd c33 (by omega)) (fun c33 => ?_)
        refine sg_iconst (pc := 36) (z := 0) (dc_X7_first_30.1.1.2.1) (by decide) ?_
        refine sg_iret (pc := 37) (dc_X7_first_30.1.1.2.2) rfl (by first | exact Nat.le_of_ble_eq_true rfl | omega) (by first | exact Nat.le_of_ble_eq_true rfl | omega) ?_
        exact hQ _ _ (by assumption)

set_option maxRecDepth 100000 in
theorem s_X7_last {w : sg_W} {Q : sg_O → sg_H → Prop} {h : sg_H} (g : sg_G w) {d : Nat} (hd : 9 ≤ d) {M : Nat} {row y : Int}  (hx : md_M w h M) (hQ : ∀ (v : Int) (h' : sg_H), md_Y w h h' M → Q (.inl (some (sg_i v))) h') : sg_C w mi_X7_last d 0 0 [sg_r M, sg_i row, sg_i y] h Q := by
  refine sg_of pn_X7 (Nat.le_of_ble_eq_true rfl) ?_
  have y0 := md_Y0 hx
  have hk := hx.2.1
  refine sg_aload_n (pc := 0) (j := 0) (dc_X7_last_0.1.1.1.1) rfl rfl ?_
  refine sg_iload_n (pc := 1) (j := 1) (dc_X7_last_0.1.1.1.2) rfl rfl ?_
  refine sg_cS1 (pc := 2) (d' := d - 1) (mc' := 0) (ms' := 0) g (dc_X7_last_0.1.1.2.1) cb_X7_isNoRow ml_X7_68 ms_X7_isNoRow (Nat.le_of_ble_eq_true rfl) (by first | exact jl_d0 hd rfl | omega) (by first | exact Nat.le_of_ble_eq_true rfl | omega) (by first | exact Nat.le_of_ble_eq_true rfl | omega) ?_
  refine s_X7_isNoRow g (by first | exact jl_d1 hd rfl | omega) (fun z2 h2 b2 => sg_K1 ?_)
  (try simp only [fm_no, fm_one, fn_betw, fn_sign, fn_radix, fn_high, fn_low] at h2)
  refine sg_iconst (pc := 5) (z := 1) (dc_X7_last_0.1.1.2.2) (by decide) ?_
  refine sg_cE2 (pc := 6) (d' := d - 1) (mc' := 0) (ms' := 0) 8 g (dc_X7_last_0.1.2.1.1) cb_X7_start ml_X7_71 mn_X7_start rfl mv_X7_start (Nat.le_of_ble_eq_true rfl) (md_oc (by assumption)) (Nat.le_of_ble_eq_true rfl) (by first | exact jl_d0 hd rfl | omega) (by first | exact Nat.le_of_ble_eq_true rfl | omega) (by first | exact Nat.le_of_ble_eq_true rfl | omega) ?_
  refine s_X7_start g (by first | exact jl_d1 hd rfl | omega) (by omega) (by assumption) (fun v6 h6 b6 i6 t6 s6 u6 y6 => sg_K1 ?_)
  have x6 := y6.1
  have hk6 := x6.2.1
  have y6 := md_Yt (h0 := h) (by assumption) y6
  refine sg_if_ne (pc := 9) (tgt := 24) (dc_X7_last_0.1.2.1.2) (by decide) (fun c9 => ?_) (fun c9 => ?_)
  · refine sg_iconst (pc := 24) (z := 0) (dc_X7_last_0.2.2.1.1) (by decide) ?_
    refine sg_iret (pc := 25) (dc_X7_last_0.2.2.1.2) rfl (by first | exact Nat.le_of_ble_eq_true rfl | omega) (by first | exact Nat.le_of_ble_eq_true rfl | omega) ?_
    exact hQ _ _ (by assumption)
  · refine sg_aload_n (pc := 12) (j := 0) (dc_X7_last_0.1.2.2.1) rfl rfl ?_
    refine sg_iload_n (pc := 13) (j := 2) (dc_X7_last_0.1.2.2.2) rfl rfl ?_
    refine sg_cS1 (pc := 14) (d' := d - 1) (mc' := 0) (ms' := 0) g (dc_X7_last_0.2.1.1.1) cb_X7_isNoKind ml_X7_100 ms_X7_isNoKind (Nat.le_of_ble_eq_true rfl) (by first | exact jl_d0 hd rfl | omega) (by first | exact Nat.le_of_ble_eq_true rfl | omega) (by first | exact Nat.le_of_ble_eq_true rfl | omega) ?_
    refine s_X7_isNoKind g (by first | exact jl_d1 hd rfl | omega) (fun z14 h14 b14 => sg_K1 ?_)
    (try simp only [fm_no, fm_one, fn_betw, fn_sign, fn_radix, fn_high, fn_low] at h14)
    refine sg_iconst (pc := 17) (z := 2) (dc_X7_last_0.2.1.1.2) (by decide) ?_
    refine sg_cE2 (pc := 18) (d' := d - 1) (mc' := 0) (ms' := 0) 8 g (dc_X7_last_0.2.1.2.1) cb_X7_refuse ml_X7_45 mn_X7_refuse rfl mv_X7_refuse (Nat.le_of_ble_eq_true rfl) (md_oc (by assumption)) (Nat.le_of_ble_eq_true rfl) (by first | exact jl_d0 hd rfl | omega) (by first | exact Nat.le_of_ble_eq_true rfl | omega) (by first | exact Nat.le_of_ble_eq_true rfl | omega) ?_
    refine s_X7_refuse g (by first | exact jl_d1 hd rfl | omega) (by omega) (by assumption) (fun v18 h18 b18 i18 t18 s18 u18 y18 => sg_K1 ?_)
    have x18 := y18.1
    have hk18 := x18.2.1
    have y18 := md_Yt (h0 := h) (by assumption) y18
    refine sg_if_eq (pc := 21) (tgt := 26) (dc_X7_last_0.2.1.2.2) (by decide) (fun c21 => ?_) (fun c21 => ?_)
    · refine sg_iconst (pc := 26) (z := -1) (dc_X7_last_0.2.2.2.1) (by decide) ?_
      refine sg_istore_n (pc := 27) (j := 3) (dc_X7_last_0.2.2.2.2) rfl (by decide) ?_
      refine sg_iconst (pc := 28) (z := 0) (dc_X7_last_28.1.1.1.1) (by decide) ?_
      refine sg_istore (pc := 29) (dc_X7_last_28.1.1.1.2) (by decide) ?_
      have loop31 : ∀ (N : Nat) (p s : Int), (0 ≤ p) → (40 - p).toNat < N → sg_R w mi_X7_last d 0 0 Q 31 [(4, sg_i p), (3, sg_i s), (0, sg_r M), (1, sg_i row), (2, sg_i y)] [] h18 0 0 := by
        intro N
        induction N with
        | zero => intro p s p0 hm; exact absurd hm (Nat.not_lt_zero _)
        | succ N ih =>
          intro p s p0 hm
          refine sg_iload (pc := 31) (dc_X7_last_28.1.1.2.1) rfl ?_
          refine sg_aload_n (pc := 33) (j := 0) (dc_X7_last_28.1.1.2.2) rfl rfl ?_
          refine md_grw (pc := 34) g (dc_X7_last_28.1.2.1.1) fk_X7_9 (by assumption) (fun r34 => ?_)
          refine sg_iload_n (pc := 37) (j := 1) (dc_X7_last_28.1.2.1.2) rfl rfl ?_
          first | refine md_alr (pc := 38) (dc_X7_last_28.1.2.2.1) (by assumption) (by omega) (by omega) (fun A38 l38 => ?_) | refine md_alt (pc := 38) (dc_X7_last_28.1.2.2.1) (by assumption) (by omega) (by omega) (fun A38 l38 => ?_)
          refine md_len (pc := 39) (dc_X7_last_28.1.2.2.2) (by assumption) (by omega) ?_
          refine sg_icmp_ge (pc := 40) (tgt := 68) (dc_X7_last_28.2.1.1.1) (by decide) (fun c40 => ?_) (fun c40 => ?_)
          · refine sg_iload_n (pc := 68) (j := 3) (dc_X7_last_53.2.2.1) rfl rfl ?_
            refine sg_iret (pc := 69) (dc_X7_last_53.2.2.2) rfl (by first | exact Nat.le_of_ble_eq_true rfl | omega) (by first | exact Nat.le_of_ble_eq_true rfl | omega) ?_
            exact hQ _ _ (by assumption)
          · refine sg_aload_n (pc := 43) (j := 0) (dc_X7_last_28.2.1.1.2) rfl rfl ?_
            refine md_grw (pc := 44) g (dc_X7_last_28.2.1.2.1) fk_X7_9 (by assumption) (fun r44 => ?_)
            refine sg_iload_n (pc := 47) (j := 1) (dc_X7_last_28.2.1.2.2) rfl rfl ?_
            first | refine md_alr (pc := 48) (dc_X7_last_28.2.2.1.1) (by assumption) (by omega) (by omega) (fun A48 l48 => ?_) | refine md_alt (pc := 48) (dc_X7_last_28.2.2.1.1) (by assumption) (by omega) (by omega) (fun A48 l48 => ?_)
            refine sg_iload (pc := 49) (dc_X7_last_28.2.2.1.2) rfl ?_
            refine md_ald (pc := 51) (dc_X7_last_28.2.2.2.1) (by assumption) (by omega) (by omega) (fun x51 g51 => ?_)
            try have q51 := ck_v1.mp g51
            refine sg_iload_n (pc := 52) (j := 2) (dc_X7_last_28.2.2.2.2) rfl rfl ?_
            refine sg_cS2 (pc := 53) (d' := d - 1) (mc' := 0) (ms' := 0) g (dc_X7_last_53.1.1.1) cb_X7_isKind ml_X7_26 ms_X7_isKind (Nat.le_of_ble_eq_true rfl) (by first | exact jl_d0 hd rfl | omega) (by first | exact Nat.le_of_ble_eq_true rfl | omega) (by first | exact Nat.le_of_ble_eq_true rfl | omega) ?_
            refine s_X7_isKind g (by first | exact jl_d1 hd rfl | omega) (by assumption) (by omega) (by omega) (fun z53 e53 b53 => sg_K1 ?_)
            refine sg_if_eq (pc := 56) (tgt := 62) (dc_X7_last_53.1.1.2) (by decide) (fun c56 => ?_) (fun c56 => ?_)
            · first | refine sg_iincB (pc := 62) (dc_X7_last_53.2.1.1) rfl (by decide) (by decide) (by omega) (by omega) ?_ | refine sg_iinc (pc := 62) (dc_X7_last_53.2.1.1) rfl (by decide) (by decide) ?_
              refine sg_goto (pc := 65) (tgt := 31) (dc_X7_last_53.2.1.2) (by decide) ?_
              refine sg_lsub (lv' := [(4, _), (3, _), (0, _), (1, _), (2, _)]) ⟨rfl, rfl, rfl, rfl, rfl, trivial⟩ ?_
              exact ih _ _ (by omega) (by first | exact jl_m1 hm (by omega) | exact jl_m2 hm (by omega) | omega)
            · refine sg_iload (pc := 59) (dc_X7_last_53.1.2.1) rfl ?_
              refine sg_istore_n (pc := 61) (j := 3) (dc_X7_last_53.1.2.2) rfl (by decide) ?_
              first | refine sg_iincB (pc := 62) (dc_X7_last_53.2.1.1) rfl (by decide) (by decide) (by omega) (by omega) ?_ | refine sg_iinc (pc := 62) (dc_X7_last_53.2.1.1) rfl (by decide) (by decide) ?_
              refine sg_goto (pc := 65) (tgt := 31) (dc_X7_last_53.2.1.2) (by decide) ?_
              refine sg_lsub (lv' := [(4, _), (3, _), (0, _), (1, _), (2, _)]) ⟨rfl, rfl, rfl, rfl, rfl, trivial⟩ ?_
              exact ih _ _ (by omega) (by first | exact jl_m1 hm (by omega) | exact jl_m2 hm (by omega) | omega)
      refine sg_lsub (lv' := [(4, _), (3, _), (0, _), (1, _), (2, _)]) ⟨rfl, rfl, rfl, rfl, rfl, trivial⟩ ?_
      exact loop31 _ _ _ (by omega) (Nat.lt_succ_self _)
    · refine sg_iconst (pc := 24) (z := 0) (dc_X7_last_0.2.2.1.1) (by decide) ?_
      refine sg_iret (pc := 25) (dc_X7_last_0.2.2.1.2) rfl (by first | exact Nat.le_of_ble_eq_true rfl | omega) (by first | exact Nat.le_of_ble_eq_true rfl | omega) ?_
      exact hQ _ _ (by assumption)

set_option maxRecDepth 100000 in
theorem s_X7_toldOf {w : sg_W} {Q : sg_O → sg_H → Prop} {h : sg_H} (g : sg_G w) {d : Nat} (hd : 6 ≤ d) {M : Nat} {row r : Int} (hv : 0 ≤ row ∧ row < 4) (hx : md_M w h M) (hQ : ∀ v : Int, Q (.inl (some (sg_i v))) h) : sg_C w mi_X7_toldOf d 0 0 [sg_r M, sg_i row, sg_i r] h Q := by
  refine sg_of pn_X7 (Nat.le_of_ble_eq_true rfl) ?_
  have y0 := md_Y0 hx
  have hk := hx.2.1
  refine sg_lconst (pc := 0) (z := 0) (dc_X7_toldOf_0.1.1.1.1) (by decide) ?_
  refine sg_lstore_n (pc := 1) (j := 3) (dc_X7_toldOf_0.1.1.1.2) rfl (by decide) ?_
  refine sg_aload_n (pc := 2) (j := 0) (dc_X7_toldOf_0.1.1.2.1) rfl rfl ?_
  refine md_grw (pc := 3) g (dc_X7_toldOf_0.1.1.2.2) fk_X7_9 (by assumption) (fun r3 => ?_)
  refine sg_iload_n (pc := 6) (j := 1) (dc_X7_toldOf_0.1.2.1.1) rfl rfl ?_
  first | refine md_alr (pc := 7) (dc_X7_toldOf_0.1.2.1.2) (by assumption) (by omega) (by omega) (fun A7 l7 => ?_) | refine md_alt (pc := 7) (dc_X7_toldOf_0.1.2.1.2) (by assumption) (by omega) (by omega) (fun A7 l7 => ?_)
  refine sg_astore (pc := 8) (dc_X7_toldOf_0.1.2.2.1) (by decide) ?_
  refine sg_aload (pc := 10) (dc_X7_toldOf_0.1.2.2.2) rfl ?_
  refine md_len (pc := 12) (dc_X7_toldOf_0.2.1.1.1) (by assumption) (by omega) ?_
  refine sg_istore (pc := 13) (dc_X7_toldOf_0.2.1.1.2) (by decide) ?_
  refine sg_iconst (pc := 15) (z := 0) (dc_X7_toldOf_0.2.1.2.1) (by decide) ?_
  refine sg_istore (pc := 16) (dc_X7_toldOf_0.2.1.2.2) (by decide) ?_
  have loop18 : ∀ (N : Nat) (p s : Int), (0 ≤ p) → (((md_n h (md_a h (md_r h M) row)) : Int) - p).toNat < N → sg_R w mi_X7_toldOf d 0 0 Q 18 [(7, sg_i p), (3, sg_l s), (0, sg_r M), (1, sg_i row), (2, sg_i r), (5, sg_r (md_a h (md_r h M) row)), (6, sg_i ((md_n h (md_a h (md_r h M) row)) : Int))] [] h 0 0 := by
    intro N
    induction N with
    | zero => intro p s p0 hm; exact absurd hm (Nat.not_lt_zero _)
    | succ N ih =>
      intro p s p0 hm
      refine sg_iload (pc := 18) (dc_X7_toldOf_0.2.2.1.1) rfl ?_
      refine sg_iload (pc := 20) (dc_X7_toldOf_0.2.2.1.2) rfl ?_
      refine sg_icmp_ge (pc := 22) (tgt := 68) (dc_X7_toldOf_0.2.2.2.1) (by decide) (fun c22 => ?_) (fun c22 => ?_)
      · refine sg_aload_n (pc := 68) (j := 0) (dc_X7_toldOf_52.2.1.1.1) rfl rfl ?_
        refine md_grw (pc := 69) g (dc_X7_toldOf_52.2.1.1.2) fk_X7_9 (by assumption) (fun r69 => ?_)
        refine sg_iload_n (pc := 72) (j := 1) (dc_X7_toldOf_52.2.1.2.1) rfl rfl ?_
        first | refine md_alr (pc := 73) (dc_X7_toldOf_52.2.1.2.2) (by assumption) (by omega) (by omega) (fun A73 l73 => ?_) | refine md_alt (pc := 73) (dc_X7_toldOf_52.2.1.2.2) (by assumption) (by omega) (by omega) (fun A73 l73 => ?_)
        refine md_len (pc := 74) (dc_X7_toldOf_52.2.2.1.1) (by assumption) (by omega) ?_
        refine sg_if_ne (pc := 75) (tgt := 83) (dc_X7_toldOf_52.2.2.1.2) (by decide) (fun c75 => ?_) (fun c75 => ?_)
        · refine sg_lload_n (pc := 83) (j := 3) (dc_X7_toldOf_83.1.1) rfl rfl ?_
          refine sg_l2i (pc := 84) (dc_X7_toldOf_83.1.2) ?_
          refine sg_iret (pc := 85) (dc_X7_toldOf_83.2.1) rfl (by first | exact Nat.le_of_ble_eq_true rfl | omega) (by first | exact Nat.le_of_ble_eq_true rfl | omega) ?_
          exact hQ _
        · refine sg_bipush (pc := 78) (z := -9) (dc_X7_toldOf_52.2.2.2.1) (by decide) ?_
          refine sg_goto (pc := 80) (tgt := 85) (dc_X7_toldOf_52.2.2.2.2) (by decide) ?_
          refine sg_iret (pc := 85) (dc_X7_toldOf_83.2.1) rfl (by first | exact Nat.le_of_ble_eq_true rfl | omega) (by first | exact Nat.le_of_ble_eq_true rfl | omega) ?_
          exact hQ _
      · refine sg_aload (pc := 25) (dc_X7_toldOf_0.2.2.2.2) rfl ?_
        refine sg_iload (pc := 27) (dc_X7_toldOf_27.1.1.1.1) rfl ?_
        refine md_ald (pc := 29) (dc_X7_toldOf_27.1.1.1.2) (by assumption) (by omega) (by omega) (fun x29 g29 => ?_)
        try have q29 := ck_v1.mp g29
        refine sg_istore (pc := 30) (dc_X7_toldOf_27.1.1.2.1) (by decide) ?_
        refine sg_iload (pc := 32) (dc_X7_toldOf_27.1.1.2.2) rfl ?_
        refine sg_iload_n (pc := 34) (j := 2) (dc_X7_toldOf_27.1.2.1.1) rfl rfl ?_
        refine sg_cS2 (pc := 35) (d' := d - 1) (mc' := 0) (ms' := 0) g (dc_X7_toldOf_27.1.2.1.2) cb_X7_numberOf ml_X7_115 ms_X7_numberOf (Nat.le_of_ble_eq_true rfl) (by first | exact jl_d0 hd rfl | omega) (by first | exact Nat.le_of_ble_eq_true rfl | omega) (by first | exact Nat.le_of_ble_eq_true rfl | omega) ?_
        refine s_X7_numberOf g (by first | exact jl_d1 hd rfl | omega) (fun z35 h35 => sg_K1 ?_)
        (try simp only [fm_no, fm_one, fn_betw, fn_sign, fn_radix, fn_high, fn_low] at h35)
        refine sg_iconst (pc := 38) (z := -1) (dc_X7_toldOf_27.1.2.2.1) (by decide) ?_
        refine sg_icmp_ne (pc := 39) (tgt := 45) (dc_X7_toldOf_27.1.2.2.2) (by decide) (fun c39 => ?_) (fun c39 => ?_)
        · refine sg_lload_n (pc := 45) (j := 3) (dc_X7_toldOf_27.2.1.2.1) rfl rfl ?_
          refine sg_iload_n (pc := 46) (j := 2) (dc_X7_toldOf_27.2.1.2.2) rfl rfl ?_
          refine sg_i2l (pc := 47) (dc_X7_toldOf_27.2.2.1.1) ?_
          refine sg_lmul (pc := 48) (dc_X7_toldOf_27.2.2.1.2) ?_
          refine sg_iload (pc := 49) (dc_X7_toldOf_27.2.2.2.1) rfl ?_
          refine sg_iload_n (pc := 51) (j := 2) (dc_X7_toldOf_27.2.2.2.2) rfl rfl ?_
          refine sg_cS2 (pc := 52) (d' := d - 1) (mc' := 0) (ms' := 0) g (dc_X7_toldOf_52.1.1.1.1) cb_X7_numberOf ml_X7_115 ms_X7_numberOf (Nat.le_of_ble_eq_true rfl) (by first | exact jl_d0 hd rfl | omega) (by first | exact Nat.le_of_ble_eq_true rfl | omega) (by first | exact Nat.le_of_ble_eq_true rfl | omega) ?_
          refine s_X7_numberOf g (by first | exact jl_d1 hd rfl | omega) (fun z52 h52 => sg_K1 ?_)
          (try simp only [fm_no, fm_one, fn_betw, fn_sign, fn_radix, fn_high, fn_low] at h52)
          refine sg_i2l (pc := 55) (dc_X7_toldOf_52.1.1.1.2) ?_
          refine sg_ladd (pc := 56) (dc_X7_toldOf_52.1.1.2.1) ?_
          refine sg_ldc2 (pc := 57) (z := 1000003) g (dc_X7_toldOf_52.1.1.2.2) cn_X7_199 (by decide) ?_
          refine sg_lrem (pc := 60) (dc_X7_toldOf_52.1.2.1.1) (by first | omega | assumption) ?_
          refine sg_lstore_n (pc := 61) (j := 3) (dc_X7_toldOf_52.1.2.1.2) rfl (by decide) ?_
          first | refine sg_iincB (pc := 62) (dc_X7_toldOf_52.1.2.2.1) rfl (by decide) (by decide) (by omega) (by omega) ?_ | refine sg_iinc (pc := 62) (dc_X7_toldOf_52.1.2.2.1) rfl (by decide) (by decide) ?_
          refine sg_goto (pc := 65) (tgt := 18) (dc_X7_toldOf_52.1.2.2.2) (by decide) ?_
          refine sg_lsub (lv' := [(7, _), (3, _), (0, _), (1, _), (2, _), (5, _), (6, _)]) ⟨rfl, rfl, rfl, rfl, rfl, rfl, rfl, trivial⟩ ?_
          exact ih _ _ (by omega) (by first | exact jl_m1 hm (by omega) | exact jl_m2 hm (by omega) | omega)
        · refine sg_bipush (pc := 42) (z := -9) (dc_X7_toldOf_27.2.1.1.1) (by decide) ?_
          refine sg_iret (pc := 44) (dc_X7_toldOf_27.2.1.1.2) rfl (by first | exact Nat.le_of_ble_eq_true rfl | omega) (by first | exact Nat.le_of_ble_eq_true rfl | omega) ?_
          exact hQ _
  refine sg_lsub (lv' := [(7, _), (3, _), (0, _), (1, _), (2, _), (5, _), (6, _)]) ⟨rfl, rfl, rfl, rfl, rfl, rfl, rfl, trivial⟩ ?_
  exact loop18 _ _ _ (by omega) (Nat.lt_succ_self _)

set_option maxRecDepth 100000 in
theorem s_X7_told {w : sg_W} {Q : sg_O → sg_H → Prop} {h : sg_H} (g : sg_G w) {d : Nat} (hd : 9 ≤ d) {M : Nat} {row r : Int}  (hx : md_M w h M) (hQ : ∀ (v : Int) (h' : sg_H), md_Y w h h' M → Q (.inl (some (sg_i v))) h') : sg_C w mi_X7_told d 0 0 [sg_r M, sg_i row, sg_i r] h Q := by
  refine sg_of pn_X7 (Nat.le_of_ble_eq_true rfl) ?_
  have y0 := md_Y0 hx
  have hk := hx.2.1
  refine sg_aload_n (pc := 0) (j := 0) (dc_X7_told_0.1.1.1.1) rfl rfl ?_
  refine sg_iload_n (pc := 1) (j := 1) (dc_X7_told_0.1.1.1.2) rfl rfl ?_
  refine sg_cS1 (pc := 2) (d' := d - 1) (mc' := 0) (ms' := 0) g (dc_X7_told_0.1.1.2.1) cb_X7_isNoRow ml_X7_68 ms_X7_isNoRow (Nat.le_of_ble_eq_true rfl) (by first | exact jl_d0 hd rfl | omega) (by first | exact Nat.le_of_ble_eq_true rfl | omega) (by first | exact Nat.le_of_ble_eq_true rfl | omega) ?_
  refine s_X7_isNoRow g (by first | exact jl_d1 hd rfl | omega) (fun z2 h2 b2 => sg_K1 ?_)
  (try simp only [fm_no, fm_one, fn_betw, fn_sign, fn_radix, fn_high, fn_low] at h2)
  refine sg_iconst (pc := 5) (z := 1) (dc_X7_told_0.1.1.2.2) (by decide) ?_
  refine sg_cE2 (pc := 6) (d' := d - 1) (mc' := 0) (ms' := 0) 8 g (dc_X7_told_0.1.2.1.1) cb_X7_start ml_X7_71 mn_X7_start rfl mv_X7_start (Nat.le_of_ble_eq_true rfl) (md_oc (by assumption)) (Nat.le_of_ble_eq_true rfl) (by first | exact jl_d0 hd rfl | omega) (by first | exact Nat.le_of_ble_eq_true rfl | omega) (by first | exact Nat.le_of_ble_eq_true rfl | omega) ?_
  refine s_X7_start g (by first | exact jl_d1 hd rfl | omega) (by omega) (by assumption) (fun v6 h6 b6 i6 t6 s6 u6 y6 => sg_K1 ?_)
  have x6 := y6.1
  have hk6 := x6.2.1
  have y6 := md_Yt (h0 := h) (by assumption) y6
  refine sg_if_ne (pc := 9) (tgt := 32) (dc_X7_told_0.1.2.1.2) (by decide) (fun c9 => ?_) (fun c9 => ?_)
  · refine sg_iconst (pc := 32) (z := 0) (dc_X7_told_32.1.1.1) (by decide) ?_
    refine sg_goto (pc := 33) (tgt := 42) (dc_X7_told_32.1.1.2) (by decide) ?_
    refine sg_iret (pc := 42) (dc_X7_told_32.2.2.1) rfl (by first | exact Nat.le_of_ble_eq_true rfl | omega) (by first | exact Nat.le_of_ble_eq_true rfl | omega) ?_
    exact hQ _ _ (by assumption)
  · refine sg_aload_n (pc := 12) (j := 0) (dc_X7_told_0.1.2.2.1) rfl rfl ?_
    refine sg_iload_n (pc := 13) (j := 2) (dc_X7_told_0.1.2.2.2) rfl rfl ?_
    refine sg_cS1 (pc := 14) (d' := d - 1) (mc' := 0) (ms' := 0) g (dc_X7_told_0.2.1.1.1) cb_X7_isRadix ml_X7_37 ms_X7_isRadix (Nat.le_of_ble_eq_true rfl) (by first | exact jl_d0 hd rfl | omega) (by first | exact Nat.le_of_ble_eq_true rfl | omega) (by first | exact Nat.le_of_ble_eq_true rfl | omega) ?_
    refine s_X7_isRadix g (by first | exact jl_d1 hd rfl | omega) (fun z14 h14 b14 => sg_K1 ?_)
    (try simp only [fm_no, fm_one, fn_betw, fn_sign, fn_radix, fn_high, fn_low] at h14)
    refine sg_if_ne (pc := 17) (tgt := 24) (dc_X7_told_0.2.1.1.2) (by decide) (fun c17 => ?_) (fun c17 => ?_)
    · refine sg_iconst (pc := 24) (z := 0) (dc_X7_told_0.2.2.1.1) (by decide) ?_
      refine sg_iconst (pc := 25) (z := 2) (dc_X7_told_0.2.2.1.2) (by decide) ?_
      refine sg_cE2 (pc := 26) (d' := d - 1) (mc' := 0) (ms' := 0) 8 g (dc_X7_told_0.2.2.2.1) cb_X7_refuse ml_X7_45 mn_X7_refuse rfl mv_X7_refuse (Nat.le_of_ble_eq_true rfl) (md_oc (by assumption)) (Nat.le_of_ble_eq_true rfl) (by first | exact jl_d0 hd rfl | omega) (by first | exact Nat.le_of_ble_eq_true rfl | omega) (by first | exact Nat.le_of_ble_eq_true rfl | omega) ?_
      refine s_X7_refuse g (by first | exact jl_d1 hd rfl | omega) (by omega) (by assumption) (fun v26 h26 b26 i26 t26 s26 u26 y26 => sg_K1 ?_)
      have x26 := y26.1
      have hk26 := x26.2.1
      have y26 := md_Yt (h0 := h) (by assumption) y26
      refine sg_if_eq (pc := 29) (tgt := 36) (dc_X7_told_0.2.2.2.2) (by decide) (fun c29 => ?_) (fun c29 => absurd c29 (by omega))
      refine sg_aload_n (pc := 36) (j := 0) (dc_X7_told_32.1.2.1) rfl rfl ?_
      refine sg_iload_n (pc := 37) (j := 1) (dc_X7_told_32.1.2.2) rfl rfl ?_
      refine sg_iload_n (pc := 38) (j := 2) (dc_X7_told_32.2.1.1) rfl rfl ?_
      refine sg_cE2 (pc := 39) (d' := d - 1) (mc' := 0) (ms' := 0) 8 g (dc_X7_told_32.2.1.2) cb_X7_toldOf ml_X7_201 mn_X7_toldOf rfl mv_X7_toldOf (Nat.le_of_ble_eq_true rfl) (md_oc (by assumption)) (Nat.le_of_ble_eq_true rfl) (by first | exact jl_d0 hd rfl | omega) (by first | exact Nat.le_of_ble_eq_true rfl | omega) (by first | exact Nat.le_of_ble_eq_true rfl | omega) ?_
      refine s_X7_toldOf g (by first | exact jl_d1 hd rfl | omega) (by omega) (by assumption) (fun v39 => sg_K1 ?_)
      refine sg_iret (pc := 42) (dc_X7_told_32.2.2.1) rfl (by first | exact Nat.le_of_ble_eq_true rfl | omega) (by first | exact Nat.le_of_ble_eq_true rfl | omega) ?_
      exact hQ _ _ (by assumption)
    · refine sg_iconst (pc := 20) (z := 1) (dc_X7_told_0.2.1.2.1) (by decide) ?_
      refine sg_goto (pc := 21) (tgt := 25) (dc_X7_told_0.2.1.2.2) (by decide) ?_
      refine sg_iconst (pc := 25) (z := 2) (dc_X7_told_0.2.2.1.2) (by decide) ?_
      refine sg_cE2 (pc := 26) (d' := d - 1) (mc' := 0) (ms' := 0) 8 g (dc_X7_told_0.2.2.2.1) cb_X7_refuse ml_X7_45 mn_X7_refuse rfl mv_X7_refuse (Nat.le_of_ble_eq_true rfl) (md_oc (by assumption)) (Nat.le_of_ble_eq_true rfl) (by first | exact jl_d0 hd rfl | omega) (by first | exact Nat.le_of_ble_eq_true rfl | omega) (by first | exact Nat.le_of_ble_eq_true rfl | omega) ?_
      refine s_X7_refuse g (by first | exact jl_d1 hd rfl | omega) (by omega) (by assumption) (fun v26 h26 b26 i26 t26 s26 u26 y26 => sg_K1 ?_)
      have x26 := y26.1
      have hk26 := x26.2.1
      have y26 := md_Yt (h0 := h) (by assumption) y26
      refine sg_if_eq (pc := 29) (tgt := 36) (dc_X7_told_0.2.2.2.2) (by decide) (fun c29 => absurd c29 (by omega)) (fun c29 => ?_)
      refine sg_iconst (pc := 32) (z := 0) (dc_X7_told_32.1.1.1) (by decide) ?_
      refine sg_goto (pc := 33) (tgt := 42) (dc_X7_told_32.1.1.2) (by decide) ?_
      refine sg_iret (pc := 42) (dc_X7_told_32.2.2.1) rfl (by first | exact Nat.le_of_ble_eq_true rfl | omega) (by first | exact Nat.le_of_ble_eq_true rfl | omega) ?_
      exact hQ _ _ (by assumption)

set_option maxRecDepth 100000 in
theorem s_X7_areAlike {w : sg_W} {Q : sg_O → sg_H → Prop} {h : sg_H} (g : sg_G w) {d : Nat} (hd : 6 ≤ d) {M : Nat} {row other : Int} (hv : 0 ≤ row ∧ row < 4 ∧ 0 ≤ other ∧ other < 4) (hx : md_M w h M) (hQ : ∀ v : Int, (v = 0 ∨ v = 1) → Q (.inl (some (sg_i v))) h) : sg_C w mi_X7_areAlike d 0 0 [sg_r M, sg_i row, sg_i other] h Q := by
  refine sg_of pn_X7 (Nat.le_of_ble_eq_true rfl) ?_
  have y0 := md_Y0 hx
  have hk := hx.2.1
  refine sg_aload_n (pc := 0) (j := 0) (dc_X7_areAlike_0.1.1.1.1) rfl rfl ?_
  refine md_grw (pc := 1) g (dc_X7_areAlike_0.1.1.1.2) fk_X7_9 (by assumption) (fun r1 => ?_)
  refine sg_iload_n (pc := 4) (j := 1) (dc_X7_areAlike_0.1.1.2.1) rfl rfl ?_
  first | refine md_alr (pc := 5) (dc_X7_areAlike_0.1.1.2.2) (by assumption) (by omega) (by omega) (fun A5 l5 => ?_) | refine md_alt (pc := 5) (dc_X7_areAlike_0.1.1.2.2) (by assumption) (by omega) (by omega) (fun A5 l5 => ?_)
  refine md_len (pc := 6) (dc_X7_areAlike_0.1.2.1.1) (by assumption) (by omega) ?_
  refine sg_aload_n (pc := 7) (j := 0) (dc_X7_areAlike_0.1.2.1.2) rfl rfl ?_
  refine md_grw (pc := 8) g (dc_X7_areAlike_0.1.2.2.1) fk_X7_9 (by assumption) (fun r8 => ?_)
  refine sg_iload_n (pc := 11) (j := 2) (dc_X7_areAlike_0.1.2.2.2) rfl rfl ?_
  first | refine md_alr (pc := 12) (dc_X7_areAlike_0.2.1.1.1) (by assumption) (by omega) (by omega) (fun A12 l12 => ?_) | refine md_alt (pc := 12) (dc_X7_areAlike_0.2.1.1.1) (by assumption) (by omega) (by omega) (fun A12 l12 => ?_)
  refine md_len (pc := 13) (dc_X7_areAlike_0.2.1.1.2) (by assumption) (by omega) ?_
  refine sg_icmp_ne (pc := 14) (tgt := 21) (dc_X7_areAlike_0.2.1.2.1) (by decide) (fun c14 => ?_) (fun c14 => ?_)
  · refine sg_iconst (pc := 21) (z := 0) (dc_X7_areAlike_0.2.2.1.2) (by decide) ?_
    refine sg_istore_n (pc := 22) (j := 3) (dc_X7_areAlike_0.2.2.2.1) rfl (by decide) ?_
    refine sg_iconst (pc := 23) (z := 0) (dc_X7_areAlike_0.2.2.2.2) (by decide) ?_
    refine sg_istore (pc := 24) (dc_X7_areAlike_24.1.1.1.1) (by decide) ?_
    have loop26 : ∀ (N : Nat) (p s : Int), (0 ≤ p) → (s = 0 ∨ (s = 1 ∧ (((md_n h (md_a h (md_r h M) row)) : Nat) : Int) = ((md_n h (md_a h (md_r h M) other) : Nat) : Int))) → ((((md_n h (md_a h (md_r h M) row)) : Nat) : Int) - p).toNat < N → sg_R w mi_X7_areAlike d 0 0 Q 26 [(4, sg_i p), (3, sg_i s), (0, sg_r M), (1, sg_i row), (2, sg_i other)] [] h 0 0 := by
      intro N
      induction N with
      | zero => intro p s p0 s0 hm; exact absurd hm (Nat.not_lt_zero _)
      | succ N ih =>
        intro p s p0 s0 hm
        refine sg_iload_n (pc := 26) (j := 3) (dc_X7_areAlike_24.1.1.1.2) rfl rfl ?_
        refine sg_if_eq (pc := 27) (tgt := 81) (dc_X7_areAlike_24.1.1.2.1) (by decide) (fun c27 => ?_) (fun c27 => ?_)
        · refine sg_iload_n (pc := 81) (j := 3) (dc_X7_areAlike_51.2.2.2.2) rfl rfl ?_
          refine sg_zret (pc := 82) dc_X7_areAlike_82 rfl (by first | exact Or.inl rfl | exact Or.inr rfl | omega | assumption) (by first | exact Nat.le_of_ble_eq_true rfl | omega) (by first | exact Nat.le_of_ble_eq_true rfl | omega) ?_
          exact hQ _ (by first | exact Or.inl rfl | exact Or.inr rfl | omega | assumption)
        · refine sg_iload (pc := 30) (dc_X7_areAlike_24.1.1.2.2) rfl ?_
          refine sg_aload_n (pc := 32) (j := 0) (dc_X7_areAlike_24.1.2.1.1) rfl rfl ?_
          refine md_grw (pc := 33) g (dc_X7_areAlike_24.1.2.1.2) fk_X7_9 (by assumption) (fun r33 => ?_)
          refine sg_iload_n (pc := 36) (j := 1) (dc_X7_areAlike_24.1.2.2.1) rfl rfl ?_
          first | refine md_alr (pc := 37) (dc_X7_areAlike_24.1.2.2.2) (by assumption) (by omega) (by omega) (fun A37 l37 => ?_) | refine md_alt (pc := 37) (dc_X7_areAlike_24.1.2.2.2) (by assumption) (by omega) (by omega) (fun A37 l37 => ?_)
          refine md_len (pc := 38) (dc_X7_areAlike_24.2.1.1.1) (by assumption) (by omega) ?_
          refine sg_icmp_ge (pc := 39) (tgt := 81) (dc_X7_areAlike_24.2.1.1.2) (by decide) (fun c39 => ?_) (fun c39 => ?_)
          · refine sg_iload_n (pc := 81) (j := 3) (dc_X7_areAlike_51.2.2.2.2) rfl rfl ?_
            refine sg_zret (pc := 82) dc_X7_areAlike_82 rfl (by first | exact Or.inl rfl | exact Or.inr rfl | omega | assumption) (by first | exact Nat.le_of_ble_eq_true rfl | omega) (by first | exact Nat.le_of_ble_eq_true rfl | omega) ?_
            exact hQ _ (by first | exact Or.inl rfl | exact Or.inr rfl | omega | assumption)
          · refine sg_aload_n (pc := 42) (j := 0) (dc_X7_areAlike_24.2.1.2.1) rfl rfl ?_
            refine md_grw (pc := 43) g (dc_X7_areAlike_24.2.1.2.2) fk_X7_9 (by assumption) (fun r43 => ?_)
            refine sg_iload_n (pc := 46) (j := 1) (dc_X7_areAlike_24.2.2.1.1) rfl rfl ?_
            first | refine md_alr (pc := 47) (dc_X7_areAlike_24.2.2.1.2) (by assumption) (by omega) (by omega) (fun A47 l47 => ?_) | refine md_alt (pc := 47) (dc_X7_areAlike_24.2.2.1.2) (by assumption) (by omega) (by omega) (fun A47 l47 => ?_)
            refine sg_iload (pc := 48) (dc_X7_areAlike_24.2.2.2.1) rfl ?_
            refine md_ald (pc := 50) (dc_X7_areAlike_24.2.2.2.2) (by assumption) (by omega) (by omega) (fun x50 g50 => ?_)
            try have q50 := ck_v1.mp g50
            refine sg_cS1 (pc := 51) (d' := d - 1) (mc' := 0) (ms' := 0) g (dc_X7_areAlike_51.1.1.1.1) cb_X7_upperOf ml_X7_86 ms_X7_upperOf (Nat.le_of_ble_eq_true rfl) (by first | exact jl_d0 hd rfl | omega) (by first | exact Nat.le_of_ble_eq_true rfl | omega) (by first | exact Nat.le_of_ble_eq_true rfl | omega) ?_
            refine s_X7_upperOf g (by first | exact jl_d1 hd rfl | omega) (fun z51 h51 => sg_K1 ?_)
            (try simp only [fm_no, fm_one, fn_betw, fn_sign, fn_radix, fn_high, fn_low] at h51)
            refine sg_aload_n (pc := 54) (j := 0) (dc_X7_areAlike_51.1.1.1.2) rfl rfl ?_
            refine md_grw (pc := 55) g (dc_X7_areAlike_51.1.1.2.1) fk_X7_9 (by assumption) (fun r55 => ?_)
            refine sg_iload_n (pc := 58) (j := 2) (dc_X7_areAlike_51.1.1.2.2) rfl rfl ?_
            first | refine md_alr (pc := 59) (dc_X7_areAlike_51.1.2.1.1) (by assumption) (by omega) (by omega) (fun A59 l59 => ?_) | refine md_alt (pc := 59) (dc_X7_areAlike_51.1.2.1.1) (by assumption) (by omega) (by omega) (fun A59 l59 => ?_)
            refine sg_iload (pc := 60) (dc_X7_areAlike_51.1.2.1.2) rfl ?_
            refine md_ald (pc := 62) (dc_X7_areAlike_51.1.2.2.1) (by assumption) (by omega) (by omega) (fun x62 g62 => ?_)
            try have q62 := ck_v1.mp g62
            refine sg_cS1 (pc := 63) (d' := d - 1) (mc' := 0) (ms' := 0) g (dc_X7_areAlike_51.1.2.2.2) cb_X7_upperOf ml_X7_86 ms_X7_upperOf (Nat.le_of_ble_eq_true rfl) (by first | exact jl_d0 hd rfl | omega) (by first | exact Nat.le_of_ble_eq_true rfl | omega) (by first | exact Nat.le_of_ble_eq_true rfl | omega) ?_
            refine s_X7_upperOf g (by first | exact jl_d1 hd rfl | omega) (fun z63 h63 => sg_K1 ?_)
            (try simp only [fm_no, fm_one, fn_betw, fn_sign, fn_radix, fn_high, fn_low] at h63)
            refine sg_icmp_ne (pc := 66) (tgt := 73) (dc_X7_areAlike_51.2.1.1.1) (by decide) (fun c66 => ?_) (fun c66 => ?_)
            · refine sg_iconst (pc := 73) (z := 0) (dc_X7_areAlike_51.2.1.2.2) (by decide) ?_
              refine sg_istore_n (pc := 74) (j := 3) (dc_X7_areAlike_51.2.2.1.1) rfl (by decide) ?_
              first | refine sg_iincB (pc := 75) (dc_X7_areAlike_51.2.2.1.2) rfl (by decide) (by decide) (by omega) (by omega) ?_ | refine sg_iinc (pc := 75) (dc_X7_areAlike_51.2.2.1.2) rfl (by decide) (by decide) ?_
              refine sg_goto (pc := 78) (tgt := 26) (dc_X7_areAlike_51.2.2.2.1) (by decide) ?_
              refine sg_lsub (lv' := [(4, _), (3, _), (0, _), (1, _), (2, _)]) ⟨rfl, rfl, rfl, rfl, rfl, trivial⟩ ?_
              exact ih _ _ (by omega) (by omega) (by first | exact jl_m1 hm (by omega) | exact jl_m2 hm (by omega) | omega)
            · refine sg_iconst (pc := 69) (z := 1) (dc_X7_areAlike_51.2.1.1.2) (by decide) ?_
              refine sg_goto (pc := 70) (tgt := 74) (dc_X7_areAlike_51.2.1.2.1) (by decide) ?_
              refine sg_istore_n (pc := 74) (j := 3) (dc_X7_areAlike_51.2.2.1.1) rfl (by decide) ?_
              first | refine sg_iincB (pc := 75) (dc_X7_areAlike_51.2.2.1.2) rfl (by decide) (by decide) (by omega) (by omega) ?_ | refine sg_iinc (pc := 75) (dc_X7_areAlike_51.2.2.1.2) rfl (by decide) (by decide) ?_
              refine sg_goto (pc := 78) (tgt := 26) (dc_X7_areAlike_51.2.2.2.1) (by decide) ?_
              refine sg_lsub (lv' := [(4, _), (3, _), (0, _), (1, _), (2, _)]) ⟨rfl, rfl, rfl, rfl, rfl, trivial⟩ ?_
              exact ih _ _ (by omega) (by omega) (by first | exact jl_m1 hm (by omega) | exact jl_m2 hm (by omega) | omega)
    refine sg_lsub (lv' := [(4, _), (3, _), (0, _), (1, _), (2, _)]) ⟨rfl, rfl, rfl, rfl, rfl, trivial⟩ ?_
    exact loop26 _ _ _ (by omega) (by omega) (Nat.lt_succ_self _)
  · refine sg_iconst (pc := 17) (z := 1) (dc_X7_areAlike_0.2.1.2.2) (by decide) ?_
    refine sg_goto (pc := 18) (tgt := 22) (dc_X7_areAlike_0.2.2.1.1) (by decide) ?_
    refine sg_istore_n (pc := 22) (j := 3) (dc_X7_areAlike_0.2.2.2.1) rfl (by decide) ?_
    refine sg_iconst (pc := 23) (z := 0) (dc_X7_areAlike_0.2.2.2.2) (by decide) ?_
    refine sg_istore (pc := 24) (dc_X7_areAlike_24.1.1.1.1) (by decide) ?_
    have loop26 : ∀ (N : Nat) (p s : Int), (0 ≤ p) → (s = 0 ∨ (s = 1 ∧ (((md_n h (md_a h (md_r h M) row)) : Nat) : Int) = ((md_n h (md_a h (md_r h M) other) : Nat) : Int))) → ((((md_n h (md_a h (md_r h M) row)) : Nat) : Int) - p).toNat < N → sg_R w mi_X7_areAlike d 0 0 Q 26 [(4, sg_i p), (3, sg_i s), (0, sg_r M), (1, sg_i row), (2, sg_i other)] [] h 0 0 := by
      intro N
      induction N with
      | zero => intro p s p0 s0 hm; exact absurd hm (Nat.not_lt_zero _)
      | succ N ih =>
        intro p s p0 s0 hm
        refine sg_iload_n (pc := 26) (j := 3) (dc_X7_areAlike_24.1.1.1.2) rfl rfl ?_
        refine sg_if_eq (pc := 27) (tgt := 81) (dc_X7_areAlike_24.1.1.2.1) (by decide) (fun c27 => ?_) (fun c27 => ?_)
        · refine sg_iload_n (pc := 81) (j := 3) (dc_X7_areAlike_51.2.2.2.2) rfl rfl ?_
          refine sg_zret (pc := 82) dc_X7_areAlike_82 rfl (by first | exact Or.inl rfl | exact Or.inr rfl | omega | assumption) (by first | exact Nat.le_of_ble_eq_true rfl | omega) (by first | exact Nat.le_of_ble_eq_true rfl | omega) ?_
          exact hQ _ (by first | exact Or.inl rfl | exact Or.inr rfl | omega | assumption)
        · refine sg_iload (pc := 30) (dc_X7_areAlike_24.1.1.2.2) rfl ?_
          refine sg_aload_n (pc := 32) (j := 0) (dc_X7_areAlike_24.1.2.1.1) rfl rfl ?_
          refine md_grw (pc := 33) g (dc_X7_areAlike_24.1.2.1.2) fk_X7_9 (by assumption) (fun r33 => ?_)
          refine sg_iload_n (pc := 36) (j := 1) (dc_X7_areAlike_24.1.2.2.1) rfl rfl ?_
          first | refine md_alr (pc := 37) (dc_X7_areAlike_24.1.2.2.2) (by assumption) (by omega) (by omega) (fun A37 l37 => ?_) | refine md_alt (pc := 37) (dc_X7_areAlike_24.1.2.2.2) (by assumption) (by omega) (by omega) (fun A37 l37 => ?_)
          refine md_len (pc := 38) (dc_X7_areAlike_24.2.1.1.1) (by assumption) (by omega) ?_
          refine sg_icmp_ge (pc := 39) (tgt := 81) (dc_X7_areAlike_24.2.1.1.2) (by decide) (fun c39 => ?_) (fun c39 => ?_)
          · refine sg_iload_n (pc := 81) (j := 3) (dc_X7_areAlike_51.2.2.2.2) rfl rfl ?_
            refine sg_zret (pc := 82) dc_X7_areAlike_82 rfl (by first | exact Or.inl rfl | exact Or.inr rfl | omega | assumption) (by first | exact Nat.le_of_ble_eq_true rfl | omega) (by first | exact Nat.le_of_ble_eq_true rfl | omega) ?_
            exact hQ _ (by first | exact Or.inl rfl | exact Or.inr rfl | omega | assumption)
          · refine sg_aload_n (pc := 42) (j := 0) (dc_X7_areAlike_24.2.1.2.1) rfl rfl ?_
            refine md_grw (pc := 43) g (dc_X7_areAlike_24.2.1.2.2) fk_X7_9 (by assumption) (fun r43 => ?_)
            refine sg_iload_n (pc := 46) (j := 1) (dc_X7_areAlike_24.2.2.1.1) rfl rfl ?_
            first | refine md_alr (pc := 47) (dc_X7_areAlike_24.2.2.1.2) (by assumption) (by omega) (by omega) (fun A47 l47 => ?_) | refine md_alt (pc := 47) (dc_X7_areAlike_24.2.2.1.2) (by assumption) (by omega) (by omega) (fun A47 l47 => ?_)
            refine sg_iload (pc := 48) (dc_X7_areAlike_24.2.2.2.1) rfl ?_
            refine md_ald (pc := 50) (dc_X7_areAlike_24.2.2.2.2) (by assumption) (by omega) (by omega) (fun x50 g50 => ?_)
            try have q50 := ck_v1.mp g50
            refine sg_cS1 (pc := 51) (d' := d - 1) (mc' := 0) (ms' := 0) g (dc_X7_areAlike_51.1.1.1.1) cb_X7_upperOf ml_X7_86 ms_X7_upperOf (Nat.le_of_ble_eq_true rfl) (by first | exact jl_d0 hd rfl | omega) (by first | exact Nat.le_of_ble_eq_true rfl | omega) (by first | exact Nat.le_of_ble_eq_true rfl | omega) ?_
            refine s_X7_upperOf g (by first | exact jl_d1 hd rfl | omega) (fun z51 h51 => sg_K1 ?_)
            (try simp only [fm_no, fm_one, fn_betw, fn_sign, fn_radix, fn_high, fn_low] at h51)
            refine sg_aload_n (pc := 54) (j := 0) (dc_X7_areAlike_51.1.1.1.2) rfl rfl ?_
            refine md_grw (pc := 55) g (dc_X7_areAlike_51.1.1.2.1) fk_X7_9 (by assumption) (fun r55 => ?_)
            refine sg_iload_n (pc := 58) (j := 2) (dc_X7_areAlike_51.1.1.2.2) rfl rfl ?_
            first | refine md_alr (pc := 59) (dc_X7_areAlike_51.1.2.1.1) (by assumption) (by omega) (by omega) (fun A59 l59 => ?_) | refine md_alt (pc := 59) (dc_X7_areAlike_51.1.2.1.1) (by assumption) (by omega) (by omega) (fun A59 l59 => ?_)
            refine sg_iload (pc := 60) (dc_X7_areAlike_51.1.2.1.2) rfl ?_
            refine md_ald (pc := 62) (dc_X7_areAlike_51.1.2.2.1) (by assumption) (by omega) (by omega) (fun x62 g62 => ?_)
            try have q62 := ck_v1.mp g62
            refine sg_cS1 (pc := 63) (d' := d - 1) (mc' := 0) (ms' := 0) g (dc_X7_areAlike_51.1.2.2.2) cb_X7_upperOf ml_X7_86 ms_X7_upperOf (Nat.le_of_ble_eq_true rfl) (by first | exact jl_d0 hd rfl | omega) (by first | exact Nat.le_of_ble_eq_true rfl | omega) (by first | exact Nat.le_of_ble_eq_true rfl | omega) ?_
            refine s_X7_upperOf g (by first | exact jl_d1 hd rfl | omega) (fun z63 h63 => sg_K1 ?_)
            (try simp only [fm_no, fm_one, fn_betw, fn_sign, fn_radix, fn_high, fn_low] at h63)
            refine sg_icmp_ne (pc := 66) (tgt := 73) (dc_X7_areAlike_51.2.1.1.1) (by decide) (fun c66 => ?_) (fun c66 => ?_)
            · refine sg_iconst (pc := 73) (z := 0) (dc_X7_areAlike_51.2.1.2.2) (by decide) ?_
              refine sg_istore_n (pc := 74) (j := 3) (dc_X7_areAlike_51.2.2.1.1) rfl (by decide) ?_
              first | refine sg_iincB (pc := 75) (dc_X7_areAlike_51.2.2.1.2) rfl (by decide) (by decide) (by omega) (by omega) ?_ | refine sg_iinc (pc := 75) (dc_X7_areAlike_51.2.2.1.2) rfl (by decide) (by decide) ?_
              refine sg_goto (pc := 78) (tgt := 26) (dc_X7_areAlike_51.2.2.2.1) (by decide) ?_
              refine sg_lsub (lv' := [(4, _), (3, _), (0, _), (1, _), (2, _)]) ⟨rfl, rfl, rfl, rfl, rfl, trivial⟩ ?_
              exact ih _ _ (by omega) (by omega) (by first | exact jl_m1 hm (by omega) | exact jl_m2 hm (by omega) | omega)
            · refine sg_iconst (pc := 69) (z := 1) (dc_X7_areAlike_51.2.1.1.2) (by decide) ?_
              refine sg_goto (pc := 70) (tgt := 74) (dc_X7_areAlike_51.2.1.2.1) (by decide) ?_
              refine sg_istore_n (pc := 74) (j := 3) (dc_X7_areAlike_51.2.2.1.1) rfl (by decide) ?_
              first | refine sg_iincB (pc := 75) (dc_X7_areAlike_51.2.2.1.2) rfl (by decide) (by decide) (by omega) (by omega) ?_ | refine sg_iinc (pc := 75) (dc_X7_areAlike_51.2.2.1.2) rfl (by decide) (by decide) ?_
              refine sg_goto (pc := 78) (tgt := 26) (dc_X7_areAlike_51.2.2.2.1) (by decide) ?_
              refine sg_lsub (lv' := [(4, _), (3, _), (0, _), (1, _), (2, _)]) ⟨rfl, rfl, rfl, rfl, rfl, trivial⟩ ?_
              exact ih _ _ (by omega) (by omega) (by first | exact jl_m1 hm (by omega) | exact jl_m2 hm (by omega) | omega)
    refine sg_lsub (lv' := [(4, _), (3, _), (0, _), (1, _), (2, _)]) ⟨rfl, rfl, rfl, rfl, rfl, trivial⟩ ?_
    exact loop26 _ _ _ (by omega) (by omega) (Nat.lt_succ_self _)

set_option maxRecDepth 100000 in
theorem s_X7_isAlike {w : sg_W} {Q : sg_O → sg_H → Prop} {h : sg_H} (g : sg_G w) {d : Nat} (hd : 9 ≤ d) {M : Nat} {row other : Int}  (hx : md_M w h M) (hQ : ∀ (v : Int) (h' : sg_H), (v = 0 ∨ v = 1) → md_Y w h h' M → Q (.inl (some (sg_i v))) h') : sg_C w mi_X7_isAlike d 0 0 [sg_r M, sg_i row, sg_i other] h Q := by
  refine sg_of pn_X7 (Nat.le_of_ble_eq_true rfl) ?_
  have y0 := md_Y0 hx
  have hk := hx.2.1
  refine sg_aload_n (pc := 0) (j := 0) (dc_X7_isAlike_0.1.1.1.1) rfl rfl ?_
  refine sg_iload_n (pc := 1) (j := 1) (dc_X7_isAlike_0.1.1.1.2) rfl rfl ?_
  refine sg_cS1 (pc := 2) (d' := d - 1) (mc' := 0) (ms' := 0) g (dc_X7_isAlike_0.1.1.2.1) cb_X7_isNoRow ml_X7_68 ms_X7_isNoRow (Nat.le_of_ble_eq_true rfl) (by first | exact jl_d0 hd rfl | omega) (by first | exact Nat.le_of_ble_eq_true rfl | omega) (by first | exact Nat.le_of_ble_eq_true rfl | omega) ?_
  refine s_X7_isNoRow g (by first | exact jl_d1 hd rfl | omega) (fun z2 h2 b2 => sg_K1 ?_)
  (try simp only [fm_no, fm_one, fn_betw, fn_sign, fn_radix, fn_high, fn_low] at h2)
  refine sg_if_ne (pc := 5) (tgt := 15) (dc_X7_isAlike_0.1.1.2.2) (by decide) (fun c5 => ?_) (fun c5 => ?_)
  · refine sg_iconst (pc := 15) (z := 1) (dc_X7_isAlike_0.1.2.2.2) (by decide) ?_
    refine sg_goto (pc := 16) (tgt := 20) (dc_X7_isAlike_0.2.1.1.1) (by decide) ?_
    refine sg_iconst (pc := 20) (z := 1) (dc_X7_isAlike_0.2.1.2.1) (by decide) ?_
    refine sg_cE2 (pc := 21) (d' := d - 1) (mc' := 0) (ms' := 0) 8 g (dc_X7_isAlike_0.2.1.2.2) cb_X7_start ml_X7_71 mn_X7_start rfl mv_X7_start (Nat.le_of_ble_eq_true rfl) (md_oc (by assumption)) (Nat.le_of_ble_eq_true rfl) (by first | exact jl_d0 hd rfl | omega) (by first | exact Nat.le_of_ble_eq_true rfl | omega) (by first | exact Nat.le_of_ble_eq_true rfl | omega) ?_
    refine s_X7_start g (by first | exact jl_d1 hd rfl | omega) (by omega) (by assumption) (fun v21 h21 b21 i21 t21 s21 u21 y21 => sg_K1 ?_)
    have x21 := y21.1
    have hk21 := x21.2.1
    have y21 := md_Yt (h0 := h) (by assumption) y21
    refine sg_if_ne (pc := 24) (tgt := 40) (dc_X7_isAlike_0.2.2.1.1) (by decide) (fun c24 => ?_) (fun c24 => absurd c24 (by omega))
    refine sg_iconst (pc := 40) (z := 0) (dc_X7_isAlike_30.2.1.1) (by decide) ?_
    refine sg_zret (pc := 41) (dc_X7_isAlike_30.2.1.2) rfl (by first | exact Or.inl rfl | exact Or.inr rfl | omega | assumption) (by first | exact Nat.le_of_ble_eq_true rfl | omega) (by first | exact Nat.le_of_ble_eq_true rfl | omega) ?_
    exact hQ _ _ (by first | exact Or.inl rfl | exact Or.inr rfl | omega | assumption) (by assumption)
  · refine sg_iload_n (pc := 8) (j := 2) (dc_X7_isAlike_0.1.2.1.1) rfl rfl ?_
    refine sg_cS1 (pc := 9) (d' := d - 1) (mc' := 0) (ms' := 0) g (dc_X7_isAlike_0.1.2.1.2) cb_X7_isNoRow ml_X7_68 ms_X7_isNoRow (Nat.le_of_ble_eq_true rfl) (by first | exact jl_d0 hd rfl | omega) (by first | exact Nat.le_of_ble_eq_true rfl | omega) (by first | exact Nat.le_of_ble_eq_true rfl | omega) ?_
    refine s_X7_isNoRow g (by first | exact jl_d1 hd rfl | omega) (fun z9 h9 b9 => sg_K1 ?_)
    (try simp only [fm_no, fm_one, fn_betw, fn_sign, fn_radix, fn_high, fn_low] at h9)
    refine sg_if_eq (pc := 12) (tgt := 19) (dc_X7_isAlike_0.1.2.2.1) (by decide) (fun c12 => ?_) (fun c12 => ?_)
    · refine sg_iconst (pc := 19) (z := 0) (dc_X7_isAlike_0.2.1.1.2) (by decide) ?_
      refine sg_iconst (pc := 20) (z := 1) (dc_X7_isAlike_0.2.1.2.1) (by decide) ?_
      refine sg_cE2 (pc := 21) (d' := d - 1) (mc' := 0) (ms' := 0) 8 g (dc_X7_isAlike_0.2.1.2.2) cb_X7_start ml_X7_71 mn_X7_start rfl mv_X7_start (Nat.le_of_ble_eq_true rfl) (md_oc (by assumption)) (Nat.le_of_ble_eq_true rfl) (by first | exact jl_d0 hd rfl | omega) (by first | exact Nat.le_of_ble_eq_true rfl | omega) (by first | exact Nat.le_of_ble_eq_true rfl | omega) ?_
      refine s_X7_start g (by first | exact jl_d1 hd rfl | omega) (by omega) (by assumption) (fun v21 h21 b21 i21 t21 s21 u21 y21 => sg_K1 ?_)
      have x21 := y21.1
      have hk21 := x21.2.1
      have y21 := md_Yt (h0 := h) (by assumption) y21
      refine sg_if_ne (pc := 24) (tgt := 40) (dc_X7_isAlike_0.2.2.1.1) (by decide) (fun c24 => absurd c24 (by omega)) (fun c24 => ?_)
      refine sg_aload_n (pc := 27) (j := 0) (dc_X7_isAlike_0.2.2.1.2) rfl rfl ?_
      refine sg_iload_n (pc := 28) (j := 1) (dc_X7_isAlike_0.2.2.2.1) rfl rfl ?_
      refine sg_iload_n (pc := 29) (j := 2) (dc_X7_isAlike_0.2.2.2.2) rfl rfl ?_
      refine sg_cE2 (pc := 30) (d' := d - 1) (mc' := 0) (ms' := 0) 8 g (dc_X7_isAlike_30.1.1.1) cb_X7_areAlike ml_X7_219 mn_X7_areAlike rfl mv_X7_areAlike (Nat.le_of_ble_eq_true rfl) (md_oc (by assumption)) (Nat.le_of_ble_eq_true rfl) (by first | exact jl_d0 hd rfl | omega) (by first | exact Nat.le_of_ble_eq_true rfl | omega) (by first | exact Nat.le_of_ble_eq_true rfl | omega) ?_
      refine s_X7_areAlike g (by first | exact jl_d1 hd rfl | omega) (by omega) (by assumption) (fun v30 b30 => sg_K1 ?_)
      refine sg_if_eq (pc := 33) (tgt := 40) (dc_X7_isAlike_30.1.1.2) (by decide) (fun c33 => ?_) (fun c33 => ?_)
      · refine sg_iconst (pc := 40) (z := 0) (dc_X7_isAlike_30.2.1.1) (by decide) ?_
        refine sg_zret (pc := 41) (dc_X7_isAlike_30.2.1.2) rfl (by first | exact Or.inl rfl | exact Or.inr rfl | omega | assumption) (by first | exact Nat.le_of_ble_eq_true rfl | omega) (by first | exact Nat.le_of_ble_eq_true rfl | omega) ?_
        exact hQ _ _ (by first | exact Or.inl rfl | exact Or.inr rfl | omega | assumption) (by assumption)
      · refine sg_iconst (pc := 36) (z := 1) (dc_X7_isAlike_30.1.2.1) (by decide) ?_
        refine sg_goto (pc := 37) (tgt := 41) (dc_X7_isAlike_30.1.2.2) (by decide) ?_
        refine sg_zret (pc := 41) (dc_X7_isAlike_30.2.1.2) rfl (by first | exact Or.inl rfl | exact Or.inr rfl | omega | assumption) (by first | exact Nat.le_of_ble_eq_true rfl | omega) (by first | exact Nat.le_of_ble_eq_true rfl | omega) ?_
        exact hQ _ _ (by first | exact Or.inl rfl | exact Or.inr rfl | omega | assumption) (by assumption)
    · refine sg_iconst (pc := 15) (z := 1) (dc_X7_isAlike_0.1.2.2.2) (by decide) ?_
      refine sg_goto (pc := 16) (tgt := 20) (dc_X7_isAlike_0.2.1.1.1) (by decide) ?_
      refine sg_iconst (pc := 20) (z := 1) (dc_X7_isAlike_0.2.1.2.1) (by decide) ?_
      refine sg_cE2 (pc := 21) (d' := d - 1) (mc' := 0) (ms' := 0) 8 g (dc_X7_isAlike_0.2.1.2.2) cb_X7_start ml_X7_71 mn_X7_start rfl mv_X7_start (Nat.le_of_ble_eq_true rfl) (md_oc (by assumption)) (Nat.le_of_ble_eq_true rfl) (by first | exact jl_d0 hd rfl | omega) (by first | exact Nat.le_of_ble_eq_true rfl | omega) (by first | exact Nat.le_of_ble_eq_true rfl | omega) ?_
      refine s_X7_start g (by first | exact jl_d1 hd rfl | omega) (by omega) (by assumption) (fun v21 h21 b21 i21 t21 s21 u21 y21 => sg_K1 ?_)
      have x21 := y21.1
      have hk21 := x21.2.1
      have y21 := md_Yt (h0 := h) (by assumption) y21
      refine sg_if_ne (pc := 24) (tgt := 40) (dc_X7_isAlike_0.2.2.1.1) (by decide) (fun c24 => ?_) (fun c24 => absurd c24 (by omega))
      refine sg_iconst (pc := 40) (z := 0) (dc_X7_isAlike_30.2.1.1) (by decide) ?_
      refine sg_zret (pc := 41) (dc_X7_isAlike_30.2.1.2) rfl (by first | exact Or.inl rfl | exact Or.inr rfl | omega | assumption) (by first | exact Nat.le_of_ble_eq_true rfl | omega) (by first | exact Nat.le_of_ble_eq_true rfl | omega) ?_
      exact hQ _ _ (by first | exact Or.inl rfl | exact Or.inr rfl | omega | assumption) (by assumption)

set_option maxRecDepth 100000 in
theorem s_X7_order {w : sg_W} {Q : sg_O → sg_H → Prop} {h : sg_H} (g : sg_G w) {d : Nat} (hd : 9 ≤ d) {M : Nat} {row other : Int}  (hx : md_M w h M) (hQ : ∀ (v : Int) (h' : sg_H), md_Y w h h' M → Q (.inl (some (sg_i v))) h') : sg_C w mi_X7_order d 0 0 [sg_r M, sg_i row, sg_i other] h Q := by
  refine sg_of pn_X7 (Nat.le_of_ble_eq_true rfl) ?_
  have y0 := md_Y0 hx
  have hk := hx.2.1
  refine sg_aload_n (pc := 0) (j := 0) (dc_X7_order_0.1.1.1.1) rfl rfl ?_
  refine sg_iload_n (pc := 1) (j := 1) (dc_X7_order_0.1.1.1.2) rfl rfl ?_
  refine sg_cS1 (pc := 2) (d' := d - 1) (mc' := 0) (ms' := 0) g (dc_X7_order_0.1.1.2.1) cb_X7_isNoRow ml_X7_68 ms_X7_isNoRow (Nat.le_of_ble_eq_true rfl) (by first | exact jl_d0 hd rfl | omega) (by first | exact Nat.le_of_ble_eq_true rfl | omega) (by first | exact Nat.le_of_ble_eq_true rfl | omega) ?_
  refine s_X7_isNoRow g (by first | exact jl_d1 hd rfl | omega) (fun z2 h2 b2 => sg_K1 ?_)
  (try simp only [fm_no, fm_one, fn_betw, fn_sign, fn_radix, fn_high, fn_low] at h2)
  refine sg_if_ne (pc := 5) (tgt := 15) (dc_X7_order_0.1.1.2.2) (by decide) (fun c5 => ?_) (fun c5 => ?_)
  · refine sg_iconst (pc := 15) (z := 1) (dc_X7_order_0.1.2.2.2) (by decide) ?_
    refine sg_goto (pc := 16) (tgt := 20) (dc_X7_order_0.2.1.1.1) (by decide) ?_
    refine sg_iconst (pc := 20) (z := 1) (dc_X7_order_0.2.1.2.1) (by decide) ?_
    refine sg_cE2 (pc := 21) (d' := d - 1) (mc' := 0) (ms' := 0) 8 g (dc_X7_order_0.2.1.2.2) cb_X7_start ml_X7_71 mn_X7_start rfl mv_X7_start (Nat.le_of_ble_eq_true rfl) (md_oc (by assumption)) (Nat.le_of_ble_eq_true rfl) (by first | exact jl_d0 hd rfl | omega) (by first | exact Nat.le_of_ble_eq_true rfl | omega) (by first | exact Nat.le_of_ble_eq_true rfl | omega) ?_
    refine s_X7_start g (by first | exact jl_d1 hd rfl | omega) (by omega) (by assumption) (fun v21 h21 b21 i21 t21 s21 u21 y21 => sg_K1 ?_)
    have x21 := y21.1
    have hk21 := x21.2.1
    have y21 := md_Yt (h0 := h) (by assumption) y21
    refine sg_if_eq (pc := 24) (tgt := 31) (dc_X7_order_0.2.2.1.1) (by decide) (fun c24 => absurd c24 (by omega)) (fun c24 => ?_)
    refine sg_iconst (pc := 27) (z := 0) (dc_X7_order_0.2.2.1.2) (by decide) ?_
    refine sg_goto (pc := 28) (tgt := 47) (dc_X7_order_0.2.2.2.1) (by decide) ?_
    refine sg_iret (pc := 47) (dc_X7_order_32.2.1.1.2) rfl (by first | exact Nat.le_of_ble_eq_true rfl | omega) (by first | exact Nat.le_of_ble_eq_true rfl | omega) ?_
    exact hQ _ _ (by assumption)
  · refine sg_iload_n (pc := 8) (j := 2) (dc_X7_order_0.1.2.1.1) rfl rfl ?_
    refine sg_cS1 (pc := 9) (d' := d - 1) (mc' := 0) (ms' := 0) g (dc_X7_order_0.1.2.1.2) cb_X7_isNoRow ml_X7_68 ms_X7_isNoRow (Nat.le_of_ble_eq_true rfl) (by first | exact jl_d0 hd rfl | omega) (by first | exact Nat.le_of_ble_eq_true rfl | omega) (by first | exact Nat.le_of_ble_eq_true rfl | omega) ?_
    refine s_X7_isNoRow g (by first | exact jl_d1 hd rfl | omega) (fun z9 h9 b9 => sg_K1 ?_)
    (try simp only [fm_no, fm_one, fn_betw, fn_sign, fn_radix, fn_high, fn_low] at h9)
    refine sg_if_eq (pc := 12) (tgt := 19) (dc_X7_order_0.1.2.2.1) (by decide) (fun c12 => ?_) (fun c12 => ?_)
    · refine sg_iconst (pc := 19) (z := 0) (dc_X7_order_0.2.1.1.2) (by decide) ?_
      refine sg_iconst (pc := 20) (z := 1) (dc_X7_order_0.2.1.2.1) (by decide) ?_
      refine sg_cE2 (pc := 21) (d' := d - 1) (mc' := 0) (ms' := 0) 8 g (dc_X7_order_0.2.1.2.2) cb_X7_start ml_X7_71 mn_X7_start rfl mv_X7_start (Nat.le_of_ble_eq_true rfl) (md_oc (by assumption)) (Nat.le_of_ble_eq_true rfl) (by first | exact jl_d0 hd rfl | omega) (by first | exact Nat.le_of_ble_eq_true rfl | omega) (by first | exact Nat.le_of_ble_eq_true rfl | omega) ?_
      refine s_X7_start g (by first | exact jl_d1 hd rfl | omega) (by omega) (by assumption) (fun v21 h21 b21 i21 t21 s21 u21 y21 => sg_K1 ?_)
      have x21 := y21.1
      have hk21 := x21.2.1
      have y21 := md_Yt (h0 := h) (by assumption) y21
      refine sg_if_eq (pc := 24) (tgt := 31) (dc_X7_order_0.2.2.1.1) (by decide) (fun c24 => ?_) (fun c24 => absurd c24 (by omega))
      refine sg_aload_n (pc := 31) (j := 0) (dc_X7_order_0.2.2.2.2) rfl rfl ?_
      refine sg_aload_n (pc := 32) (j := 0) (dc_X7_order_32.1.1.1.1) rfl rfl ?_
      refine md_grw (pc := 33) g (dc_X7_order_32.1.1.1.2) fk_X7_9 (by assumption) (fun r33 => ?_)
      refine sg_iload_n (pc := 36) (j := 1) (dc_X7_order_32.1.1.2.1) rfl rfl ?_
      first | refine md_alr (pc := 37) (dc_X7_order_32.1.1.2.2) (by assumption) (by omega) (by omega) (fun A37 l37 => ?_) | refine md_alt (pc := 37) (dc_X7_order_32.1.1.2.2) (by assumption) (by omega) (by omega) (fun A37 l37 => ?_)
      refine sg_aload_n (pc := 38) (j := 0) (dc_X7_order_32.1.2.1.1) rfl rfl ?_
      refine md_grw (pc := 39) g (dc_X7_order_32.1.2.1.2) fk_X7_9 (by assumption) (fun r39 => ?_)
      refine sg_iload_n (pc := 42) (j := 2) (dc_X7_order_32.1.2.2.1) rfl rfl ?_
      first | refine md_alr (pc := 43) (dc_X7_order_32.1.2.2.2) (by assumption) (by omega) (by omega) (fun A43 l43 => ?_) | refine md_alt (pc := 43) (dc_X7_order_32.1.2.2.2) (by assumption) (by omega) (by omega) (fun A43 l43 => ?_)
      refine sg_cE2 (pc := 44) (d' := d - 1) (mc' := 0) (ms' := 0) 8 g (dc_X7_order_32.2.1.1.1) cb_X7_orderOf ml_X7_222 mn_X7_orderOf rfl mv_X7_orderOf (Nat.le_of_ble_eq_true rfl) (md_oc (by assumption)) (Nat.le_of_ble_eq_true rfl) (by first | exact jl_d0 hd rfl | omega) (by first | exact Nat.le_of_ble_eq_true rfl | omega) (by first | exact Nat.le_of_ble_eq_true rfl | omega) ?_
      refine s_X7_orderOf (c := 0) g (by first | exact jl_d1 hd rfl | omega) (by assumption) (by assumption) (by omega) (by omega) (fun v44 => sg_K1 ?_)
      refine sg_iret (pc := 47) (dc_X7_order_32.2.1.1.2) rfl (by first | exact Nat.le_of_ble_eq_true rfl | omega) (by first | exact Nat.le_of_ble_eq_true rfl | omega) ?_
      exact hQ _ _ (by assumption)
    · refine sg_iconst (pc := 15) (z := 1) (dc_X7_order_0.1.2.2.2) (by decide) ?_
      refine sg_goto (pc := 16) (tgt := 20) (dc_X7_order_0.2.1.1.1) (by decide) ?_
      refine sg_iconst (pc := 20) (z := 1) (dc_X7_order_0.2.1.2.1) (by decide) ?_
      refine sg_cE2 (pc := 21) (d' := d - 1) (mc' := 0) (ms' := 0) 8 g (dc_X7_order_0.2.1.2.2) cb_X7_start ml_X7_71 mn_X7_start rfl mv_X7_start (Nat.le_of_ble_eq_true rfl) (md_oc (by assumption)) (Nat.le_of_ble_eq_true rfl) (by first | exact jl_d0 hd rfl | omega) (by first | exact Nat.le_of_ble_eq_true rfl | omega) (by first | exact Nat.le_of_ble_eq_true rfl | omega) ?_
      refine s_X7_start g (by first | exact jl_d1 hd rfl | omega) (by omega) (by assumption) (fun v21 h21 b21 i21 t21 s21 u21 y21 => sg_K1 ?_)
      have x21 := y21.1
      have hk21 := x21.2.1
      have y21 := md_Yt (h0 := h) (by assumption) y21
      refine sg_if_eq (pc := 24) (tgt := 31) (dc_X7_order_0.2.2.1.1) (by decide) (fun c24 => absurd c24 (by omega)) (fun c24 => ?_)
      refine sg_iconst (pc := 27) (z := 0) (dc_X7_order_0.2.2.1.2) (by decide) ?_
      refine sg_goto (pc := 28) (tgt := 47) (dc_X7_order_0.2.2.2.1) (by decide) ?_
      refine sg_iret (pc := 47) (dc_X7_order_32.2.1.1.2) rfl (by first | exact Nat.le_of_ble_eq_true rfl | omega) (by first | exact Nat.le_of_ble_eq_true rfl | omega) ?_
      exact hQ _ _ (by assumption)

set_option maxRecDepth 100000 in
theorem s_X7_code {w : sg_W} {Q : sg_O → sg_H → Prop} {h : sg_H} (g : sg_G w) {d : Nat} (hd : 9 ≤ d) {M : Nat} {x y : Int}  (hx : md_M w h M) (hQ : ∀ (v : Int) (h' : sg_H), ((x < 55296 ∨ 56320 ≤ x ∨ y < 56320 ∨ 57344 ≤ y) → md_t h' M = 1) → (¬ (x < 55296 ∨ 56320 ≤ x ∨ y < 56320 ∨ 57344 ≤ y) → md_t h' M = 0 ∧ v = 65536 + (x - 55296) * 1024 + (y - 56320)) → md_Y w h h' M → Q (.inl (some (sg_i v))) h') : sg_C w mi_X7_code d 0 0 [sg_r M, sg_i x, sg_i y] h Q := by
  refine sg_of pn_X7 (Nat.le_of_ble_eq_true rfl) ?_
  have y0 := md_Y0 hx
  have hk := hx.2.1
  refine sg_aload_n (pc := 0) (j := 0) (dc_X7_code_0.1.1.1.1) rfl rfl ?_
  refine sg_iload_n (pc := 1) (j := 1) (dc_X7_code_0.1.1.1.2) rfl rfl ?_
  refine sg_cS1 (pc := 2) (d' := d - 1) (mc' := 0) (ms' := 0) g (dc_X7_code_0.1.1.2.1) cb_X7_isHigh ml_X7_122 ms_X7_isHigh (Nat.le_of_ble_eq_true rfl) (by first | exact jl_d0 hd rfl | omega) (by first | exact Nat.le_of_ble_eq_true rfl | omega) (by first | exact Nat.le_of_ble_eq_true rfl | omega) ?_
  refine s_X7_isHigh g (by first | exact jl_d1 hd rfl | omega) (fun z2 h2 b2 => sg_K1 ?_)
  (try simp only [fm_no, fm_one, fn_betw, fn_sign, fn_radix, fn_high, fn_low] at h2)
  refine sg_if_eq (pc := 5) (tgt := 15) (dc_X7_code_0.1.1.2.2) (by decide) (fun c5 => ?_) (fun c5 => ?_)
  · refine sg_iconst (pc := 15) (z := 1) (dc_X7_code_0.1.2.2.2) (by decide) ?_
    refine sg_goto (pc := 16) (tgt := 20) (dc_X7_code_0.2.1.1.1) (by decide) ?_
    refine sg_iconst (pc := 20) (z := 1) (dc_X7_code_0.2.1.2.1) (by decide) ?_
    refine sg_cE2 (pc := 21) (d' := d - 1) (mc' := 0) (ms' := 0) 8 g (dc_X7_code_0.2.1.2.2) cb_X7_start ml_X7_71 mn_X7_start rfl mv_X7_start (Nat.le_of_ble_eq_true rfl) (md_oc (by assumption)) (Nat.le_of_ble_eq_true rfl) (by first | exact jl_d0 hd rfl | omega) (by first | exact Nat.le_of_ble_eq_true rfl | omega) (by first | exact Nat.le_of_ble_eq_true rfl | omega) ?_
    refine s_X7_start g (by first | exact jl_d1 hd rfl | omega) (by omega) (by assumption) (fun v21 h21 b21 i21 t21 s21 u21 y21 => sg_K1 ?_)
    have x21 := y21.1
    have hk21 := x21.2.1
    have y21 := md_Yt (h0 := h) (by assumption) y21
    refine sg_if_eq (pc := 24) (tgt := 31) (dc_X7_code_0.2.2.1.1) (by decide) (fun c24 => absurd c24 (by omega)) (fun c24 => ?_)
    refine sg_iconst (pc := 27) (z := 0) (dc_X7_code_0.2.2.1.2) (by decide) ?_
    refine sg_goto (pc := 28) (tgt := 36) (dc_X7_code_0.2.2.2.1) (by decide) ?_
    refine sg_iret (pc := 36) (dc_X7_code_32.2.1) rfl (by first | exact Nat.le_of_ble_eq_true rfl | omega) (by first | exact Nat.le_of_ble_eq_true rfl | omega) ?_
    exact hQ _ _ (by omega) (by omega) (by assumption)
  · refine sg_iload_n (pc := 8) (j := 2) (dc_X7_code_0.1.2.1.1) rfl rfl ?_
    refine sg_cS1 (pc := 9) (d' := d - 1) (mc' := 0) (ms' := 0) g (dc_X7_code_0.1.2.1.2) cb_X7_isLow ml_X7_125 ms_X7_isLow (Nat.le_of_ble_eq_true rfl) (by first | exact jl_d0 hd rfl | omega) (by first | exact Nat.le_of_ble_eq_true rfl | omega) (by first | exact Nat.le_of_ble_eq_true rfl | omega) ?_
    refine s_X7_isLow g (by first | exact jl_d1 hd rfl | omega) (fun z9 h9 b9 => sg_K1 ?_)
    (try simp only [fm_no, fm_one, fn_betw, fn_sign, fn_radix, fn_high, fn_low] at h9)
    refine sg_if_ne (pc := 12) (tgt := 19) (dc_X7_code_0.1.2.2.1) (by decide) (fun c12 => ?_) (fun c12 => ?_)
    · refine sg_iconst (pc := 19) (z := 0) (dc_X7_code_0.2.1.1.2) (by decide) ?_
      refine sg_iconst (pc := 20) (z := 1) (dc_X7_code_0.2.1.2.1) (by decide) ?_
      refine sg_cE2 (pc := 21) (d' := d - 1) (mc' := 0) (ms' := 0) 8 g (dc_X7_code_0.2.1.2.2) cb_X7_start ml_X7_71 mn_X7_start rfl mv_X7_start (Nat.le_of_ble_eq_true rfl) (md_oc (by assumption)) (Nat.le_of_ble_eq_true rfl) (by first | exact jl_d0 hd rfl | omega) (by first | exact Nat.le_of_ble_eq_true rfl | omega) (by first | exact Nat.le_of_ble_eq_true rfl | omega) ?_
      refine s_X7_start g (by first | exact jl_d1 hd rfl | omega) (by omega) (by assumption) (fun v21 h21 b21 i21 t21 s21 u21 y21 => sg_K1 ?_)
      have x21 := y21.1
      have hk21 := x21.2.1
      have y21 := md_Yt (h0 := h) (by assumption) y21
      refine sg_if_eq (pc := 24) (tgt := 31) (dc_X7_code_0.2.2.1.1) (by decide) (fun c24 => ?_) (fun c24 => absurd c24 (by omega))
      refine sg_iload_n (pc := 31) (j := 1) (dc_X7_code_0.2.2.2.2) rfl rfl ?_
      refine sg_iload_n (pc := 32) (j := 2) (dc_X7_code_32.1.1) rfl rfl ?_
      refine sg_cS2 (pc := 33) (d' := d - 1) (mc' := 0) (ms' := 0) g (dc_X7_code_32.1.2) cb_X7_both ml_X7_147 ms_X7_both (Nat.le_of_ble_eq_true rfl) (by first | exact jl_d0 hd rfl | omega) (by first | exact Nat.le_of_ble_eq_true rfl | omega) (by first | exact Nat.le_of_ble_eq_true rfl | omega) ?_
      refine s_X7_both g (by first | exact jl_d1 hd rfl | omega) (fun z33 h33 => sg_K1 ?_)
      refine sg_iret (pc := 36) (dc_X7_code_32.2.1) rfl (by first | exact Nat.le_of_ble_eq_true rfl | omega) (by first | exact Nat.le_of_ble_eq_true rfl | omega) ?_
      exact hQ _ _ (by omega) (by omega) (by assumption)
    · refine sg_iconst (pc := 15) (z := 1) (dc_X7_code_0.1.2.2.2) (by decide) ?_
      refine sg_goto (pc := 16) (tgt := 20) (dc_X7_code_0.2.1.1.1) (by decide) ?_
      refine sg_iconst (pc := 20) (z := 1) (dc_X7_code_0.2.1.2.1) (by decide) ?_
      refine sg_cE2 (pc := 21) (d' := d - 1) (mc' := 0) (ms' := 0) 8 g (dc_X7_code_0.2.1.2.2) cb_X7_start ml_X7_71 mn_X7_start rfl mv_X7_start (Nat.le_of_ble_eq_true rfl) (md_oc (by assumption)) (Nat.le_of_ble_eq_true rfl) (by first | exact jl_d0 hd rfl | omega) (by first | exact Nat.le_of_ble_eq_true rfl | omega) (by first | exact Nat.le_of_ble_eq_true rfl | omega) ?_
      refine s_X7_start g (by first | exact jl_d1 hd rfl | omega) (by omega) (by assumption) (fun v21 h21 b21 i21 t21 s21 u21 y21 => sg_K1 ?_)
      have x21 := y21.1
      have hk21 := x21.2.1
      have y21 := md_Yt (h0 := h) (by assumption) y21
      refine sg_if_eq (pc := 24) (tgt := 31) (dc_X7_code_0.2.2.1.1) (by decide) (fun c24 => absurd c24 (by omega)) (fun c24 => ?_)
      refine sg_iconst (pc := 27) (z := 0) (dc_X7_code_0.2.2.1.2) (by decide) ?_
      refine sg_goto (pc := 28) (tgt := 36) (dc_X7_code_0.2.2.2.1) (by decide) ?_
      refine sg_iret (pc := 36) (dc_X7_code_32.2.1) rfl (by first | exact Nat.le_of_ble_eq_true rfl | omega) (by first | exact Nat.le_of_ble_eq_true rfl | omega) ?_
      exact hQ _ _ (by omega) (by omega) (by assumption)

set_option maxRecDepth 100000 in
theorem s_X7_ofUnitTold {w : sg_W} {Q : sg_O → sg_H → Prop} {h : sg_H} (g : sg_G w) {d : Nat} (hd : 4 ≤ d) {x what : Int} (hv : 0 ≤ x ∧ x < 65536 ∧ 0 ≤ what ∧ what ≤ 3) (hQ : ∀ v : Int, ((what = 0 → v = fn_half x) ∧ (what = 1 → v = fn_high x) ∧ (what = 2 → v = fn_low x) ∧ (what = 3 → v = x % 256 * 256 + x / 256)) → Q (.inl (some (sg_i v))) h) : sg_C w mi_X7_ofUnitTold d 0 0 [sg_i x, sg_i what] h Q := by
  refine sg_of pn_X7 (Nat.le_of_ble_eq_true rfl) ?_
  refine sg_iload_n (pc := 0) (j := 1) (dc_X7_ofUnitTold_0.1.1.1.1) rfl rfl ?_
  refine sg_if_ne (pc := 1) (tgt := 14) (dc_X7_ofUnitTold_0.1.1.1.2) (by decide) (fun c1 => ?_) (fun c1 => ?_)
  · refine sg_iload_n (pc := 14) (j := 1) (dc_X7_ofUnitTold_0.1.2.2.1) rfl rfl ?_
    refine sg_iconst (pc := 15) (z := 1) (dc_X7_ofUnitTold_0.1.2.2.2) (by decide) ?_
    refine sg_icmp_ne (pc := 16) (tgt := 29) (dc_X7_ofUnitTold_0.2.1.1.1) (by decide) (fun c16 => ?_) (fun c16 => ?_)
    · refine sg_iload_n (pc := 29) (j := 1) (dc_X7_ofUnitTold_0.2.2.1.2) rfl rfl ?_
      refine sg_iconst (pc := 30) (z := 2) (dc_X7_ofUnitTold_0.2.2.2.1) (by decide) ?_
      refine sg_icmp_ne (pc := 31) (tgt := 44) (dc_X7_ofUnitTold_0.2.2.2.2) (by decide) (fun c31 => ?_) (fun c31 => ?_)
      · refine sg_iload_n (pc := 44) (j := 0) (dc_X7_ofUnitTold_34.2.1.1) rfl rfl ?_
        refine sg_cS1 (pc := 45) (d' := d - 1) (mc' := 0) (ms' := 0) g (dc_X7_ofUnitTold_34.2.1.2) cb_X7_turnedUnit ml_X7_141 ms_X7_turnedUnit (Nat.le_of_ble_eq_true rfl) (by first | exact jl_d0 hd rfl | omega) (by first | exact Nat.le_of_ble_eq_true rfl | omega) (by first | exact Nat.le_of_ble_eq_true rfl | omega) ?_
        refine s_X7_turnedUnit g (by first | exact jl_d1 hd rfl | omega) (fun z45 h45 => sg_K1 ?_)
        refine sg_iret (pc := 48) (dc_X7_ofUnitTold_34.2.2.1) rfl (by first | exact Nat.le_of_ble_eq_true rfl | omega) (by first | exact Nat.le_of_ble_eq_true rfl | omega) ?_
        exact hQ _ (by refine ⟨?_, ?_, ?_, ?_⟩ <;> intro qw <;> first | (exfalso; omega) | (simp only [fn_half, fn_high, fn_low, fm_one] at *; omega))
      · refine sg_iload_n (pc := 34) (j := 0) (dc_X7_ofUnitTold_34.1.1.1) rfl rfl ?_
        refine sg_cS1 (pc := 35) (d' := d - 1) (mc' := 0) (ms' := 0) g (dc_X7_ofUnitTold_34.1.1.2) cb_X7_isLow ml_X7_125 ms_X7_isLow (Nat.le_of_ble_eq_true rfl) (by first | exact jl_d0 hd rfl | omega) (by first | exact Nat.le_of_ble_eq_true rfl | omega) (by first | exact Nat.le_of_ble_eq_true rfl | omega) ?_
        refine s_X7_isLow g (by first | exact jl_d1 hd rfl | omega) (fun z35 h35 b35 => sg_K1 ?_)
        refine sg_cS1 (pc := 38) (d' := d - 1) (mc' := 0) (ms' := 0) g (dc_X7_ofUnitTold_34.1.2.1) cb_X7_one ml_X7_92 ms_X7_one (Nat.le_of_ble_eq_true rfl) (by first | exact jl_d0 hd rfl | omega) (by first | exact Nat.le_of_ble_eq_true rfl | omega) (by first | exact Nat.le_of_ble_eq_true rfl | omega) ?_
        refine s_X7_one g (by first | exact jl_d1 hd rfl | omega) (fun z38 h38 b38 => sg_K1 ?_)
        refine sg_goto (pc := 41) (tgt := 48) (dc_X7_ofUnitTold_34.1.2.2) (by decide) ?_
        refine sg_iret (pc := 48) (dc_X7_ofUnitTold_34.2.2.1) rfl (by first | exact Nat.le_of_ble_eq_true rfl | omega) (by first | exact Nat.le_of_ble_eq_true rfl | omega) ?_
        exact hQ _ (by refine ⟨?_, ?_, ?_, ?_⟩ <;> intro qw <;> first | (exfalso; omega) | (simp only [fn_half, fn_high, fn_low, fm_one] at *; omega))
    · refine sg_iload_n (pc := 19) (j := 0) (dc_X7_ofUnitTold_0.2.1.1.2) rfl rfl ?_
      refine sg_cS1 (pc := 20) (d' := d - 1) (mc' := 0) (ms' := 0) g (dc_X7_ofUnitTold_0.2.1.2.1) cb_X7_isHigh ml_X7_122 ms_X7_isHigh (Nat.le_of_ble_eq_true rfl) (by first | exact jl_d0 hd rfl | omega) (by first | exact Nat.le_of_ble_eq_true rfl | omega) (by first | exact Nat.le_of_ble_eq_true rfl | omega) ?_
      refine s_X7_isHigh g (by first | exact jl_d1 hd rfl | omega) (fun z20 h20 b20 => sg_K1 ?_)
      refine sg_cS1 (pc := 23) (d' := d - 1) (mc' := 0) (ms' := 0) g (dc_X7_ofUnitTold_0.2.1.2.2) cb_X7_one ml_X7_92 ms_X7_one (Nat.le_of_ble_eq_true rfl) (by first | exact jl_d0 hd rfl | omega) (by first | exact Nat.le_of_ble_eq_true rfl | omega) (by first | exact Nat.le_of_ble_eq_true rfl | omega) ?_
      refine s_X7_one g (by first | exact jl_d1 hd rfl | omega) (fun z23 h23 b23 => sg_K1 ?_)
      refine sg_goto (pc := 26) (tgt := 48) (dc_X7_ofUnitTold_0.2.2.1.1) (by decide) ?_
      refine sg_iret (pc := 48) (dc_X7_ofUnitTold_34.2.2.1) rfl (by first | exact Nat.le_of_ble_eq_true rfl | omega) (by first | exact Nat.le_of_ble_eq_true rfl | omega) ?_
      exact hQ _ (by refine ⟨?_, ?_, ?_, ?_⟩ <;> intro qw <;> first | (exfalso; omega) | (simp only [fn_half, fn_high, fn_low, fm_one] at *; omega))
  · refine sg_iload_n (pc := 4) (j := 0) (dc_X7_ofUnitTold_0.1.1.2.1) rfl rfl ?_
    refine sg_cS1 (pc := 5) (d' := d - 1) (mc' := 0) (ms' := 0) g (dc_X7_ofUnitTold_0.1.1.2.2) cb_X7_isHalf ml_X7_144 ms_X7_isHalf (Nat.le_of_ble_eq_true rfl) (by first | exact jl_d0 hd rfl | omega) (by first | exact Nat.le_of_ble_eq_true rfl | omega) (by first | exact Nat.le_of_ble_eq_true rfl | omega) ?_
    refine s_X7_isHalf g (by first | exact jl_d1 hd rfl | omega) (fun z5 h5 b5 => sg_K1 ?_)
    refine sg_cS1 (pc := 8) (d' := d - 1) (mc' := 0) (ms' := 0) g (dc_X7_ofUnitTold_0.1.2.1.1) cb_X7_one ml_X7_92 ms_X7_one (Nat.le_of_ble_eq_true rfl) (by first | exact jl_d0 hd rfl | omega) (by first | exact Nat.le_of_ble_eq_true rfl | omega) (by first | exact Nat.le_of_ble_eq_true rfl | omega) ?_
    refine s_X7_one g (by first | exact jl_d1 hd rfl | omega) (fun z8 h8 b8 => sg_K1 ?_)
    refine sg_goto (pc := 11) (tgt := 48) (dc_X7_ofUnitTold_0.1.2.1.2) (by decide) ?_
    refine sg_iret (pc := 48) (dc_X7_ofUnitTold_34.2.2.1) rfl (by first | exact Nat.le_of_ble_eq_true rfl | omega) (by first | exact Nat.le_of_ble_eq_true rfl | omega) ?_
    exact hQ _ (by refine ⟨?_, ?_, ?_, ?_⟩ <;> intro qw <;> first | (exfalso; omega) | (simp only [fn_half, fn_high, fn_low, fm_one] at *; omega))

set_option maxRecDepth 100000 in
theorem s_X7_ofUnit {w : sg_W} {Q : sg_O → sg_H → Prop} {h : sg_H} (g : sg_G w) {d : Nat} (hd : 9 ≤ d) {M : Nat} {x what : Int}  (hx : md_M w h M) (hQ : ∀ (v : Int) (h' : sg_H), ((x < 0 ∨ 65536 ≤ x ∨ what < 0 ∨ 3 < what) → md_t h' M = 1) → (¬ (x < 0 ∨ 65536 ≤ x ∨ what < 0 ∨ 3 < what) → md_t h' M = 0 ∧ ((what = 0 → v = fn_half x) ∧ (what = 1 → v = fn_high x) ∧ (what = 2 → v = fn_low x) ∧ (what = 3 → v = x % 256 * 256 + x / 256))) → md_Y w h h' M → Q (.inl (some (sg_i v))) h') : sg_C w mi_X7_ofUnit d 0 0 [sg_r M, sg_i x, sg_i what] h Q := by
  refine sg_of pn_X7 (Nat.le_of_ble_eq_true rfl) ?_
  have y0 := md_Y0 hx
  have hk := hx.2.1
  refine sg_aload_n (pc := 0) (j := 0) (dc_X7_ofUnit_0.1.1.1.1) rfl rfl ?_
  refine sg_iload_n (pc := 1) (j := 1) (dc_X7_ofUnit_0.1.1.1.2) rfl rfl ?_
  refine sg_iconst (pc := 2) (z := 0) (dc_X7_ofUnit_0.1.1.2.1) (by decide) ?_
  refine sg_ldc (pc := 3) (z := 65535) g (dc_X7_ofUnit_0.1.1.2.2) cn_X7_140 (by decide) ?_
  refine sg_cS3 (pc := 5) (d' := d - 1) (mc' := 0) (ms' := 0) g (dc_X7_ofUnit_0.1.2.1.1) cb_X7_isOf ml_X7_22 ms_X7_isOf (Nat.le_of_ble_eq_true rfl) (by first | exact jl_d0 hd rfl | omega) (by first | exact Nat.le_of_ble_eq_true rfl | omega) (by first | exact Nat.le_of_ble_eq_true rfl | omega) ?_
  refine s_X7_isOf g (by first | exact jl_d1 hd rfl | omega) (fun z5 h5 b5 => sg_K1 ?_)
  (try simp only [fm_no, fm_one, fn_betw] at h5)
  refine sg_if_eq (pc := 8) (tgt := 20) (dc_X7_ofUnit_0.1.2.1.2) (by decide) (fun c8 => ?_) (fun c8 => ?_)
  · refine sg_iconst (pc := 20) (z := 1) (dc_X7_ofUnit_0.2.1.2.2) (by decide) ?_
    refine sg_goto (pc := 21) (tgt := 25) (dc_X7_ofUnit_0.2.2.1.1) (by decide) ?_
    refine sg_iconst (pc := 25) (z := 1) (dc_X7_ofUnit_0.2.2.2.1) (by decide) ?_
    refine sg_cE2 (pc := 26) (d' := d - 1) (mc' := 0) (ms' := 0) 8 g (dc_X7_ofUnit_0.2.2.2.2) cb_X7_start ml_X7_71 mn_X7_start rfl mv_X7_start (Nat.le_of_ble_eq_true rfl) (md_oc (by assumption)) (Nat.le_of_ble_eq_true rfl) (by first | exact jl_d0 hd rfl | omega) (by first | exact Nat.le_of_ble_eq_true rfl | omega) (by first | exact Nat.le_of_ble_eq_true rfl | omega) ?_
    refine s_X7_start g (by first | exact jl_d1 hd rfl | omega) (by omega) (by assumption) (fun v26 h26 b26 i26 t26 s26 u26 y26 => sg_K1 ?_)
    have x26 := y26.1
    have hk26 := x26.2.1
    have y26 := md_Yt (h0 := h) (by assumption) y26
    refine sg_if_eq (pc := 29) (tgt := 36) (dc_X7_ofUnit_29.1.1.1) (by decide) (fun c29 => absurd c29 (by omega)) (fun c29 => ?_)
    refine sg_iconst (pc := 32) (z := 0) (dc_X7_ofUnit_29.1.1.2) (by decide) ?_
    refine sg_goto (pc := 33) (tgt := 41) (dc_X7_ofUnit_29.1.2.1) (by decide) ?_
    refine sg_iret (pc := 41) (dc_X7_ofUnit_29.2.2.1) rfl (by first | exact Nat.le_of_ble_eq_true rfl | omega) (by first | exact Nat.le_of_ble_eq_true rfl | omega) ?_
    exact hQ _ _ (by omega) (by omega) (by assumption)
  · refine sg_iload_n (pc := 11) (j := 2) (dc_X7_ofUnit_0.1.2.2.1) rfl rfl ?_
    refine sg_iconst (pc := 12) (z := 0) (dc_X7_ofUnit_0.1.2.2.2) (by decide) ?_
    refine sg_iconst (pc := 13) (z := 3) (dc_X7_ofUnit_0.2.1.1.1) (by decide) ?_
    refine sg_cS3 (pc := 14) (d' := d - 1) (mc' := 0) (ms' := 0) g (dc_X7_ofUnit_0.2.1.1.2) cb_X7_isOf ml_X7_22 ms_X7_isOf (Nat.le_of_ble_eq_true rfl) (by first | exact jl_d0 hd rfl | omega) (by first | exact Nat.le_of_ble_eq_true rfl | omega) (by first | exact Nat.le_of_ble_eq_true rfl | omega) ?_
    refine s_X7_isOf g (by first | exact jl_d1 hd rfl | omega) (fun z14 h14 b14 => sg_K1 ?_)
    (try simp only [fm_no, fm_one, fn_betw] at h14)
    refine sg_if_ne (pc := 17) (tgt := 24) (dc_X7_ofUnit_0.2.1.2.1) (by decide) (fun c17 => ?_) (fun c17 => ?_)
    · refine sg_iconst (pc := 24) (z := 0) (dc_X7_ofUnit_0.2.2.1.2) (by decide) ?_
      refine sg_iconst (pc := 25) (z := 1) (dc_X7_ofUnit_0.2.2.2.1) (by decide) ?_
      refine sg_cE2 (pc := 26) (d' := d - 1) (mc' := 0) (ms' := 0) 8 g (dc_X7_ofUnit_0.2.2.2.2) cb_X7_start ml_X7_71 mn_X7_start rfl mv_X7_start (Nat.le_of_ble_eq_true rfl) (md_oc (by assumption)) (Nat.le_of_ble_eq_true rfl) (by first | exact jl_d0 hd rfl | omega) (by first | exact Nat.le_of_ble_eq_true rfl | omega) (by first | exact Nat.le_of_ble_eq_true rfl | omega) ?_
      refine s_X7_start g (by first | exact jl_d1 hd rfl | omega) (by omega) (by assumption) (fun v26 h26 b26 i26 t26 s26 u26 y26 => sg_K1 ?_)
      have x26 := y26.1
      have hk26 := x26.2.1
      have y26 := md_Yt (h0 := h) (by assumption) y26
      refine sg_if_eq (pc := 29) (tgt := 36) (dc_X7_ofUnit_29.1.1.1) (by decide) (fun c29 => ?_) (fun c29 => absurd c29 (by omega))
      refine sg_iload_n (pc := 36) (j := 1) (dc_X7_ofUnit_29.1.2.2) rfl rfl ?_
      refine sg_iload_n (pc := 37) (j := 2) (dc_X7_ofUnit_29.2.1.1) rfl rfl ?_
      refine sg_cS2 (pc := 38) (d' := d - 1) (mc' := 0) (ms' := 0) g (dc_X7_ofUnit_29.2.1.2) cb_X7_ofUnitTold ml_X7_226 ms_X7_ofUnitTold (Nat.le_of_ble_eq_true rfl) (by first | exact jl_d0 hd rfl | omega) (by first | exact Nat.le_of_ble_eq_true rfl | omega) (by first | exact Nat.le_of_ble_eq_true rfl | omega) ?_
      refine s_X7_ofUnitTold g (by first | exact jl_d1 hd rfl | omega) (by omega) (fun v38 e38 => sg_K1 ?_)
      refine sg_iret (pc := 41) (dc_X7_ofUnit_29.2.2.1) rfl (by first | exact Nat.le_of_ble_eq_true rfl | omega) (by first | exact Nat.le_of_ble_eq_true rfl | omega) ?_
      exact hQ _ _ (by omega) (by omega) (by assumption)
    · refine sg_iconst (pc := 20) (z := 1) (dc_X7_ofUnit_0.2.1.2.2) (by decide) ?_
      refine sg_goto (pc := 21) (tgt := 25) (dc_X7_ofUnit_0.2.2.1.1) (by decide) ?_
      refine sg_iconst (pc := 25) (z := 1) (dc_X7_ofUnit_0.2.2.2.1) (by decide) ?_
      refine sg_cE2 (pc := 26) (d' := d - 1) (mc' := 0) (ms' := 0) 8 g (dc_X7_ofUnit_0.2.2.2.2) cb_X7_start ml_X7_71 mn_X7_start rfl mv_X7_start (Nat.le_of_ble_eq_true rfl) (md_oc (by assumption)) (Nat.le_of_ble_eq_true rfl) (by first | exact jl_d0 hd rfl | omega) (by first | exact Nat.le_of_ble_eq_true rfl | omega) (by first | exact Nat.le_of_ble_eq_true rfl | omega) ?_
      refine s_X7_start g (by first | exact jl_d1 hd rfl | omega) (by omega) (by assumption) (fun v26 h26 b26 i26 t26 s26 u26 y26 => sg_K1 ?_)
      have x26 := y26.1
      have hk26 := x26.2.1
      have y26 := md_Yt (h0 := h) (by assumption) y26
      refine sg_if_eq (pc := 29) (tgt := 36) (dc_X7_ofUnit_29.1.1.1) (by decide) (fun c29 => absurd c29 (by omega)) (fun c29 => ?_)
      refine sg_iconst (pc := 32) (z := 0) (dc_X7_ofUnit_29.1.1.2) (by decide) ?_
      refine sg_goto (pc := 33) (tgt := 41) (dc_X7_ofUnit_29.1.2.1) (by decide) ?_
      refine sg_iret (pc := 41) (dc_X7_ofUnit_29.2.2.1) rfl (by first | exact Nat.le_of_ble_eq_true rfl | omega) (by first | exact Nat.le_of_ble_eq_true rfl | omega) ?_
      exact hQ _ _ (by omega) (by omega) (by assumption)

set_option maxRecDepth 100000 in
theorem s_X7_compare {w : sg_W} {Q : sg_O → sg_H → Prop} {h : sg_H} (g : sg_G w) {d : Nat} (hd : 9 ≤ d) {M : Nat} {x y : Int}  (hx : md_M w h M) (hQ : ∀ (v : Int) (h' : sg_H), ((x < 0 ∨ 65536 ≤ x ∨ y < 0 ∨ 65536 ≤ y) → md_t h' M = 1) → (¬ (x < 0 ∨ 65536 ≤ x ∨ y < 0 ∨ 65536 ≤ y) → md_t h' M = 0 ∧ v = (if x = y then 0 else if x < y then -1 else 1)) → md_Y w h h' M → Q (.inl (some (sg_i v))) h') : sg_C w mi_X7_compare d 0 0 [sg_r M, sg_i x, sg_i y] h Q := by
  refine sg_of pn_X7 (Nat.le_of_ble_eq_true rfl) ?_
  have y0 := md_Y0 hx
  have hk := hx.2.1
  refine sg_aload_n (pc := 0) (j := 0) (dc_X7_compare_0.1.1.1.1) rfl rfl ?_
  refine sg_iload_n (pc := 1) (j := 1) (dc_X7_compare_0.1.1.1.2) rfl rfl ?_
  refine sg_iconst (pc := 2) (z := 0) (dc_X7_compare_0.1.1.2.1) (by decide) ?_
  refine sg_ldc (pc := 3) (z := 65535) g (dc_X7_compare_0.1.1.2.2) cn_X7_140 (by decide) ?_
  refine sg_cS3 (pc := 5) (d' := d - 1) (mc' := 0) (ms' := 0) g (dc_X7_compare_0.1.2.1.1) cb_X7_isOf ml_X7_22 ms_X7_isOf (Nat.le_of_ble_eq_true rfl) (by first | exact jl_d0 hd rfl | omega) (by first | exact Nat.le_of_ble_eq_true rfl | omega) (by first | exact Nat.le_of_ble_eq_true rfl | omega) ?_
  refine s_X7_isOf g (by first | exact jl_d1 hd rfl | omega) (fun z5 h5 b5 => sg_K1 ?_)
  (try simp only [fm_no, fm_one, fn_betw, fn_sign, fn_radix, fn_high, fn_low, if_true, if_false] at h5)
  refine sg_if_eq (pc := 8) (tgt := 21) (dc_X7_compare_0.1.2.1.2) (by decide) (fun c8 => ?_) (fun c8 => ?_)
  · refine sg_iconst (pc := 21) (z := 1) (dc_X7_compare_0.2.1.2.2) (by decide) ?_
    refine sg_goto (pc := 22) (tgt := 26) (dc_X7_compare_0.2.2.1.1) (by decide) ?_
    refine sg_iconst (pc := 26) (z := 1) (dc_X7_compare_0.2.2.2.1) (by decide) ?_
    refine sg_cE2 (pc := 27) (d' := d - 1) (mc' := 0) (ms' := 0) 8 g (dc_X7_compare_0.2.2.2.2) cb_X7_start ml_X7_71 mn_X7_start rfl mv_X7_start (Nat.le_of_ble_eq_true rfl) (md_oc (by assumption)) (Nat.le_of_ble_eq_true rfl) (by first | exact jl_d0 hd rfl | omega) (by first | exact Nat.le_of_ble_eq_true rfl | omega) (by first | exact Nat.le_of_ble_eq_true rfl | omega) ?_
    refine s_X7_start g (by first | exact jl_d1 hd rfl | omega) (by omega) (by assumption) (fun v27 h27 b27 i27 t27 s27 u27 y27 => sg_K1 ?_)
    have x27 := y27.1
    have hk27 := x27.2.1
    have y27 := md_Yt (h0 := h) (by assumption) y27
    refine sg_if_eq (pc := 30) (tgt := 37) (dc_X7_compare_30.1.1.1.1) (by decide) (fun c30 => absurd c30 (by omega)) (fun c30 => ?_)
    refine sg_iconst (pc := 33) (z := 0) (dc_X7_compare_30.1.1.1.2) (by decide) ?_
    refine sg_goto (pc := 34) (tgt := 59) (dc_X7_compare_30.1.1.2.1) (by decide) ?_
    refine sg_iret (pc := 59) (dc_X7_compare_30.2.2.2.2) rfl (by first | exact Nat.le_of_ble_eq_true rfl | omega) (by first | exact Nat.le_of_ble_eq_true rfl | omega) ?_
    exact hQ _ _ (by omega) (by omega) (by assumption)
  · refine sg_iload_n (pc := 11) (j := 2) (dc_X7_compare_0.1.2.2.1) rfl rfl ?_
    refine sg_iconst (pc := 12) (z := 0) (dc_X7_compare_0.1.2.2.2) (by decide) ?_
    refine sg_ldc (pc := 13) (z := 65535) g (dc_X7_compare_0.2.1.1.1) cn_X7_140 (by decide) ?_
    refine sg_cS3 (pc := 15) (d' := d - 1) (mc' := 0) (ms' := 0) g (dc_X7_compare_0.2.1.1.2) cb_X7_isOf ml_X7_22 ms_X7_isOf (Nat.le_of_ble_eq_true rfl) (by first | exact jl_d0 hd rfl | omega) (by first | exact Nat.le_of_ble_eq_true rfl | omega) (by first | exact Nat.le_of_ble_eq_true rfl | omega) ?_
    refine s_X7_isOf g (by first | exact jl_d1 hd rfl | omega) (fun z15 h15 b15 => sg_K1 ?_)
    (try simp only [fm_no, fm_one, fn_betw, fn_sign, fn_radix, fn_high, fn_low, if_true, if_false] at h15)
    refine sg_if_ne (pc := 18) (tgt := 25) (dc_X7_compare_0.2.1.2.1) (by decide) (fun c18 => ?_) (fun c18 => ?_)
    · refine sg_iconst (pc := 25) (z := 0) (dc_X7_compare_0.2.2.1.2) (by decide) ?_
      refine sg_iconst (pc := 26) (z := 1) (dc_X7_compare_0.2.2.2.1) (by decide) ?_
      refine sg_cE2 (pc := 27) (d' := d - 1) (mc' := 0) (ms' := 0) 8 g (dc_X7_compare_0.2.2.2.2) cb_X7_start ml_X7_71 mn_X7_start rfl mv_X7_start (Nat.le_of_ble_eq_true rfl) (md_oc (by assumption)) (Nat.le_of_ble_eq_true rfl) (by first | exact jl_d0 hd rfl | omega) (by first | exact Nat.le_of_ble_eq_true rfl | omega) (by first | exact Nat.le_of_ble_eq_true rfl | omega) ?_
      refine s_X7_start g (by first | exact jl_d1 hd rfl | omega) (by omega) (by assumption) (fun v27 h27 b27 i27 t27 s27 u27 y27 => sg_K1 ?_)
      have x27 := y27.1
      have hk27 := x27.2.1
      have y27 := md_Yt (h0 := h) (by assumption) y27
      refine sg_if_eq (pc := 30) (tgt := 37) (dc_X7_compare_30.1.1.1.1) (by decide) (fun c30 => ?_) (fun c30 => absurd c30 (by omega))
      refine sg_iload_n (pc := 37) (j := 1) (dc_X7_compare_30.1.1.2.2) rfl rfl ?_
      refine sg_iload_n (pc := 38) (j := 2) (dc_X7_compare_30.1.2.1.1) rfl rfl ?_
      refine sg_icmp_ge (pc := 39) (tgt := 46) (dc_X7_compare_30.1.2.1.2) (by decide) (fun c39 => ?_) (fun c39 => ?_)
      · refine sg_iload_n (pc := 46) (j := 1) (dc_X7_compare_30.2.1.1.1) rfl rfl ?_
        refine sg_iload_n (pc := 47) (j := 2) (dc_X7_compare_30.2.1.1.2) rfl rfl ?_
        refine sg_icmp_le (pc := 48) (tgt := 55) (dc_X7_compare_30.2.1.2.1) (by decide) (fun c48 => ?_) (fun c48 => ?_)
        · refine sg_iconst (pc := 55) (z := 0) (dc_X7_compare_30.2.2.1.2) (by decide) ?_
          refine sg_cS1 (pc := 56) (d' := d - 1) (mc' := 0) (ms' := 0) g (dc_X7_compare_30.2.2.2.1) cb_X7_one ml_X7_92 ms_X7_one (Nat.le_of_ble_eq_true rfl) (by first | exact jl_d0 hd rfl | omega) (by first | exact Nat.le_of_ble_eq_true rfl | omega) (by first | exact Nat.le_of_ble_eq_true rfl | omega) ?_
          refine s_X7_one g (by first | exact jl_d1 hd rfl | omega) (fun z56 h56 b56 => sg_K1 ?_)
          (try simp only [fm_no, fm_one, fn_betw, fn_sign, fn_radix, fn_high, fn_low, if_true, if_false] at h56)
          refine sg_iret (pc := 59) (dc_X7_compare_30.2.2.2.2) rfl (by first | exact Nat.le_of_ble_eq_true rfl | omega) (by first | exact Nat.le_of_ble_eq_true rfl | omega) ?_
          exact hQ _ _ (by omega) (by omega) (by assumption)
        · refine sg_iconst (pc := 51) (z := 1) (dc_X7_compare_30.2.1.2.2) (by decide) ?_
          refine sg_goto (pc := 52) (tgt := 56) (dc_X7_compare_30.2.2.1.1) (by decide) ?_
          refine sg_cS1 (pc := 56) (d' := d - 1) (mc' := 0) (ms' := 0) g (dc_X7_compare_30.2.2.2.1) cb_X7_one ml_X7_92 ms_X7_one (Nat.le_of_ble_eq_true rfl) (by first | exact jl_d0 hd rfl | omega) (by first | exact Nat.le_of_ble_eq_true rfl | omega) (by first | exact Nat.le_of_ble_eq_true rfl | omega) ?_
          refine s_X7_one g (by first | exact jl_d1 hd rfl | omega) (fun z56 h56 b56 => sg_K1 ?_)
          (try simp only [fm_no, fm_one, fn_betw, fn_sign, fn_radix, fn_high, fn_low, if_true, if_false] at h56)
          refine sg_iret (pc := 59) (dc_X7_compare_30.2.2.2.2) rfl (by first | exact Nat.le_of_ble_eq_true rfl | omega) (by first | exact Nat.le_of_ble_eq_true rfl | omega) ?_
          exact hQ _ _ (by omega) (by omega) (by assumption)
      · refine sg_iconst (pc := 42) (z := -1) (dc_X7_compare_30.1.2.2.1) (by decide) ?_
        refine sg_goto (pc := 43) (tgt := 59) (dc_X7_compare_30.1.2.2.2) (by decide) ?_
        refine sg_iret (pc := 59) (dc_X7_compare_30.2.2.2.2) rfl (by first | exact Nat.le_of_ble_eq_true rfl | omega) (by first | exact Nat.le_of_ble_eq_true rfl | omega) ?_
        exact hQ _ _ (by omega) (by omega) (by assumption)
    · refine sg_iconst (pc := 21) (z := 1) (dc_X7_compare_0.2.1.2.2) (by decide) ?_
      refine sg_goto (pc := 22) (tgt := 26) (dc_X7_compare_0.2.2.1.1) (by decide) ?_
      refine sg_iconst (pc := 26) (z := 1) (dc_X7_compare_0.2.2.2.1) (by decide) ?_
      refine sg_cE2 (pc := 27) (d' := d - 1) (mc' := 0) (ms' := 0) 8 g (dc_X7_compare_0.2.2.2.2) cb_X7_start ml_X7_71 mn_X7_start rfl mv_X7_start (Nat.le_of_ble_eq_true rfl) (md_oc (by assumption)) (Nat.le_of_ble_eq_true rfl) (by first | exact jl_d0 hd rfl | omega) (by first | exact Nat.le_of_ble_eq_true rfl | omega) (by first | exact Nat.le_of_ble_eq_true rfl | omega) ?_
      refine s_X7_start g (by first | exact jl_d1 hd rfl | omega) (by omega) (by assumption) (fun v27 h27 b27 i27 t27 s27 u27 y27 => sg_K1 ?_)
      have x27 := y27.1
      have hk27 := x27.2.1
      have y27 := md_Yt (h0 := h) (by assumption) y27
      refine sg_if_eq (pc := 30) (tgt := 37) (dc_X7_compare_30.1.1.1.1) (by decide) (fun c30 => absurd c30 (by omega)) (fun c30 => ?_)
      refine sg_iconst (pc := 33) (z := 0) (dc_X7_compare_30.1.1.1.2) (by decide) ?_
      refine sg_goto (pc := 34) (tgt := 59) (dc_X7_compare_30.1.1.2.1) (by decide) ?_
      refine sg_iret (pc := 59) (dc_X7_compare_30.2.2.2.2) rfl (by first | exact Nat.le_of_ble_eq_true rfl | omega) (by first | exact Nat.le_of_ble_eq_true rfl | omega) ?_
      exact hQ _ _ (by omega) (by omega) (by assumption)

set_option maxRecDepth 100000 in
theorem s_X7_isNoPlace {w : sg_W} {Q : sg_O → sg_H → Prop} {h : sg_H} (g : sg_G w) {d : Nat} (hd : 4 ≤ d) {M : Nat} {trk p : Int}  (hx : md_M w h M) (hQ : ∀ v : Int, (v = 0 ∨ v = 1) → (v = 0 → 0 ≤ trk ∧ trk < 2 ∧ 0 ≤ p ∧ p < ((md_n h (md_a h (md_r h M) (4 + trk)) : Nat) : Int)) → Q (.inl (some (sg_i v))) h) : sg_C w mi_X7_isNoPlace d 0 0 [sg_r M, sg_i trk, sg_i p] h Q := by
  refine sg_of pn_X7 (Nat.le_of_ble_eq_true rfl) ?_
  have y0 := md_Y0 hx
  have hk := hx.2.1
  refine sg_iload_n (pc := 0) (j := 1) (dc_X7_isNoPlace_0.1.1.1.1) rfl rfl ?_
  refine sg_cS1 (pc := 1) (d' := d - 1) (mc' := 0) (ms' := 0) g (dc_X7_isNoPlace_0.1.1.1.2) cb_X7_isNoTrack ml_X7_129 ms_X7_isNoTrack (Nat.le_of_ble_eq_true rfl) (by first | exact jl_d0 hd rfl | omega) (by first | exact Nat.le_of_ble_eq_true rfl | omega) (by first | exact Nat.le_of_ble_eq_true rfl | omega) ?_
  refine s_X7_isNoTrack g (by first | exact jl_d1 hd rfl | omega) (fun z1 h1 b1 => sg_K1 ?_)
  (try simp only [fm_no, fm_one, fn_betw, fn_sign, fn_radix, fn_high, fn_low] at h1)
  refine sg_if_ne (pc := 4) (tgt := 26) (dc_X7_isNoPlace_0.1.1.2.1) (by decide) (fun c4 => ?_) (fun c4 => ?_)
  · refine sg_iconst (pc := 26) (z := 1) (dc_X7_isNoPlace_26.1.1) (by decide) ?_
    refine sg_goto (pc := 27) (tgt := 31) (dc_X7_isNoPlace_26.1.2) (by decide) ?_
    refine sg_zret (pc := 31) (dc_X7_isNoPlace_26.2.2) rfl (by first | exact Or.inl rfl | exact Or.inr rfl | omega | assumption) (by first | exact Nat.le_of_ble_eq_true rfl | omega) (by first | exact Nat.le_of_ble_eq_true rfl | omega) ?_
    exact hQ _ (by omega) (by omega)
  · refine sg_iload_n (pc := 7) (j := 2) (dc_X7_isNoPlace_0.1.1.2.2) rfl rfl ?_
    refine sg_iconst (pc := 8) (z := 0) (dc_X7_isNoPlace_0.1.2.1.1) (by decide) ?_
    refine sg_aload_n (pc := 9) (j := 0) (dc_X7_isNoPlace_0.1.2.1.2) rfl rfl ?_
    refine md_grw (pc := 10) g (dc_X7_isNoPlace_0.1.2.2.1) fk_X7_9 (by assumption) (fun r10 => ?_)
    refine sg_iconst (pc := 13) (z := 4) (dc_X7_isNoPlace_0.1.2.2.2) (by decide) ?_
    refine sg_iload_n (pc := 14) (j := 1) (dc_X7_isNoPlace_0.2.1.1.1) rfl rfl ?_
    first | refine sg_iaddB (pc := 15) (dc_X7_isNoPlace_0.2.1.1.2) (by omega) (by omega) ?_ | refine sg_iadd (pc := 15) (dc_X7_isNoPlace_0.2.1.1.2) ?_
    first | refine md_alr (pc := 16) (dc_X7_isNoPlace_0.2.1.2.1) (by assumption) (by omega) (by omega) (fun A16 l16 => ?_) | refine md_alt (pc := 16) (dc_X7_isNoPlace_0.2.1.2.1) (by assumption) (by omega) (by omega) (fun A16 l16 => ?_)
    refine md_len (pc := 17) (dc_X7_isNoPlace_0.2.1.2.2) (by assumption) (by omega) ?_
    refine sg_iconst (pc := 18) (z := 1) (dc_X7_isNoPlace_0.2.2.1.1) (by decide) ?_
    first | refine sg_isubB (pc := 19) (dc_X7_isNoPlace_0.2.2.1.2) (by omega) (by omega) ?_ | refine sg_isub (pc := 19) (dc_X7_isNoPlace_0.2.2.1.2) ?_
    refine sg_cS3 (pc := 20) (d' := d - 1) (mc' := 0) (ms' := 0) g (dc_X7_isNoPlace_0.2.2.2.1) cb_X7_isOf ml_X7_22 ms_X7_isOf (Nat.le_of_ble_eq_true rfl) (by first | exact jl_d0 hd rfl | omega) (by first | exact Nat.le_of_ble_eq_true rfl | omega) (by first | exact Nat.le_of_ble_eq_true rfl | omega) ?_
    refine s_X7_isOf g (by first | exact jl_d1 hd rfl | omega) (fun z20 h20 b20 => sg_K1 ?_)
    (try simp only [fm_no, fm_one, fn_betw, fn_sign, fn_radix, fn_high, fn_low] at h20)
    refine sg_if_ne (pc := 23) (tgt := 30) (dc_X7_isNoPlace_0.2.2.2.2) (by decide) (fun c23 => ?_) (fun c23 => ?_)
    · refine sg_iconst (pc := 30) (z := 0) (dc_X7_isNoPlace_26.2.1) (by decide) ?_
      refine sg_zret (pc := 31) (dc_X7_isNoPlace_26.2.2) rfl (by first | exact Or.inl rfl | exact Or.inr rfl | omega | assumption) (by first | exact Nat.le_of_ble_eq_true rfl | omega) (by first | exact Nat.le_of_ble_eq_true rfl | omega) ?_
      exact hQ _ (by omega) (by omega)
    · refine sg_iconst (pc := 26) (z := 1) (dc_X7_isNoPlace_26.1.1) (by decide) ?_
      refine sg_goto (pc := 27) (tgt := 31) (dc_X7_isNoPlace_26.1.2) (by decide) ?_
      refine sg_zret (pc := 31) (dc_X7_isNoPlace_26.2.2) rfl (by first | exact Or.inl rfl | exact Or.inr rfl | omega | assumption) (by first | exact Nat.le_of_ble_eq_true rfl | omega) (by first | exact Nat.le_of_ble_eq_true rfl | omega) ?_
      exact hQ _ (by omega) (by omega)

set_option maxRecDepth 100000 in
theorem s_X7_unit {w : sg_W} {Q : sg_O → sg_H → Prop} {h : sg_H} (g : sg_G w) {d : Nat} (hd : 9 ≤ d) {M : Nat} {trk p : Int}  (hx : md_M w h M) (hQ : ∀ (v : Int) (h' : sg_H), md_Y w h h' M → Q (.inl (some (sg_i v))) h') : sg_C w mi_X7_unit d 0 0 [sg_r M, sg_i trk, sg_i p] h Q := by
  refine sg_of pn_X7 (Nat.le_of_ble_eq_true rfl) ?_
  have y0 := md_Y0 hx
  have hk := hx.2.1
  refine sg_aload_n (pc := 0) (j := 0) (dc_X7_unit_0.1.1.1.1) rfl rfl ?_
  refine sg_aload_n (pc := 1) (j := 0) (dc_X7_unit_0.1.1.1.2) rfl rfl ?_
  refine sg_iload_n (pc := 2) (j := 1) (dc_X7_unit_0.1.1.2.1) rfl rfl ?_
  refine sg_iload_n (pc := 3) (j := 2) (dc_X7_unit_0.1.1.2.2) rfl rfl ?_
  refine sg_cE2 (pc := 4) (d' := d - 1) (mc' := 0) (ms' := 0) 8 g (dc_X7_unit_0.1.2.1.1) cb_X7_isNoPlace ml_X7_232 mn_X7_isNoPlace rfl mv_X7_isNoPlace (Nat.le_of_ble_eq_true rfl) (md_oc (by assumption)) (Nat.le_of_ble_eq_true rfl) (by first | exact jl_d0 hd rfl | omega) (by first | exact Nat.le_of_ble_eq_true rfl | omega) (by first | exact Nat.le_of_ble_eq_true rfl | omega) ?_
  refine s_X7_isNoPlace g (by first | exact jl_d1 hd rfl | omega) (by assumption) (fun v4 b4 i4 => sg_K1 ?_)
  refine sg_iconst (pc := 7) (z := 1) (dc_X7_unit_0.1.2.1.2) (by decide) ?_
  refine sg_cE2 (pc := 8) (d' := d - 1) (mc' := 0) (ms' := 0) 8 g (dc_X7_unit_0.1.2.2.1) cb_X7_start ml_X7_71 mn_X7_start rfl mv_X7_start (Nat.le_of_ble_eq_true rfl) (md_oc (by assumption)) (Nat.le_of_ble_eq_true rfl) (by first | exact jl_d0 hd rfl | omega) (by first | exact Nat.le_of_ble_eq_true rfl | omega) (by first | exact Nat.le_of_ble_eq_true rfl | omega) ?_
  refine s_X7_start g (by first | exact jl_d1 hd rfl | omega) (by omega) (by assumption) (fun v8 h8 b8 i8 t8 s8 u8 y8 => sg_K1 ?_)
  have x8 := y8.1
  have hk8 := x8.2.1
  have y8 := md_Yt (h0 := h) (by assumption) y8
  refine sg_if_eq (pc := 11) (tgt := 18) (dc_X7_unit_0.1.2.2.2) (by decide) (fun c11 => ?_) (fun c11 => ?_)
  · have s18 := s8 (4 + trk)
    refine sg_aload_n (pc := 18) (j := 0) (dc_X7_unit_0.2.1.2.1) rfl rfl ?_
    refine md_grw (pc := 19) g (dc_X7_unit_0.2.1.2.2) fk_X7_9 (by assumption) (fun r19 => ?_)
    refine sg_iconst (pc := 22) (z := 4) (dc_X7_unit_0.2.2.1.1) (by decide) ?_
    refine sg_iload_n (pc := 23) (j := 1) (dc_X7_unit_0.2.2.1.2) rfl rfl ?_
    first | refine sg_iaddB (pc := 24) (dc_X7_unit_0.2.2.2.1) (by omega) (by omega) ?_ | refine sg_iadd (pc := 24) (dc_X7_unit_0.2.2.2.1) ?_
    first | refine md_alr (pc := 25) (dc_X7_unit_0.2.2.2.2) (by assumption) (by omega) (by omega) (fun A25 l25 => ?_) | refine md_alt (pc := 25) (dc_X7_unit_0.2.2.2.2) (by assumption) (by omega) (by omega) (fun A25 l25 => ?_)
    refine sg_iload_n (pc := 26) (j := 2) (dc_X7_unit_26.1.1) rfl rfl ?_
    refine md_ald (pc := 27) (dc_X7_unit_26.1.2) (by assumption) (by omega) (by omega) (fun x27 g27 => ?_)
    try have q27 := ck_v1.mp g27
    refine sg_iret (pc := 28) (dc_X7_unit_26.2.1) rfl (by first | exact Nat.le_of_ble_eq_true rfl | omega) (by first | exact Nat.le_of_ble_eq_true rfl | omega) ?_
    exact hQ _ _ (by assumption)
  · refine sg_iconst (pc := 14) (z := 0) (dc_X7_unit_0.2.1.1.1) (by decide) ?_
    refine sg_goto (pc := 15) (tgt := 28) (dc_X7_unit_0.2.1.1.2) (by decide) ?_
    refine sg_iret (pc := 28) (dc_X7_unit_26.2.1) rfl (by first | exact Nat.le_of_ble_eq_true rfl | omega) (by first | exact Nat.le_of_ble_eq_true rfl | omega) ?_
    exact hQ _ _ (by assumption)

set_option maxRecDepth 100000 in
theorem s_X7_codeOf {w : sg_W} {Q : sg_O → sg_H → Prop} {h : sg_H} (g : sg_G w) {d : Nat} (hd : 5 ≤ d) {M : Nat} {trk p : Int} (hv : 0 ≤ trk ∧ trk < 2 ∧ 0 ≤ p ∧ p < ((md_n h (md_a h (md_r h M) (4 + trk)) : Nat) : Int)) (hx : md_M w h M) (hQ : ∀ v : Int, Q (.inl (some (sg_i v))) h) : sg_C w mi_X7_codeOf d 0 0 [sg_r M, sg_i trk, sg_i p] h Q := by
  refine sg_of pn_X7 (Nat.le_of_ble_eq_true rfl) ?_
  have y0 := md_Y0 hx
  have hk := hx.2.1
  refine sg_aload_n (pc := 0) (j := 0) (dc_X7_codeOf_0.1.1.1.1) rfl rfl ?_
  refine md_grw (pc := 1) g (dc_X7_codeOf_0.1.1.1.2) fk_X7_9 (by assumption) (fun r1 => ?_)
  refine sg_iconst (pc := 4) (z := 4) (dc_X7_codeOf_0.1.1.2.1) (by decide) ?_
  refine sg_iload_n (pc := 5) (j := 1) (dc_X7_codeOf_0.1.1.2.2) rfl rfl ?_
  first | refine sg_iaddB (pc := 6) (dc_X7_codeOf_0.1.2.1.1) (by omega) (by omega) ?_ | refine sg_iadd (pc := 6) (dc_X7_codeOf_0.1.2.1.1) ?_
  first | refine md_alr (pc := 7) (dc_X7_codeOf_0.1.2.1.2) (by assumption) (by omega) (by omega) (fun A7 l7 => ?_) | refine md_alt (pc := 7) (dc_X7_codeOf_0.1.2.1.2) (by assumption) (by omega) (by omega) (fun A7 l7 => ?_)
  refine sg_astore_n (pc := 8) (j := 3) (dc_X7_codeOf_0.1.2.2.1) rfl (by decide) ?_
  refine sg_aload_n (pc := 9) (j := 3) (dc_X7_codeOf_0.1.2.2.2) rfl rfl ?_
  refine sg_iload_n (pc := 10) (j := 2) (dc_X7_codeOf_0.2.1.1.1) rfl rfl ?_
  refine md_ald (pc := 11) (dc_X7_codeOf_0.2.1.1.2) (by assumption) (by omega) (by omega) (fun x11 g11 => ?_)
  try have q11 := ck_v1.mp g11
  refine sg_cS1 (pc := 12) (d' := d - 1) (mc' := 0) (ms' := 0) g (dc_X7_codeOf_0.2.1.2.1) cb_X7_isHigh ml_X7_122 ms_X7_isHigh (Nat.le_of_ble_eq_true rfl) (by first | exact jl_d0 hd rfl | omega) (by first | exact Nat.le_of_ble_eq_true rfl | omega) (by first | exact Nat.le_of_ble_eq_true rfl | omega) ?_
  refine s_X7_isHigh g (by first | exact jl_d1 hd rfl | omega) (fun z12 h12 b12 => sg_K1 ?_)
  (try simp only [fm_no, fm_one, fn_betw, fn_sign, fn_radix, fn_high, fn_low] at h12)
  refine sg_if_eq (pc := 15) (tgt := 51) (dc_X7_codeOf_0.2.1.2.2) (by decide) (fun c15 => ?_) (fun c15 => ?_)
  · refine sg_aload_n (pc := 51) (j := 3) (dc_X7_codeOf_44.1.2.2) rfl rfl ?_
    refine sg_iload_n (pc := 52) (j := 2) (dc_X7_codeOf_44.2.1.1) rfl rfl ?_
    refine md_ald (pc := 53) (dc_X7_codeOf_44.2.1.2) (by assumption) (by omega) (by omega) (fun x53 g53 => ?_)
    try have q53 := ck_v1.mp g53
    refine sg_iret (pc := 54) (dc_X7_codeOf_44.2.2.1) rfl (by first | exact Nat.le_of_ble_eq_true rfl | omega) (by first | exact Nat.le_of_ble_eq_true rfl | omega) ?_
    exact hQ _
  · refine sg_iload_n (pc := 18) (j := 2) (dc_X7_codeOf_0.2.2.1.1) rfl rfl ?_
    refine sg_iconst (pc := 19) (z := 1) (dc_X7_codeOf_0.2.2.1.2) (by decide) ?_
    first | refine sg_iaddB (pc := 20) (dc_X7_codeOf_0.2.2.2.1) (by omega) (by omega) ?_ | refine sg_iadd (pc := 20) (dc_X7_codeOf_0.2.2.2.1) ?_
    refine sg_aload_n (pc := 21) (j := 3) (dc_X7_codeOf_0.2.2.2.2) rfl rfl ?_
    refine md_len (pc := 22) (dc_X7_codeOf_22.1.1.1.1) (by assumption) (by omega) ?_
    refine sg_icmp_ge (pc := 23) (tgt := 51) (dc_X7_codeOf_22.1.1.1.2) (by decide) (fun c23 => ?_) (fun c23 => ?_)
    · refine sg_aload_n (pc := 51) (j := 3) (dc_X7_codeOf_44.1.2.2) rfl rfl ?_
      refine sg_iload_n (pc := 52) (j := 2) (dc_X7_codeOf_44.2.1.1) rfl rfl ?_
      refine md_ald (pc := 53) (dc_X7_codeOf_44.2.1.2) (by assumption) (by omega) (by omega) (fun x53 g53 => ?_)
      try have q53 := ck_v1.mp g53
      refine sg_iret (pc := 54) (dc_X7_codeOf_44.2.2.1) rfl (by first | exact Nat.le_of_ble_eq_true rfl | omega) (by first | exact Nat.le_of_ble_eq_true rfl | omega) ?_
      exact hQ _
    · refine sg_aload_n (pc := 26) (j := 3) (dc_X7_codeOf_22.1.1.2.1) rfl rfl ?_
      refine sg_iload_n (pc := 27) (j := 2) (dc_X7_codeOf_22.1.1.2.2) rfl rfl ?_
      refine sg_iconst (pc := 28) (z := 1) (dc_X7_codeOf_22.1.2.1.1) (by decide) ?_
      first | refine sg_iaddB (pc := 29) (dc_X7_codeOf_22.1.2.1.2) (by omega) (by omega) ?_ | refine sg_iadd (pc := 29) (dc_X7_codeOf_22.1.2.1.2) ?_
      refine md_ald (pc := 30) (dc_X7_codeOf_22.1.2.2.1) (by assumption) (by omega) (by omega) (fun x30 g30 => ?_)
      try have q30 := ck_v1.mp g30
      refine sg_cS1 (pc := 31) (d' := d - 1) (mc' := 0) (ms' := 0) g (dc_X7_codeOf_22.1.2.2.2) cb_X7_isLow ml_X7_125 ms_X7_isLow (Nat.le_of_ble_eq_true rfl) (by first | exact jl_d0 hd rfl | omega) (by first | exact Nat.le_of_ble_eq_true rfl | omega) (by first | exact Nat.le_of_ble_eq_true rfl | omega) ?_
      refine s_X7_isLow g (by first | exact jl_d1 hd rfl | omega) (fun z31 h31 b31 => sg_K1 ?_)
      (try simp only [fm_no, fm_one, fn_betw, fn_sign, fn_radix, fn_high, fn_low] at h31)
      refine sg_if_eq (pc := 34) (tgt := 51) (dc_X7_codeOf_22.2.1.1.1) (by decide) (fun c34 => ?_) (fun c34 => ?_)
      · refine sg_aload_n (pc := 51) (j := 3) (dc_X7_codeOf_44.1.2.2) rfl rfl ?_
        refine sg_iload_n (pc := 52) (j := 2) (dc_X7_codeOf_44.2.1.1) rfl rfl ?_
        refine md_ald (pc := 53) (dc_X7_codeOf_44.2.1.2) (by assumption) (by omega) (by omega) (fun x53 g53 => ?_)
        try have q53 := ck_v1.mp g53
        refine sg_iret (pc := 54) (dc_X7_codeOf_44.2.2.1) rfl (by first | exact Nat.le_of_ble_eq_true rfl | omega) (by first | exact Nat.le_of_ble_eq_true rfl | omega) ?_
        exact hQ _
      · refine sg_aload_n (pc := 37) (j := 3) (dc_X7_codeOf_22.2.1.1.2) rfl rfl ?_
        refine sg_iload_n (pc := 38) (j := 2) (dc_X7_codeOf_22.2.1.2.1) rfl rfl ?_
        refine md_ald (pc := 39) (dc_X7_codeOf_22.2.1.2.2) (by assumption) (by omega) (by omega) (fun x39 g39 => ?_)
        try have q39 := ck_v1.mp g39
        refine sg_aload_n (pc := 40) (j := 3) (dc_X7_codeOf_22.2.2.1.1) rfl rfl ?_
        refine sg_iload_n (pc := 41) (j := 2) (dc_X7_codeOf_22.2.2.1.2) rfl rfl ?_
        refine sg_iconst (pc := 42) (z := 1) (dc_X7_codeOf_22.2.2.2.1) (by decide) ?_
        first | refine sg_iaddB (pc := 43) (dc_X7_codeOf_22.2.2.2.2) (by omega) (by omega) ?_ | refine sg_iadd (pc := 43) (dc_X7_codeOf_22.2.2.2.2) ?_
        refine md_ald (pc := 44) (dc_X7_codeOf_44.1.1.1) (by assumption) (by omega) (by omega) (fun x44 g44 => ?_)
        try have q44 := ck_v1.mp g44
        refine sg_cS2 (pc := 45) (d' := d - 1) (mc' := 0) (ms' := 0) g (dc_X7_codeOf_44.1.1.2) cb_X7_both ml_X7_147 ms_X7_both (Nat.le_of_ble_eq_true rfl) (by first | exact jl_d0 hd rfl | omega) (by first | exact Nat.le_of_ble_eq_true rfl | omega) (by first | exact Nat.le_of_ble_eq_true rfl | omega) ?_
        refine s_X7_both g (by first | exact jl_d1 hd rfl | omega) (fun z45 h45 => sg_K1 ?_)
        refine sg_goto (pc := 48) (tgt := 54) (dc_X7_codeOf_44.1.2.1) (by decide) ?_
        refine sg_iret (pc := 54) (dc_X7_codeOf_44.2.2.1) rfl (by first | exact Nat.le_of_ble_eq_true rfl | omega) (by first | exact Nat.le_of_ble_eq_true rfl | omega) ?_
        exact hQ _

set_option maxRecDepth 100000 in
theorem s_X7_codeAt {w : sg_W} {Q : sg_O → sg_H → Prop} {h : sg_H} (g : sg_G w) {d : Nat} (hd : 9 ≤ d) {M : Nat} {trk p : Int}  (hx : md_M w h M) (hQ : ∀ (v : Int) (h' : sg_H), md_Y w h h' M → Q (.inl (some (sg_i v))) h') : sg_C w mi_X7_codeAt d 0 0 [sg_r M, sg_i trk, sg_i p] h Q := by
  refine sg_of pn_X7 (Nat.le_of_ble_eq_true rfl) ?_
  have y0 := md_Y0 hx
  have hk := hx.2.1
  refine sg_aload_n (pc := 0) (j := 0) (dc_X7_codeAt_0.1.1.1.1) rfl rfl ?_
  refine sg_aload_n (pc := 1) (j := 0) (dc_X7_codeAt_0.1.1.1.2) rfl rfl ?_
  refine sg_iload_n (pc := 2) (j := 1) (dc_X7_codeAt_0.1.1.2.1) rfl rfl ?_
  refine sg_iload_n (pc := 3) (j := 2) (dc_X7_codeAt_0.1.1.2.2) rfl rfl ?_
  refine sg_cE2 (pc := 4) (d' := d - 1) (mc' := 0) (ms' := 0) 8 g (dc_X7_codeAt_0.1.2.1.1) cb_X7_isNoPlace ml_X7_232 mn_X7_isNoPlace rfl mv_X7_isNoPlace (Nat.le_of_ble_eq_true rfl) (md_oc (by assumption)) (Nat.le_of_ble_eq_true rfl) (by first | exact jl_d0 hd rfl | omega) (by first | exact Nat.le_of_ble_eq_true rfl | omega) (by first | exact Nat.le_of_ble_eq_true rfl | omega) ?_
  refine s_X7_isNoPlace g (by first | exact jl_d1 hd rfl | omega) (by assumption) (fun v4 b4 i4 => sg_K1 ?_)
  refine sg_iconst (pc := 7) (z := 1) (dc_X7_codeAt_0.1.2.1.2) (by decide) ?_
  refine sg_cE2 (pc := 8) (d' := d - 1) (mc' := 0) (ms' := 0) 8 g (dc_X7_codeAt_0.1.2.2.1) cb_X7_start ml_X7_71 mn_X7_start rfl mv_X7_start (Nat.le_of_ble_eq_true rfl) (md_oc (by assumption)) (Nat.le_of_ble_eq_true rfl) (by first | exact jl_d0 hd rfl | omega) (by first | exact Nat.le_of_ble_eq_true rfl | omega) (by first | exact Nat.le_of_ble_eq_true rfl | omega) ?_
  refine s_X7_start g (by first | exact jl_d1 hd rfl | omega) (by omega) (by assumption) (fun v8 h8 b8 i8 t8 s8 u8 y8 => sg_K1 ?_)
  have x8 := y8.1
  have hk8 := x8.2.1
  have y8 := md_Yt (h0 := h) (by assumption) y8
  refine sg_if_eq (pc := 11) (tgt := 18) (dc_X7_codeAt_0.1.2.2.2) (by decide) (fun c11 => ?_) (fun c11 => ?_)
  · have s18 := s8 (4 + trk)
    refine sg_aload_n (pc := 18) (j := 0) (dc_X7_codeAt_0.2.1.2.1) rfl rfl ?_
    refine sg_iload_n (pc := 19) (j := 1) (dc_X7_codeAt_0.2.1.2.2) rfl rfl ?_
    refine sg_iload_n (pc := 20) (j := 2) (dc_X7_codeAt_0.2.2.1.1) rfl rfl ?_
    refine sg_cE2 (pc := 21) (d' := d - 1) (mc' := 0) (ms' := 0) 8 g (dc_X7_codeAt_0.2.2.1.2) cb_X7_codeOf ml_X7_150 mn_X7_codeOf rfl mv_X7_codeOf (Nat.le_of_ble_eq_true rfl) (md_oc (by assumption)) (Nat.le_of_ble_eq_true rfl) (by first | exact jl_d0 hd rfl | omega) (by first | exact Nat.le_of_ble_eq_true rfl | omega) (by first | exact Nat.le_of_ble_eq_true rfl | omega) ?_
    refine s_X7_codeOf g (by first | exact jl_d1 hd rfl | omega) (by omega) (by assumption) (fun v21 => sg_K1 ?_)
    refine sg_iret (pc := 24) (dc_X7_codeAt_0.2.2.2.1) rfl (by first | exact Nat.le_of_ble_eq_true rfl | omega) (by first | exact Nat.le_of_ble_eq_true rfl | omega) ?_
    exact hQ _ _ (by assumption)
  · refine sg_iconst (pc := 14) (z := 0) (dc_X7_codeAt_0.2.1.1.1) (by decide) ?_
    refine sg_goto (pc := 15) (tgt := 24) (dc_X7_codeAt_0.2.1.1.2) (by decide) ?_
    refine sg_iret (pc := 24) (dc_X7_codeAt_0.2.2.2.1) rfl (by first | exact Nat.le_of_ble_eq_true rfl | omega) (by first | exact Nat.le_of_ble_eq_true rfl | omega) ?_
    exact hQ _ _ (by assumption)

set_option maxRecDepth 100000 in
theorem s_X7_isSound {w : sg_W} {Q : sg_O → sg_H → Prop} {h : sg_H} (g : sg_G w) {d : Nat} (hd : 3 ≤ d) {M : Nat}  (hx : md_M w h M) (hQ : ∀ (v : Int) (h' : sg_H), (v = 0 ∨ v = 1) → md_Y w h h' M → Q (.inl (some (sg_i v))) h') : sg_C w mi_X7_isSound d 0 0 [sg_r M] h Q := by
  refine sg_of pn_X7 (Nat.le_of_ble_eq_true rfl) ?_
  have y0 := md_Y0 hx
  have hk := hx.2.1
  refine sg_aload_n (pc := 0) (j := 0) (dc_X7_isSound_0.1.1.1.1) rfl rfl ?_
  refine sg_iconst (pc := 1) (z := 0) (dc_X7_isSound_0.1.1.1.2) (by decide) ?_
  refine md_pth (pc := 2) g (dc_X7_isSound_0.1.1.2.1) fk_X7_41 (by assumption) (by omega) (fun h2 y2 e2 s2 u2 => ?_)
  have x2 := y2.1
  refine sg_aload_n (pc := 5) (j := 0) (dc_X7_isSound_0.1.1.2.2) rfl rfl ?_
  refine md_grw (pc := 6) g (dc_X7_isSound_0.1.2.1.1) fk_X7_9 (by assumption) (fun r6 => ?_)
  refine sg_iconst (pc := 9) (z := 4) (dc_X7_isSound_0.1.2.1.2) (by decide) ?_
  first | refine md_alr (pc := 10) (dc_X7_isSound_0.1.2.2.1) (by assumption) (by omega) (by omega) (fun A10 l10 => ?_) | refine md_alt (pc := 10) (dc_X7_isSound_0.1.2.2.1) (by assumption) (by omega) (by omega) (fun A10 l10 => ?_)
  refine md_len (pc := 11) (dc_X7_isSound_0.1.2.2.2) (by assumption) (by omega) ?_
  refine sg_bipush (pc := 12) (z := 24) (dc_X7_isSound_0.2.1.1.1) (by decide) ?_
  refine sg_icmp_gt (pc := 14) (tgt := 33) (dc_X7_isSound_0.2.1.1.2) (by decide) (fun c14 => ?_) (fun c14 => ?_)
  · refine sg_iconst (pc := 33) (z := 0) (dc_X7_isSound_26.1.1.2.2) (by decide) ?_
    refine sg_istore_n (pc := 34) (j := 1) (dc_X7_isSound_26.1.2.1.1) rfl (by decide) ?_
    refine sg_iconst (pc := 35) (z := 0) (dc_X7_isSound_26.1.2.1.2) (by decide) ?_
    refine sg_istore_n (pc := 36) (j := 2) (dc_X7_isSound_26.1.2.2.1) rfl (by decide) ?_
    have loop37 : ∀ (N : Nat) (p s : Int), (0 ≤ p) → (s = 0 ∨ s = 1) → (4 - p).toNat < N → sg_R w mi_X7_isSound d 0 0 Q 37 [(2, sg_i p), (1, sg_i s), (0, sg_r M)] [] h2 0 0 := by
      intro N
      induction N with
      | zero => intro p s p0 s0 hm; exact absurd hm (Nat.not_lt_zero _)
      | succ N ih =>
        intro p s p0 s0 hm
        refine sg_iload_n (pc := 37) (j := 2) (dc_X7_isSound_26.1.2.2.2) rfl rfl ?_
        refine sg_iconst (pc := 38) (z := 4) (dc_X7_isSound_26.2.1.1.1) (by decide) ?_
        refine sg_icmp_ge (pc := 39) (tgt := 68) (dc_X7_isSound_26.2.1.1.2) (by decide) (fun c39 => ?_) (fun c39 => ?_)
        · refine sg_iload_n (pc := 68) (j := 1) (dc_X7_isSound_50.2.1.1.2) rfl rfl ?_
          refine sg_zret (pc := 69) (dc_X7_isSound_50.2.1.2.1) rfl (by first | exact Or.inl rfl | exact Or.inr rfl | omega | assumption) (by first | exact Nat.le_of_ble_eq_true rfl | omega) (by first | exact Nat.le_of_ble_eq_true rfl | omega) ?_
          exact hQ _ _ (by first | exact Or.inl rfl | exact Or.inr rfl | omega | assumption) (by assumption)
        · refine sg_iload_n (pc := 42) (j := 1) (dc_X7_isSound_26.2.1.2.1) rfl rfl ?_
          refine sg_aload_n (pc := 43) (j := 0) (dc_X7_isSound_26.2.1.2.2) rfl rfl ?_
          refine md_grw (pc := 44) g (dc_X7_isSound_26.2.2.1.1) fk_X7_9 (by assumption) (fun r44 => ?_)
          refine sg_iload_n (pc := 47) (j := 2) (dc_X7_isSound_26.2.2.1.2) rfl rfl ?_
          first | refine md_alr (pc := 48) (dc_X7_isSound_26.2.2.2.1) (by assumption) (by omega) (by omega) (fun A48 l48 => ?_) | refine md_alt (pc := 48) (dc_X7_isSound_26.2.2.2.1) (by assumption) (by omega) (by omega) (fun A48 l48 => ?_)
          refine md_len (pc := 49) (dc_X7_isSound_26.2.2.2.2) (by assumption) (by omega) ?_
          refine sg_bipush (pc := 50) (z := 40) (dc_X7_isSound_50.1.1.1.1) (by decide) ?_
          refine sg_icmp_gt (pc := 52) (tgt := 59) (dc_X7_isSound_50.1.1.1.2) (by decide) (fun c52 => ?_) (fun c52 => ?_)
          · refine sg_iconst (pc := 59) (z := 0) (dc_X7_isSound_50.1.2.1.1) (by decide) ?_
            refine sg_iand (pc := 60) (dc_X7_isSound_50.1.2.1.2) ?_
            refine sg_istore_n (pc := 61) (j := 1) (dc_X7_isSound_50.1.2.2.1) rfl (by decide) ?_
            first | refine sg_iincB (pc := 62) (dc_X7_isSound_50.1.2.2.2) rfl (by decide) (by decide) (by omega) (by omega) ?_ | refine sg_iinc (pc := 62) (dc_X7_isSound_50.1.2.2.2) rfl (by decide) (by decide) ?_
            refine sg_goto (pc := 65) (tgt := 37) (dc_X7_isSound_50.2.1.1.1) (by decide) ?_
            refine sg_lsub (lv' := [(2, _), (1, _), (0, _)]) ⟨rfl, rfl, rfl, trivial⟩ ?_
            exact ih _ _ (by omega) (ck_b01 (by omega) (by omega)) (by first | exact jl_m1 hm (by omega) | exact jl_m2 hm (by omega) | omega)
          · refine sg_iconst (pc := 55) (z := 1) (dc_X7_isSound_50.1.1.2.1) (by decide) ?_
            refine sg_goto (pc := 56) (tgt := 60) (dc_X7_isSound_50.1.1.2.2) (by decide) ?_
            refine sg_iand (pc := 60) (dc_X7_isSound_50.1.2.1.2) ?_
            refine sg_istore_n (pc := 61) (j := 1) (dc_X7_isSound_50.1.2.2.1) rfl (by decide) ?_
            first | refine sg_iincB (pc := 62) (dc_X7_isSound_50.1.2.2.2) rfl (by decide) (by decide) (by omega) (by omega) ?_ | refine sg_iinc (pc := 62) (dc_X7_isSound_50.1.2.2.2) rfl (by decide) (by decide) ?_
            refine sg_goto (pc := 65) (tgt := 37) (dc_X7_isSound_50.2.1.1.1) (by decide) ?_
            refine sg_lsub (lv' := [(2, _), (1, _), (0, _)]) ⟨rfl, rfl, rfl, trivial⟩ ?_
            exact ih _ _ (by omega) (ck_b01 (by omega) (by omega)) (by first | exact jl_m1 hm (by omega) | exact jl_m2 hm (by omega) | omega)
    refine sg_lsub (lv' := [(2, _), (1, _), (0, _)]) ⟨rfl, rfl, rfl, trivial⟩ ?_
    exact loop37 _ _ _ (by omega) (by omega) (Nat.lt_succ_self _)
  · refine sg_aload_n (pc := 17) (j := 0) (dc_X7_isSound_0.2.1.2.1) rfl rfl ?_
    refine md_grw (pc := 18) g (dc_X7_isSound_0.2.1.2.2) fk_X7_9 (by assumption) (fun r18 => ?_)
    refine sg_iconst (pc := 21) (z := 5) (dc_X7_isSound_0.2.2.1.1) (by decide) ?_
    first | refine md_alr (pc := 22) (dc_X7_isSound_0.2.2.1.2) (by assumption) (by omega) (by omega) (fun A22 l22 => ?_) | refine md_alt (pc := 22) (dc_X7_isSound_0.2.2.1.2) (by assumption) (by omega) (by omega) (fun A22 l22 => ?_)
    refine md_len (pc := 23) (dc_X7_isSound_0.2.2.2.1) (by assumption) (by omega) ?_
    refine sg_bipush (pc := 24) (z := 24) (dc_X7_isSound_0.2.2.2.2) (by decide) ?_
    refine sg_icmp_gt (pc := 26) (tgt := 33) (dc_X7_isSound_26.1.1.1.1) (by decide) (fun c26 => ?_) (fun c26 => ?_)
    · refine sg_iconst (pc := 33) (z := 0) (dc_X7_isSound_26.1.1.2.2) (by decide) ?_
      refine sg_istore_n (pc := 34) (j := 1) (dc_X7_isSound_26.1.2.1.1) rfl (by decide) ?_
      refine sg_iconst (pc := 35) (z := 0) (dc_X7_isSound_26.1.2.1.2) (by decide) ?_
      refine sg_istore_n (pc := 36) (j := 2) (dc_X7_isSound_26.1.2.2.1) rfl (by decide) ?_
      have loop37 : ∀ (N : Nat) (p s : Int), (0 ≤ p) → (s = 0 ∨ s = 1) → (4 - p).toNat < N → sg_R w mi_X7_isSound d 0 0 Q 37 [(2, sg_i p), (1, sg_i s), (0, sg_r M)] [] h2 0 0 := by
        intro N
        induction N with
        | zero => intro p s p0 s0 hm; exact absurd hm (Nat.not_lt_zero _)
        | succ N ih =>
          intro p s p0 s0 hm
          refine sg_iload_n (pc := 37) (j := 2) (dc_X7_isSound_26.1.2.2.2) rfl rfl ?_
          refine sg_iconst (pc := 38) (z := 4) (dc_X7_isSound_26.2.1.1.1) (by decide) ?_
          refine sg_icmp_ge (pc := 39) (tgt := 68) (dc_X7_isSound_26.2.1.1.2) (by decide) (fun c39 => ?_) (fun c39 => ?_)
          · refine sg_iload_n (pc := 68) (j := 1) (dc_X7_isSound_50.2.1.1.2) rfl rfl ?_
            refine sg_zret (pc := 69) (dc_X7_isSound_50.2.1.2.1) rfl (by first | exact Or.inl rfl | exact Or.inr rfl | omega | assumption) (by first | exact Nat.le_of_ble_eq_true rfl | omega) (by first | exact Nat.le_of_ble_eq_true rfl | omega) ?_
            exact hQ _ _ (by first | exact Or.inl rfl | exact Or.inr rfl | omega | assumption) (by assumption)
          · refine sg_iload_n (pc := 42) (j := 1) (dc_X7_isSound_26.2.1.2.1) rfl rfl ?_
            refine sg_aload_n (pc := 43) (j := 0) (dc_X7_isSound_26.2.1.2.2) rfl rfl ?_
            refine md_grw (pc := 44) g (dc_X7_isSound_26.2.2.1.1) fk_X7_9 (by assumption) (fun r44 => ?_)
            refine sg_iload_n (pc := 47) (j := 2) (dc_X7_isSound_26.2.2.1.2) rfl rfl ?_
            first | refine md_alr (pc := 48) (dc_X7_isSound_26.2.2.2.1) (by assumption) (by omega) (by omega) (fun A48 l48 => ?_) | refine md_alt (pc := 48) (dc_X7_isSound_26.2.2.2.1) (by assumption) (by omega) (by omega) (fun A48 l48 => ?_)
            refine md_len (pc := 49) (dc_X7_isSound_26.2.2.2.2) (by assumption) (by omega) ?_
            refine sg_bipush (pc := 50) (z := 40) (dc_X7_isSound_50.1.1.1.1) (by decide) ?_
            refine sg_icmp_gt (pc := 52) (tgt := 59) (dc_X7_isSound_50.1.1.1.2) (by decide) (fun c52 => ?_) (fun c52 => ?_)
            · refine sg_iconst (pc := 59) (z := 0) (dc_X7_isSound_50.1.2.1.1) (by decide) ?_
              refine sg_iand (pc := 60) (dc_X7_isSound_50.1.2.1.2) ?_
              refine sg_istore_n (pc := 61) (j := 1) (dc_X7_isSound_50.1.2.2.1) rfl (by decide) ?_
              first | refine sg_iincB (pc := 62) (dc_X7_isSound_50.1.2.2.2) rfl (by decide) (by decide) (by omega) (by omega) ?_ | refine sg_iinc (pc := 62) (dc_X7_isSound_50.1.2.2.2) rfl (by decide) (by decide) ?_
              refine sg_goto (pc := 65) (tgt := 37) (dc_X7_isSound_50.2.1.1.1) (by decide) ?_
              refine sg_lsub (lv' := [(2, _), (1, _), (0, _)]) ⟨rfl, rfl, rfl, trivial⟩ ?_
              exact ih _ _ (by omega) (ck_b01 (by omega) (by omega)) (by first | exact jl_m1 hm (by omega) | exact jl_m2 hm (by omega) | omega)
            · refine sg_iconst (pc := 55) (z := 1) (dc_X7_isSound_50.1.1.2.1) (by decide) ?_
              refine sg_goto (pc := 56) (tgt := 60) (dc_X7_isSound_50.1.1.2.2) (by decide) ?_
              refine sg_iand (pc := 60) (dc_X7_isSound_50.1.2.1.2) ?_
              refine sg_istore_n (pc := 61) (j := 1) (dc_X7_isSound_50.1.2.2.1) rfl (by decide) ?_
              first | refine sg_iincB (pc := 62) (dc_X7_isSound_50.1.2.2.2) rfl (by decide) (by decide) (by omega) (by omega) ?_ | refine sg_iinc (pc := 62) (dc_X7_isSound_50.1.2.2.2) rfl (by decide) (by decide) ?_
              refine sg_goto (pc := 65) (tgt := 37) (dc_X7_isSound_50.2.1.1.1) (by decide) ?_
              refine sg_lsub (lv' := [(2, _), (1, _), (0, _)]) ⟨rfl, rfl, rfl, trivial⟩ ?_
              exact ih _ _ (by omega) (ck_b01 (by omega) (by omega)) (by first | exact jl_m1 hm (by omega) | exact jl_m2 hm (by omega) | omega)
      refine sg_lsub (lv' := [(2, _), (1, _), (0, _)]) ⟨rfl, rfl, rfl, trivial⟩ ?_
      exact loop37 _ _ _ (by omega) (by omega) (Nat.lt_succ_self _)
    · refine sg_iconst (pc := 29) (z := 1) (dc_X7_isSound_26.1.1.1.2) (by decide) ?_
      refine sg_goto (pc := 30) (tgt := 34) (dc_X7_isSound_26.1.1.2.1) (by decide) ?_
      refine sg_istore_n (pc := 34) (j := 1) (dc_X7_isSound_26.1.2.1.1) rfl (by decide) ?_
      refine sg_iconst (pc := 35) (z := 0) (dc_X7_isSound_26.1.2.1.2) (by decide) ?_
      refine sg_istore_n (pc := 36) (j := 2) (dc_X7_isSound_26.1.2.2.1) rfl (by decide) ?_
      have loop37 : ∀ (N : Nat) (p s : Int), (0 ≤ p) → (s = 0 ∨ s = 1) → (4 - p).toNat < N → sg_R w mi_X7_isSound d 0 0 Q 37 [(2, sg_i p), (1, sg_i s), (0, sg_r M)] [] h2 0 0 := by
        intro N
        induction N with
        | zero => intro p s p0 s0 hm; exact absurd hm (Nat.not_lt_zero _)
        | succ N ih =>
          intro p s p0 s0 hm
          refine sg_iload_n (pc := 37) (j := 2) (dc_X7_isSound_26.1.2.2.2) rfl rfl ?_
          refine sg_iconst (pc := 38) (z := 4) (dc_X7_isSound_26.2.1.1.1) (by decide) ?_
          refine sg_icmp_ge (pc := 39) (tgt := 68) (dc_X7_isSound_26.2.1.1.2) (by decide) (fun c39 => ?_) (fun c39 => ?_)
          · refine sg_iload_n (pc := 68) (j := 1) (dc_X7_isSound_50.2.1.1.2) rfl rfl ?_
            refine sg_zret (pc := 69) (dc_X7_isSound_50.2.1.2.1) rfl (by first | exact Or.inl rfl | exact Or.inr rfl | omega | assumption) (by first | exact Nat.le_of_ble_eq_true rfl | omega) (by first | exact Nat.le_of_ble_eq_true rfl | omega) ?_
            exact hQ _ _ (by first | exact Or.inl rfl | exact Or.inr rfl | omega | assumption) (by assumption)
          · refine sg_iload_n (pc := 42) (j := 1) (dc_X7_isSound_26.2.1.2.1) rfl rfl ?_
            refine sg_aload_n (pc := 43) (j := 0) (dc_X7_isSound_26.2.1.2.2) rfl rfl ?_
            refine md_grw (pc := 44) g (dc_X7_isSound_26.2.2.1.1) fk_X7_9 (by assumption) (fun r44 => ?_)
            refine sg_iload_n (pc := 47) (j := 2) (dc_X7_isSound_26.2.2.1.2) rfl rfl ?_
            first | refine md_alr (pc := 48) (dc_X7_isSound_26.2.2.2.1) (by assumption) (by omega) (by omega) (fun A48 l48 => ?_) | refine md_alt (pc := 48) (dc_X7_isSound_26.2.2.2.1) (by assumption) (by omega) (by omega) (fun A48 l48 => ?_)
            refine md_len (pc := 49) (dc_X7_isSound_26.2.2.2.2) (by assumption) (by omega) ?_
            refine sg_bipush (pc := 50) (z := 40) (dc_X7_isSound_50.1.1.1.1) (by decide) ?_
            refine sg_icmp_gt (pc := 52) (tgt := 59) (dc_X7_isSound_50.1.1.1.2) (by decide) (fun c52 => ?_) (fun c52 => ?_)
            · refine sg_iconst (pc := 59) (z := 0) (dc_X7_isSound_50.1.2.1.1) (by decide) ?_
              refine sg_iand (pc := 60) (dc_X7_isSound_50.1.2.1.2) ?_
              refine sg_istore_n (pc := 61) (j := 1) (dc_X7_isSound_50.1.2.2.1) rfl (by decide) ?_
              first | refine sg_iincB (pc := 62) (dc_X7_isSound_50.1.2.2.2) rfl (by decide) (by decide) (by omega) (by omega) ?_ | refine sg_iinc (pc := 62) (dc_X7_isSound_50.1.2.2.2) rfl (by decide) (by decide) ?_
              refine sg_goto (pc := 65) (tgt := 37) (dc_X7_isSound_50.2.1.1.1) (by decide) ?_
              refine sg_lsub (lv' := [(2, _), (1, _), (0, _)]) ⟨rfl, rfl, rfl, trivial⟩ ?_
              exact ih _ _ (by omega) (ck_b01 (by omega) (by omega)) (by first | exact jl_m1 hm (by omega) | exact jl_m2 hm (by omega) | omega)
            · refine sg_iconst (pc := 55) (z := 1) (dc_X7_isSound_50.1.1.2.1) (by decide) ?_
              refine sg_goto (pc := 56) (tgt := 60) (dc_X7_isSound_50.1.1.2.2) (by decide) ?_
              refine sg_iand (pc := 60) (dc_X7_isSound_50.1.2.1.2) ?_
              refine sg_istore_n (pc := 61) (j := 1) (dc_X7_isSound_50.1.2.2.1) rfl (by decide) ?_
              first | refine sg_iincB (pc := 62) (dc_X7_isSound_50.1.2.2.2) rfl (by decide) (by decide) (by omega) (by omega) ?_ | refine sg_iinc (pc := 62) (dc_X7_isSound_50.1.2.2.2) rfl (by decide) (by decide) ?_
              refine sg_goto (pc := 65) (tgt := 37) (dc_X7_isSound_50.2.1.1.1) (by decide) ?_
              refine sg_lsub (lv' := [(2, _), (1, _), (0, _)]) ⟨rfl, rfl, rfl, trivial⟩ ?_
              exact ih _ _ (by omega) (ck_b01 (by omega) (by omega)) (by first | exact jl_m1 hm (by omega) | exact jl_m2 hm (by omega) | omega)
      refine sg_lsub (lv' := [(2, _), (1, _), (0, _)]) ⟨rfl, rfl, rfl, trivial⟩ ?_
      exact loop37 _ _ _ (by omega) (by omega) (Nat.lt_succ_self _)

