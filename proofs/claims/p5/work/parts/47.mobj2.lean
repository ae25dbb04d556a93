set_option maxRecDepth 100000 in
theorem s_X7_refuse {w : sg_W} {Q : sg_O → sg_H → Prop} {h : sg_H} (g : sg_G w) {d : Nat} (hd : 1 ≤ d) {M : Nat} {is wh : Int} (w0 : 0 < wh) (hx : md_M w h M) (hQ : ∀ (v : Int) (h' : sg_H), (v = 0 ∨ v = 1) → (v = 0 → is = 0) → ((is = 0 ∨ md_t h M ≠ 0 → md_t h' M = md_t h M) ∧ (is ≠ 0 → md_t h M = 0 → md_t h' M = wh) ∧ (v = 0 → md_t h' M = 0) ∧ (v = 1 → md_t h' M ≠ 0)) → md_S h h' M → md_U h h' M → md_Y w h h' M → Q (.inl (some (sg_i v))) h') : sg_C w mi_X7_refuse d 0 0 [sg_r M, sg_i is, sg_i wh] h Q := by
  refine sg_of pn_X7 (Nat.le_of_ble_eq_true rfl) ?_
  have y0 := md_Y0 hx
  have hk := hx.2.1
  refine sg_iload_n (pc := 0) (j := 1) (dc_X7_refuse_0.1.1.1.1) rfl rfl ?_
  refine sg_if_eq (pc := 1) (tgt := 16) (dc_X7_refuse_0.1.1.1.2) (by decide) (fun c1 => ?_) (fun c1 => ?_)
  · refine sg_aload_n (pc := 16) (j := 0) (dc_X7_refuse_0.2.1.1.1) rfl rfl ?_
    refine md_gth (pc := 17) g (dc_X7_refuse_0.2.1.1.2) fk_X7_41 (by assumption) (fun v17 g17 e17 => ?_)
    refine sg_if_le (pc := 20) (tgt := 27) (dc_X7_refuse_0.2.1.2.1) (by decide) (fun c20 => ?_) (fun c20 => ?_)
    · refine sg_iconst (pc := 27) (z := 0) (dc_X7_refuse_0.2.2.1.2) (by decide) ?_
      refine sg_zret (pc := 28) (dc_X7_refuse_0.2.2.2.1) rfl (by first | exact Or.inl rfl | exact Or.inr rfl | omega | assumption) (by first | exact Nat.le_of_ble_eq_true rfl | omega) (by first | exact Nat.le_of_ble_eq_true rfl | omega) ?_
      exact hQ _ _ (by omega) (by omega) (by omega) (by first | assumption | exact md_S0) (by first | assumption | exact md_U0) (by assumption)
    · refine sg_iconst (pc := 23) (z := 1) (dc_X7_refuse_0.2.1.2.2) (by decide) ?_
      refine sg_goto (pc := 24) (tgt := 28) (dc_X7_refuse_0.2.2.1.1) (by decide) ?_
      refine sg_zret (pc := 28) (dc_X7_refuse_0.2.2.2.1) rfl (by first | exact Or.inl rfl | exact Or.inr rfl | omega | assumption) (by first | exact Nat.le_of_ble_eq_true rfl | omega) (by first | exact Nat.le_of_ble_eq_true rfl | omega) ?_
      exact hQ _ _ (by omega) (by omega) (by omega) (by first | assumption | exact md_S0) (by first | assumption | exact md_U0) (by assumption)
  · refine sg_aload_n (pc := 4) (j := 0) (dc_X7_refuse_0.1.1.2.1) rfl rfl ?_
    refine md_gth (pc := 5) g (dc_X7_refuse_0.1.1.2.2) fk_X7_41 (by assumption) (fun v5 g5 e5 => ?_)
    refine sg_if_ne (pc := 8) (tgt := 16) (dc_X7_refuse_0.1.2.1.1) (by decide) (fun c8 => ?_) (fun c8 => ?_)
    · refine sg_aload_n (pc := 16) (j := 0) (dc_X7_refuse_0.2.1.1.1) rfl rfl ?_
      refine md_gth (pc := 17) g (dc_X7_refuse_0.2.1.1.2) fk_X7_41 (by assumption) (fun v17 g17 e17 => ?_)
      refine sg_if_le (pc := 20) (tgt := 27) (dc_X7_refuse_0.2.1.2.1) (by decide) (fun c20 => ?_) (fun c20 => ?_)
      · refine sg_iconst (pc := 27) (z := 0) (dc_X7_refuse_0.2.2.1.2) (by decide) ?_
        refine sg_zret (pc := 28) (dc_X7_refuse_0.2.2.2.1) rfl (by first | exact Or.inl rfl | exact Or.inr rfl | omega | assumption) (by first | exact Nat.le_of_ble_eq_true rfl | omega) (by first | exact Nat.le_of_ble_eq_true rfl | omega) ?_
        exact hQ _ _ (by omega) (by omega) (by omega) (by first | assumption | exact md_S0) (by first | assumption | exact md_U0) (by assumption)
      · refine sg_iconst (pc := 23) (z := 1) (dc_X7_refuse_0.2.1.2.2) (by decide) ?_
        refine sg_goto (pc := 24) (tgt := 28) (dc_X7_refuse_0.2.2.1.1) (by decide) ?_
        refine sg_zret (pc := 28) (dc_X7_refuse_0.2.2.2.1) rfl (by first | exact Or.inl rfl | exact Or.inr rfl | omega | assumption) (by first | exact Nat.le_of_ble_eq_true rfl | omega) (by first | exact Nat.le_of_ble_eq_true rfl | omega) ?_
        exact hQ _ _ (by omega) (by omega) (by omega) (by first | assumption | exact md_S0) (by first | assumption | exact md_U0) (by assumption)
    · refine sg_aload_n (pc := 11) (j := 0) (dc_X7_refuse_0.1.2.1.2) rfl rfl ?_
      refine sg_iload_n (pc := 12) (j := 2) (dc_X7_refuse_0.1.2.2.1) rfl rfl ?_
      refine md_pth (pc := 13) g (dc_X7_refuse_0.1.2.2.2) fk_X7_41 (by assumption) (by omega) (fun h13 y13 e13 s13 u13 => ?_)
      have x13 := y13.1
      refine sg_aload_n (pc := 16) (j := 0) (dc_X7_refuse_0.2.1.1.1) rfl rfl ?_
      refine md_gth (pc := 17) g (dc_X7_refuse_0.2.1.1.2) fk_X7_41 (by assumption) (fun v17 g17 e17 => ?_)
      refine sg_if_le (pc := 20) (tgt := 27) (dc_X7_refuse_0.2.1.2.1) (by decide) (fun c20 => ?_) (fun c20 => ?_)
      · refine sg_iconst (pc := 27) (z := 0) (dc_X7_refuse_0.2.2.1.2) (by decide) ?_
        refine sg_zret (pc := 28) (dc_X7_refuse_0.2.2.2.1) rfl (by first | exact Or.inl rfl | exact Or.inr rfl | omega | assumption) (by first | exact Nat.le_of_ble_eq_true rfl | omega) (by first | exact Nat.le_of_ble_eq_true rfl | omega) ?_
        exact hQ _ _ (by omega) (by omega) (by omega) (by first | assumption | exact md_S0) (by first | assumption | exact md_U0) (by assumption)
      · refine sg_iconst (pc := 23) (z := 1) (dc_X7_refuse_0.2.1.2.2) (by decide) ?_
        refine sg_goto (pc := 24) (tgt := 28) (dc_X7_refuse_0.2.2.1.1) (by decide) ?_
        refine sg_zret (pc := 28) (dc_X7_refuse_0.2.2.2.1) rfl (by first | exact Or.inl rfl | exact Or.inr rfl | omega | assumption) (by first | exact Nat.le_of_ble_eq_true rfl | omega) (by first | exact Nat.le_of_ble_eq_true rfl | omega) ?_
        exact hQ _ _ (by omega) (by omega) (by omega) (by first | assumption | exact md_S0) (by first | assumption | exact md_U0) (by assumption)

set_option maxRecDepth 100000 in
theorem s_X7_start {w : sg_W} {Q : sg_O → sg_H → Prop} {h : sg_H} (g : sg_G w) {d : Nat} (hd : 2 ≤ d) {M : Nat} {is wh : Int} (w0 : 0 < wh) (hx : md_M w h M) (hQ : ∀ (v : Int) (h' : sg_H), (v = 0 ∨ v = 1) → (v = 0 → is = 0) → ((is = 0 → v = 0 ∧ md_t h' M = 0) ∧ (is ≠ 0 → v = 1 ∧ md_t h' M = wh)) → md_S h h' M → md_U h h' M → md_Y w h h' M → Q (.inl (some (sg_i v))) h') : sg_C w mi_X7_start d 0 0 [sg_r M, sg_i is, sg_i wh] h Q := by
  refine sg_of pn_X7 (Nat.le_of_ble_eq_true rfl) ?_
  have y0 := md_Y0 hx
  have hk := hx.2.1
  refine sg_aload_n (pc := 0) (j := 0) (dc_X7_start_0.1.1.1) rfl rfl ?_
  refine sg_iconst (pc := 1) (z := 0) (dc_X7_start_0.1.1.2) (by decide) ?_
  refine md_pth (pc := 2) g (dc_X7_start_0.1.2.1) fk_X7_41 (by assumption) (by omega) (fun h2 y2 e2 s2 u2 => ?_)
  have x2 := y2.1
  refine sg_aload_n (pc := 5) (j := 0) (dc_X7_start_0.1.2.2) rfl rfl ?_
  refine sg_iload_n (pc := 6) (j := 1) (dc_X7_start_0.2.1.1) rfl rfl ?_
  refine sg_iload_n (pc := 7) (j := 2) (dc_X7_start_0.2.1.2) rfl rfl ?_
  refine sg_cE2 (pc := 8) (d' := d - 1) (mc' := 0) (ms' := 0) 8 g (dc_X7_start_0.2.2.1) cb_X7_refuse ml_X7_45 mn_X7_refuse rfl mv_X7_refuse (Nat.le_of_ble_eq_true rfl) (md_oc (by assumption)) (Nat.le_of_ble_eq_true rfl) (by first | exact jl_d0 hd rfl | omega) (by first | exact Nat.le_of_ble_eq_true rfl | omega) (by first | exact Nat.le_of_ble_eq_true rfl | omega) ?_
  refine s_X7_refuse g (by first | exact jl_d1 hd rfl | omega) (by omega) (by assumption) (fun v8 h8 b8 i8 t8 s8 u8 y8 => sg_K1 ?_)
  have x8 := y8.1
  have hk8 := x8.2.1
  have y8 := md_Yt (h0 := h) (by assumption) y8
  refine sg_zret (pc := 11) (dc_X7_start_0.2.2.2) rfl (by first | exact Or.inl rfl | exact Or.inr rfl | omega | assumption) (by first | exact Nat.le_of_ble_eq_true rfl | omega) (by first | exact Nat.le_of_ble_eq_true rfl | omega) ?_
  exact hQ _ _ (by assumption) (by assumption) (by omega) (md_St s2 s8) (md_Ut u2 u8) (by assumption)

set_option maxRecDepth 100000 in
theorem s_X7_thrown {w : sg_W} {Q : sg_O → sg_H → Prop} {h : sg_H} (g : sg_G w) {d : Nat} (hd : 1 ≤ d) {M : Nat} {z : Int} {vs : List sg_V} (hM : h.2 M = some (8, sg_i z :: vs)) (hQ : Q (.inl (some (sg_i z))) h) : sg_C w mi_X7_thrown d 0 0 [sg_r M] h Q := by
  refine sg_of pn_X7 (Nat.le_of_ble_eq_true rfl) ?_
  refine sg_aload_n (pc := 0) (j := 0) (dc_X7_thrown_0.1.1) rfl rfl ?_
  refine sg_getf (pc := 1) g (dc_X7_thrown_0.1.2) fk_X7_41 hM rfl rfl ?_
  refine sg_iret (pc := 4) (dc_X7_thrown_0.2.1) rfl (by first | exact Nat.le_of_ble_eq_true rfl | omega) (by first | exact Nat.le_of_ble_eq_true rfl | omega) ?_
  exact hQ

set_option maxRecDepth 100000 in
theorem s_X7_knock {w : sg_W} {Q : sg_O → sg_H → Prop} {h : sg_H} (g : sg_G w) {d : Nat} (hd : 1 ≤ d) {M : Nat}  (hx : md_M w h M) (hQ : ∀ (v : Int) (h' : sg_H), v = sg_w ((md_ab h M).2.2 + 1) → md_t h' M = 0 → md_ab h' M = ((md_ab h M).1, ((md_ab h M).2.1, v)) → md_W w h h' M → Q (.inl (some (sg_i v))) h') : sg_C w mi_X7_knock d 0 0 [sg_r M] h Q := by
  refine sg_of pn_X7 (Nat.le_of_ble_eq_true rfl) ?_
  have y0 := md_Y0 hx
  have hk := hx.2.1
  refine sg_aload_n (pc := 0) (j := 0) (dc_X7_knock_0.1.1.1.1) rfl rfl ?_
  refine sg_iconst (pc := 1) (z := 0) (dc_X7_knock_0.1.1.1.2) (by decide) ?_
  refine md_pth (pc := 2) g (dc_X7_knock_0.1.1.2.1) fk_X7_41 (by assumption) (by omega) (fun h2 y2 e2 s2 u2 => ?_)
  have x2 := y2.1
  refine sg_aload_n (pc := 5) (j := 0) (dc_X7_knock_0.1.1.2.2) rfl rfl ?_
  refine sg_dup (pc := 6) (dc_X7_knock_0.1.2.1.1) rfl ?_
  refine md_gkn (pc := 7) g (dc_X7_knock_0.1.2.1.2) fk_X7_161 (by assumption) ?_
  refine sg_iconst (pc := 10) (z := 1) (dc_X7_knock_0.1.2.2.1) (by decide) ?_
  first | refine sg_iaddB (pc := 11) (dc_X7_knock_0.1.2.2.2) (by omega) (by omega) ?_ | refine sg_iadd (pc := 11) (dc_X7_knock_0.1.2.2.2) ?_
  refine md_pkn (pc := 12) g (dc_X7_knock_0.2.1.1.1) fk_X7_161 (by assumption) (fun h12 y12 t12 ab12 kn12 => ?_)
  have x12 := y12.1
  refine sg_aload_n (pc := 15) (j := 0) (dc_X7_knock_0.2.1.1.2) rfl rfl ?_
  refine md_gkn (pc := 16) g (dc_X7_knock_0.2.1.2.1) fk_X7_161 (by assumption) ?_
  refine sg_iret (pc := 19) (dc_X7_knock_0.2.1.2.2) rfl (by first | exact Nat.le_of_ble_eq_true rfl | omega) (by first | exact Nat.le_of_ble_eq_true rfl | omega) ?_
  exact hQ _ _ (by rw [kn12, ← y2.2.2]; rfl) (t12.trans e2) (by rw [ab12, kn12]) (by assumption)

set_option maxRecDepth 100000 in
theorem s_X7_isCode {w : sg_W} {Q : sg_O → sg_H → Prop} {h : sg_H} (g : sg_G w) {d : Nat} (hd : 3 ≤ d) {M : Nat} {x : Int}  (hx : md_M w h M) (hQ : ∀ (v : Int) (h' : sg_H), v = fn_betw x 0 1114111 → (v = 0 ∨ v = 1) → md_Y w h h' M → Q (.inl (some (sg_i v))) h') : sg_C w mi_X7_isCode d 0 0 [sg_r M, sg_i x] h Q := by
  refine sg_of pn_X7 (Nat.le_of_ble_eq_true rfl) ?_
  have y0 := md_Y0 hx
  have hk := hx.2.1
  refine sg_aload_n (pc := 0) (j := 0) (dc_X7_isCode_0.1.1.1) rfl rfl ?_
  refine sg_iconst (pc := 1) (z := 0) (dc_X7_isCode_0.1.1.2) (by decide) ?_
  refine md_pth (pc := 2) g (dc_X7_isCode_0.1.2.1) fk_X7_41 (by assumption) (by omega) (fun h2 y2 e2 s2 u2 => ?_)
  have x2 := y2.1
  refine sg_iload_n (pc := 5) (j := 1) (dc_X7_isCode_0.1.2.2) rfl rfl ?_
  refine sg_iconst (pc := 6) (z := 0) (dc_X7_isCode_0.2.1.1) (by decide) ?_
  refine sg_ldc (pc := 7) (z := 1114111) g (dc_X7_isCode_0.2.1.2) cn_X7_132 (by decide) ?_
  refine sg_cS3 (pc := 9) (d' := d - 1) (mc' := 0) (ms' := 0) g (dc_X7_isCode_0.2.2.1) cb_X7_isOf ml_X7_22 ms_X7_isOf (Nat.le_of_ble_eq_true rfl) (by first | exact jl_d0 hd rfl | omega) (by first | exact Nat.le_of_ble_eq_true rfl | omega) (by first | exact Nat.le_of_ble_eq_true rfl | omega) ?_
  refine s_X7_isOf g (by first | exact jl_d1 hd rfl | omega) (fun z9 h9 b9 => sg_K1 ?_)
  refine sg_zret (pc := 12) (dc_X7_isCode_0.2.2.2) rfl (by first | exact Or.inl rfl | exact Or.inr rfl | omega | assumption) (by first | exact Nat.le_of_ble_eq_true rfl | omega) (by first | exact Nat.le_of_ble_eq_true rfl | omega) ?_
  exact hQ _ _ (by assumption) (by assumption) (by assumption)

set_option maxRecDepth 100000 in
theorem s_X7_isPlain {w : sg_W} {Q : sg_O → sg_H → Prop} {h : sg_H} (g : sg_G w) {d : Nat} (hd : 3 ≤ d) {M : Nat} {x : Int}  (hx : md_M w h M) (hQ : ∀ (v : Int) (h' : sg_H), v = fn_betw x 0 65535 → (v = 0 ∨ v = 1) → md_Y w h h' M → Q (.inl (some (sg_i v))) h') : sg_C w mi_X7_isPlain d 0 0 [sg_r M, sg_i x] h Q := by
  refine sg_of pn_X7 (Nat.le_of_ble_eq_true rfl) ?_
  have y0 := md_Y0 hx
  have hk := hx.2.1
  refine sg_aload_n (pc := 0) (j := 0) (dc_X7_isPlain_0.1.1.1) rfl rfl ?_
  refine sg_iconst (pc := 1) (z := 0) (dc_X7_isPlain_0.1.1.2) (by decide) ?_
  refine md_pth (pc := 2) g (dc_X7_isPlain_0.1.2.1) fk_X7_41 (by assumption) (by omega) (fun h2 y2 e2 s2 u2 => ?_)
  have x2 := y2.1
  refine sg_iload_n (pc := 5) (j := 1) (dc_X7_isPlain_0.1.2.2) rfl rfl ?_
  refine sg_iconst (pc := 6) (z := 0) (dc_X7_isPlain_0.2.1.1) (by decide) ?_
  refine sg_ldc (pc := 7) (z := 65535) g (dc_X7_isPlain_0.2.1.2) cn_X7_140 (by decide) ?_
  refine sg_cS3 (pc := 9) (d' := d - 1) (mc' := 0) (ms' := 0) g (dc_X7_isPlain_0.2.2.1) cb_X7_isOf ml_X7_22 ms_X7_isOf (Nat.le_of_ble_eq_true rfl) (by first | exact jl_d0 hd rfl | omega) (by first | exact Nat.le_of_ble_eq_true rfl | omega) (by first | exact Nat.le_of_ble_eq_true rfl | omega) ?_
  refine s_X7_isOf g (by first | exact jl_d1 hd rfl | omega) (fun z9 h9 b9 => sg_K1 ?_)
  refine sg_zret (pc := 12) (dc_X7_isPlain_0.2.2.2) rfl (by first | exact Or.inl rfl | exact Or.inr rfl | omega | assumption) (by first | exact Nat.le_of_ble_eq_true rfl | omega) (by first | exact Nat.le_of_ble_eq_true rfl | omega) ?_
  exact hQ _ _ (by assumption) (by assumption) (by assumption)

set_option maxRecDepth 100000 in
theorem s_X7_isWide {w : sg_W} {Q : sg_O → sg_H → Prop} {h : sg_H} (g : sg_G w) {d : Nat} (hd : 3 ≤ d) {M : Nat} {x : Int}  (hx : md_M w h M) (hQ : ∀ (v : Int) (h' : sg_H), v = fn_betw x 65536 1114111 → (v = 0 ∨ v = 1) → md_Y w h h' M → Q (.inl (some (sg_i v))) h') : sg_C w mi_X7_isWide d 0 0 [sg_r M, sg_i x] h Q := by
  refine sg_of pn_X7 (Nat.le_of_ble_eq_true rfl) ?_
  have y0 := md_Y0 hx
  have hk := hx.2.1
  refine sg_aload_n (pc := 0) (j := 0) (dc_X7_isWide_0.1.1.1) rfl rfl ?_
  refine sg_iconst (pc := 1) (z := 0) (dc_X7_isWide_0.1.1.2) (by decide) ?_
  refine md_pth (pc := 2) g (dc_X7_isWide_0.1.2.1) fk_X7_41 (by assumption) (by omega) (fun h2 y2 e2 s2 u2 => ?_)
  have x2 := y2.1
  refine sg_iload_n (pc := 5) (j := 1) (dc_X7_isWide_0.1.2.2) rfl rfl ?_
  refine sg_ldc (pc := 6) (z := 65536) g (dc_X7_isWide_0.2.1.1) cn_X7_128 (by decide) ?_
  refine sg_ldc (pc := 8) (z := 1114111) g (dc_X7_isWide_0.2.1.2) cn_X7_132 (by decide) ?_
  refine sg_cS3 (pc := 10) (d' := d - 1) (mc' := 0) (ms' := 0) g (dc_X7_isWide_0.2.2.1) cb_X7_isOf ml_X7_22 ms_X7_isOf (Nat.le_of_ble_eq_true rfl) (by first | exact jl_d0 hd rfl | omega) (by first | exact Nat.le_of_ble_eq_true rfl | omega) (by first | exact Nat.le_of_ble_eq_true rfl | omega) ?_
  refine s_X7_isOf g (by first | exact jl_d1 hd rfl | omega) (fun z10 h10 b10 => sg_K1 ?_)
  refine sg_zret (pc := 13) (dc_X7_isWide_0.2.2.2) rfl (by first | exact Or.inl rfl | exact Or.inr rfl | omega | assumption) (by first | exact Nat.le_of_ble_eq_true rfl | omega) (by first | exact Nat.le_of_ble_eq_true rfl | omega) ?_
  exact hQ _ _ (by assumption) (by assumption) (by assumption)

set_option maxRecDepth 100000 in
theorem s_X7_units {w : sg_W} {Q : sg_O → sg_H → Prop} {h : sg_H} (g : sg_G w) {d : Nat} (hd : 3 ≤ d) {M : Nat} {x : Int}  (hx : md_M w h M) (hQ : ∀ (v : Int) (h' : sg_H), v = fn_units x → md_Y w h h' M → Q (.inl (some (sg_i v))) h') : sg_C w mi_X7_units d 0 0 [sg_r M, sg_i x] h Q := by
  refine sg_of pn_X7 (Nat.le_of_ble_eq_true rfl) ?_
  have y0 := md_Y0 hx
  have hk := hx.2.1
  refine sg_aload_n (pc := 0) (j := 0) (dc_X7_units_0.1.1.1.1) rfl rfl ?_
  refine sg_iconst (pc := 1) (z := 0) (dc_X7_units_0.1.1.1.2) (by decide) ?_
  refine md_pth (pc := 2) g (dc_X7_units_0.1.1.2.1) fk_X7_41 (by assumption) (by omega) (fun h2 y2 e2 s2 u2 => ?_)
  have x2 := y2.1
  refine sg_iload_n (pc := 5) (j := 1) (dc_X7_units_0.1.1.2.2) rfl rfl ?_
  refine sg_ldc (pc := 6) (z := 65536) g (dc_X7_units_0.1.2.1.1) cn_X7_128 (by decide) ?_
  refine sg_icmp_ge (pc := 8) (tgt := 15) (dc_X7_units_0.1.2.1.2) (by decide) (fun c8 => ?_) (fun c8 => ?_)
  · refine sg_iconst (pc := 15) (z := 2) (dc_X7_units_0.2.1.1.1) (by decide) ?_
    refine sg_iret (pc := 16) (dc_X7_units_0.2.1.1.2) rfl (by first | exact Nat.le_of_ble_eq_true rfl | omega) (by first | exact Nat.le_of_ble_eq_true rfl | omega) ?_
    exact hQ _ _ (by unfold fn_units; first | rw [if_pos (by omega)] | rw [if_neg (by omega)]) (by assumption)
  · refine sg_iconst (pc := 11) (z := 1) (dc_X7_units_0.1.2.2.1) (by decide) ?_
    refine sg_goto (pc := 12) (tgt := 16) (dc_X7_units_0.1.2.2.2) (by decide) ?_
    refine sg_iret (pc := 16) (dc_X7_units_0.2.1.1.2) rfl (by first | exact Nat.le_of_ble_eq_true rfl | omega) (by first | exact Nat.le_of_ble_eq_true rfl | omega) ?_
    exact hQ _ _ (by unfold fn_units; first | rw [if_pos (by omega)] | rw [if_neg (by omega)]) (by assumption)

set_option maxRecDepth 100000 in
theorem s_X7_digit {w : sg_W} {Q : sg_O → sg_H → Prop} {h : sg_H} (g : sg_G w) {d : Nat} (hd : 5 ≤ d) {M : Nat} {x r : Int}  (hx : md_M w h M) (hQ : ∀ (v : Int) (h' : sg_H), v = fn_digit x r → md_Y w h h' M → Q (.inl (some (sg_i v))) h') : sg_C w mi_X7_digit d 0 0 [sg_r M, sg_i x, sg_i r] h Q := by
  refine sg_of pn_X7 (Nat.le_of_ble_eq_true rfl) ?_
  have y0 := md_Y0 hx
  have hk := hx.2.1
  refine sg_aload_n (pc := 0) (j := 0) (dc_X7_digit_0.1.1.1) rfl rfl ?_
  refine sg_iconst (pc := 1) (z := 0) (dc_X7_digit_0.1.1.2) (by decide) ?_
  refine md_pth (pc := 2) g (dc_X7_digit_0.1.2.1) fk_X7_41 (by assumption) (by omega) (fun h2 y2 e2 s2 u2 => ?_)
  have x2 := y2.1
  refine sg_iload_n (pc := 5) (j := 1) (dc_X7_digit_0.1.2.2) rfl rfl ?_
  refine sg_iload_n (pc := 6) (j := 2) (dc_X7_digit_0.2.1.1) rfl rfl ?_
  refine sg_cS2 (pc := 7) (d' := d - 1) (mc' := 0) (ms' := 0) g (dc_X7_digit_0.2.1.2) cb_X7_digitOf ml_X7_108 ms_X7_digitOf (Nat.le_of_ble_eq_true rfl) (by first | exact jl_d0 hd rfl | omega) (by first | exact Nat.le_of_ble_eq_true rfl | omega) (by first | exact Nat.le_of_ble_eq_true rfl | omega) ?_
  refine s_X7_digitOf g (by first | exact jl_d1 hd rfl | omega) (fun z7 h7 => sg_K1 ?_)
  (try simp only [fn_no] at h7)
  refine sg_iret (pc := 10) (dc_X7_digit_0.2.2.1) rfl (by first | exact Nat.le_of_ble_eq_true rfl | omega) (by first | exact Nat.le_of_ble_eq_true rfl | omega) ?_
  exact hQ _ _ (by assumption) (by assumption)

