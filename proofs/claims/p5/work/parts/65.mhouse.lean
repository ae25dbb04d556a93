theorem md_gbf {w : sg_W} {mi : sg_M} {d mc ms : Nat} {Q : sg_O → sg_H → Prop} {pc : Nat} {lv : List (Nat × sg_V)} {st : List sg_V} {h : sg_H} {k n M idx : Nat} {fin : Bool} {ft : FieldType} (g : sg_G w) (hd : decode mi.2.1 pc = .ok (.getfield idx, 3)) (hf : sg_fk mi.1.cls idx 8 2 fin ft) (x : md_M w h M) (K : ∀ b : Nat, md_L w h b → sg_R w mi d mc ms Q (pc + 3) lv (sg_r b :: st) h k n) : sg_R w mi d mc ms Q pc lv (sg_r M :: st) h k n := by
  obtain ⟨h1, q, th, kn, R, b, h2, h0', h3, h4⟩ := x
  exact sg_getf g hd hf h2 rfl rfl (K b h4)
set_option maxRecDepth 100000 in
theorem s_X7_words {w : sg_W} {Q : sg_O → sg_H → Prop} {h : sg_H} (g : sg_G w) {d : Nat} (hd : 11 ≤ d) {M : Nat} {row : Int}  (hx : md_M w h M) (hQ : ∀ (v : Int) (h' : sg_H), md_Y w h h' M → Q (.inl (some (sg_i v))) h') : sg_C w mi_X7_words d 24 90 [sg_r M, sg_i row] h Q := by
  refine sg_of pn_X7 (Nat.le_of_ble_eq_true rfl) ?_
  have y0 := md_Y0 hx
  have hk := hx.2.1
  refine sg_aload_n (pc := 0) (j := 0) (dc_X7_words_0.1.1.1.1) rfl rfl ?_
  refine sg_iload_n (pc := 1) (j := 1) (dc_X7_words_0.1.1.1.2) rfl rfl ?_
  refine sg_cS1 (pc := 2) (d' := d - 1) (mc' := 0) (ms' := 0) g (dc_X7_words_0.1.1.2.1) cb_X7_isNoRow ml_X7_68 ms_X7_isNoRow (Nat.le_of_ble_eq_true rfl) (by first | exact jl_d0 hd rfl | omega) (by first | exact Nat.le_of_ble_eq_true rfl | omega) (by first | exact Nat.le_of_ble_eq_true rfl | omega) ?_
  refine s_X7_isNoRow g (by first | exact jl_d1 hd rfl | omega) (fun z2 h2 b2 => sg_K1 ?_)
  (try simp only [fm_no, fm_one, fn_betw, fn_sign, fn_radix, fn_high, fn_low] at h2)
  refine sg_iconst (pc := 5) (z := 1) (dc_X7_words_0.1.1.2.2) (by decide) ?_
  refine sg_cE2 (pc := 6) (d' := d - 1) (mc' := 0) (ms' := 0) 8 g (dc_X7_words_0.1.2.1.1) cb_X7_start ml_X7_71 mn_X7_start rfl mv_X7_start (Nat.le_of_ble_eq_true rfl) (md_oc (by assumption)) (Nat.le_of_ble_eq_true rfl) (by first | exact jl_d0 hd rfl | omega) (by first | exact Nat.le_of_ble_eq_true rfl | omega) (by first | exact Nat.le_of_ble_eq_true rfl | omega) ?_
  refine s_X7_start g (by first | exact jl_d1 hd rfl | omega) (by omega) (by assumption) (fun v6 h6 b6 i6 t6 s6 u6 y6 => sg_K1 ?_)
  have x6 := y6.1
  have hk6 := x6.2.1
  have y6 := md_Yt (h0 := h) (by assumption) y6
  refine sg_if_eq (pc := 9) (tgt := 16) (dc_X7_words_0.1.2.1.2) (by decide) (fun c9 => ?_) (fun c9 => ?_)
  · refine sg_aload_n (pc := 16) (j := 0) (dc_X7_words_0.2.1.1.1) rfl rfl ?_
    refine sg_iload_n (pc := 17) (j := 1) (dc_X7_words_0.2.1.1.2) rfl rfl ?_
    refine sg_cE1 (pc := 18) (d' := d - 1) (mc' := 24) (ms' := 90) 8 g (dc_X7_words_0.2.1.2.1) cb_X7_wordsOf ml_X7_215 mn_X7_wordsOf rfl mv_X7_wordsOf (Nat.le_of_ble_eq_true rfl) (md_oc (by assumption)) (Nat.le_of_ble_eq_true rfl) (by first | exact jl_d0 hd rfl | omega) (by first | exact Nat.le_of_ble_eq_true rfl | omega) (by first | exact Nat.le_of_ble_eq_true rfl | omega) ?_
    refine s_X7_wordsOf g (by first | exact jl_d1 hd rfl | omega) (by omega) (by assumption) (fun h18 b18 cap18 sz18 P18 w18 l18 => sg_K1 ?_)
    have X18 : md_M w h18 M := md_ME (by assumption) P18.2.1
    have k18 := X18.2.1
    try have Y18 : md_Y w h h18 M := md_YE (by assumption) P18.2.1
    obtain ⟨-, -, -, m18, E18, xs18, hb18, hE18, s18, sc18, hj18⟩ := id P18
    refine sg_cV0 (pc := 21) (d' := d - 1) (mc' := 0) (ms' := 0) g (dc_X7_words_0.2.1.2.2) cb_Jx4a65c_size_8abf5 ml_X7_53 mn_Jx4a65c_size_8abf5 mv_Jx4a65c_size_8abf5 hb18 (Nat.le_of_ble_eq_true rfl) rfl (Nat.le_of_ble_eq_true rfl) (by first | exact jl_d0 hd rfl | omega) (by first | exact Nat.le_of_ble_eq_true rfl | omega) (by first | exact Nat.le_of_ble_eq_true rfl | omega) ?_
    refine s_al_size g (by first | exact jl_d1 hd rfl | omega) hb18 ?_
    refine sg_K1 ?_
    refine sg_iret (pc := 24) (dc_X7_words_0.2.2.1.1) rfl (by first | exact Nat.le_of_ble_eq_true rfl | omega) (by first | exact Nat.le_of_ble_eq_true rfl | omega) ?_
    exact hQ _ _ (by assumption)
  · refine sg_iconst (pc := 12) (z := 0) (dc_X7_words_0.1.2.2.1) (by decide) ?_
    refine sg_goto (pc := 13) (tgt := 24) (dc_X7_words_0.1.2.2.2) (by decide) ?_
    refine sg_iret (pc := 24) (dc_X7_words_0.2.2.1.1) rfl (by first | exact Nat.le_of_ble_eq_true rfl | omega) (by first | exact Nat.le_of_ble_eq_true rfl | omega) ?_
    exact hQ _ _ (by assumption)

set_option maxRecDepth 100000 in
theorem s_X7_word {w : sg_W} {Q : sg_O → sg_H → Prop} {h : sg_H} (g : sg_G w) {d : Nat} (hd : 11 ≤ d) {M : Nat} {row k isl : Int} (hx : md_M w h M) (hQ : ∀ (v : Int) (h' : sg_H), md_Y w h h' M → Q (.inl (some (sg_i v))) h') : sg_C w mi_X7_word d 48 180 [sg_r M, sg_i row, sg_i k, sg_i isl] h Q := by
  refine sg_of pn_X7 (Nat.le_of_ble_eq_true rfl) ?_
  have y0 := md_Y0 hx
  have hk := hx.2.1
  refine sg_aload_n (pc := 0) (j := 0) (dc_X7_word_0.1.1.1.1) rfl rfl ?_
  refine sg_iload_n (pc := 1) (j := 1) (dc_X7_word_0.1.1.1.2) rfl rfl ?_
  refine sg_cS1 (pc := 2) (d' := d - 1) (mc' := 0) (ms' := 0) g (dc_X7_word_0.1.1.2.1) cb_X7_isNoRow ml_X7_68 ms_X7_isNoRow (Nat.le_of_ble_eq_true rfl) (by first | exact jl_d0 hd rfl | omega) (by first | exact Nat.le_of_ble_eq_true rfl | omega) (by first | exact Nat.le_of_ble_eq_true rfl | omega) ?_
  refine s_X7_isNoRow g (by first | exact jl_d1 hd rfl | omega) (fun z2 h2 b2 => sg_K1 ?_)
  (try simp only [fm_no, fm_one, fn_betw, fn_sign, fn_radix, fn_high, fn_low] at h2)
  refine sg_if_ne (pc := 5) (tgt := 26) (dc_X7_word_0.1.1.2.2) (by decide) (fun c5 => ?_) (fun c5 => ?_)
  · refine sg_iconst (pc := 26) (z := 1) (dc_X7_word_0.2.2.2.1) (by decide) ?_
    refine sg_goto (pc := 27) (tgt := 31) (dc_X7_word_0.2.2.2.2) (by decide) ?_
    refine sg_iconst (pc := 31) (z := 1) (dc_X7_word_30.1.1.1.2) (by decide) ?_
    refine sg_cE2 (pc := 32) (d' := d - 1) (mc' := 0) (ms' := 0) 8 g (dc_X7_word_30.1.1.2.1) cb_X7_start ml_X7_71 mn_X7_start rfl mv_X7_start (Nat.le_of_ble_eq_true rfl) (md_oc (by assumption)) (Nat.le_of_ble_eq_true rfl) (by first | exact jl_d0 hd rfl | omega) (by first | exact Nat.le_of_ble_eq_true rfl | omega) (by first | exact Nat.le_of_ble_eq_true rfl | omega) ?_
    refine s_X7_start g (by first | exact jl_d1 hd rfl | omega) (by omega) (by assumption) (fun v32 h32 b32 i32 t32 s32 u32 y32 => sg_K1 ?_)
    have x32 := y32.1
    have hk32 := x32.2.1
    have y32 := md_Yt (h0 := h) (by assumption) y32
    refine sg_if_eq (pc := 35) (tgt := 42) (dc_X7_word_30.1.1.2.2) (by decide) (fun c35 => absurd c35 (by omega)) (fun c35 => ?_)
    refine sg_iconst (pc := 38) (z := 0) (dc_X7_word_30.1.2.1.1) (by decide) ?_
    refine sg_goto (pc := 39) (tgt := 64) (dc_X7_word_30.1.2.1.2) (by decide) ?_
    refine sg_iret (pc := 64) (dc_X7_word_62.2.1) rfl (by first | exact Nat.le_of_ble_eq_true rfl | omega) (by first | exact Nat.le_of_ble_eq_true rfl | omega) ?_
    exact hQ _ _ (by assumption)
  · refine sg_iload_n (pc := 8) (j := 2) (dc_X7_word_0.1.2.1.1) rfl rfl ?_
    refine sg_iconst (pc := 9) (z := 0) (dc_X7_word_0.1.2.1.2) (by decide) ?_
    refine sg_aload_n (pc := 10) (j := 0) (dc_X7_word_0.1.2.2.1) rfl rfl ?_
    refine sg_iload_n (pc := 11) (j := 1) (dc_X7_word_0.1.2.2.2) rfl rfl ?_
    refine sg_cE1 (pc := 12) (d' := d - 1) (mc' := 24) (ms' := 90) 8 g (dc_X7_word_0.2.1.1.1) cb_X7_wordsOf ml_X7_215 mn_X7_wordsOf rfl mv_X7_wordsOf (Nat.le_of_ble_eq_true rfl) (md_oc (by assumption)) (Nat.le_of_ble_eq_true rfl) (by first | exact jl_d0 hd rfl | omega) (by first | exact Nat.le_of_ble_eq_true rfl | omega) (by first | exact Nat.le_of_ble_eq_true rfl | omega) ?_
    refine s_X7_wordsOf g (by first | exact jl_d1 hd rfl | omega) (by omega) (by assumption) (fun h12 b12 cap12 sz12 P12 w12 l12 => sg_K1 ?_)
    have X12 : md_M w h12 M := md_ME (by assumption) P12.2.1
    have k12 := X12.2.1
    try have Y12 : md_Y w h h12 M := md_YE (by assumption) P12.2.1
    obtain ⟨-, -, -, m12, E12, xs12, hb12, hE12, s12, sc12, hj12⟩ := id P12
    refine sg_cV0 (pc := 15) (d' := d - 1) (mc' := 0) (ms' := 0) g (dc_X7_word_0.2.1.1.2) cb_Jx4a65c_size_8abf5 ml_X7_53 mn_Jx4a65c_size_8abf5 mv_Jx4a65c_size_8abf5 hb12 (Nat.le_of_ble_eq_true rfl) rfl (Nat.le_of_ble_eq_true rfl) (by first | exact jl_d0 hd rfl | omega) (by first | exact Nat.le_of_ble_eq_true rfl | omega) (by first | exact Nat.le_of_ble_eq_true rfl | omega) ?_
    refine s_al_size g (by first | exact jl_d1 hd rfl | omega) hb12 ?_
    refine sg_K1 ?_
    refine sg_iconst (pc := 18) (z := 1) (dc_X7_word_0.2.1.2.1) (by decide) ?_
    first | refine sg_isubB (pc := 19) (dc_X7_word_0.2.1.2.2) (by omega) (by omega) ?_ | refine sg_isub (pc := 19) (dc_X7_word_0.2.1.2.2) ?_
    refine sg_cS3 (pc := 20) (d' := d - 1) (mc' := 0) (ms' := 0) g (dc_X7_word_0.2.2.1.1) cb_X7_isOf ml_X7_22 ms_X7_isOf (Nat.le_of_ble_eq_true rfl) (by first | exact jl_d0 hd rfl | omega) (by first | exact Nat.le_of_ble_eq_true rfl | omega) (by first | exact Nat.le_of_ble_eq_true rfl | omega) ?_
    refine s_X7_isOf g (by first | exact jl_d1 hd rfl | omega) (fun z20 h20 b20 => sg_K1 ?_)
    (try simp only [fm_no, fm_one, fn_betw, fn_sign, fn_radix, fn_high, fn_low] at h20)
    refine sg_if_ne (pc := 23) (tgt := 30) (dc_X7_word_0.2.2.1.2) (by decide) (fun c23 => ?_) (fun c23 => ?_)
    · refine sg_iconst (pc := 30) (z := 0) (dc_X7_word_30.1.1.1.1) (by decide) ?_
      refine sg_iconst (pc := 31) (z := 1) (dc_X7_word_30.1.1.1.2) (by decide) ?_
      refine sg_cE2 (pc := 32) (d' := d - 1) (mc' := 0) (ms' := 0) 8 g (dc_X7_word_30.1.1.2.1) cb_X7_start ml_X7_71 mn_X7_start rfl mv_X7_start (Nat.le_of_ble_eq_true rfl) (md_oc (by assumption)) (Nat.le_of_ble_eq_true rfl) (by first | exact jl_d0 hd rfl | omega) (by first | exact Nat.le_of_ble_eq_true rfl | omega) (by first | exact Nat.le_of_ble_eq_true rfl | omega) ?_
      refine s_X7_start g (by first | exact jl_d1 hd rfl | omega) (by omega) (by assumption) (fun v32 h32 b32 i32 t32 s32 u32 y32 => sg_K1 ?_)
      have x32 := y32.1
      have hk32 := x32.2.1
      have y32 := md_Yt (h0 := h) (by assumption) y32
      refine sg_if_eq (pc := 35) (tgt := 42) (dc_X7_word_30.1.1.2.2) (by decide) (fun c35 => ?_) (fun c35 => absurd c35 (by omega))
      try have q1 := md_Uv u32 (i := row) (by omega) (by omega)
      try have q2 := md_vE hx P12.2.1 (i := row) (by omega) (by omega)
      try have q3 := md_SE hx P12.2.1 (i := row) (by omega) (by omega)
      refine sg_aload_n (pc := 42) (j := 0) (dc_X7_word_30.1.2.2.1) rfl rfl ?_
      refine sg_iload_n (pc := 43) (j := 1) (dc_X7_word_30.1.2.2.2) rfl rfl ?_
      refine sg_cE1 (pc := 44) (d' := d - 1) (mc' := 24) (ms' := 90) 8 g (dc_X7_word_30.2.1.1.1) cb_X7_wordsOf ml_X7_215 mn_X7_wordsOf rfl mv_X7_wordsOf (Nat.le_of_ble_eq_true rfl) (md_oc (by assumption)) (Nat.le_of_ble_eq_true rfl) (by first | exact jl_d0 hd rfl | omega) (by first | exact Nat.le_of_ble_eq_true rfl | omega) (by first | exact Nat.le_of_ble_eq_true rfl | omega) ?_
      refine s_X7_wordsOf g (by first | exact jl_d1 hd rfl | omega) (by omega) (by assumption) (fun h44 b44 cap44 sz44 P44 w44 l44 => sg_K1 ?_)
      have X44 : md_M w h44 M := md_ME (by assumption) P44.2.1
      have k44 := X44.2.1
      try have Y44 : md_Y w h h44 M := md_YE (by assumption) P44.2.1
      obtain ⟨-, -, -, m44, E44, xs44, hb44, hE44, s44, sc44, hj44⟩ := id P44
      try rw [q1.1, q1.2, q2, q3] at w44
      obtain ⟨a9, ea, a90, ⟨al, zs9, zl9, -, za9⟩⟩ := hj44 k.toNat (by omega)
      have hE9 : h44.2 E44 = some (113, xs44) := by
        rcases hE44 with ⟨r1, r2, -⟩ | ⟨-, -, r3, -⟩
        · rw [r2] at ea; cases ea
        · exact r3
      refine sg_iload_n (pc := 47) (j := 2) (dc_X7_word_30.2.1.1.2) rfl rfl ?_
      refine sg_cV1 (pc := 48) (d' := d - 1) (mc' := 0) (ms' := 0) g (dc_X7_word_30.2.1.2.1) cb_Jx4a65c_get_915e3 ml_X7_212 mn_Jx4a65c_get_915e3 mv_Jx4a65c_get_915e3 hb44 (Nat.le_of_ble_eq_true rfl) rfl (Nat.le_of_ble_eq_true rfl) (by first | exact jl_d0 hd rfl | omega) (by first | exact Nat.le_of_ble_eq_true rfl | omega) (by first | exact Nat.le_of_ble_eq_true rfl | omega) ?_
      refine s_al_get g (by first | exact jl_d1 hd rfl | omega) hb44 hE9 (i := k) (by omega) (by omega) ea ?_
      refine sg_K1 ?_
      refine sg_castA (pc := 51) g (dc_X7_word_30.2.1.2.2) cl_X7_7 za9 (by decide) (by decide +kernel) ?_
      refine sg_iload_n (pc := 54) (j := 3) (dc_X7_word_30.2.2.1.1) rfl rfl ?_
      refine sg_if_eq (pc := 55) (tgt := 62) (dc_X7_word_30.2.2.1.2) (by decide) (fun c55 => ?_) (fun c55 => ?_)
      · refine sg_iconst (pc := 62) (z := 0) (dc_X7_word_62.1.1) (by decide) ?_
        refine sg_iald (pc := 63) (dc_X7_word_62.1.2) za9 (by decide) (by decide) (ck_at (by rw [zl9]; decide)) ?_
        refine sg_iret (pc := 64) (dc_X7_word_62.2.1) rfl (by first | exact Nat.le_of_ble_eq_true rfl | omega) (by first | exact Nat.le_of_ble_eq_true rfl | omega) ?_
        exact hQ _ _ (by assumption)
      · refine sg_iconst (pc := 58) (z := 1) (dc_X7_word_30.2.2.2.1) (by decide) ?_
        refine sg_goto (pc := 59) (tgt := 63) (dc_X7_word_30.2.2.2.2) (by decide) ?_
        refine sg_iald (pc := 63) (dc_X7_word_62.1.2) za9 (by decide) (by decide) (ck_at (by rw [zl9]; decide)) ?_
        refine sg_iret (pc := 64) (dc_X7_word_62.2.1) rfl (by first | exact Nat.le_of_ble_eq_true rfl | omega) (by first | exact Nat.le_of_ble_eq_true rfl | omega) ?_
        exact hQ _ _ (by assumption)
    · refine sg_iconst (pc := 26) (z := 1) (dc_X7_word_0.2.2.2.1) (by decide) ?_
      refine sg_goto (pc := 27) (tgt := 31) (dc_X7_word_0.2.2.2.2) (by decide) ?_
      refine sg_iconst (pc := 31) (z := 1) (dc_X7_word_30.1.1.1.2) (by decide) ?_
      refine sg_cE2 (pc := 32) (d' := d - 1) (mc' := 0) (ms' := 0) 8 g (dc_X7_word_30.1.1.2.1) cb_X7_start ml_X7_71 mn_X7_start rfl mv_X7_start (Nat.le_of_ble_eq_true rfl) (md_oc (by assumption)) (Nat.le_of_ble_eq_true rfl) (by first | exact jl_d0 hd rfl | omega) (by first | exact Nat.le_of_ble_eq_true rfl | omega) (by first | exact Nat.le_of_ble_eq_true rfl | omega) ?_
      refine s_X7_start g (by first | exact jl_d1 hd rfl | omega) (by omega) (by assumption) (fun v32 h32 b32 i32 t32 s32 u32 y32 => sg_K1 ?_)
      have x32 := y32.1
      have hk32 := x32.2.1
      have y32 := md_Yt (h0 := h) (by assumption) y32
      refine sg_if_eq (pc := 35) (tgt := 42) (dc_X7_word_30.1.1.2.2) (by decide) (fun c35 => absurd c35 (by omega)) (fun c35 => ?_)
      refine sg_iconst (pc := 38) (z := 0) (dc_X7_word_30.1.2.1.1) (by decide) ?_
      refine sg_goto (pc := 39) (tgt := 64) (dc_X7_word_30.1.2.1.2) (by decide) ?_
      refine sg_iret (pc := 64) (dc_X7_word_62.2.1) rfl (by first | exact Nat.le_of_ble_eq_true rfl | omega) (by first | exact Nat.le_of_ble_eq_true rfl | omega) ?_
      exact hQ _ _ (by assumption)

set_option maxRecDepth 100000 in
theorem s_X7_houseOf {w : sg_W} {Q : sg_O → sg_H → Prop} {h : sg_H} (g : sg_G w) {d : Nat} (hd : 3 ≤ d) {M : Nat} {what : Int}  (hx : md_M w h M) (hQ : ∀ v : Int, Q (.inl (some (sg_i v))) h) : sg_C w mi_X7_houseOf d 0 0 [sg_r M, sg_i what] h Q := by
  refine sg_of pn_X7 (Nat.le_of_ble_eq_true rfl) ?_
  have y0 := md_Y0 hx
  have hk := hx.2.1
  refine sg_iconst (pc := 0) (z := 0) (dc_X7_houseOf_0.1.1.1.1) (by decide) ?_
  refine sg_istore_n (pc := 1) (j := 2) (dc_X7_houseOf_0.1.1.1.2) rfl (by decide) ?_
  refine sg_iconst (pc := 2) (z := 0) (dc_X7_houseOf_0.1.1.2.1) (by decide) ?_
  refine sg_istore_n (pc := 3) (j := 3) (dc_X7_houseOf_0.1.1.2.2) rfl (by decide) ?_
  have loop4 : ∀ (N : Nat) (p s : Int), (0 ≤ p) → (4 - p).toNat < N → sg_R w mi_X7_houseOf d 0 0 Q 4 [(3, sg_i p), (2, sg_i s), (0, sg_r M), (1, sg_i what)] [] h 0 0 := by
    intro N
    induction N with
    | zero => intro p s p0 hm; exact absurd hm (Nat.not_lt_zero _)
    | succ N ih =>
      intro p s p0 hm
      refine sg_iload_n (pc := 4) (j := 3) (dc_X7_houseOf_0.1.2.1.1) rfl rfl ?_
      refine sg_iconst (pc := 5) (z := 4) (dc_X7_houseOf_0.1.2.1.2) (by decide) ?_
      refine sg_icmp_ge (pc := 6) (tgt := 25) (dc_X7_houseOf_0.1.2.2.1) (by decide) (fun c6 => ?_) (fun c6 => ?_)
      · refine sg_iload_n (pc := 25) (j := 1) (dc_X7_houseOf_22.1.1.1.2) rfl rfl ?_
        refine sg_if_ne (pc := 26) (tgt := 33) (dc_X7_houseOf_22.1.1.2.1) (by decide) (fun c26 => ?_) (fun c26 => ?_)
        · refine sg_iload_n (pc := 33) (j := 1) (dc_X7_houseOf_22.1.2.1.2) rfl rfl ?_
          refine sg_iconst (pc := 34) (z := 1) (dc_X7_houseOf_22.1.2.2.1) (by decide) ?_
          refine sg_icmp_ne (pc := 35) (tgt := 56) (dc_X7_houseOf_22.1.2.2.2) (by decide) (fun c35 => ?_) (fun c35 => ?_)
          · refine sg_iload_n (pc := 56) (j := 1) (dc_X7_houseOf_50.1.2.1.1) rfl rfl ?_
            refine sg_iconst (pc := 57) (z := 2) (dc_X7_houseOf_50.1.2.1.2) (by decide) ?_
            refine sg_icmp_ne (pc := 58) (tgt := 71) (dc_X7_houseOf_50.1.2.2.1) (by decide) (fun c58 => ?_) (fun c58 => ?_)
            · refine sg_aload_n (pc := 71) (j := 0) (dc_X7_houseOf_50.2.1.2.2) rfl rfl ?_
              refine md_gkn (pc := 72) g (dc_X7_houseOf_50.2.2.1.1) fk_X7_161 (by assumption) ?_
              refine sg_iret (pc := 75) (dc_X7_houseOf_50.2.2.1.2) rfl (by first | exact Nat.le_of_ble_eq_true rfl | omega) (by first | exact Nat.le_of_ble_eq_true rfl | omega) ?_
              exact hQ _
            · refine sg_aload_n (pc := 61) (j := 0) (dc_X7_houseOf_50.1.2.2.2) rfl rfl ?_
              refine md_gbf (pc := 62) g (dc_X7_houseOf_50.2.1.1.1) fk_X7_18 (by assumption) (fun b62 L62 => ?_)
              obtain ⟨-, m62, sz62, E62, t62, xs62, hb62, -⟩ := id L62
              refine sg_cV0 (pc := 65) (d' := d - 1) (mc' := 0) (ms' := 0) g (dc_X7_houseOf_50.2.1.1.2) cb_Jx4a65c_size_8abf5 ml_X7_53 mn_Jx4a65c_size_8abf5 mv_Jx4a65c_size_8abf5 hb62 (Nat.le_of_ble_eq_true rfl) rfl (Nat.le_of_ble_eq_true rfl) (by first | exact jl_d0 hd rfl | omega) (by first | exact Nat.le_of_ble_eq_true rfl | omega) (by first | exact Nat.le_of_ble_eq_true rfl | omega) ?_
              refine s_al_size g (by first | exact jl_d1 hd rfl | omega) hb62 ?_
              refine sg_K1 ?_
              refine sg_goto (pc := 68) (tgt := 75) (dc_X7_houseOf_50.2.1.2.1) (by decide) ?_
              refine sg_iret (pc := 75) (dc_X7_houseOf_50.2.2.1.2) rfl (by first | exact Nat.le_of_ble_eq_true rfl | omega) (by first | exact Nat.le_of_ble_eq_true rfl | omega) ?_
              exact hQ _
          · refine sg_aload_n (pc := 38) (j := 0) (dc_X7_houseOf_22.2.1.1.1) rfl rfl ?_
            refine md_grw (pc := 39) g (dc_X7_houseOf_22.2.1.1.2) fk_X7_9 (by assumption) (fun r39 => ?_)
            refine sg_iconst (pc := 42) (z := 4) (dc_X7_houseOf_22.2.1.2.1) (by decide) ?_
            first | refine md_alr (pc := 43) (dc_X7_houseOf_22.2.1.2.2) (by assumption) (by omega) (by omega) (fun A43 l43 => ?_) | refine md_alt (pc := 43) (dc_X7_houseOf_22.2.1.2.2) (by assumption) (by omega) (by omega) (fun A43 l43 => ?_)
            refine md_len (pc := 44) (dc_X7_houseOf_22.2.2.1.1) (by assumption) (by omega) ?_
            refine sg_aload_n (pc := 45) (j := 0) (dc_X7_houseOf_22.2.2.1.2) rfl rfl ?_
            refine md_grw (pc := 46) g (dc_X7_houseOf_22.2.2.2.1) fk_X7_9 (by assumption) (fun r46 => ?_)
            refine sg_iconst (pc := 49) (z := 5) (dc_X7_houseOf_22.2.2.2.2) (by decide) ?_
            first | refine md_alr (pc := 50) (dc_X7_houseOf_50.1.1.1.1) (by assumption) (by omega) (by omega) (fun A50 l50 => ?_) | refine md_alt (pc := 50) (dc_X7_houseOf_50.1.1.1.1) (by assumption) (by omega) (by omega) (fun A50 l50 => ?_)
            refine md_len (pc := 51) (dc_X7_houseOf_50.1.1.1.2) (by assumption) (by omega) ?_
            first | refine sg_iaddB (pc := 52) (dc_X7_houseOf_50.1.1.2.1) (by omega) (by omega) ?_ | refine sg_iadd (pc := 52) (dc_X7_houseOf_50.1.1.2.1) ?_
            refine sg_goto (pc := 53) (tgt := 75) (dc_X7_houseOf_50.1.1.2.2) (by decide) ?_
            refine sg_iret (pc := 75) (dc_X7_houseOf_50.2.2.1.2) rfl (by first | exact Nat.le_of_ble_eq_true rfl | omega) (by first | exact Nat.le_of_ble_eq_true rfl | omega) ?_
            exact hQ _
        · refine sg_iload_n (pc := 29) (j := 2) (dc_X7_houseOf_22.1.1.2.2) rfl rfl ?_
          refine sg_goto (pc := 30) (tgt := 75) (dc_X7_houseOf_22.1.2.1.1) (by decide) ?_
          refine sg_iret (pc := 75) (dc_X7_houseOf_50.2.2.1.2) rfl (by first | exact Nat.le_of_ble_eq_true rfl | omega) (by first | exact Nat.le_of_ble_eq_true rfl | omega) ?_
          exact hQ _
      · refine sg_iload_n (pc := 9) (j := 2) (dc_X7_houseOf_0.1.2.2.2) rfl rfl ?_
        refine sg_aload_n (pc := 10) (j := 0) (dc_X7_houseOf_0.2.1.1.1) rfl rfl ?_
        refine md_grw (pc := 11) g (dc_X7_houseOf_0.2.1.1.2) fk_X7_9 (by assumption) (fun r11 => ?_)
        refine sg_iload_n (pc := 14) (j := 3) (dc_X7_houseOf_0.2.1.2.1) rfl rfl ?_
        first | refine md_alr (pc := 15) (dc_X7_houseOf_0.2.1.2.2) (by assumption) (by omega) (by omega) (fun A15 l15 => ?_) | refine md_alt (pc := 15) (dc_X7_houseOf_0.2.1.2.2) (by assumption) (by omega) (by omega) (fun A15 l15 => ?_)
        refine md_len (pc := 16) (dc_X7_houseOf_0.2.2.1.1) (by assumption) (by omega) ?_
        first | refine sg_iaddB (pc := 17) (dc_X7_houseOf_0.2.2.1.2) (by omega) (by omega) ?_ | refine sg_iadd (pc := 17) (dc_X7_houseOf_0.2.2.1.2) ?_
        refine sg_istore_n (pc := 18) (j := 2) (dc_X7_houseOf_0.2.2.2.1) rfl (by decide) ?_
        first | refine sg_iincB (pc := 19) (dc_X7_houseOf_0.2.2.2.2) rfl (by decide) (by decide) (by omega) (by omega) ?_ | refine sg_iinc (pc := 19) (dc_X7_houseOf_0.2.2.2.2) rfl (by decide) (by decide) ?_
        refine sg_goto (pc := 22) (tgt := 4) (dc_X7_houseOf_22.1.1.1.1) (by decide) ?_
        refine sg_lsub (lv' := [(3, _), (2, _), (0, _), (1, _)]) ⟨rfl, rfl, rfl, rfl, trivial⟩ ?_
        exact ih _ _ (by omega) (by first | exact jl_m1 hm (by omega) | exact jl_m2 hm (by omega) | omega)
  refine sg_lsub (lv' := [(3, _), (2, _), (0, _), (1, _)]) ⟨rfl, rfl, rfl, rfl, trivial⟩ ?_
  exact loop4 _ _ _ (by omega) (Nat.lt_succ_self _)

set_option maxRecDepth 100000 in
theorem s_X7_house {w : sg_W} {Q : sg_O → sg_H → Prop} {h : sg_H} (g : sg_G w) {d : Nat} (hd : 9 ≤ d) {M : Nat} {what : Int}  (hx : md_M w h M) (hQ : ∀ (v : Int) (h' : sg_H), md_Y w h h' M → Q (.inl (some (sg_i v))) h') : sg_C w mi_X7_house d 0 0 [sg_r M, sg_i what] h Q := by
  refine sg_of pn_X7 (Nat.le_of_ble_eq_true rfl) ?_
  have y0 := md_Y0 hx
  have hk := hx.2.1
  refine sg_aload_n (pc := 0) (j := 0) (dc_X7_house_0.1.1.1.1) rfl rfl ?_
  refine sg_iload_n (pc := 1) (j := 1) (dc_X7_house_0.1.1.1.2) rfl rfl ?_
  refine sg_iconst (pc := 2) (z := 0) (dc_X7_house_0.1.1.2.1) (by decide) ?_
  refine sg_iconst (pc := 3) (z := 3) (dc_X7_house_0.1.1.2.2) (by decide) ?_
  refine sg_cS3 (pc := 4) (d' := d - 1) (mc' := 0) (ms' := 0) g (dc_X7_house_0.1.2.1.1) cb_X7_isOf ml_X7_22 ms_X7_isOf (Nat.le_of_ble_eq_true rfl) (by first | exact jl_d0 hd rfl | omega) (by first | exact Nat.le_of_ble_eq_true rfl | omega) (by first | exact Nat.le_of_ble_eq_true rfl | omega) ?_
  refine s_X7_isOf g (by first | exact jl_d1 hd rfl | omega) (fun z4 h4 b4 => sg_K1 ?_)
  (try simp only [fm_no, fm_one, fn_betw, fn_sign, fn_radix, fn_high, fn_low] at h4)
  refine sg_if_ne (pc := 7) (tgt := 14) (dc_X7_house_0.1.2.1.2) (by decide) (fun c7 => ?_) (fun c7 => ?_)
  · refine sg_iconst (pc := 14) (z := 0) (dc_X7_house_0.2.1.1.1) (by decide) ?_
    refine sg_iconst (pc := 15) (z := 1) (dc_X7_house_0.2.1.1.2) (by decide) ?_
    refine sg_cE2 (pc := 16) (d' := d - 1) (mc' := 0) (ms' := 0) 8 g (dc_X7_house_0.2.1.2.1) cb_X7_start ml_X7_71 mn_X7_start rfl mv_X7_start (Nat.le_of_ble_eq_true rfl) (md_oc (by assumption)) (Nat.le_of_ble_eq_true rfl) (by first | exact jl_d0 hd rfl | omega) (by first | exact Nat.le_of_ble_eq_true rfl | omega) (by first | exact Nat.le_of_ble_eq_true rfl | omega) ?_
    refine s_X7_start g (by first | exact jl_d1 hd rfl | omega) (by omega) (by assumption) (fun v16 h16 b16 i16 t16 s16 u16 y16 => sg_K1 ?_)
    have x16 := y16.1
    have hk16 := x16.2.1
    have y16 := md_Yt (h0 := h) (by assumption) y16
    refine sg_if_eq (pc := 19) (tgt := 26) (dc_X7_house_0.2.1.2.2) (by decide) (fun c19 => ?_) (fun c19 => absurd c19 (by omega))
    refine sg_aload_n (pc := 26) (j := 0) (dc_X7_house_0.2.2.2.1) rfl rfl ?_
    refine sg_iload_n (pc := 27) (j := 1) (dc_X7_house_0.2.2.2.2) rfl rfl ?_
    refine sg_cE1 (pc := 28) (d' := d - 1) (mc' := 0) (ms' := 0) 8 g (dc_X7_house_28.1) cb_X7_houseOf ml_X7_235 mn_X7_houseOf rfl mv_X7_houseOf (Nat.le_of_ble_eq_true rfl) (md_oc (by assumption)) (Nat.le_of_ble_eq_true rfl) (by first | exact jl_d0 hd rfl | omega) (by first | exact Nat.le_of_ble_eq_true rfl | omega) (by first | exact Nat.le_of_ble_eq_true rfl | omega) ?_
    refine s_X7_houseOf g (by first | exact jl_d1 hd rfl | omega) (by assumption) (fun v28 => sg_K1 ?_)
    refine sg_iret (pc := 31) (dc_X7_house_28.2) rfl (by first | exact Nat.le_of_ble_eq_true rfl | omega) (by first | exact Nat.le_of_ble_eq_true rfl | omega) ?_
    exact hQ _ _ (by assumption)
  · refine sg_iconst (pc := 10) (z := 1) (dc_X7_house_0.1.2.2.1) (by decide) ?_
    refine sg_goto (pc := 11) (tgt := 15) (dc_X7_house_0.1.2.2.2) (by decide) ?_
    refine sg_iconst (pc := 15) (z := 1) (dc_X7_house_0.2.1.1.2) (by decide) ?_
    refine sg_cE2 (pc := 16) (d' := d - 1) (mc' := 0) (ms' := 0) 8 g (dc_X7_house_0.2.1.2.1) cb_X7_start ml_X7_71 mn_X7_start rfl mv_X7_start (Nat.le_of_ble_eq_true rfl) (md_oc (by assumption)) (Nat.le_of_ble_eq_true rfl) (by first | exact jl_d0 hd rfl | omega) (by first | exact Nat.le_of_ble_eq_true rfl | omega) (by first | exact Nat.le_of_ble_eq_true rfl | omega) ?_
    refine s_X7_start g (by first | exact jl_d1 hd rfl | omega) (by omega) (by assumption) (fun v16 h16 b16 i16 t16 s16 u16 y16 => sg_K1 ?_)
    have x16 := y16.1
    have hk16 := x16.2.1
    have y16 := md_Yt (h0 := h) (by assumption) y16
    refine sg_if_eq (pc := 19) (tgt := 26) (dc_X7_house_0.2.1.2.2) (by decide) (fun c19 => absurd c19 (by omega)) (fun c19 => ?_)
    refine sg_iconst (pc := 22) (z := 0) (dc_X7_house_0.2.2.1.1) (by decide) ?_
    refine sg_goto (pc := 23) (tgt := 31) (dc_X7_house_0.2.2.1.2) (by decide) ?_
    refine sg_iret (pc := 31) (dc_X7_house_28.2) rfl (by first | exact Nat.le_of_ble_eq_true rfl | omega) (by first | exact Nat.le_of_ble_eq_true rfl | omega) ?_
    exact hQ _ _ (by assumption)

