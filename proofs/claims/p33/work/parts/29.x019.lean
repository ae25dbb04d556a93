set_option maxRecDepth 100000 in
theorem s_X5_withRow {w : sg_W} {Q : sg_O → sg_H → Prop} {h : sg_H} (g : sg_G w) {d : Nat} (hd : 15 ≤ d) {B : Nat} (hx : ck_X h B) {x row : Int} (hv : 0 ≤ row ∧ row < 4) (hQ : ∀ v : Int, Q (.inl (some (sg_l v))) h) : sg_C w mi_X5_withRow d 0 0 [sg_r B, sg_l x, sg_i row] h Q := by
  refine sg_of pn_X5 (Nat.le_of_ble_eq_true rfl) ?_
  have y0 := ck_Y0 hx
  refine sg_aload_n (pc := 0) (j := 0) (dc_X5_withRow_0.1.1.1.1) rfl rfl ?_
  refine sg_iload_n (pc := 1) (j := 3) (dc_X5_withRow_0.1.1.1.2) rfl rfl ?_
  refine sg_cE1 (pc := 2) (d' := d - 1) (mc' := 0) (ms' := 0) 6 g (dc_X5_withRow_0.1.1.2.1) cb_X5_rowOf ml_X5_36 mn_X5_rowOf rfl mv_X5_rowOf (Nat.le_of_ble_eq_true rfl) (ck_oc (by assumption)) (Nat.le_of_ble_eq_true rfl) (by first | exact jl_d0 hd rfl | omega) (by first | exact Nat.le_of_ble_eq_true rfl | omega) (by first | exact Nat.le_of_ble_eq_true rfl | omega) ?_
  refine s_X5_rowOf_N g (by first | exact jl_d1 hd rfl | omega) (by assumption) (by omega) (fun a2 l2 r2 r2b => sg_K1 ?_)
  refine sg_astore (pc := 5) (dc_X5_withRow_0.1.1.2.2) (by decide) ?_
  refine sg_lload_n (pc := 7) (j := 1) (dc_X5_withRow_0.1.2.1.1) rfl rfl ?_
  refine sg_aload (pc := 8) (dc_X5_withRow_0.1.2.1.2) rfl ?_
  refine sg_cE0 (pc := 10) (d' := d - 1) (mc' := 0) (ms' := 0) 3 g (dc_X5_withRow_0.1.2.2.1) cb_X0_size ml_X5_63 mn_X0_size rfl mv_X0_size (Nat.le_of_ble_eq_true rfl) (ck_lc (by assumption) (by first | assumption | exact ck_rev)) (Nat.le_of_ble_eq_true rfl) (by first | exact jl_d0 hd rfl | omega) (by first | exact Nat.le_of_ble_eq_true rfl | omega) (by first | exact Nat.le_of_ble_eq_true rfl | omega) ?_
  refine s_X0_size g (by first | exact jl_d1 hd rfl | omega) (by assumption) (by first | assumption | exact ck_rev) (fun z10 l10 u10 N10 => sg_K1 ?_)
  refine sg_i2l (pc := 13) (dc_X5_withRow_0.1.2.2.2) ?_
  refine sg_cS2 (pc := 14) (d' := d - 1) (mc' := 0) (ms' := 0) g (dc_X5_withRow_0.2.1.1.1) cb_X5_with ml_X5_293 ms_X5_with (Nat.le_of_ble_eq_true rfl) (by first | exact jl_d0 hd rfl | omega) (by first | exact Nat.le_of_ble_eq_true rfl | omega) (by first | exact Nat.le_of_ble_eq_true rfl | omega) ?_
  refine s_X5_with g (by first | exact jl_d1 hd rfl | omega) (fun z14 h14 => sg_K1 ?_)
  refine sg_lstore (pc := 17) (dc_X5_withRow_0.2.1.1.2) (by decide) ?_
  refine sg_iconst (pc := 19) (z := 0) (dc_X5_withRow_0.2.1.2.1) (by decide) ?_
  refine sg_istore (pc := 20) (dc_X5_withRow_0.2.1.2.2) (by decide) ?_
  have loop22 : ∀ (N : Nat) (p s : Int), (0 ≤ p) → (40 - p).toNat < N → sg_R w mi_X5_withRow d 0 0 Q 22 [(7, sg_i p), (5, sg_l s), (0, sg_r B), (3, sg_i row), (4, sg_r a2)] [] h 0 0 := by
    intro N
    induction N with
    | zero => intro p s p0 hm; exact absurd hm (Nat.not_lt_zero _)
    | succ N ih =>
      intro p s p0 hm
      refine sg_iload (pc := 22) (dc_X5_withRow_0.2.2.1.1) rfl ?_
      refine sg_aload (pc := 24) (dc_X5_withRow_0.2.2.1.2) rfl ?_
      refine sg_cE0 (pc := 26) (d' := d - 1) (mc' := 0) (ms' := 0) 3 g (dc_X5_withRow_0.2.2.2.1) cb_X0_size ml_X5_63 mn_X0_size rfl mv_X0_size (Nat.le_of_ble_eq_true rfl) (ck_lc (by assumption) (by first | assumption | exact ck_rev)) (Nat.le_of_ble_eq_true rfl) (by first | exact jl_d0 hd rfl | omega) (by first | exact Nat.le_of_ble_eq_true rfl | omega) (by first | exact Nat.le_of_ble_eq_true rfl | omega) ?_
      refine s_X0_size g (by first | exact jl_d1 hd rfl | omega) (by assumption) (by first | assumption | exact ck_rev) (fun z26 l26 u26 N26 => sg_K1 ?_)
      refine sg_icmp_ge (pc := 29) (tgt := 124) (dc_X5_withRow_0.2.2.2.2) (by decide) (fun c29 => ?_) (fun c29 => ?_)
      · refine sg_iconst (pc := 124) (z := 0) (dc_X5_withRow_101.2.1.2.1) (by decide) ?_
        refine sg_istore (pc := 125) (dc_X5_withRow_101.2.1.2.2) (by decide) ?_
        have loop127 : ∀ (N : Nat) (p s : Int), (0 ≤ p) → (5 - p).toNat < N → sg_R w mi_X5_withRow d 0 0 Q 127 [(7, sg_i p), (5, sg_l s), (0, sg_r B), (3, sg_i row), (4, sg_r a2)] [] h 0 0 := by
          intro N
          induction N with
          | zero => intro p s p0 hm; exact absurd hm (Nat.not_lt_zero _)
          | succ N ih =>
            intro p s p0 hm
            refine sg_iload (pc := 127) (dc_X5_withRow_101.2.2.1.1) rfl ?_
            refine sg_iconst (pc := 129) (z := 5) (dc_X5_withRow_101.2.2.1.2) (by decide) ?_
            refine sg_icmp_ge (pc := 130) (tgt := 154) (dc_X5_withRow_101.2.2.2.1) (by decide) (fun c130 => ?_) (fun c130 => ?_)
            · refine sg_lload (pc := 154) (dc_X5_withRow_135.2.1.1.2) rfl ?_
              refine sg_aload_n (pc := 156) (j := 0) (dc_X5_withRow_135.2.1.2.1) rfl rfl ?_
              refine sg_iload_n (pc := 157) (j := 3) (dc_X5_withRow_135.2.1.2.2) rfl rfl ?_
              refine sg_bipush (pc := 158) (z := 36) (dc_X5_withRow_135.2.2.1.1) (by decide) ?_
              refine sg_cE2 (pc := 160) (d' := d - 1) (mc' := 0) (ms' := 0) 6 g (dc_X5_withRow_135.2.2.1.2) cb_X5_told ml_X5_347 mn_X5_told rfl mv_X5_told (Nat.le_of_ble_eq_true rfl) (ck_oc (by assumption)) (Nat.le_of_ble_eq_true rfl) (by first | exact jl_d0 hd rfl | omega) (by first | exact Nat.le_of_ble_eq_true rfl | omega) (by first | exact Nat.le_of_ble_eq_true rfl | omega) ?_
              refine s_X5_told_N g (by first | exact jl_d1 hd rfl | omega) (by assumption) (by omega) (fun v160 => sg_K1 ?_)
              refine sg_i2l (pc := 163) (dc_X5_withRow_135.2.2.2.1) ?_
              refine sg_cS2 (pc := 164) (d' := d - 1) (mc' := 0) (ms' := 0) g (dc_X5_withRow_135.2.2.2.2) cb_X5_with ml_X5_293 ms_X5_with (Nat.le_of_ble_eq_true rfl) (by first | exact jl_d0 hd rfl | omega) (by first | exact Nat.le_of_ble_eq_true rfl | omega) (by first | exact Nat.le_of_ble_eq_true rfl | omega) ?_
              refine s_X5_with g (by first | exact jl_d1 hd rfl | omega) (fun z164 h164 => sg_K1 ?_)
              refine sg_lstore (pc := 167) (dc_X5_withRow_167.1.1.1.1) (by decide) ?_
              refine sg_lload (pc := 169) (dc_X5_withRow_167.1.1.1.2) rfl ?_
              refine sg_aload_n (pc := 171) (j := 0) (dc_X5_withRow_167.1.1.2.1) rfl rfl ?_
              refine sg_iload_n (pc := 172) (j := 3) (dc_X5_withRow_167.1.1.2.2) rfl rfl ?_
              refine sg_cE1 (pc := 173) (d' := d - 1) (mc' := 0) (ms' := 0) 6 g (dc_X5_withRow_167.1.2.1.1) cb_X5_values ml_X5_350 mn_X5_values rfl mv_X5_values (Nat.le_of_ble_eq_true rfl) (ck_oc (by assumption)) (Nat.le_of_ble_eq_true rfl) (by first | exact jl_d0 hd rfl | omega) (by first | exact Nat.le_of_ble_eq_true rfl | omega) (by first | exact Nat.le_of_ble_eq_true rfl | omega) ?_
              refine s_X5_values_N g (by first | exact jl_d1 hd rfl | omega) (by assumption) (by omega) (fun v173 => sg_K1 ?_)
              refine sg_i2l (pc := 176) (dc_X5_withRow_167.1.2.1.2) ?_
              refine sg_cS2 (pc := 177) (d' := d - 1) (mc' := 0) (ms' := 0) g (dc_X5_withRow_167.1.2.2.1) cb_X5_with ml_X5_293 ms_X5_with (Nat.le_of_ble_eq_true rfl) (by first | exact jl_d0 hd rfl | omega) (by first | exact Nat.le_of_ble_eq_true rfl | omega) (by first | exact Nat.le_of_ble_eq_true rfl | omega) ?_
              refine s_X5_with g (by first | exact jl_d1 hd rfl | omega) (fun z177 h177 => sg_K1 ?_)
              refine sg_lstore (pc := 180) (dc_X5_withRow_167.1.2.2.2) (by decide) ?_
              refine sg_lload (pc := 182) (dc_X5_withRow_167.2.1.1.1) rfl ?_
              refine sg_aload_n (pc := 184) (j := 0) (dc_X5_withRow_167.2.1.1.2) rfl rfl ?_
              refine sg_iload_n (pc := 185) (j := 3) (dc_X5_withRow_167.2.1.2.1) rfl rfl ?_
              refine sg_cE1 (pc := 186) (d' := d - 1) (mc' := 0) (ms' := 0) 6 g (dc_X5_withRow_167.2.1.2.2) cb_X5_words ml_X5_353 mn_X5_words rfl mv_X5_words (Nat.le_of_ble_eq_true rfl) (ck_oc (by assumption)) (Nat.le_of_ble_eq_true rfl) (by first | exact jl_d0 hd rfl | omega) (by first | exact Nat.le_of_ble_eq_true rfl | omega) (by first | exact Nat.le_of_ble_eq_true rfl | omega) ?_
              refine s_X5_words_N g (by first | exact jl_d1 hd rfl | omega) (by assumption) (by omega) (fun v186 => sg_K1 ?_)
              refine sg_i2l (pc := 189) (dc_X5_withRow_167.2.2.1.1) ?_
              refine sg_cS2 (pc := 190) (d' := d - 1) (mc' := 0) (ms' := 0) g (dc_X5_withRow_167.2.2.1.2) cb_X5_with ml_X5_293 ms_X5_with (Nat.le_of_ble_eq_true rfl) (by first | exact jl_d0 hd rfl | omega) (by first | exact Nat.le_of_ble_eq_true rfl | omega) (by first | exact Nat.le_of_ble_eq_true rfl | omega) ?_
              refine s_X5_with g (by first | exact jl_d1 hd rfl | omega) (fun z190 h190 => sg_K1 ?_)
              refine sg_lstore (pc := 193) (dc_X5_withRow_167.2.2.2.1) (by decide) ?_
              refine sg_lload (pc := 195) (dc_X5_withRow_167.2.2.2.2) rfl ?_
              refine sg_aload (pc := 197) (dc_X5_withRow_197.1.1.1.1) rfl ?_
              refine sg_cE0 (pc := 199) (d' := d - 1) (mc' := 0) (ms' := 0) 3 g (dc_X5_withRow_197.1.1.1.2) cb_X0_size ml_X5_63 mn_X0_size rfl mv_X0_size (Nat.le_of_ble_eq_true rfl) (ck_lc (by assumption) (by first | assumption | exact ck_rev)) (Nat.le_of_ble_eq_true rfl) (by first | exact jl_d0 hd rfl | omega) (by first | exact Nat.le_of_ble_eq_true rfl | omega) (by first | exact Nat.le_of_ble_eq_true rfl | omega) ?_
              refine s_X0_size g (by first | exact jl_d1 hd rfl | omega) (by assumption) (by first | assumption | exact ck_rev) (fun z199 l199 u199 N199 => sg_K1 ?_)
              refine sg_i2l (pc := 202) (dc_X5_withRow_197.1.1.2.1) ?_
              refine sg_cS2 (pc := 203) (d' := d - 1) (mc' := 0) (ms' := 0) g (dc_X5_withRow_197.1.1.2.2) cb_X5_with ml_X5_293 ms_X5_with (Nat.le_of_ble_eq_true rfl) (by first | exact jl_d0 hd rfl | omega) (by first | exact Nat.le_of_ble_eq_true rfl | omega) (by first | exact Nat.le_of_ble_eq_true rfl | omega) ?_
              refine s_X5_with g (by first | exact jl_d1 hd rfl | omega) (fun z203 h203 => sg_K1 ?_)
              refine sg_lstore (pc := 206) (dc_X5_withRow_197.1.2.1.1) (by decide) ?_
              refine sg_lload (pc := 208) (dc_X5_withRow_197.1.2.1.2) rfl ?_
              refine sg_iconst (pc := 210) (z := 2) (dc_X5_withRow_197.1.2.2.1) (by decide) ?_
              refine sg_aload (pc := 211) (dc_X5_withRow_197.1.2.2.2) rfl ?_
              refine sg_cE0 (pc := 213) (d' := d - 1) (mc' := 0) (ms' := 0) 3 g (dc_X5_withRow_197.2.1.1.1) cb_X0_size ml_X5_63 mn_X0_size rfl mv_X0_size (Nat.le_of_ble_eq_true rfl) (ck_lc (by assumption) (by first | assumption | exact ck_rev)) (Nat.le_of_ble_eq_true rfl) (by first | exact jl_d0 hd rfl | omega) (by first | exact Nat.le_of_ble_eq_true rfl | omega) (by first | exact Nat.le_of_ble_eq_true rfl | omega) ?_
              refine s_X0_size g (by first | exact jl_d1 hd rfl | omega) (by assumption) (by first | assumption | exact ck_rev) (fun z213 l213 u213 N213 => sg_K1 ?_)
              first | refine sg_imulB (pc := 216) (dc_X5_withRow_197.2.1.1.2) (by omega) (by omega) ?_ | refine sg_imul (pc := 216) (dc_X5_withRow_197.2.1.1.2) ?_
              refine sg_i2l (pc := 217) (dc_X5_withRow_197.2.1.2.1) ?_
              refine sg_cS2 (pc := 218) (d' := d - 1) (mc' := 0) (ms' := 0) g (dc_X5_withRow_197.2.1.2.2) cb_X5_with ml_X5_293 ms_X5_with (Nat.le_of_ble_eq_true rfl) (by first | exact jl_d0 hd rfl | omega) (by first | exact Nat.le_of_ble_eq_true rfl | omega) (by first | exact Nat.le_of_ble_eq_true rfl | omega) ?_
              refine s_X5_with g (by first | exact jl_d1 hd rfl | omega) (fun z218 h218 => sg_K1 ?_)
              refine sg_lret (pc := 221) (dc_X5_withRow_197.2.2.1.1) rfl (by first | exact Nat.le_of_ble_eq_true rfl | omega) (by first | exact Nat.le_of_ble_eq_true rfl | omega) ?_
              exact hQ _
            · refine sg_lload (pc := 133) (dc_X5_withRow_101.2.2.2.2) rfl ?_
              refine sg_aload_n (pc := 135) (j := 0) (dc_X5_withRow_135.1.1.1.1) rfl rfl ?_
              refine sg_iload_n (pc := 136) (j := 3) (dc_X5_withRow_135.1.1.1.2) rfl rfl ?_
              refine sg_iload (pc := 137) (dc_X5_withRow_135.1.1.2.1) rfl ?_
              refine sg_cE2 (pc := 139) (d' := d - 1) (mc' := 0) (ms' := 0) 6 g (dc_X5_withRow_135.1.1.2.2) cb_X5_count ml_X5_344 mn_X5_count rfl mv_X5_count (Nat.le_of_ble_eq_true rfl) (ck_oc (by assumption)) (Nat.le_of_ble_eq_true rfl) (by first | exact jl_d0 hd rfl | omega) (by first | exact Nat.le_of_ble_eq_true rfl | omega) (by first | exact Nat.le_of_ble_eq_true rfl | omega) ?_
              refine s_X5_count_N g (by first | exact jl_d1 hd rfl | omega) (by assumption) (by omega) (fun v139 => sg_K1 ?_)
              refine sg_i2l (pc := 142) (dc_X5_withRow_135.1.2.1.1) ?_
              refine sg_cS2 (pc := 143) (d' := d - 1) (mc' := 0) (ms' := 0) g (dc_X5_withRow_135.1.2.1.2) cb_X5_with ml_X5_293 ms_X5_with (Nat.le_of_ble_eq_true rfl) (by first | exact jl_d0 hd rfl | omega) (by first | exact Nat.le_of_ble_eq_true rfl | omega) (by first | exact Nat.le_of_ble_eq_true rfl | omega) ?_
              refine s_X5_with g (by first | exact jl_d1 hd rfl | omega) (fun z143 h143 => sg_K1 ?_)
              refine sg_lstore (pc := 146) (dc_X5_withRow_135.1.2.2.1) (by decide) ?_
              first | refine sg_iincB (pc := 148) (dc_X5_withRow_135.1.2.2.2) rfl (by decide) (by decide) (by omega) (by omega) ?_ | refine sg_iinc (pc := 148) (dc_X5_withRow_135.1.2.2.2) rfl (by decide) (by decide) ?_
              refine sg_goto (pc := 151) (tgt := 127) (dc_X5_withRow_135.2.1.1.1) (by decide) ?_
              refine sg_lsub (lv' := [(7, _), (5, _), (0, _), (3, _), (4, _)]) ⟨rfl, rfl, rfl, rfl, rfl, trivial⟩ ?_
              exact ih _ _ (by omega) (by first | exact jl_m1 hm (by omega) | exact jl_m2 hm (by omega) | omega)
        refine sg_lsub (lv' := [(7, _), (5, _), (0, _), (3, _), (4, _)]) ⟨rfl, rfl, rfl, rfl, rfl, trivial⟩ ?_
        exact loop127 _ _ _ (by omega) (Nat.lt_succ_self _)
      · refine sg_aload (pc := 32) (dc_X5_withRow_32.1.1.1.1) rfl ?_
        refine sg_iload (pc := 34) (dc_X5_withRow_32.1.1.1.2) rfl ?_
        refine sg_cE1 (pc := 36) (d' := d - 1) (mc' := 0) (ms' := 0) 3 g (dc_X5_withRow_32.1.1.2.1) cb_X0_get ml_X5_75 mn_X0_get rfl mv_X0_get (Nat.le_of_ble_eq_true rfl) (ck_lc (by assumption) (by first | assumption | exact ck_rev)) (Nat.le_of_ble_eq_true rfl) (by first | exact jl_d0 hd rfl | omega) (by first | exact Nat.le_of_ble_eq_true rfl | omega) (by first | exact Nat.le_of_ble_eq_true rfl | omega) ?_
        refine s_X0_get g (by first | exact jl_d1 hd rfl | omega) (by assumption) (by first | assumption | exact ck_rev) (fun z36 G36 v36 => sg_K1 ?_)
        refine sg_istore (pc := 39) (dc_X5_withRow_32.1.1.2.2) (by decide) ?_
        refine sg_lload (pc := 41) (dc_X5_withRow_32.1.2.1.1) rfl ?_
        refine sg_iload (pc := 43) (dc_X5_withRow_32.1.2.1.2) rfl ?_
        refine sg_i2l (pc := 45) (dc_X5_withRow_32.1.2.2.1) ?_
        refine sg_cS2 (pc := 46) (d' := d - 1) (mc' := 0) (ms' := 0) g (dc_X5_withRow_32.1.2.2.2) cb_X5_with ml_X5_293 ms_X5_with (Nat.le_of_ble_eq_true rfl) (by first | exact jl_d0 hd rfl | omega) (by first | exact Nat.le_of_ble_eq_true rfl | omega) (by first | exact Nat.le_of_ble_eq_true rfl | omega) ?_
        refine s_X5_with g (by first | exact jl_d1 hd rfl | omega) (fun z46 h46 => sg_K1 ?_)
        refine sg_lstore (pc := 49) (dc_X5_withRow_32.2.1.1.1) (by decide) ?_
        refine sg_lload (pc := 51) (dc_X5_withRow_32.2.1.1.2) rfl ?_
        refine sg_iload (pc := 53) (dc_X5_withRow_32.2.1.2.1) rfl ?_
        refine sg_cS1 (pc := 55) (d' := d - 1) (mc' := 0) (ms' := 0) g (dc_X5_withRow_32.2.1.2.2) cb_X2_kindsOf ml_X5_192 ms_X2_kindsOf (Nat.le_of_ble_eq_true rfl) (by first | exact jl_d0 hd rfl | omega) (by first | exact Nat.le_of_ble_eq_true rfl | omega) (by first | exact Nat.le_of_ble_eq_true rfl | omega) ?_
        refine s_X2_kindsOf g (by first | exact jl_d1 hd rfl | omega) (fun z55 h55 => sg_K1 ?_)
        refine sg_i2l (pc := 58) (dc_X5_withRow_32.2.2.1.1) ?_
        refine sg_cS2 (pc := 59) (d' := d - 1) (mc' := 0) (ms' := 0) g (dc_X5_withRow_32.2.2.1.2) cb_X5_with ml_X5_293 ms_X5_with (Nat.le_of_ble_eq_true rfl) (by first | exact jl_d0 hd rfl | omega) (by first | exact Nat.le_of_ble_eq_true rfl | omega) (by first | exact Nat.le_of_ble_eq_true rfl | omega) ?_
        refine s_X5_with g (by first | exact jl_d1 hd rfl | omega) (fun z59 h59 => sg_K1 ?_)
        refine sg_lstore (pc := 62) (dc_X5_withRow_32.2.2.2.1) (by decide) ?_
        refine sg_lload (pc := 64) (dc_X5_withRow_32.2.2.2.2) rfl ?_
        refine sg_iload (pc := 66) (dc_X5_withRow_66.1.1.1.1) rfl ?_
        refine sg_cS1 (pc := 68) (d' := d - 1) (mc' := 0) (ms' := 0) g (dc_X5_withRow_66.1.1.1.2) cb_X2_upperOf ml_X5_78 ms_X2_upperOf (Nat.le_of_ble_eq_true rfl) (by first | exact jl_d0 hd rfl | omega) (by first | exact Nat.le_of_ble_eq_true rfl | omega) (by first | exact Nat.le_of_ble_eq_true rfl | omega) ?_
        refine s_X2_upperOf g (by first | exact jl_d1 hd rfl | omega) (fun z68 h68 => sg_K1 ?_)
        refine sg_i2l (pc := 71) (dc_X5_withRow_66.1.1.2.1) ?_
        refine sg_cS2 (pc := 72) (d' := d - 1) (mc' := 0) (ms' := 0) g (dc_X5_withRow_66.1.1.2.2) cb_X5_with ml_X5_293 ms_X5_with (Nat.le_of_ble_eq_true rfl) (by first | exact jl_d0 hd rfl | omega) (by first | exact Nat.le_of_ble_eq_true rfl | omega) (by first | exact Nat.le_of_ble_eq_true rfl | omega) ?_
        refine s_X5_with g (by first | exact jl_d1 hd rfl | omega) (fun z72 h72 => sg_K1 ?_)
        refine sg_lstore (pc := 75) (dc_X5_withRow_66.1.2.1.1) (by decide) ?_
        refine sg_lload (pc := 77) (dc_X5_withRow_66.1.2.1.2) rfl ?_
        refine sg_iload (pc := 79) (dc_X5_withRow_66.1.2.2.1) rfl ?_
        refine sg_cS1 (pc := 81) (d' := d - 1) (mc' := 0) (ms' := 0) g (dc_X5_withRow_66.1.2.2.2) cb_X2_lowerOf ml_X5_90 ms_X2_lowerOf (Nat.le_of_ble_eq_true rfl) (by first | exact jl_d0 hd rfl | omega) (by first | exact Nat.le_of_ble_eq_true rfl | omega) (by first | exact Nat.le_of_ble_eq_true rfl | omega) ?_
        refine s_X2_lowerOf g (by first | exact jl_d1 hd rfl | omega) (fun z81 h81 => sg_K1 ?_)
        refine sg_i2l (pc := 84) (dc_X5_withRow_66.2.1.1.1) ?_
        refine sg_cS2 (pc := 85) (d' := d - 1) (mc' := 0) (ms' := 0) g (dc_X5_withRow_66.2.1.1.2) cb_X5_with ml_X5_293 ms_X5_with (Nat.le_of_ble_eq_true rfl) (by first | exact jl_d0 hd rfl | omega) (by first | exact Nat.le_of_ble_eq_true rfl | omega) (by first | exact Nat.le_of_ble_eq_true rfl | omega) ?_
        refine s_X5_with g (by first | exact jl_d1 hd rfl | omega) (fun z85 h85 => sg_K1 ?_)
        refine sg_lstore (pc := 88) (dc_X5_withRow_66.2.1.2.1) (by decide) ?_
        refine sg_lload (pc := 90) (dc_X5_withRow_66.2.1.2.2) rfl ?_
        refine sg_iload (pc := 92) (dc_X5_withRow_66.2.2.1.1) rfl ?_
        refine sg_cS1 (pc := 94) (d' := d - 1) (mc' := 0) (ms' := 0) g (dc_X5_withRow_66.2.2.1.2) cb_X2_signValue ml_X5_195 ms_X2_signValue (Nat.le_of_ble_eq_true rfl) (by first | exact jl_d0 hd rfl | omega) (by first | exact Nat.le_of_ble_eq_true rfl | omega) (by first | exact Nat.le_of_ble_eq_true rfl | omega) ?_
        refine s_X2_signValue g (by first | exact jl_d1 hd rfl | omega) (fun z94 h94 => sg_K1 ?_)
        refine sg_i2l (pc := 97) (dc_X5_withRow_66.2.2.2.1) ?_
        refine sg_cS2 (pc := 98) (d' := d - 1) (mc' := 0) (ms' := 0) g (dc_X5_withRow_66.2.2.2.2) cb_X5_with ml_X5_293 ms_X5_with (Nat.le_of_ble_eq_true rfl) (by first | exact jl_d0 hd rfl | omega) (by first | exact Nat.le_of_ble_eq_true rfl | omega) (by first | exact Nat.le_of_ble_eq_true rfl | omega) ?_
        refine s_X5_with g (by first | exact jl_d1 hd rfl | omega) (fun z98 h98 => sg_K1 ?_)
        refine sg_lstore (pc := 101) (dc_X5_withRow_101.1.1.1.1) (by decide) ?_
        refine sg_lload (pc := 103) (dc_X5_withRow_101.1.1.1.2) rfl ?_
        refine sg_iload (pc := 105) (dc_X5_withRow_101.1.1.2.1) rfl ?_
        refine sg_bipush (pc := 107) (z := 16) (dc_X5_withRow_101.1.1.2.2) (by decide) ?_
        refine sg_cS2 (pc := 109) (d' := d - 1) (mc' := 0) (ms' := 0) g (dc_X5_withRow_101.1.2.1.1) cb_X2_numberOf ml_X5_148 ms_X2_numberOf (Nat.le_of_ble_eq_true rfl) (by first | exact jl_d0 hd rfl | omega) (by first | exact Nat.le_of_ble_eq_true rfl | omega) (by first | exact Nat.le_of_ble_eq_true rfl | omega) ?_
        refine s_X2_numberOf g (by first | exact jl_d1 hd rfl | omega) (fun z109 h109 => sg_K1 ?_)
        refine sg_i2l (pc := 112) (dc_X5_withRow_101.1.2.1.2) ?_
        refine sg_cS2 (pc := 113) (d' := d - 1) (mc' := 0) (ms' := 0) g (dc_X5_withRow_101.1.2.2.1) cb_X5_with ml_X5_293 ms_X5_with (Nat.le_of_ble_eq_true rfl) (by first | exact jl_d0 hd rfl | omega) (by first | exact Nat.le_of_ble_eq_true rfl | omega) (by first | exact Nat.le_of_ble_eq_true rfl | omega) ?_
        refine s_X5_with g (by first | exact jl_d1 hd rfl | omega) (fun z113 h113 => sg_K1 ?_)
        refine sg_lstore (pc := 116) (dc_X5_withRow_101.1.2.2.2) (by decide) ?_
        first | refine sg_iincB (pc := 118) (dc_X5_withRow_101.2.1.1.1) rfl (by decide) (by decide) (by omega) (by omega) ?_ | refine sg_iinc (pc := 118) (dc_X5_withRow_101.2.1.1.1) rfl (by decide) (by decide) ?_
        refine sg_goto (pc := 121) (tgt := 22) (dc_X5_withRow_101.2.1.1.2) (by decide) ?_
        refine sg_lsub (lv' := [(7, _), (5, _), (0, _), (3, _), (4, _)]) ⟨rfl, rfl, rfl, rfl, rfl, trivial⟩ ?_
        exact ih _ _ (by omega) (by first | exact jl_m1 hm (by omega) | exact jl_m2 hm (by omega) | omega)
  refine sg_lsub (lv' := [(7, _), (5, _), (0, _), (3, _), (4, _)]) ⟨rfl, rfl, rfl, rfl, rfl, trivial⟩ ?_
  exact loop22 _ _ _ (by omega) (Nat.lt_succ_self _)

