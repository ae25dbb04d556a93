/-! the digest: what is mixed, in its order -/
def dg (d v : Int) : Int := sg_W64 (sg_W64 (d * 31) + v)
def dz (f : Int → Nat → Int) (d : Int) : Nat → Int
  | 0 => d
  | n + 1 => f (dz f d n) n
theorem dz_s {f : Int → Nat → Int} {d p : Int} (p0 : 0 ≤ p) : dz f d (p + 1).toNat = f (dz f d p.toNat) p.toNat := by
  rw [show (p + 1).toNat = p.toNat + 1 by omega]
  rfl
def dg_s (d s : Int) : Int := dg (dg (dg (dg (dg (dg d s) (fn_kinds s)) (fn_upper s)) (fn_lower s)) (fn_val s)) (fn_num s 16)
def dg_e (L : List Int) (d : Int) (j : Nat) : Int := dg_s d (L.getD j 0)
def dg_c (L : List Int) (d : Int) (k : Nat) : Int := dg d (fs_cnt L (k : Int) L.length)
noncomputable def dg_r (L : List Int) (d : Int) : Int := dg (dg (dg (dg (dg (dz (dg_c L) (dz (dg_e L) (dg d (L.length : Int)) L.length) 5) (fs_told L 36)) (fs_vs L L.length)) (fs_wn L L.length)) (L.length : Int)) (2 * (L.length : Int))
def fs_ou (x t : Int) : Int := if t = 0 then fn_half x else if t = 1 then fn_high x else if t = 2 then fn_low x else x % 256 * 256 + x / 256
theorem fs_ouE {x t v : Int} (t0 : 0 ≤ t) (t3 : t ≤ 3) (o : (t = 0 → v = fn_half x) ∧ (t = 1 → v = fn_high x) ∧ (t = 2 → v = fn_low x) ∧ (t = 3 → v = x % 256 * 256 + x / 256)) : v = fs_ou x t := by
  obtain ⟨o1, o2, o3, o4⟩ := o
  unfold fs_ou
  by_cases c1 : t = 0
  · rw [if_pos c1]; exact o1 c1
  · by_cases c2 : t = 1
    · rw [if_neg c1, if_pos c2]; exact o2 c2
    · by_cases c3 : t = 2
      · rw [if_neg c1, if_neg c2, if_pos c3]; exact o3 c3
      · rw [if_neg c1, if_neg c2, if_neg c3]; exact o4 (by omega)
def dg_h (L : List Int) (d : Int) (k : Nat) : Int := dg d (fs_how L (k : Int))
def dg_o (x : Int) (d : Int) (k : Nat) : Int := dg d (fs_ou x (k : Int))
def dg_u (L : List Int) (d : Int) (j : Nat) : Int := dg (dz (dg_o (L.getD j 0)) (dg d (L.getD j 0)) 4) (fs_cd L j)
def dg_t (L : List Int) (d : Int) : Int := dz (dg_u L) (dz (dg_h L) d 4) L.length
noncomputable def dg_al (A : fa_A) : Int := @ite Int (fs_al (fa_L A 0) (fa_L A 1)) (Classical.propDecidable _) 1 0
noncomputable def dg_R (A : fa_A) (d : Int) (k : Nat) : Int := dg_r (fa_L A k) d
def dg_T (A : fa_A) (d : Int) (k : Nat) : Int := dg_t (fa_L A (4 + k)) d
def dg_H (A : fa_A) (d : Int) (k : Nat) : Int := dg d (fs_house A (k : Int))
noncomputable def dg_A (A : fa_A) : Int := dg (dz (dg_H A) (dz (dg_T A) (dg (dg (dg (dz (dg_R A) 7707 4) (fs_ord (fa_L A 0) (fa_L A 1))) (fs_ord (fa_L A 2) (fa_L A 3))) (dg_al A)) 2) 4) 1
theorem dg_cE {L : List Int} {d q : Int} (q0 : 0 ≤ q) : dg_c L d q.toNat = dg d (fs_cnt L q L.length) := by
  unfold dg_c
  rw [show ((q.toNat : Nat) : Int) = q by omega]
theorem dg_hE {L : List Int} {d q : Int} (q0 : 0 ≤ q) : dg_h L d q.toNat = dg d (fs_how L q) := by
  unfold dg_h
  rw [show ((q.toNat : Nat) : Int) = q by omega]
theorem dg_oE {x : Int} {d q : Int} (q0 : 0 ≤ q) : dg_o x d q.toNat = dg d (fs_ou x q) := by
  unfold dg_o
  rw [show ((q.toNat : Nat) : Int) = q by omega]
theorem dg_HE {A : fa_A} {d q : Int} (q0 : 0 ≤ q) : dg_H A d q.toNat = dg d (fs_house A q) := by
  unfold dg_H
  rw [show ((q.toNat : Nat) : Int) = q by omega]
theorem dg_a1 {A : fa_A} (h : fs_al (fa_L A 0) (fa_L A 1)) : dg_al A = 1 := if_pos h
theorem dg_a0 {A : fa_A} (h : ¬ fs_al (fa_L A 0) (fa_L A 1)) : dg_al A = 0 := if_neg h

set_option maxRecDepth 100000 in
set_option maxHeartbeats 1000000 in
theorem f_X5_withRow {w : sg_W} {Q : sg_O → sg_H → Prop} {h : sg_H} (g : sg_G w) {d : Nat} (hd : 15 ≤ d) {B : Nat} {A : fa_A} (hx : cf_X h B A) (ok : fa_ok A) {x row : Int} {L : List Int} (hL : fa_L A row.toNat = L) (hv : 0 ≤ row ∧ row < 4) (hQ : ∀ v : Int, v = dg_r L x → Q (.inl (some (sg_l v))) h) : sg_C w mi_X5_withRow d 0 0 [sg_r B, sg_l x, sg_i row] h Q := by
  refine sg_of pn_X5 (Nat.le_of_ble_eq_true rfl) ?_
  obtain ⟨x0, ho, hS, hP, hK⟩ := id hx
  have y0 := ck_Y0 x0
  have hc40 : ck_cap 0 = 40 := rfl
  refine sg_aload_n (pc := 0) (j := 0) (dc_X5_withRow_0.1.1.1.1) rfl rfl ?_
  refine sg_iload_n (pc := 1) (j := 3) (dc_X5_withRow_0.1.1.1.2) rfl rfl ?_
  refine sg_cE1 (pc := 2) (d' := d - 1) (mc' := 0) (ms' := 0) 6 g (dc_X5_withRow_0.1.1.2.1) cb_X5_rowOf ml_X5_36 mn_X5_rowOf rfl mv_X5_rowOf (Nat.le_of_ble_eq_true rfl) (ck_oc (by assumption)) (Nat.le_of_ble_eq_true rfl) (by first | exact jl_d0 hd rfl | omega) (by first | exact Nat.le_of_ble_eq_true rfl | omega) (by first | exact Nat.le_of_ble_eq_true rfl | omega) ?_
  refine f_X5_rowOf_N g (by first | exact jl_d1 hd rfl | omega) (by assumption) (by omega) (fun l2 r2 L2 => sg_K1 ?_)
  obtain ⟨a2, ea2⟩ : ∃ a, a = B + 1 + 3 + 2 * row.toNat := ⟨_, rfl⟩
  rw [← ea2] at L2 ⊢
  have k2 : cf_l h a2 = L := by rw [ea2, cf_rl hx (by omega)]; exact hL
  have r42 := fa_row ok (i := row.toNat) (by omega)
  rw [hL] at r42
  refine sg_astore (pc := 5) (dc_X5_withRow_0.1.1.2.2) (by decide) ?_
  refine sg_lload_n (pc := 7) (j := 1) (dc_X5_withRow_0.1.2.1.1) rfl rfl ?_
  refine sg_aload (pc := 8) (dc_X5_withRow_0.1.2.1.2) rfl ?_
  refine sg_cE0 (pc := 10) (d' := d - 1) (mc' := 0) (ms' := 0) 3 g (dc_X5_withRow_0.1.2.2.1) cb_X0_size ml_X5_63 mn_X0_size rfl mv_X0_size (Nat.le_of_ble_eq_true rfl) (ck_lc (by assumption) (by first | assumption | exact ck_rev)) (Nat.le_of_ble_eq_true rfl) (by first | exact jl_d0 hd rfl | omega) (by first | exact Nat.le_of_ble_eq_true rfl | omega) (by first | exact Nat.le_of_ble_eq_true rfl | omega) ?_
  refine f_X0_size g (by first | exact jl_d1 hd rfl | omega) (by assumption) L2 (fun z10 e10 l010 u10 => sg_K1 ?_)
  rw [k2] at e10
  try rw [fa_tlen] at e10
  refine sg_i2l (pc := 13) (dc_X5_withRow_0.1.2.2.2) ?_
  refine sg_cS2 (pc := 14) (d' := d - 1) (mc' := 0) (ms' := 0) g (dc_X5_withRow_0.2.1.1.1) cb_X5_with ml_X5_293 ms_X5_with (Nat.le_of_ble_eq_true rfl) (by first | exact jl_d0 hd rfl | omega) (by first | exact Nat.le_of_ble_eq_true rfl | omega) (by first | exact Nat.le_of_ble_eq_true rfl | omega) ?_
  refine s_X5_with g (by first | exact jl_d1 hd rfl | omega) (fun z14 h14 => sg_K1 ?_)
  replace h14 : z14 = dg _ _ := h14
  refine sg_lstore (pc := 17) (dc_X5_withRow_0.2.1.1.2) (by decide) ?_
  refine sg_iconst (pc := 19) (z := 0) (dc_X5_withRow_0.2.1.2.1) (by decide) ?_
  refine sg_istore (pc := 20) (dc_X5_withRow_0.2.1.2.2) (by decide) ?_
  have loop22 : ∀ (N : Nat) (p s : Int), (0 ≤ p ∧ p ≤ (L.length : Int)) → (s = dz (dg_e L) z14 p.toNat) → ((L.length : Int) - p).toNat < N → sg_R w mi_X5_withRow d 0 0 Q 22 [(7, sg_i p), (5, sg_l s), (0, sg_r B), (3, sg_i row), (4, sg_r a2)] [] h 0 0 := by
    intro N
    induction N with
    | zero => intro p s p0 s0 hm; exact absurd hm (Nat.not_lt_zero _)
    | succ N ih =>
      intro p s p0 s0 hm
      refine sg_iload (pc := 22) (dc_X5_withRow_0.2.2.1.1) rfl ?_
      refine sg_aload (pc := 24) (dc_X5_withRow_0.2.2.1.2) rfl ?_
      refine sg_cE0 (pc := 26) (d' := d - 1) (mc' := 0) (ms' := 0) 3 g (dc_X5_withRow_0.2.2.2.1) cb_X0_size ml_X5_63 mn_X0_size rfl mv_X0_size (Nat.le_of_ble_eq_true rfl) (ck_lc (by assumption) (by first | assumption | exact ck_rev)) (Nat.le_of_ble_eq_true rfl) (by first | exact jl_d0 hd rfl | omega) (by first | exact Nat.le_of_ble_eq_true rfl | omega) (by first | exact Nat.le_of_ble_eq_true rfl | omega) ?_
      refine f_X0_size g (by first | exact jl_d1 hd rfl | omega) (by assumption) L2 (fun z26 e26 l026 u26 => sg_K1 ?_)
      rw [k2] at e26
      try rw [fa_tlen] at e26
      refine sg_icmp_ge (pc := 29) (tgt := 124) (dc_X5_withRow_0.2.2.2.2) (by decide) (fun c29 => ?_) (fun c29 => ?_)
      · refine sg_iconst (pc := 124) (z := 0) (dc_X5_withRow_101.2.1.2.1) (by decide) ?_
        refine sg_istore (pc := 125) (dc_X5_withRow_101.2.1.2.2) (by decide) ?_
        have loop127 : ∀ (N : Nat) (q t : Int), (0 ≤ q ∧ q ≤ 5) → (t = dz (dg_c L) s q.toNat) → (5 - q).toNat < N → sg_R w mi_X5_withRow d 0 0 Q 127 [(7, sg_i q), (5, sg_l t), (0, sg_r B), (3, sg_i row), (4, sg_r a2)] [] h 0 0 := by
          intro N
          induction N with
          | zero => intro q t q0 t0 hm; exact absurd hm (Nat.not_lt_zero _)
          | succ N ihb =>
            intro q t q0 t0 hm
            refine sg_iload (pc := 127) (dc_X5_withRow_101.2.2.1.1) rfl ?_
            refine sg_iconst (pc := 129) (z := 5) (dc_X5_withRow_101.2.2.1.2) (by decide) ?_
            refine sg_icmp_ge (pc := 130) (tgt := 154) (dc_X5_withRow_101.2.2.2.1) (by decide) (fun c130 => ?_) (fun c130 => ?_)
            · refine sg_lload (pc := 154) (dc_X5_withRow_135.2.1.1.2) rfl ?_
              refine sg_aload_n (pc := 156) (j := 0) (dc_X5_withRow_135.2.1.2.1) rfl rfl ?_
              refine sg_iload_n (pc := 157) (j := 3) (dc_X5_withRow_135.2.1.2.2) rfl rfl ?_
              refine sg_bipush (pc := 158) (z := 36) (dc_X5_withRow_135.2.2.1.1) (by decide) ?_
              refine sg_cE2 (pc := 160) (d' := d - 1) (mc' := 0) (ms' := 0) 6 g (dc_X5_withRow_135.2.2.1.2) cb_X5_told ml_X5_347 mn_X5_told rfl mv_X5_told (Nat.le_of_ble_eq_true rfl) (ck_oc (by assumption)) (Nat.le_of_ble_eq_true rfl) (by first | exact jl_d0 hd rfl | omega) (by first | exact Nat.le_of_ble_eq_true rfl | omega) (by first | exact Nat.le_of_ble_eq_true rfl | omega) ?_
              refine f_X5_told_N g (by first | exact jl_d1 hd rfl | omega) hx ok hL (by omega) (fun v160 e160 => sg_K1 ?_)
              refine sg_i2l (pc := 163) (dc_X5_withRow_135.2.2.2.1) ?_
              refine sg_cS2 (pc := 164) (d' := d - 1) (mc' := 0) (ms' := 0) g (dc_X5_withRow_135.2.2.2.2) cb_X5_with ml_X5_293 ms_X5_with (Nat.le_of_ble_eq_true rfl) (by first | exact jl_d0 hd rfl | omega) (by first | exact Nat.le_of_ble_eq_true rfl | omega) (by first | exact Nat.le_of_ble_eq_true rfl | omega) ?_
              refine s_X5_with g (by first | exact jl_d1 hd rfl | omega) (fun z164 h164 => sg_K1 ?_)
              replace h164 : z164 = dg _ _ := h164
              refine sg_lstore (pc := 167) (dc_X5_withRow_167.1.1.1.1) (by decide) ?_
              refine sg_lload (pc := 169) (dc_X5_withRow_167.1.1.1.2) rfl ?_
              refine sg_aload_n (pc := 171) (j := 0) (dc_X5_withRow_167.1.1.2.1) rfl rfl ?_
              refine sg_iload_n (pc := 172) (j := 3) (dc_X5_withRow_167.1.1.2.2) rfl rfl ?_
              refine sg_cE1 (pc := 173) (d' := d - 1) (mc' := 0) (ms' := 0) 6 g (dc_X5_withRow_167.1.2.1.1) cb_X5_values ml_X5_350 mn_X5_values rfl mv_X5_values (Nat.le_of_ble_eq_true rfl) (ck_oc (by assumption)) (Nat.le_of_ble_eq_true rfl) (by first | exact jl_d0 hd rfl | omega) (by first | exact Nat.le_of_ble_eq_true rfl | omega) (by first | exact Nat.le_of_ble_eq_true rfl | omega) ?_
              refine f_X5_values_N g (by first | exact jl_d1 hd rfl | omega) hx ok hL (by omega) (fun v173 e173 => sg_K1 ?_)
              refine sg_i2l (pc := 176) (dc_X5_withRow_167.1.2.1.2) ?_
              refine sg_cS2 (pc := 177) (d' := d - 1) (mc' := 0) (ms' := 0) g (dc_X5_withRow_167.1.2.2.1) cb_X5_with ml_X5_293 ms_X5_with (Nat.le_of_ble_eq_true rfl) (by first | exact jl_d0 hd rfl | omega) (by first | exact Nat.le_of_ble_eq_true rfl | omega) (by first | exact Nat.le_of_ble_eq_true rfl | omega) ?_
              refine s_X5_with g (by first | exact jl_d1 hd rfl | omega) (fun z177 h177 => sg_K1 ?_)
              replace h177 : z177 = dg _ _ := h177
              refine sg_lstore (pc := 180) (dc_X5_withRow_167.1.2.2.2) (by decide) ?_
              refine sg_lload (pc := 182) (dc_X5_withRow_167.2.1.1.1) rfl ?_
              refine sg_aload_n (pc := 184) (j := 0) (dc_X5_withRow_167.2.1.1.2) rfl rfl ?_
              refine sg_iload_n (pc := 185) (j := 3) (dc_X5_withRow_167.2.1.2.1) rfl rfl ?_
              refine sg_cE1 (pc := 186) (d' := d - 1) (mc' := 0) (ms' := 0) 6 g (dc_X5_withRow_167.2.1.2.2) cb_X5_words ml_X5_353 mn_X5_words rfl mv_X5_words (Nat.le_of_ble_eq_true rfl) (ck_oc (by assumption)) (Nat.le_of_ble_eq_true rfl) (by first | exact jl_d0 hd rfl | omega) (by first | exact Nat.le_of_ble_eq_true rfl | omega) (by first | exact Nat.le_of_ble_eq_true rfl | omega) ?_
              refine f_X5_words_N g (by first | exact jl_d1 hd rfl | omega) hx ok hL (by omega) (fun v186 e186 => sg_K1 ?_)
              refine sg_i2l (pc := 189) (dc_X5_withRow_167.2.2.1.1) ?_
              refine sg_cS2 (pc := 190) (d' := d - 1) (mc' := 0) (ms' := 0) g (dc_X5_withRow_167.2.2.1.2) cb_X5_with ml_X5_293 ms_X5_with (Nat.le_of_ble_eq_true rfl) (by first | exact jl_d0 hd rfl | omega) (by first | exact Nat.le_of_ble_eq_true rfl | omega) (by first | exact Nat.le_of_ble_eq_true rfl | omega) ?_
              refine s_X5_with g (by first | exact jl_d1 hd rfl | omega) (fun z190 h190 => sg_K1 ?_)
              replace h190 : z190 = dg _ _ := h190
              refine sg_lstore (pc := 193) (dc_X5_withRow_167.2.2.2.1) (by decide) ?_
              refine sg_lload (pc := 195) (dc_X5_withRow_167.2.2.2.2) rfl ?_
              refine sg_aload (pc := 197) (dc_X5_withRow_197.1.1.1.1) rfl ?_
              refine sg_cE0 (pc := 199) (d' := d - 1) (mc' := 0) (ms' := 0) 3 g (dc_X5_withRow_197.1.1.1.2) cb_X0_size ml_X5_63 mn_X0_size rfl mv_X0_size (Nat.le_of_ble_eq_true rfl) (ck_lc (by assumption) (by first | assumption | exact ck_rev)) (Nat.le_of_ble_eq_true rfl) (by first | exact jl_d0 hd rfl | omega) (by first | exact Nat.le_of_ble_eq_true rfl | omega) (by first | exact Nat.le_of_ble_eq_true rfl | omega) ?_
              refine f_X0_size g (by first | exact jl_d1 hd rfl | omega) (by assumption) L2 (fun z199 e199 l0199 u199 => sg_K1 ?_)
              rw [k2] at e199
              try rw [fa_tlen] at e199
              refine sg_i2l (pc := 202) (dc_X5_withRow_197.1.1.2.1) ?_
              refine sg_cS2 (pc := 203) (d' := d - 1) (mc' := 0) (ms' := 0) g (dc_X5_withRow_197.1.1.2.2) cb_X5_with ml_X5_293 ms_X5_with (Nat.le_of_ble_eq_true rfl) (by first | exact jl_d0 hd rfl | omega) (by first | exact Nat.le_of_ble_eq_true rfl | omega) (by first | exact Nat.le_of_ble_eq_true rfl | omega) ?_
              refine s_X5_with g (by first | exact jl_d1 hd rfl | omega) (fun z203 h203 => sg_K1 ?_)
              replace h203 : z203 = dg _ _ := h203
              refine sg_lstore (pc := 206) (dc_X5_withRow_197.1.2.1.1) (by decide) ?_
              refine sg_lload (pc := 208) (dc_X5_withRow_197.1.2.1.2) rfl ?_
              refine sg_iconst (pc := 210) (z := 2) (dc_X5_withRow_197.1.2.2.1) (by decide) ?_
              refine sg_aload (pc := 211) (dc_X5_withRow_197.1.2.2.2) rfl ?_
              refine sg_cE0 (pc := 213) (d' := d - 1) (mc' := 0) (ms' := 0) 3 g (dc_X5_withRow_197.2.1.1.1) cb_X0_size ml_X5_63 mn_X0_size rfl mv_X0_size (Nat.le_of_ble_eq_true rfl) (ck_lc (by assumption) (by first | assumption | exact ck_rev)) (Nat.le_of_ble_eq_true rfl) (by first | exact jl_d0 hd rfl | omega) (by first | exact Nat.le_of_ble_eq_true rfl | omega) (by first | exact Nat.le_of_ble_eq_true rfl | omega) ?_
              refine f_X0_size g (by first | exact jl_d1 hd rfl | omega) (by assumption) L2 (fun z213 e213 l0213 u213 => sg_K1 ?_)
              rw [k2] at e213
              try rw [fa_tlen] at e213
              first | refine sg_imulB (pc := 216) (dc_X5_withRow_197.2.1.1.2) (by omega) (by omega) ?_ | refine sg_imul (pc := 216) (dc_X5_withRow_197.2.1.1.2) ?_
              refine sg_i2l (pc := 217) (dc_X5_withRow_197.2.1.2.1) ?_
              refine sg_cS2 (pc := 218) (d' := d - 1) (mc' := 0) (ms' := 0) g (dc_X5_withRow_197.2.1.2.2) cb_X5_with ml_X5_293 ms_X5_with (Nat.le_of_ble_eq_true rfl) (by first | exact jl_d0 hd rfl | omega) (by first | exact Nat.le_of_ble_eq_true rfl | omega) (by first | exact Nat.le_of_ble_eq_true rfl | omega) ?_
              refine s_X5_with g (by first | exact jl_d1 hd rfl | omega) (fun z218 h218 => sg_K1 ?_)
              replace h218 : z218 = dg _ _ := h218
              refine sg_lret (pc := 221) (dc_X5_withRow_197.2.2.1.1) rfl (by first | exact Nat.le_of_ble_eq_true rfl | omega) (by first | exact Nat.le_of_ble_eq_true rfl | omega) ?_
              exact hQ _ (by rw [h218, h203, h190, h177, h164, e160, e173, e186, e199, e213, t0, show q.toNat = 5 by omega, s0, show p.toNat = L.length by omega, h14, e10]; rfl)
            · refine sg_lload (pc := 133) (dc_X5_withRow_101.2.2.2.2) rfl ?_
              refine sg_aload_n (pc := 135) (j := 0) (dc_X5_withRow_135.1.1.1.1) rfl rfl ?_
              refine sg_iload_n (pc := 136) (j := 3) (dc_X5_withRow_135.1.1.1.2) rfl rfl ?_
              refine sg_iload (pc := 137) (dc_X5_withRow_135.1.1.2.1) rfl ?_
              refine sg_cE2 (pc := 139) (d' := d - 1) (mc' := 0) (ms' := 0) 6 g (dc_X5_withRow_135.1.1.2.2) cb_X5_count ml_X5_344 mn_X5_count rfl mv_X5_count (Nat.le_of_ble_eq_true rfl) (ck_oc (by assumption)) (Nat.le_of_ble_eq_true rfl) (by first | exact jl_d0 hd rfl | omega) (by first | exact Nat.le_of_ble_eq_true rfl | omega) (by first | exact Nat.le_of_ble_eq_true rfl | omega) ?_
              refine f_X5_count_N g (by first | exact jl_d1 hd rfl | omega) hx ok hL (by omega) (fun v139 e139 => sg_K1 ?_)
              refine sg_i2l (pc := 142) (dc_X5_withRow_135.1.2.1.1) ?_
              refine sg_cS2 (pc := 143) (d' := d - 1) (mc' := 0) (ms' := 0) g (dc_X5_withRow_135.1.2.1.2) cb_X5_with ml_X5_293 ms_X5_with (Nat.le_of_ble_eq_true rfl) (by first | exact jl_d0 hd rfl | omega) (by first | exact Nat.le_of_ble_eq_true rfl | omega) (by first | exact Nat.le_of_ble_eq_true rfl | omega) ?_
              refine s_X5_with g (by first | exact jl_d1 hd rfl | omega) (fun z143 h143 => sg_K1 ?_)
              replace h143 : z143 = dg _ _ := h143
              refine sg_lstore (pc := 146) (dc_X5_withRow_135.1.2.2.1) (by decide) ?_
              first | refine sg_iincB (pc := 148) (dc_X5_withRow_135.1.2.2.2) rfl (by decide) (by decide) (by omega) (by omega) ?_ | refine sg_iinc (pc := 148) (dc_X5_withRow_135.1.2.2.2) rfl (by decide) (by decide) ?_
              refine sg_goto (pc := 151) (tgt := 127) (dc_X5_withRow_135.2.1.1.1) (by decide) ?_
              refine sg_lsub (lv' := [(7, _), (5, _), (0, _), (3, _), (4, _)]) ⟨rfl, rfl, rfl, rfl, rfl, trivial⟩ ?_
              exact ihb _ _ (by omega) (by rw [dz_s (by omega), ← t0, dg_cE (by omega), h143, e139]) (by first | exact jl_m1 hm (by omega) | exact jl_m2 hm (by omega) | omega)
        refine sg_lsub (lv' := [(7, _), (5, _), (0, _), (3, _), (4, _)]) ⟨rfl, rfl, rfl, rfl, rfl, trivial⟩ ?_
        exact loop127 _ _ _ (by omega) rfl (Nat.lt_succ_self _)
      · refine sg_aload (pc := 32) (dc_X5_withRow_32.1.1.1.1) rfl ?_
        refine sg_iload (pc := 34) (dc_X5_withRow_32.1.1.1.2) rfl ?_
        refine sg_cE1 (pc := 36) (d' := d - 1) (mc' := 0) (ms' := 0) 3 g (dc_X5_withRow_32.1.1.2.1) cb_X0_get ml_X5_75 mn_X0_get rfl mv_X0_get (Nat.le_of_ble_eq_true rfl) (ck_lc (by assumption) (by first | assumption | exact ck_rev)) (Nat.le_of_ble_eq_true rfl) (by first | exact jl_d0 hd rfl | omega) (by first | exact Nat.le_of_ble_eq_true rfl | omega) (by first | exact Nat.le_of_ble_eq_true rfl | omega) ?_
        refine f_X0_get g (by first | exact jl_d1 hd rfl | omega) (by assumption) L2 (fun z36 e36 v36 => sg_K1 ?_)
        rw [k2] at e36
        rw [k2] at v36
        try rw [fa_tg (by omega) (by omega)] at e36
        rw [gg_in (by omega) (by omega)] at e36
        subst e36
        refine sg_istore (pc := 39) (dc_X5_withRow_32.1.1.2.2) (by decide) ?_
        refine sg_lload (pc := 41) (dc_X5_withRow_32.1.2.1.1) rfl ?_
        refine sg_iload (pc := 43) (dc_X5_withRow_32.1.2.1.2) rfl ?_
        refine sg_i2l (pc := 45) (dc_X5_withRow_32.1.2.2.1) ?_
        refine sg_cS2 (pc := 46) (d' := d - 1) (mc' := 0) (ms' := 0) g (dc_X5_withRow_32.1.2.2.2) cb_X5_with ml_X5_293 ms_X5_with (Nat.le_of_ble_eq_true rfl) (by first | exact jl_d0 hd rfl | omega) (by first | exact Nat.le_of_ble_eq_true rfl | omega) (by first | exact Nat.le_of_ble_eq_true rfl | omega) ?_
        refine s_X5_with g (by first | exact jl_d1 hd rfl | omega) (fun z46 h46 => sg_K1 ?_)
        replace h46 : z46 = dg _ _ := h46
        refine sg_lstore (pc := 49) (dc_X5_withRow_32.2.1.1.1) (by decide) ?_
        refine sg_lload (pc := 51) (dc_X5_withRow_32.2.1.1.2) rfl ?_
        refine sg_iload (pc := 53) (dc_X5_withRow_32.2.1.2.1) rfl ?_
        refine sg_cS1 (pc := 55) (d' := d - 1) (mc' := 0) (ms' := 0) g (dc_X5_withRow_32.2.1.2.2) cb_X2_kindsOf ml_X5_192 ms_X2_kindsOf (Nat.le_of_ble_eq_true rfl) (by first | exact jl_d0 hd rfl | omega) (by first | exact Nat.le_of_ble_eq_true rfl | omega) (by first | exact Nat.le_of_ble_eq_true rfl | omega) ?_
        refine s_X2_kindsOf g (by first | exact jl_d1 hd rfl | omega) (fun z55 h55 => sg_K1 ?_)
        refine sg_i2l (pc := 58) (dc_X5_withRow_32.2.2.1.1) ?_
        refine sg_cS2 (pc := 59) (d' := d - 1) (mc' := 0) (ms' := 0) g (dc_X5_withRow_32.2.2.1.2) cb_X5_with ml_X5_293 ms_X5_with (Nat.le_of_ble_eq_true rfl) (by first | exact jl_d0 hd rfl | omega) (by first | exact Nat.le_of_ble_eq_true rfl | omega) (by first | exact Nat.le_of_ble_eq_true rfl | omega) ?_
        refine s_X5_with g (by first | exact jl_d1 hd rfl | omega) (fun z59 h59 => sg_K1 ?_)
        replace h59 : z59 = dg _ _ := h59
        refine sg_lstore (pc := 62) (dc_X5_withRow_32.2.2.2.1) (by decide) ?_
        refine sg_lload (pc := 64) (dc_X5_withRow_32.2.2.2.2) rfl ?_
        refine sg_iload (pc := 66) (dc_X5_withRow_66.1.1.1.1) rfl ?_
        refine sg_cS1 (pc := 68) (d' := d - 1) (mc' := 0) (ms' := 0) g (dc_X5_withRow_66.1.1.1.2) cb_X2_upperOf ml_X5_78 ms_X2_upperOf (Nat.le_of_ble_eq_true rfl) (by first | exact jl_d0 hd rfl | omega) (by first | exact Nat.le_of_ble_eq_true rfl | omega) (by first | exact Nat.le_of_ble_eq_true rfl | omega) ?_
        refine s_X2_upperOf g (by first | exact jl_d1 hd rfl | omega) (fun z68 h68 => sg_K1 ?_)
        refine sg_i2l (pc := 71) (dc_X5_withRow_66.1.1.2.1) ?_
        refine sg_cS2 (pc := 72) (d' := d - 1) (mc' := 0) (ms' := 0) g (dc_X5_withRow_66.1.1.2.2) cb_X5_with ml_X5_293 ms_X5_with (Nat.le_of_ble_eq_true rfl) (by first | exact jl_d0 hd rfl | omega) (by first | exact Nat.le_of_ble_eq_true rfl | omega) (by first | exact Nat.le_of_ble_eq_true rfl | omega) ?_
        refine s_X5_with g (by first | exact jl_d1 hd rfl | omega) (fun z72 h72 => sg_K1 ?_)
        replace h72 : z72 = dg _ _ := h72
        refine sg_lstore (pc := 75) (dc_X5_withRow_66.1.2.1.1) (by decide) ?_
        refine sg_lload (pc := 77) (dc_X5_withRow_66.1.2.1.2) rfl ?_
        refine sg_iload (pc := 79) (dc_X5_withRow_66.1.2.2.1) rfl ?_
        refine sg_cS1 (pc := 81) (d' := d - 1) (mc' := 0) (ms' := 0) g (dc_X5_withRow_66.1.2.2.2) cb_X2_lowerOf ml_X5_90 ms_X2_lowerOf (Nat.le_of_ble_eq_true rfl) (by first | exact jl_d0 hd rfl | omega) (by first | exact Nat.le_of_ble_eq_true rfl | omega) (by first | exact Nat.le_of_ble_eq_true rfl | omega) ?_
        refine s_X2_lowerOf g (by first | exact jl_d1 hd rfl | omega) (fun z81 h81 => sg_K1 ?_)
        refine sg_i2l (pc := 84) (dc_X5_withRow_66.2.1.1.1) ?_
        refine sg_cS2 (pc := 85) (d' := d - 1) (mc' := 0) (ms' := 0) g (dc_X5_withRow_66.2.1.1.2) cb_X5_with ml_X5_293 ms_X5_with (Nat.le_of_ble_eq_true rfl) (by first | exact jl_d0 hd rfl | omega) (by first | exact Nat.le_of_ble_eq_true rfl | omega) (by first | exact Nat.le_of_ble_eq_true rfl | omega) ?_
        refine s_X5_with g (by first | exact jl_d1 hd rfl | omega) (fun z85 h85 => sg_K1 ?_)
        replace h85 : z85 = dg _ _ := h85
        refine sg_lstore (pc := 88) (dc_X5_withRow_66.2.1.2.1) (by decide) ?_
        refine sg_lload (pc := 90) (dc_X5_withRow_66.2.1.2.2) rfl ?_
        refine sg_iload (pc := 92) (dc_X5_withRow_66.2.2.1.1) rfl ?_
        refine sg_cS1 (pc := 94) (d' := d - 1) (mc' := 0) (ms' := 0) g (dc_X5_withRow_66.2.2.1.2) cb_X2_signValue ml_X5_195 ms_X2_signValue (Nat.le_of_ble_eq_true rfl) (by first | exact jl_d0 hd rfl | omega) (by first | exact Nat.le_of_ble_eq_true rfl | omega) (by first | exact Nat.le_of_ble_eq_true rfl | omega) ?_
        refine s_X2_signValue g (by first | exact jl_d1 hd rfl | omega) (fun z94 h94 => sg_K1 ?_)
        refine sg_i2l (pc := 97) (dc_X5_withRow_66.2.2.2.1) ?_
        refine sg_cS2 (pc := 98) (d' := d - 1) (mc' := 0) (ms' := 0) g (dc_X5_withRow_66.2.2.2.2) cb_X5_with ml_X5_293 ms_X5_with (Nat.le_of_ble_eq_true rfl) (by first | exact jl_d0 hd rfl | omega) (by first | exact Nat.le_of_ble_eq_true rfl | omega) (by first | exact Nat.le_of_ble_eq_true rfl | omega) ?_
        refine s_X5_with g (by first | exact jl_d1 hd rfl | omega) (fun z98 h98 => sg_K1 ?_)
        replace h98 : z98 = dg _ _ := h98
        refine sg_lstore (pc := 101) (dc_X5_withRow_101.1.1.1.1) (by decide) ?_
        refine sg_lload (pc := 103) (dc_X5_withRow_101.1.1.1.2) rfl ?_
        refine sg_iload (pc := 105) (dc_X5_withRow_101.1.1.2.1) rfl ?_
        refine sg_bipush (pc := 107) (z := 16) (dc_X5_withRow_101.1.1.2.2) (by decide) ?_
        refine sg_cS2 (pc := 109) (d' := d - 1) (mc' := 0) (ms' := 0) g (dc_X5_withRow_101.1.2.1.1) cb_X2_numberOf ml_X5_148 ms_X2_numberOf (Nat.le_of_ble_eq_true rfl) (by first | exact jl_d0 hd rfl | omega) (by first | exact Nat.le_of_ble_eq_true rfl | omega) (by first | exact Nat.le_of_ble_eq_true rfl | omega) ?_
        refine s_X2_numberOf g (by first | exact jl_d1 hd rfl | omega) (fun z109 h109 => sg_K1 ?_)
        refine sg_i2l (pc := 112) (dc_X5_withRow_101.1.2.1.2) ?_
        refine sg_cS2 (pc := 113) (d' := d - 1) (mc' := 0) (ms' := 0) g (dc_X5_withRow_101.1.2.2.1) cb_X5_with ml_X5_293 ms_X5_with (Nat.le_of_ble_eq_true rfl) (by first | exact jl_d0 hd rfl | omega) (by first | exact Nat.le_of_ble_eq_true rfl | omega) (by first | exact Nat.le_of_ble_eq_true rfl | omega) ?_
        refine s_X5_with g (by first | exact jl_d1 hd rfl | omega) (fun z113 h113 => sg_K1 ?_)
        replace h113 : z113 = dg _ _ := h113
        refine sg_lstore (pc := 116) (dc_X5_withRow_101.1.2.2.2) (by decide) ?_
        first | refine sg_iincB (pc := 118) (dc_X5_withRow_101.2.1.1.1) rfl (by decide) (by decide) (by omega) (by omega) ?_ | refine sg_iinc (pc := 118) (dc_X5_withRow_101.2.1.1.1) rfl (by decide) (by decide) ?_
        refine sg_goto (pc := 121) (tgt := 22) (dc_X5_withRow_101.2.1.1.2) (by decide) ?_
        refine sg_lsub (lv' := [(7, _), (5, _), (0, _), (3, _), (4, _)]) ⟨rfl, rfl, rfl, rfl, rfl, trivial⟩ ?_
        exact ih _ _ (by omega) (by rw [dz_s (by omega), ← s0, h113, h98, h85, h72, h59, h46, h55, h68, h81, h94, h109]; rfl) (by first | exact jl_m1 hm (by omega) | exact jl_m2 hm (by omega) | omega)
  refine sg_lsub (lv' := [(7, _), (5, _), (0, _), (3, _), (4, _)]) ⟨rfl, rfl, rfl, rfl, rfl, trivial⟩ ?_
  exact loop22 _ _ _ (by omega) rfl (Nat.lt_succ_self _)

set_option maxRecDepth 100000 in
set_option maxHeartbeats 1000000 in
theorem f_X5_withTrack {w : sg_W} {Q : sg_O → sg_H → Prop} {h : sg_H} (g : sg_G w) {d : Nat} (hd : 15 ≤ d) {B : Nat} {A : fa_A} (hx : cf_X h B A) (ok : fa_ok A) {x trk : Int} {L : List Int} (hL : fa_L A (4 + trk.toNat) = L) (hv : 0 ≤ trk ∧ trk < 2) (hQ : ∀ v : Int, v = dg_t L x → Q (.inl (some (sg_l v))) h) : sg_C w mi_X5_withTrack d 0 0 [sg_r B, sg_l x, sg_i trk] h Q := by
  refine sg_of pn_X5 (Nat.le_of_ble_eq_true rfl) ?_
  obtain ⟨x0, ho, hS, hP, hK⟩ := id hx
  have y0 := ck_Y0 x0
  have hc24 : ck_cap 1 = 24 := rfl
  refine sg_aload_n (pc := 0) (j := 0) (dc_X5_withTrack_0.1.1.1.1) rfl rfl ?_
  refine sg_iload_n (pc := 1) (j := 3) (dc_X5_withTrack_0.1.1.1.2) rfl rfl ?_
  refine sg_cE1 (pc := 2) (d' := d - 1) (mc' := 0) (ms' := 0) 6 g (dc_X5_withTrack_0.1.1.2.1) cb_X5_trackOf ml_X5_151 mn_X5_trackOf rfl mv_X5_trackOf (Nat.le_of_ble_eq_true rfl) (ck_oc (by assumption)) (Nat.le_of_ble_eq_true rfl) (by first | exact jl_d0 hd rfl | omega) (by first | exact Nat.le_of_ble_eq_true rfl | omega) (by first | exact Nat.le_of_ble_eq_true rfl | omega) ?_
  refine f_X5_trackOf_N g (by first | exact jl_d1 hd rfl | omega) (by assumption) (by omega) (fun l2 r2 L2 => sg_K1 ?_)
  obtain ⟨a2, ea2⟩ : ∃ a, a = B + 1 + 3 + 2 * (4 + trk.toNat) := ⟨_, rfl⟩
  rw [← ea2] at L2 ⊢
  have k2 : cf_l h a2 = L := by rw [ea2, cf_rl hx (by omega)]; exact hL
  have r42 := fa_trk ok (i := (4 + trk.toNat)) (by omega) (by omega)
  rw [hL] at r42
  refine sg_astore (pc := 5) (dc_X5_withTrack_0.1.1.2.2) (by decide) ?_
  refine sg_lload_n (pc := 7) (j := 1) (dc_X5_withTrack_0.1.2.1.1) rfl rfl ?_
  refine sg_lstore (pc := 8) (dc_X5_withTrack_0.1.2.1.2) (by decide) ?_
  refine sg_iconst (pc := 10) (z := 0) (dc_X5_withTrack_0.1.2.2.1) (by decide) ?_
  refine sg_istore (pc := 11) (dc_X5_withTrack_0.1.2.2.2) (by decide) ?_
  have loop13 : ∀ (N : Nat) (q t : Int), (0 ≤ q ∧ q ≤ 4) → (t = dz (dg_h L) x q.toNat) → (4 - q).toNat < N → sg_R w mi_X5_withTrack d 0 0 Q 13 [(7, sg_i q), (5, sg_l t), (0, sg_r B), (3, sg_i trk), (4, sg_r a2)] [] h 0 0 := by
    intro N
    induction N with
    | zero => intro q t q0 t0 hm; exact absurd hm (Nat.not_lt_zero _)
    | succ N ih =>
      intro q t q0 t0 hm
      refine sg_iload (pc := 13) (dc_X5_withTrack_0.2.1.1.1) rfl ?_
      refine sg_iconst (pc := 15) (z := 3) (dc_X5_withTrack_0.2.1.1.2) (by decide) ?_
      refine sg_icmp_gt (pc := 16) (tgt := 40) (dc_X5_withTrack_0.2.1.2.1) (by decide) (fun c16 => ?_) (fun c16 => ?_)
      · refine sg_iconst (pc := 40) (z := 0) (dc_X5_withTrack_29.1.2.1.1) (by decide) ?_
        refine sg_istore (pc := 41) (dc_X5_withTrack_29.1.2.1.2) (by decide) ?_
        have loop43 : ∀ (N : Nat) (p s : Int), (0 ≤ p ∧ p ≤ (L.length : Int)) → (s = dz (dg_u L) t p.toNat) → ((L.length : Int) - p).toNat < N → sg_R w mi_X5_withTrack d 0 0 Q 43 [(7, sg_i p), (5, sg_l s), (0, sg_r B), (3, sg_i trk), (4, sg_r a2)] [] h 0 0 := by
          intro N
          induction N with
          | zero => intro p s p0 s0 hm; exact absurd hm (Nat.not_lt_zero _)
          | succ N ihb =>
            intro p s p0 s0 hm
            refine sg_iload (pc := 43) (dc_X5_withTrack_29.1.2.2.1) rfl ?_
            refine sg_aload (pc := 45) (dc_X5_withTrack_29.1.2.2.2) rfl ?_
            refine sg_cE0 (pc := 47) (d' := d - 1) (mc' := 0) (ms' := 0) 3 g (dc_X5_withTrack_29.2.1.1.1) cb_X0_size ml_X5_63 mn_X0_size rfl mv_X0_size (Nat.le_of_ble_eq_true rfl) (ck_lc (by assumption) (by first | assumption | exact ck_rev)) (Nat.le_of_ble_eq_true rfl) (by first | exact jl_d0 hd rfl | omega) (by first | exact Nat.le_of_ble_eq_true rfl | omega) (by first | exact Nat.le_of_ble_eq_true rfl | omega) ?_
            refine f_X0_size g (by first | exact jl_d1 hd rfl | omega) (by assumption) L2 (fun z47 e47 l047 u47 => sg_K1 ?_)
            rw [k2] at e47
            try rw [fa_tlen] at e47
            refine sg_icmp_ge (pc := 50) (tgt := 124) (dc_X5_withTrack_29.2.1.1.2) (by decide) (fun c50 => ?_) (fun c50 => ?_)
            · refine sg_lload (pc := 124) (dc_X5_withTrack_97.2.1.2.2) rfl ?_
              refine sg_lret (pc := 126) (dc_X5_withTrack_97.2.2.1.1) rfl (by first | exact Nat.le_of_ble_eq_true rfl | omega) (by first | exact Nat.le_of_ble_eq_true rfl | omega) ?_
              exact hQ _ (by rw [s0, show p.toNat = L.length by omega, t0, show q.toNat = 4 by omega]; rfl)
            · refine sg_aload (pc := 53) (dc_X5_withTrack_29.2.1.2.1) rfl ?_
              refine sg_iload (pc := 55) (dc_X5_withTrack_29.2.1.2.2) rfl ?_
              refine sg_cE1 (pc := 57) (d' := d - 1) (mc' := 0) (ms' := 0) 3 g (dc_X5_withTrack_29.2.2.1.1) cb_X0_get ml_X5_75 mn_X0_get rfl mv_X0_get (Nat.le_of_ble_eq_true rfl) (ck_lc (by assumption) (by first | assumption | exact ck_rev)) (Nat.le_of_ble_eq_true rfl) (by first | exact jl_d0 hd rfl | omega) (by first | exact Nat.le_of_ble_eq_true rfl | omega) (by first | exact Nat.le_of_ble_eq_true rfl | omega) ?_
              refine f_X0_get g (by first | exact jl_d1 hd rfl | omega) (by assumption) L2 (fun z57 e57 v57 => sg_K1 ?_)
              rw [k2] at e57
              rw [k2] at v57
              try rw [fa_tg (by omega) (by omega)] at e57
              rw [gg_in (by omega) (by omega)] at e57
              subst e57
              have u60 := r42.2 _ (gd_mem (L := L) (j := p.toNat) (d := 0) (by omega))
              refine sg_istore (pc := 60) (dc_X5_withTrack_29.2.2.1.2) (by decide) ?_
              refine sg_lload (pc := 62) (dc_X5_withTrack_29.2.2.2.1) rfl ?_
              refine sg_iload (pc := 64) (dc_X5_withTrack_29.2.2.2.2) rfl ?_
              refine sg_i2l (pc := 66) (dc_X5_withTrack_66.1.1.1.1) ?_
              refine sg_cS2 (pc := 67) (d' := d - 1) (mc' := 0) (ms' := 0) g (dc_X5_withTrack_66.1.1.1.2) cb_X5_with ml_X5_293 ms_X5_with (Nat.le_of_ble_eq_true rfl) (by first | exact jl_d0 hd rfl | omega) (by first | exact Nat.le_of_ble_eq_true rfl | omega) (by first | exact Nat.le_of_ble_eq_true rfl | omega) ?_
              refine s_X5_with g (by first | exact jl_d1 hd rfl | omega) (fun z67 h67 => sg_K1 ?_)
              replace h67 : z67 = dg _ _ := h67
              refine sg_lstore (pc := 70) (dc_X5_withTrack_66.1.1.2.1) (by decide) ?_
              refine sg_iconst (pc := 72) (z := 0) (dc_X5_withTrack_66.1.1.2.2) (by decide) ?_
              refine sg_istore (pc := 73) (dc_X5_withTrack_66.1.2.1.1) (by decide) ?_
              have loop75 : ∀ (N : Nat) (r u : Int), (0 ≤ r ∧ r ≤ 4) → (u = dz (dg_o (L.getD p.toNat 0)) z67 r.toNat) → (4 - r).toNat < N → sg_R w mi_X5_withTrack d 0 0 Q 75 [(9, sg_i r), (5, sg_l u), (0, sg_r B), (3, sg_i trk), (4, sg_r a2), (7, sg_i p), (8, sg_i (L.getD p.toNat 0))] [] h 0 0 := by
                intro N
                induction N with
                | zero => intro r u r0 u0 hm; exact absurd hm (Nat.not_lt_zero _)
                | succ N ihc =>
                  intro r u r0 u0 hm
                  refine sg_iload (pc := 75) (dc_X5_withTrack_66.1.2.1.2) rfl ?_
                  refine sg_iconst (pc := 77) (z := 3) (dc_X5_withTrack_66.1.2.2.1) (by decide) ?_
                  refine sg_icmp_gt (pc := 78) (tgt := 103) (dc_X5_withTrack_66.1.2.2.2) (by decide) (fun c78 => ?_) (fun c78 => ?_)
                  · refine sg_lload (pc := 103) (dc_X5_withTrack_97.1.1.2.1) rfl ?_
                    refine sg_aload (pc := 105) (dc_X5_withTrack_97.1.1.2.2) rfl ?_
                    refine sg_iload (pc := 107) (dc_X5_withTrack_97.1.2.1.1) rfl ?_
                    refine sg_cS2 (pc := 109) (d' := d - 1) (mc' := 0) (ms' := 0) g (dc_X5_withTrack_97.1.2.1.2) cb_X4_codeFrom ml_X5_266 ms_X4_codeFrom (Nat.le_of_ble_eq_true rfl) (by first | exact jl_d0 hd rfl | omega) (by first | exact Nat.le_of_ble_eq_true rfl | omega) (by first | exact Nat.le_of_ble_eq_true rfl | omega) ?_
                    refine f_X4_codeFrom g (by first | exact jl_d1 hd rfl | omega) (by assumption) L2 k2 r42.2 (by omega) (by omega) (fun z109 e109 => sg_K1 ?_)
                    have r109 := fs_cdr r42.2 (p := p.toNat) (by omega)
                    rw [← e109] at r109
                    refine sg_i2l (pc := 112) (dc_X5_withTrack_97.1.2.2.1) ?_
                    refine sg_cS2 (pc := 113) (d' := d - 1) (mc' := 0) (ms' := 0) g (dc_X5_withTrack_97.1.2.2.2) cb_X5_with ml_X5_293 ms_X5_with (Nat.le_of_ble_eq_true rfl) (by first | exact jl_d0 hd rfl | omega) (by first | exact Nat.le_of_ble_eq_true rfl | omega) (by first | exact Nat.le_of_ble_eq_true rfl | omega) ?_
                    refine s_X5_with g (by first | exact jl_d1 hd rfl | omega) (fun z113 h113 => sg_K1 ?_)
                    replace h113 : z113 = dg _ _ := h113
                    refine sg_lstore (pc := 116) (dc_X5_withTrack_97.2.1.1.1) (by decide) ?_
                    first | refine sg_iincB (pc := 118) (dc_X5_withTrack_97.2.1.1.2) rfl (by decide) (by decide) (by omega) (by omega) ?_ | refine sg_iinc (pc := 118) (dc_X5_withTrack_97.2.1.1.2) rfl (by decide) (by decide) ?_
                    refine sg_goto (pc := 121) (tgt := 43) (dc_X5_withTrack_97.2.1.2.1) (by decide) ?_
                    refine sg_lsub (lv' := [(7, _), (5, _), (0, _), (3, _), (4, _)]) ⟨rfl, rfl, rfl, rfl, rfl, trivial⟩ ?_
                    exact ihb _ _ (by omega) (by rw [dz_s (by omega), ← s0, h113, u0, show r.toNat = 4 by omega, h67, e109]; rfl) (by first | exact jl_m1 hm (by omega) | exact jl_m2 hm (by omega) | omega)
                  · refine sg_lload (pc := 81) (dc_X5_withTrack_66.2.1.1.1) rfl ?_
                    refine sg_aload_n (pc := 83) (j := 0) (dc_X5_withTrack_66.2.1.1.2) rfl rfl ?_
                    refine sg_iload (pc := 84) (dc_X5_withTrack_66.2.1.2.1) rfl ?_
                    refine sg_iload (pc := 86) (dc_X5_withTrack_66.2.1.2.2) rfl ?_
                    refine sg_cE2 (pc := 88) (d' := d - 1) (mc' := 0) (ms' := 0) 6 g (dc_X5_withTrack_66.2.2.1.1) cb_X5_ofUnit ml_X5_356 mn_X5_ofUnit rfl mv_X5_ofUnit (Nat.le_of_ble_eq_true rfl) (ck_oc (by assumption)) (Nat.le_of_ble_eq_true rfl) (by first | exact jl_d0 hd rfl | omega) (by first | exact Nat.le_of_ble_eq_true rfl | omega) (by first | exact Nat.le_of_ble_eq_true rfl | omega) ?_
                    refine s_X5_ofUnit_N g (by first | exact jl_d1 hd rfl | omega) (by omega) (fun v88 n88 o88 => sg_K1 ?_)
                    have e88 := fs_ouE (by omega) (by omega) o88
                    refine sg_i2l (pc := 91) (dc_X5_withTrack_66.2.2.1.2) ?_
                    refine sg_cS2 (pc := 92) (d' := d - 1) (mc' := 0) (ms' := 0) g (dc_X5_withTrack_66.2.2.2.1) cb_X5_with ml_X5_293 ms_X5_with (Nat.le_of_ble_eq_true rfl) (by first | exact jl_d0 hd rfl | omega) (by first | exact Nat.le_of_ble_eq_true rfl | omega) (by first | exact Nat.le_of_ble_eq_true rfl | omega) ?_
                    refine s_X5_with g (by first | exact jl_d1 hd rfl | omega) (fun z92 h92 => sg_K1 ?_)
                    replace h92 : z92 = dg _ _ := h92
                    refine sg_lstore (pc := 95) (dc_X5_withTrack_66.2.2.2.2) (by decide) ?_
                    first | refine sg_iincB (pc := 97) (dc_X5_withTrack_97.1.1.1.1) rfl (by decide) (by decide) (by omega) (by omega) ?_ | refine sg_iinc (pc := 97) (dc_X5_withTrack_97.1.1.1.1) rfl (by decide) (by decide) ?_
                    refine sg_goto (pc := 100) (tgt := 75) (dc_X5_withTrack_97.1.1.1.2) (by decide) ?_
                    refine sg_lsub (lv' := [(9, _), (5, _), (0, _), (3, _), (4, _), (7, _), (8, _)]) ⟨rfl, rfl, rfl, rfl, rfl, rfl, rfl, trivial⟩ ?_
                    exact ihc _ _ (by omega) (by rw [dz_s (by omega), ← u0, dg_oE (by omega), h92, e88]) (by first | exact jl_m1 hm (by omega) | exact jl_m2 hm (by omega) | omega)
              refine sg_lsub (lv' := [(9, _), (5, _), (0, _), (3, _), (4, _), (7, _), (8, _)]) ⟨rfl, rfl, rfl, rfl, rfl, rfl, rfl, trivial⟩ ?_
              exact loop75 _ _ _ (by omega) rfl (Nat.lt_succ_self _)
        refine sg_lsub (lv' := [(7, _), (5, _), (0, _), (3, _), (4, _)]) ⟨rfl, rfl, rfl, rfl, rfl, trivial⟩ ?_
        exact loop43 _ _ _ (by omega) rfl (Nat.lt_succ_self _)
      · refine sg_lload (pc := 19) (dc_X5_withTrack_0.2.1.2.2) rfl ?_
        refine sg_aload (pc := 21) (dc_X5_withTrack_0.2.2.1.1) rfl ?_
        refine sg_iload (pc := 23) (dc_X5_withTrack_0.2.2.1.2) rfl ?_
        refine sg_cS2 (pc := 25) (d' := d - 1) (mc' := 0) (ms' := 0) g (dc_X5_withTrack_0.2.2.2.1) cb_X4_howMany ml_X5_180 ms_X4_howMany (Nat.le_of_ble_eq_true rfl) (by first | exact jl_d0 hd rfl | omega) (by first | exact Nat.le_of_ble_eq_true rfl | omega) (by first | exact Nat.le_of_ble_eq_true rfl | omega) ?_
        refine f_X4_howMany g (by first | exact jl_d1 hd rfl | omega) (by assumption) L2 k2 r42.2 (fun z25 e25 => sg_K1 ?_)
        refine sg_i2l (pc := 28) (dc_X5_withTrack_0.2.2.2.2) ?_
        refine sg_cS2 (pc := 29) (d' := d - 1) (mc' := 0) (ms' := 0) g (dc_X5_withTrack_29.1.1.1.1) cb_X5_with ml_X5_293 ms_X5_with (Nat.le_of_ble_eq_true rfl) (by first | exact jl_d0 hd rfl | omega) (by first | exact Nat.le_of_ble_eq_true rfl | omega) (by first | exact Nat.le_of_ble_eq_true rfl | omega) ?_
        refine s_X5_with g (by first | exact jl_d1 hd rfl | omega) (fun z29 h29 => sg_K1 ?_)
        replace h29 : z29 = dg _ _ := h29
        refine sg_lstore (pc := 32) (dc_X5_withTrack_29.1.1.1.2) (by decide) ?_
        first | refine sg_iincB (pc := 34) (dc_X5_withTrack_29.1.1.2.1) rfl (by decide) (by decide) (by omega) (by omega) ?_ | refine sg_iinc (pc := 34) (dc_X5_withTrack_29.1.1.2.1) rfl (by decide) (by decide) ?_
        refine sg_goto (pc := 37) (tgt := 13) (dc_X5_withTrack_29.1.1.2.2) (by decide) ?_
        refine sg_lsub (lv' := [(7, _), (5, _), (0, _), (3, _), (4, _)]) ⟨rfl, rfl, rfl, rfl, rfl, trivial⟩ ?_
        exact ih _ _ (by omega) (by rw [dz_s (by omega), ← t0, dg_hE (by omega), h29, e25]) (by first | exact jl_m1 hm (by omega) | exact jl_m2 hm (by omega) | omega)
  refine sg_lsub (lv' := [(7, _), (5, _), (0, _), (3, _), (4, _)]) ⟨rfl, rfl, rfl, rfl, rfl, trivial⟩ ?_
  exact loop13 _ _ _ (by omega) rfl (Nat.lt_succ_self _)

set_option maxRecDepth 100000 in
set_option maxHeartbeats 1000000 in
theorem f_X5_digest {w : sg_W} {Q : sg_O → sg_H → Prop} {h : sg_H} (g : sg_G w) {d : Nat} (hd : 16 ≤ d) {B : Nat} {A : fa_A} (hx : cf_X h B A) (ok : fa_ok A) (hQ : ∀ v : Int, v = dg_A A → Q (.inl (some (sg_l v))) h) : sg_C w mi_X5_digest d 0 0 [sg_r B] h Q := by
  refine sg_of pn_X5 (Nat.le_of_ble_eq_true rfl) ?_
  obtain ⟨x0, ho, hS, hP, hK⟩ := id hx
  have y0 := ck_Y0 x0
  refine sg_ldc2 (pc := 0) (z := 7707) g (dc_X5_digest_0.1.1.1.1) cn_X5_284 (by decide) ?_
  refine sg_lstore_n (pc := 3) (j := 1) (dc_X5_digest_0.1.1.1.2) rfl (by decide) ?_
  refine sg_iconst (pc := 4) (z := 0) (dc_X5_digest_0.1.1.2.1) (by decide) ?_
  refine sg_istore_n (pc := 5) (j := 3) (dc_X5_digest_0.1.1.2.2) rfl (by decide) ?_
  have loop6 : ∀ (N : Nat) (p s : Int), (0 ≤ p ∧ p ≤ 4) → (s = dz (dg_R A) 7707 p.toNat) → (4 - p).toNat < N → sg_R w mi_X5_digest d 0 0 Q 6 [(3, sg_i p), (1, sg_l s), (0, sg_r B)] [] h 0 0 := by
    intro N
    induction N with
    | zero => intro p s p0 s0 hm; exact absurd hm (Nat.not_lt_zero _)
    | succ N ih =>
      intro p s p0 s0 hm
      refine sg_iload_n (pc := 6) (j := 3) (dc_X5_digest_0.1.2.1.1) rfl rfl ?_
      refine sg_iconst (pc := 7) (z := 4) (dc_X5_digest_0.1.2.1.2) (by decide) ?_
      refine sg_icmp_ge (pc := 8) (tgt := 24) (dc_X5_digest_0.1.2.2.1) (by decide) (fun c8 => ?_) (fun c8 => ?_)
      · refine sg_lload_n (pc := 24) (j := 1) (dc_X5_digest_0.2.2.2.1) rfl rfl ?_
        refine sg_aload_n (pc := 25) (j := 0) (dc_X5_digest_0.2.2.2.2) rfl rfl ?_
        refine sg_iconst (pc := 26) (z := 0) (dc_X5_digest_26.1.1.1.1) (by decide) ?_
        refine sg_iconst (pc := 27) (z := 1) (dc_X5_digest_26.1.1.1.2) (by decide) ?_
        refine sg_cE2 (pc := 28) (d' := d - 1) (mc' := 0) (ms' := 0) 6 g (dc_X5_digest_26.1.1.2.1) cb_X5_order ml_X5_290 mn_X5_order rfl mv_X5_order (Nat.le_of_ble_eq_true rfl) (ck_oc (by assumption)) (Nat.le_of_ble_eq_true rfl) (by first | exact jl_d0 hd rfl | omega) (by first | exact Nat.le_of_ble_eq_true rfl | omega) (by first | exact Nat.le_of_ble_eq_true rfl | omega) ?_
        refine f_X5_order_N (L := fa_L A 0) (M := fa_L A 1) (row := 0) (other := 1) g (by first | exact jl_d1 hd rfl | omega) hx ok rfl rfl (by omega) (fun v28 e28 => sg_K1 ?_)
        refine sg_i2l (pc := 31) (dc_X5_digest_26.1.1.2.2) ?_
        refine sg_cS2 (pc := 32) (d' := d - 1) (mc' := 0) (ms' := 0) g (dc_X5_digest_26.1.2.1.1) cb_X5_with ml_X5_293 ms_X5_with (Nat.le_of_ble_eq_true rfl) (by first | exact jl_d0 hd rfl | omega) (by first | exact Nat.le_of_ble_eq_true rfl | omega) (by first | exact Nat.le_of_ble_eq_true rfl | omega) ?_
        refine s_X5_with g (by first | exact jl_d1 hd rfl | omega) (fun z32 h32 => sg_K1 ?_)
        replace h32 : z32 = dg _ _ := h32
        refine sg_lstore_n (pc := 35) (j := 1) (dc_X5_digest_26.1.2.1.2) rfl (by decide) ?_
        refine sg_lload_n (pc := 36) (j := 1) (dc_X5_digest_26.1.2.2.1) rfl rfl ?_
        refine sg_aload_n (pc := 37) (j := 0) (dc_X5_digest_26.1.2.2.2) rfl rfl ?_
        refine sg_iconst (pc := 38) (z := 2) (dc_X5_digest_26.2.1.1.1) (by decide) ?_
        refine sg_iconst (pc := 39) (z := 3) (dc_X5_digest_26.2.1.1.2) (by decide) ?_
        refine sg_cE2 (pc := 40) (d' := d - 1) (mc' := 0) (ms' := 0) 6 g (dc_X5_digest_26.2.1.2.1) cb_X5_order ml_X5_290 mn_X5_order rfl mv_X5_order (Nat.le_of_ble_eq_true rfl) (ck_oc (by assumption)) (Nat.le_of_ble_eq_true rfl) (by first | exact jl_d0 hd rfl | omega) (by first | exact Nat.le_of_ble_eq_true rfl | omega) (by first | exact Nat.le_of_ble_eq_true rfl | omega) ?_
        refine f_X5_order_N (L := fa_L A 2) (M := fa_L A 3) (row := 2) (other := 3) g (by first | exact jl_d1 hd rfl | omega) hx ok rfl rfl (by omega) (fun v40 e40 => sg_K1 ?_)
        refine sg_i2l (pc := 43) (dc_X5_digest_26.2.1.2.2) ?_
        refine sg_cS2 (pc := 44) (d' := d - 1) (mc' := 0) (ms' := 0) g (dc_X5_digest_26.2.2.1.1) cb_X5_with ml_X5_293 ms_X5_with (Nat.le_of_ble_eq_true rfl) (by first | exact jl_d0 hd rfl | omega) (by first | exact Nat.le_of_ble_eq_true rfl | omega) (by first | exact Nat.le_of_ble_eq_true rfl | omega) ?_
        refine s_X5_with g (by first | exact jl_d1 hd rfl | omega) (fun z44 h44 => sg_K1 ?_)
        replace h44 : z44 = dg _ _ := h44
        refine sg_lstore_n (pc := 47) (j := 1) (dc_X5_digest_26.2.2.1.2) rfl (by decide) ?_
        refine sg_lload_n (pc := 48) (j := 1) (dc_X5_digest_26.2.2.2.1) rfl rfl ?_
        refine sg_aload_n (pc := 49) (j := 0) (dc_X5_digest_26.2.2.2.2) rfl rfl ?_
        refine sg_iconst (pc := 50) (z := 0) (dc_X5_digest_50.1.1.1.1) (by decide) ?_
        refine sg_iconst (pc := 51) (z := 1) (dc_X5_digest_50.1.1.1.2) (by decide) ?_
        refine sg_cE2 (pc := 52) (d' := d - 1) (mc' := 0) (ms' := 0) 6 g (dc_X5_digest_50.1.1.2.1) cb_X5_isAlike ml_X5_297 mn_X5_isAlike rfl mv_X5_isAlike (Nat.le_of_ble_eq_true rfl) (ck_oc (by assumption)) (Nat.le_of_ble_eq_true rfl) (by first | exact jl_d0 hd rfl | omega) (by first | exact Nat.le_of_ble_eq_true rfl | omega) (by first | exact Nat.le_of_ble_eq_true rfl | omega) ?_
        refine f_X5_isAlike_N (L := fa_L A 0) (M := fa_L A 1) (row := 0) (other := 1) g (by first | exact jl_d1 hd rfl | omega) hx ok rfl rfl (by omega) (fun v52 b52 => sg_K1 ?_)
        refine sg_if_eq (pc := 55) (tgt := 62) (dc_X5_digest_50.1.1.2.2) (by decide) (fun c55 => ?_) (fun c55 => ?_)
        · refine sg_lconst (pc := 62) (z := 0) (dc_X5_digest_50.1.2.2.1) (by decide) ?_
          refine sg_cS2 (pc := 63) (d' := d - 1) (mc' := 0) (ms' := 0) g (dc_X5_digest_50.1.2.2.2) cb_X5_with ml_X5_293 ms_X5_with (Nat.le_of_ble_eq_true rfl) (by first | exact jl_d0 hd rfl | omega) (by first | exact Nat.le_of_ble_eq_true rfl | omega) (by first | exact Nat.le_of_ble_eq_true rfl | omega) ?_
          refine s_X5_with g (by first | exact jl_d1 hd rfl | omega) (fun z63 h63 => sg_K1 ?_)
          replace h63 : z63 = dg _ _ := h63
          have al : z63 = dg z44 (dg_al A) := by
            rcases b52 with b | b
            · first
                | exact absurd b.1 (by omega)
                | (rw [dg_a0 b.2]; exact h63)
            · first
                | exact absurd b.1 (by omega)
                | (rw [dg_a1 b.2]; exact h63)
          refine sg_lstore_n (pc := 66) (j := 1) (dc_X5_digest_50.2.1.1.1) rfl (by decide) ?_
          refine sg_iconst (pc := 67) (z := 0) (dc_X5_digest_50.2.1.1.2) (by decide) ?_
          refine sg_istore_n (pc := 68) (j := 3) (dc_X5_digest_50.2.1.2.1) rfl (by decide) ?_
          have loop69 : ∀ (N : Nat) (q t : Int), (0 ≤ q ∧ q ≤ 2) → (t = dz (dg_T A) z63 q.toNat) → (2 - q).toNat < N → sg_R w mi_X5_digest d 0 0 Q 69 [(3, sg_i q), (1, sg_l t), (0, sg_r B)] [] h 0 0 := by
            intro N
            induction N with
            | zero => intro q t q0 t0 hm; exact absurd hm (Nat.not_lt_zero _)
            | succ N ihb =>
              intro q t q0 t0 hm
              refine sg_iload_n (pc := 69) (j := 3) (dc_X5_digest_50.2.1.2.2) rfl rfl ?_
              refine sg_iconst (pc := 70) (z := 2) (dc_X5_digest_50.2.2.1.1) (by decide) ?_
              refine sg_icmp_ge (pc := 71) (tgt := 87) (dc_X5_digest_50.2.2.1.2) (by decide) (fun c71 => ?_) (fun c71 => ?_)
              · refine sg_iconst (pc := 87) (z := 0) (dc_X5_digest_76.1.2.1.2) (by decide) ?_
                refine sg_istore_n (pc := 88) (j := 3) (dc_X5_digest_76.1.2.2.1) rfl (by decide) ?_
                have loop89 : ∀ (N : Nat) (r u : Int), (0 ≤ r ∧ r ≤ 4) → (u = dz (dg_H A) t r.toNat) → (4 - r).toNat < N → sg_R w mi_X5_digest d 0 0 Q 89 [(3, sg_i r), (1, sg_l u), (0, sg_r B)] [] h 0 0 := by
                  intro N
                  induction N with
                  | zero => intro r u r0 u0 hm; exact absurd hm (Nat.not_lt_zero _)
                  | succ N ihc =>
                    intro r u r0 u0 hm
                    refine sg_iload_n (pc := 89) (j := 3) (dc_X5_digest_76.1.2.2.2) rfl rfl ?_
                    refine sg_iconst (pc := 90) (z := 3) (dc_X5_digest_76.2.1.1.1) (by decide) ?_
                    refine sg_icmp_gt (pc := 91) (tgt := 111) (dc_X5_digest_76.2.1.1.2) (by decide) (fun c91 => ?_) (fun c91 => ?_)
                    · refine sg_lload_n (pc := 111) (j := 1) (dc_X5_digest_104.1.1.2.2) rfl rfl ?_
                      refine sg_aload_n (pc := 112) (j := 0) (dc_X5_digest_104.1.2.1.1) rfl rfl ?_
                      refine sg_cE0 (pc := 113) (d' := d - 1) (mc' := 0) (ms' := 0) 6 g (dc_X5_digest_104.1.2.1.2) cb_X5_isSound ml_X5_306 mn_X5_isSound rfl mv_X5_isSound (Nat.le_of_ble_eq_true rfl) (ck_oc (by assumption)) (Nat.le_of_ble_eq_true rfl) (by first | exact jl_d0 hd rfl | omega) (by first | exact Nat.le_of_ble_eq_true rfl | omega) (by first | exact Nat.le_of_ble_eq_true rfl | omega) ?_
                      refine f_X5_isSound g (by first | exact jl_d1 hd rfl | omega) hx ok (fun v113 e113 => sg_K1 ?_)
                      refine sg_if_eq (pc := 116) (tgt := 123) (dc_X5_digest_104.1.2.2.1) (by decide) (fun c116 => ?_) (fun c116 => ?_)
                      · exfalso
                        omega
                      · refine sg_lconst (pc := 119) (z := 1) (dc_X5_digest_104.1.2.2.2) (by decide) ?_
                        refine sg_goto (pc := 120) (tgt := 124) (dc_X5_digest_104.2.1.1.1) (by decide) ?_
                        refine sg_cS2 (pc := 124) (d' := d - 1) (mc' := 0) (ms' := 0) g (dc_X5_digest_104.2.1.2.1) cb_X5_with ml_X5_293 ms_X5_with (Nat.le_of_ble_eq_true rfl) (by first | exact jl_d0 hd rfl | omega) (by first | exact Nat.le_of_ble_eq_true rfl | omega) (by first | exact Nat.le_of_ble_eq_true rfl | omega) ?_
                        refine s_X5_with g (by first | exact jl_d1 hd rfl | omega) (fun z124 h124 => sg_K1 ?_)
                        replace h124 : z124 = dg _ _ := h124
                        refine sg_lret (pc := 127) (dc_X5_digest_104.2.1.2.2) rfl (by first | exact Nat.le_of_ble_eq_true rfl | omega) (by first | exact Nat.le_of_ble_eq_true rfl | omega) ?_
                        exact hQ _ (by rw [h124, u0, show r.toNat = 4 by omega, t0, show q.toNat = 2 by omega, al, h44, h32, e28, e40, s0, show p.toNat = 4 by omega]; rfl)
                    · refine sg_lload_n (pc := 94) (j := 1) (dc_X5_digest_76.2.1.2.1) rfl rfl ?_
                      refine sg_aload_n (pc := 95) (j := 0) (dc_X5_digest_76.2.1.2.2) rfl rfl ?_
                      refine sg_iload_n (pc := 96) (j := 3) (dc_X5_digest_76.2.2.1.1) rfl rfl ?_
                      refine sg_cE1 (pc := 97) (d' := d - 1) (mc' := 0) (ms' := 0) 6 g (dc_X5_digest_76.2.2.1.2) cb_X5_house ml_X5_303 mn_X5_house rfl mv_X5_house (Nat.le_of_ble_eq_true rfl) (ck_oc (by assumption)) (Nat.le_of_ble_eq_true rfl) (by first | exact jl_d0 hd rfl | omega) (by first | exact Nat.le_of_ble_eq_true rfl | omega) (by first | exact Nat.le_of_ble_eq_true rfl | omega) ?_
                      refine f_X5_house_N g (by first | exact jl_d1 hd rfl | omega) hx ok (by omega) (fun v97 e97 => sg_K1 ?_)
                      refine sg_i2l (pc := 100) (dc_X5_digest_76.2.2.2.1) ?_
                      refine sg_cS2 (pc := 101) (d' := d - 1) (mc' := 0) (ms' := 0) g (dc_X5_digest_76.2.2.2.2) cb_X5_with ml_X5_293 ms_X5_with (Nat.le_of_ble_eq_true rfl) (by first | exact jl_d0 hd rfl | omega) (by first | exact Nat.le_of_ble_eq_true rfl | omega) (by first | exact Nat.le_of_ble_eq_true rfl | omega) ?_
                      refine s_X5_with g (by first | exact jl_d1 hd rfl | omega) (fun z101 h101 => sg_K1 ?_)
                      replace h101 : z101 = dg _ _ := h101
                      refine sg_lstore_n (pc := 104) (j := 1) (dc_X5_digest_104.1.1.1.1) rfl (by decide) ?_
                      first | refine sg_iincB (pc := 105) (dc_X5_digest_104.1.1.1.2) rfl (by decide) (by decide) (by omega) (by omega) ?_ | refine sg_iinc (pc := 105) (dc_X5_digest_104.1.1.1.2) rfl (by decide) (by decide) ?_
                      refine sg_goto (pc := 108) (tgt := 89) (dc_X5_digest_104.1.1.2.1) (by decide) ?_
                      refine sg_lsub (lv' := [(3, _), (1, _), (0, _)]) ⟨rfl, rfl, rfl, trivial⟩ ?_
                      exact ihc _ _ (by omega) (by rw [dz_s (by omega), ← u0, dg_HE (by omega), h101, e97]) (by first | exact jl_m1 hm (by omega) | exact jl_m2 hm (by omega) | omega)
                refine sg_lsub (lv' := [(3, _), (1, _), (0, _)]) ⟨rfl, rfl, rfl, trivial⟩ ?_
                exact loop89 _ _ _ (by omega) rfl (Nat.lt_succ_self _)
              · refine sg_aload_n (pc := 74) (j := 0) (dc_X5_digest_50.2.2.2.1) rfl rfl ?_
                refine sg_lload_n (pc := 75) (j := 1) (dc_X5_digest_50.2.2.2.2) rfl rfl ?_
                refine sg_iload_n (pc := 76) (j := 3) (dc_X5_digest_76.1.1.1.1) rfl rfl ?_
                refine sg_cE2 (pc := 77) (d' := d - 1) (mc' := 0) (ms' := 0) 6 g (dc_X5_digest_76.1.1.1.2) cb_X5_withTrack ml_X5_300 mn_X5_withTrack rfl mv_X5_withTrack (Nat.le_of_ble_eq_true rfl) (ck_oc (by assumption)) (Nat.le_of_ble_eq_true rfl) (by first | exact jl_d0 hd rfl | omega) (by first | exact Nat.le_of_ble_eq_true rfl | omega) (by first | exact Nat.le_of_ble_eq_true rfl | omega) ?_
                refine f_X5_withTrack (L := fa_L A (4 + q.toNat)) g (by first | exact jl_d1 hd rfl | omega) hx ok rfl (by omega) (fun v77 e77 => sg_K1 ?_)
                refine sg_lstore_n (pc := 80) (j := 1) (dc_X5_digest_76.1.1.2.1) rfl (by decide) ?_
                first | refine sg_iincB (pc := 81) (dc_X5_digest_76.1.1.2.2) rfl (by decide) (by decide) (by omega) (by omega) ?_ | refine sg_iinc (pc := 81) (dc_X5_digest_76.1.1.2.2) rfl (by decide) (by decide) ?_
                refine sg_goto (pc := 84) (tgt := 69) (dc_X5_digest_76.1.2.1.1) (by decide) ?_
                refine sg_lsub (lv' := [(3, _), (1, _), (0, _)]) ⟨rfl, rfl, rfl, trivial⟩ ?_
                exact ihb _ _ (by omega) (by rw [dz_s (by omega), ← t0]; exact e77) (by first | exact jl_m1 hm (by omega) | exact jl_m2 hm (by omega) | omega)
          refine sg_lsub (lv' := [(3, _), (1, _), (0, _)]) ⟨rfl, rfl, rfl, trivial⟩ ?_
          exact loop69 _ _ _ (by omega) rfl (Nat.lt_succ_self _)
        · refine sg_lconst (pc := 58) (z := 1) (dc_X5_digest_50.1.2.1.1) (by decide) ?_
          refine sg_goto (pc := 59) (tgt := 63) (dc_X5_digest_50.1.2.1.2) (by decide) ?_
          refine sg_cS2 (pc := 63) (d' := d - 1) (mc' := 0) (ms' := 0) g (dc_X5_digest_50.1.2.2.2) cb_X5_with ml_X5_293 ms_X5_with (Nat.le_of_ble_eq_true rfl) (by first | exact jl_d0 hd rfl | omega) (by first | exact Nat.le_of_ble_eq_true rfl | omega) (by first | exact Nat.le_of_ble_eq_true rfl | omega) ?_
          refine s_X5_with g (by first | exact jl_d1 hd rfl | omega) (fun z63 h63 => sg_K1 ?_)
          replace h63 : z63 = dg _ _ := h63
          have al : z63 = dg z44 (dg_al A) := by
            rcases b52 with b | b
            · first
                | exact absurd b.1 (by omega)
                | (rw [dg_a0 b.2]; exact h63)
            · first
                | exact absurd b.1 (by omega)
                | (rw [dg_a1 b.2]; exact h63)
          refine sg_lstore_n (pc := 66) (j := 1) (dc_X5_digest_50.2.1.1.1) rfl (by decide) ?_
          refine sg_iconst (pc := 67) (z := 0) (dc_X5_digest_50.2.1.1.2) (by decide) ?_
          refine sg_istore_n (pc := 68) (j := 3) (dc_X5_digest_50.2.1.2.1) rfl (by decide) ?_
          have loop69 : ∀ (N : Nat) (q t : Int), (0 ≤ q ∧ q ≤ 2) → (t = dz (dg_T A) z63 q.toNat) → (2 - q).toNat < N → sg_R w mi_X5_digest d 0 0 Q 69 [(3, sg_i q), (1, sg_l t), (0, sg_r B)] [] h 0 0 := by
            intro N
            induction N with
            | zero => intro q t q0 t0 hm; exact absurd hm (Nat.not_lt_zero _)
            | succ N ihb =>
              intro q t q0 t0 hm
              refine sg_iload_n (pc := 69) (j := 3) (dc_X5_digest_50.2.1.2.2) rfl rfl ?_
              refine sg_iconst (pc := 70) (z := 2) (dc_X5_digest_50.2.2.1.1) (by decide) ?_
              refine sg_icmp_ge (pc := 71) (tgt := 87) (dc_X5_digest_50.2.2.1.2) (by decide) (fun c71 => ?_) (fun c71 => ?_)
              · refine sg_iconst (pc := 87) (z := 0) (dc_X5_digest_76.1.2.1.2) (by decide) ?_
                refine sg_istore_n (pc := 88) (j := 3) (dc_X5_digest_76.1.2.2.1) rfl (by decide) ?_
                have loop89 : ∀ (N : Nat) (r u : Int), (0 ≤ r ∧ r ≤ 4) → (u = dz (dg_H A) t r.toNat) → (4 - r).toNat < N → sg_R w mi_X5_digest d 0 0 Q 89 [(3, sg_i r), (1, sg_l u), (0, sg_r B)] [] h 0 0 := by
                  intro N
                  induction N with
                  | zero => intro r u r0 u0 hm; exact absurd hm (Nat.not_lt_zero _)
                  | succ N ihc =>
                    intro r u r0 u0 hm
                    refine sg_iload_n (pc := 89) (j := 3) (dc_X5_digest_76.1.2.2.2) rfl rfl ?_
                    refine sg_iconst (pc := 90) (z := 3) (dc_X5_digest_76.2.1.1.1) (by decide) ?_
                    refine sg_icmp_gt (pc := 91) (tgt := 111) (dc_X5_digest_76.2.1.1.2) (by decide) (fun c91 => ?_) (fun c91 => ?_)
                    · refine sg_lload_n (pc := 111) (j := 1) (dc_X5_digest_104.1.1.2.2) rfl rfl ?_
                      refine sg_aload_n (pc := 112) (j := 0) (dc_X5_digest_104.1.2.1.1) rfl rfl ?_
                      refine sg_cE0 (pc := 113) (d' := d - 1) (mc' := 0) (ms' := 0) 6 g (dc_X5_digest_104.1.2.1.2) cb_X5_isSound ml_X5_306 mn_X5_isSound rfl mv_X5_isSound (Nat.le_of_ble_eq_true rfl) (ck_oc (by assumption)) (Nat.le_of_ble_eq_true rfl) (by first | exact jl_d0 hd rfl | omega) (by first | exact Nat.le_of_ble_eq_true rfl | omega) (by first | exact Nat.le_of_ble_eq_true rfl | omega) ?_
                      refine f_X5_isSound g (by first | exact jl_d1 hd rfl | omega) hx ok (fun v113 e113 => sg_K1 ?_)
                      refine sg_if_eq (pc := 116) (tgt := 123) (dc_X5_digest_104.1.2.2.1) (by decide) (fun c116 => ?_) (fun c116 => ?_)
                      · exfalso
                        omega
                      · refine sg_lconst (pc := 119) (z := 1) (dc_X5_digest_104.1.2.2.2) (by decide) ?_
                        refine sg_goto (pc := 120) (tgt := 124) (dc_X5_digest_104.2.1.1.1) (by decide) ?_
                        refine sg_cS2 (pc := 124) (d' := d - 1) (mc' := 0) (ms' := 0) g (dc_X5_digest_104.2.1.2.1) cb_X5_with ml_X5_293 ms_X5_with (Nat.le_of_ble_eq_true rfl) (by first | exact jl_d0 hd rfl | omega) (by first | exact Nat.le_of_ble_eq_true rfl | omega) (by first | exact Nat.le_of_ble_eq_true rfl | omega) ?_
                        refine s_X5_with g (by first | exact jl_d1 hd rfl | omega) (fun z124 h124 => sg_K1 ?_)
                        replace h124 : z124 = dg _ _ := h124
                        refine sg_lret (pc := 127) (dc_X5_digest_104.2.1.2.2) rfl (by first | exact Nat.le_of_ble_eq_true rfl | omega) (by first | exact Nat.le_of_ble_eq_true rfl | omega) ?_
                        exact hQ _ (by rw [h124, u0, show r.toNat = 4 by omega, t0, show q.toNat = 2 by omega, al, h44, h32, e28, e40, s0, show p.toNat = 4 by omega]; rfl)
                    · refine sg_lload_n (pc := 94) (j := 1) (dc_X5_digest_76.2.1.2.1) rfl rfl ?_
                      refine sg_aload_n (pc := 95) (j := 0) (dc_X5_digest_76.2.1.2.2) rfl rfl ?_
                      refine sg_iload_n (pc := 96) (j := 3) (dc_X5_digest_76.2.2.1.1) rfl rfl ?_
                      refine sg_cE1 (pc := 97) (d' := d - 1) (mc' := 0) (ms' := 0) 6 g (dc_X5_digest_76.2.2.1.2) cb_X5_house ml_X5_303 mn_X5_house rfl mv_X5_house (Nat.le_of_ble_eq_true rfl) (ck_oc (by assumption)) (Nat.le_of_ble_eq_true rfl) (by first | exact jl_d0 hd rfl | omega) (by first | exact Nat.le_of_ble_eq_true rfl | omega) (by first | exact Nat.le_of_ble_eq_true rfl | omega) ?_
                      refine f_X5_house_N g (by first | exact jl_d1 hd rfl | omega) hx ok (by omega) (fun v97 e97 => sg_K1 ?_)
                      refine sg_i2l (pc := 100) (dc_X5_digest_76.2.2.2.1) ?_
                      refine sg_cS2 (pc := 101) (d' := d - 1) (mc' := 0) (ms' := 0) g (dc_X5_digest_76.2.2.2.2) cb_X5_with ml_X5_293 ms_X5_with (Nat.le_of_ble_eq_true rfl) (by first | exact jl_d0 hd rfl | omega) (by first | exact Nat.le_of_ble_eq_true rfl | omega) (by first | exact Nat.le_of_ble_eq_true rfl | omega) ?_
                      refine s_X5_with g (by first | exact jl_d1 hd rfl | omega) (fun z101 h101 => sg_K1 ?_)
                      replace h101 : z101 = dg _ _ := h101
                      refine sg_lstore_n (pc := 104) (j := 1) (dc_X5_digest_104.1.1.1.1) rfl (by decide) ?_
                      first | refine sg_iincB (pc := 105) (dc_X5_digest_104.1.1.1.2) rfl (by decide) (by decide) (by omega) (by omega) ?_ | refine sg_iinc (pc := 105) (dc_X5_digest_104.1.1.1.2) rfl (by decide) (by decide) ?_
                      refine sg_goto (pc := 108) (tgt := 89) (dc_X5_digest_104.1.1.2.1) (by decide) ?_
                      refine sg_lsub (lv' := [(3, _), (1, _), (0, _)]) ⟨rfl, rfl, rfl, trivial⟩ ?_
                      exact ihc _ _ (by omega) (by rw [dz_s (by omega), ← u0, dg_HE (by omega), h101, e97]) (by first | exact jl_m1 hm (by omega) | exact jl_m2 hm (by omega) | omega)
                refine sg_lsub (lv' := [(3, _), (1, _), (0, _)]) ⟨rfl, rfl, rfl, trivial⟩ ?_
                exact loop89 _ _ _ (by omega) rfl (Nat.lt_succ_self _)
              · refine sg_aload_n (pc := 74) (j := 0) (dc_X5_digest_50.2.2.2.1) rfl rfl ?_
                refine sg_lload_n (pc := 75) (j := 1) (dc_X5_digest_50.2.2.2.2) rfl rfl ?_
                refine sg_iload_n (pc := 76) (j := 3) (dc_X5_digest_76.1.1.1.1) rfl rfl ?_
                refine sg_cE2 (pc := 77) (d' := d - 1) (mc' := 0) (ms' := 0) 6 g (dc_X5_digest_76.1.1.1.2) cb_X5_withTrack ml_X5_300 mn_X5_withTrack rfl mv_X5_withTrack (Nat.le_of_ble_eq_true rfl) (ck_oc (by assumption)) (Nat.le_of_ble_eq_true rfl) (by first | exact jl_d0 hd rfl | omega) (by first | exact Nat.le_of_ble_eq_true rfl | omega) (by first | exact Nat.le_of_ble_eq_true rfl | omega) ?_
                refine f_X5_withTrack (L := fa_L A (4 + q.toNat)) g (by first | exact jl_d1 hd rfl | omega) hx ok rfl (by omega) (fun v77 e77 => sg_K1 ?_)
                refine sg_lstore_n (pc := 80) (j := 1) (dc_X5_digest_76.1.1.2.1) rfl (by decide) ?_
                first | refine sg_iincB (pc := 81) (dc_X5_digest_76.1.1.2.2) rfl (by decide) (by decide) (by omega) (by omega) ?_ | refine sg_iinc (pc := 81) (dc_X5_digest_76.1.1.2.2) rfl (by decide) (by decide) ?_
                refine sg_goto (pc := 84) (tgt := 69) (dc_X5_digest_76.1.2.1.1) (by decide) ?_
                refine sg_lsub (lv' := [(3, _), (1, _), (0, _)]) ⟨rfl, rfl, rfl, trivial⟩ ?_
                exact ihb _ _ (by omega) (by rw [dz_s (by omega), ← t0]; exact e77) (by first | exact jl_m1 hm (by omega) | exact jl_m2 hm (by omega) | omega)
          refine sg_lsub (lv' := [(3, _), (1, _), (0, _)]) ⟨rfl, rfl, rfl, trivial⟩ ?_
          exact loop69 _ _ _ (by omega) rfl (Nat.lt_succ_self _)
      · refine sg_aload_n (pc := 11) (j := 0) (dc_X5_digest_0.1.2.2.2) rfl rfl ?_
        refine sg_lload_n (pc := 12) (j := 1) (dc_X5_digest_0.2.1.1.1) rfl rfl ?_
        refine sg_iload_n (pc := 13) (j := 3) (dc_X5_digest_0.2.1.1.2) rfl rfl ?_
        refine sg_cE2 (pc := 14) (d' := d - 1) (mc' := 0) (ms' := 0) 6 g (dc_X5_digest_0.2.1.2.1) cb_X5_withRow ml_X5_286 mn_X5_withRow rfl mv_X5_withRow (Nat.le_of_ble_eq_true rfl) (ck_oc (by assumption)) (Nat.le_of_ble_eq_true rfl) (by first | exact jl_d0 hd rfl | omega) (by first | exact Nat.le_of_ble_eq_true rfl | omega) (by first | exact Nat.le_of_ble_eq_true rfl | omega) ?_
        refine f_X5_withRow (L := fa_L A p.toNat) g (by first | exact jl_d1 hd rfl | omega) hx ok rfl (by omega) (fun v14 e14 => sg_K1 ?_)
        refine sg_lstore_n (pc := 17) (j := 1) (dc_X5_digest_0.2.1.2.2) rfl (by decide) ?_
        first | refine sg_iincB (pc := 18) (dc_X5_digest_0.2.2.1.1) rfl (by decide) (by decide) (by omega) (by omega) ?_ | refine sg_iinc (pc := 18) (dc_X5_digest_0.2.2.1.1) rfl (by decide) (by decide) ?_
        refine sg_goto (pc := 21) (tgt := 6) (dc_X5_digest_0.2.2.1.2) (by decide) ?_
        refine sg_lsub (lv' := [(3, _), (1, _), (0, _)]) ⟨rfl, rfl, rfl, trivial⟩ ?_
        exact ih _ _ (by omega) (by rw [dz_s (by omega), ← s0]; exact e14) (by first | exact jl_m1 hm (by omega) | exact jl_m2 hm (by omega) | omega)
  refine sg_lsub (lv' := [(3, _), (1, _), (0, _)]) ⟨rfl, rfl, rfl, trivial⟩ ?_
  exact loop6 _ _ _ (by omega) rfl (Nat.lt_succ_self _)

