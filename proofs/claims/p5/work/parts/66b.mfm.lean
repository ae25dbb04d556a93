/-! THE REFERENCE'S CALLS THAT CHANGE IT, BY WHAT THEY MAKE OF THE STATE -/
theorem fx_g {S : List Int} {n k : Nat} (hk : k < n) : (fx S n).getD k 0 = S.getD k 0 := by
  unfold fx
  rw [List.getD_eq_getElem?_getD, List.getD_eq_getElem?_getD, List.getElem?_append]
  by_cases c : k < S.length
  · rw [if_pos (by rw [List.length_take]; omega), List.getElem?_take_of_lt hk]
  · rw [if_neg (by rw [List.length_take]; omega), show S.length - n = 0 by omega, List.getElem?_eq_none (l := S) (by omega)]
    simp
theorem gd_map {F : Int → Int} {L : List Int} {k : Nat} (h : k < L.length) : (L.map F).getD k 0 = F (L.getD k 0) := by
  rw [gd_in (by rw [List.length_map]; exact h), List.getElem_map, gd_in h]
/-- an array of truths, by what they tell of another array -/
def md_G (h0 h : sg_H) (bs : List Int) : Prop := h.1 = h0.1 + 1 ∧ (∀ q, q ≠ h0.1 → h.2 q = h0.2 q) ∧ h.2 h0.1 = some (101, bs.map sg_i)
theorem md_GE {h0 h : sg_H} {bs : List Int} (t : md_G h0 h bs) : md_E h0 h := ⟨by rw [t.1]; omega, fun q hq => t.2.1 q (by omega)⟩
theorem md_Gw {h0 h : sg_H} {bs cs : List Int} (t : md_G h0 h bs) (e : bs = cs) : md_G h0 h cs := by rw [← e]; exact t
theorem md_newG {N : Nat} {h : sg_H} : md_G h (h.1 + 1, sg_up h.2 h.1 (101, List.replicate N (sg_i 0))) (List.replicate N 0) :=
  ⟨rfl, fun q hq => sg_up_n hq, by rw [show ((h.1 + 1, sg_up h.2 h.1 (101, List.replicate N (sg_i 0))) : sg_H).2 h.1 = _ from sg_up_s]; simp⟩
/-- truths that tell which numbers of L are P -/
def md_ZP (h : sg_H) (s : Nat) (L : List Int) (P : Int → Bool) : Prop := s < h.1 ∧ ∃ bs : List Int, bs.length = L.length ∧ h.2 s = some (101, bs.map sg_i) ∧ ∀ j : Nat, j < L.length → (bs.getD j 0 ≠ 0 ↔ P (L.getD j 0) = true)
theorem md_ZPE {h0 h : sg_H} {s : Nat} {L : List Int} {P : Int → Bool} (x : md_ZP h0 s L P) (e : md_E h0 h) : md_ZP h s L P := by
  obtain ⟨h1, bs, h2, h3, h4⟩ := x
  exact ⟨Nat.lt_of_lt_of_le h1 e.1, bs, h2, (e.2 s h1).trans h3, h4⟩
theorem md_GZ {h0 h : sg_H} {bs L : List Int} {P : Int → Bool} (t : md_G h0 h bs) (hl : bs.length = L.length) (hp : ∀ j : Nat, j < L.length → (bs.getD j 0 ≠ 0 ↔ P (L.getD j 0) = true)) : md_ZP h h0.1 L P := ⟨by rw [t.1]; omega, bs, hl, t.2.2, hp⟩
section
variable {w : sg_W} {mi : sg_M} {d mc ms : Nat} {Q : sg_O → sg_H → Prop} {pc : Nat} {lv : List (Nat × sg_V)} {st : List sg_V} {h h0 : sg_H} {k n : Nat} {a : Nat} {bs L : List Int} {P : Int → Bool}
theorem md_glen (hd : decode mi.2.1 pc = .ok (.arraylength, 1)) (t : md_G h0 h bs) (hN : bs.length ≤ 1000) (K : sg_R w mi d mc ms Q (pc + 1) lv (sg_i (bs.length : Int) :: st) h k n) : sg_R w mi d mc ms Q pc lv (sg_r h0.1 :: st) h k n :=
  sg_alenN (N := bs.length) hd t.2.2 (by decide) (by simp) (by omega) K
theorem md_gst {z x : Int} (hd : decode mi.2.1 pc = .ok (.bastore, 1)) (t : md_G h0 h bs) (hv : x = 0 ∨ x = 1) (g0 : 0 ≤ z) (g1 : z.toNat < bs.length) (K : ∀ h' : sg_H, md_G h0 h' (bs.set z.toNat x) → sg_R w mi d mc ms Q (pc + 1) lv st h' k n) : sg_R w mi d mc ms Q pc lv (sg_i x :: sg_i z :: sg_r h0.1 :: st) h k n := by
  obtain ⟨t1, t2, t3⟩ := t
  refine sg_zast hd t3 hv g0 (by rw [List.length_map]; exact g1) (K (h.1, sg_up h.2 h0.1 (101, (bs.map sg_i).set z.toNat (sg_i x))) ⟨t1, fun q hq => (sg_up_n hq).trans (t2 q hq), ?_⟩)
  rw [show ((h.1, sg_up h.2 h0.1 (101, (bs.map sg_i).set z.toNat (sg_i x))) : sg_H).2 h0.1 = _ from sg_up_s, List.map_set]
theorem md_zpl {z : Int} (hd : decode mi.2.1 pc = .ok (.baload, 1)) (ha : md_ZP h a L P) (h0 : 0 ≤ z) (h1 : z < (L.length : Int)) (K : ∀ x : Int, (x ≠ 0 ↔ P (L.getD z.toNat 0) = true) → sg_R w mi d mc ms Q (pc + 1) lv (sg_i x :: st) h k n) : sg_R w mi d mc ms Q pc lv (sg_i z :: sg_r a :: st) h k n := by
  obtain ⟨g1, bs, h2, h4, h5⟩ := ha
  have hl : z.toNat < bs.length := by omega
  refine sg_zald hd h4 rfl h0 (ck_at hl) (K _ ?_)
  have := h5 z.toNat (by omega)
  rw [gd_in hl] at this
  exact this
end
theorem md_Wt {w : sg_W} {h0 h1 h2 : sg_H} {M : Nat} (y : md_Y w h0 h1 M) (z : md_W w h1 h2 M) : md_W w h0 h2 M := ⟨z.1, md_Pt y.2.1 z.2⟩
theorem md_XP {c : Nat} {h0 h : sg_H} {a : Nat} {L : List Int} (x : md_X c h0 a L) (p : md_P h0 h) : md_X c h a L := ⟨Nat.lt_of_lt_of_le x.1 p.1, x.2.1, p.2 a x.1 _ x.2.2 rfl⟩
theorem fn_lob {s : Int} (h : 0 ≤ s ∧ s ≤ 255) : 0 ≤ fn_lower s ∧ fn_lower s ≤ 255 := by
  unfold fn_lower fn_great
  (repeat' split) <;> omega
theorem fo_part {L : List Int} {f : Int} {m e : Nat} (hf : f = 0) (he : m = e) : (L.drop f.toNat).take m = L.take e := by
  subst hf he
  rfl
set_option maxRecDepth 100000 in
set_option maxHeartbeats 400000 in
theorem f_X7_drop {w : sg_W} {Q : sg_O → sg_H → Prop} {h : sg_H} (g : sg_G w) {d : Nat} (hd : 9 ≤ d) {M : Nat} {row many : Int} {A : fa_A} {L : List Int} (hA : md_ab h M = A) (hL : fa_L A row.toNat = L) (ok : fa_ok A) (hx : md_M w h M) (hQ : ∀ (v : Int) (h' : sg_H), ((row < 0 ∨ 4 ≤ row) → md_t h' M = 1) → (¬ (row < 0 ∨ 4 ≤ row) → (many < 0 ∨ (L.length : Int) < many) → md_t h' M = 2) → (¬ (row < 0 ∨ 4 ≤ row) → ¬ (many < 0 ∨ (L.length : Int) < many) → md_t h' M = 0) → (md_t h' M = 0 → v = (L.length : Int) - many ∧ md_ab h' M = fa_put A row.toNat (L.take (L.length - many.toNat))) → (md_t h' M ≠ 0 → md_ab h' M = A) → md_W w h h' M → Q (.inl (some (sg_i v))) h') : sg_C w mi_X7_drop d 3 56 [sg_r M, sg_i row, sg_i many] h Q := by
  refine sg_of pn_X7 (Nat.le_of_ble_eq_true rfl) ?_
  have y0 := md_Y0 hx
  have hk := hx.2.1
  refine sg_aload_n (pc := 0) (j := 0) (dc_X7_drop_0.1.1.1.1) rfl rfl ?_
  refine sg_iload_n (pc := 1) (j := 1) (dc_X7_drop_0.1.1.1.2) rfl rfl ?_
  refine sg_cS1 (pc := 2) (d' := d - 1) (mc' := 0) (ms' := 0) g (dc_X7_drop_0.1.1.2.1) cb_X7_isNoRow ml_X7_68 ms_X7_isNoRow (Nat.le_of_ble_eq_true rfl) (by first | exact jl_d0 hd rfl | omega) (by first | exact Nat.le_of_ble_eq_true rfl | omega) (by first | exact Nat.le_of_ble_eq_true rfl | omega) ?_
  refine s_X7_isNoRow g (by first | exact jl_d1 hd rfl | omega) (fun z2 h2 b2 => sg_K1 ?_)
  (try simp only [fm_no, fm_one, fn_betw, fn_sign, fn_radix, fn_high, fn_low, if_true, if_false] at h2)
  refine sg_iconst (pc := 5) (z := 1) (dc_X7_drop_0.1.1.2.2) (by decide) ?_
  refine sg_cE2 (pc := 6) (d' := d - 1) (mc' := 0) (ms' := 0) 8 g (dc_X7_drop_0.1.2.1.1) cb_X7_start ml_X7_71 mn_X7_start rfl mv_X7_start (Nat.le_of_ble_eq_true rfl) (md_oc (by assumption)) (Nat.le_of_ble_eq_true rfl) (by first | exact jl_d0 hd rfl | omega) (by first | exact Nat.le_of_ble_eq_true rfl | omega) (by first | exact Nat.le_of_ble_eq_true rfl | omega) ?_
  refine s_X7_start g (by first | exact jl_d1 hd rfl | omega) (by omega) (by assumption) (fun v6 h6 b6 i6 t6 s6 u6 y6 => sg_K1 ?_)
  have x6 := y6.1
  have hk6 := x6.2.1
  have y6 := md_Yt (h0 := h) (by assumption) y6
  refine sg_if_ne (pc := 9) (tgt := 40) (dc_X7_drop_0.1.2.1.2) (by decide) (fun c9 => ?_) (fun c9 => ?_)
  · refine sg_iconst (pc := 40) (z := 0) (dc_X7_drop_28.1.2.2.1) (by decide) ?_
    refine sg_goto (pc := 41) (tgt := 68) (dc_X7_drop_28.1.2.2.2) (by decide) ?_
    refine sg_iret (pc := 68) (dc_X7_drop_54.2.1.1.1) rfl (by first | exact Nat.le_of_ble_eq_true rfl | omega) (by first | exact Nat.le_of_ble_eq_true rfl | omega) ?_
    exact hQ _ _ (by omega) (by omega) (by omega) (fun q => absurd q (by omega)) (fun _ => md_Ya (by assumption) hA) (md_YW (by assumption))
  · refine sg_aload_n (pc := 12) (j := 0) (dc_X7_drop_0.1.2.2.1) rfl rfl ?_
    refine sg_iload_n (pc := 13) (j := 2) (dc_X7_drop_0.1.2.2.2) rfl rfl ?_
    refine sg_iconst (pc := 14) (z := 0) (dc_X7_drop_0.2.1.1.1) (by decide) ?_
    refine sg_aload_n (pc := 15) (j := 0) (dc_X7_drop_0.2.1.1.2) rfl rfl ?_
    refine md_grw (pc := 16) g (dc_X7_drop_0.2.1.2.1) fk_X7_9 (by assumption) (fun r16 => ?_)
    refine sg_iload_n (pc := 19) (j := 1) (dc_X7_drop_0.2.1.2.2) rfl rfl ?_
    first | refine md_alX (pc := 20) (dc_X7_drop_0.2.2.1.1) hA (by assumption) (by assumption) (by omega) (by omega) (fun X20 l20 => ?_) | refine md_alXt (pc := 20) (dc_X7_drop_0.2.2.1.1) hA (by assumption) (by assumption) (by omega) (by omega) (fun X20 l20 => ?_)
    refine md_xlen (pc := 21) (dc_X7_drop_0.2.2.1.2) (by assumption) (by omega) ?_
    refine sg_cS3 (pc := 22) (d' := d - 1) (mc' := 0) (ms' := 0) g (dc_X7_drop_0.2.2.2.1) cb_X7_isOf ml_X7_22 ms_X7_isOf (Nat.le_of_ble_eq_true rfl) (by first | exact jl_d0 hd rfl | omega) (by first | exact Nat.le_of_ble_eq_true rfl | omega) (by first | exact Nat.le_of_ble_eq_true rfl | omega) ?_
    refine s_X7_isOf g (by first | exact jl_d1 hd rfl | omega) (fun z22 h22 b22 => sg_K1 ?_)
    (try simp only [fm_no, fm_one, fn_betw, fn_sign, fn_radix, fn_high, fn_low, if_true, if_false] at h22)
    refine sg_if_ne (pc := 25) (tgt := 32) (dc_X7_drop_0.2.2.2.2) (by decide) (fun c25 => ?_) (fun c25 => ?_)
    · refine sg_iconst (pc := 32) (z := 0) (dc_X7_drop_28.1.1.2.1) (by decide) ?_
      refine sg_iconst (pc := 33) (z := 2) (dc_X7_drop_28.1.1.2.2) (by decide) ?_
      refine sg_cE2 (pc := 34) (d' := d - 1) (mc' := 0) (ms' := 0) 8 g (dc_X7_drop_28.1.2.1.1) cb_X7_refuse ml_X7_45 mn_X7_refuse rfl mv_X7_refuse (Nat.le_of_ble_eq_true rfl) (md_oc (by assumption)) (Nat.le_of_ble_eq_true rfl) (by first | exact jl_d0 hd rfl | omega) (by first | exact Nat.le_of_ble_eq_true rfl | omega) (by first | exact Nat.le_of_ble_eq_true rfl | omega) ?_
      refine s_X7_refuse g (by first | exact jl_d1 hd rfl | omega) (by omega) (by assumption) (fun v34 h34 b34 i34 t34 s34 u34 y34 => sg_K1 ?_)
      have x34 := y34.1
      have hk34 := x34.2.1
      have y34 := md_Yt (h0 := h) (by assumption) y34
      refine sg_if_eq (pc := 37) (tgt := 44) (dc_X7_drop_28.1.2.1.2) (by decide) (fun c37 => ?_) (fun c37 => absurd c37 (by omega))
      refine sg_aload_n (pc := 44) (j := 0) (dc_X7_drop_28.2.1.1.1) rfl rfl ?_
      refine sg_iload_n (pc := 45) (j := 1) (dc_X7_drop_28.2.1.1.2) rfl rfl ?_
      refine sg_aload_n (pc := 46) (j := 0) (dc_X7_drop_28.2.1.2.1) rfl rfl ?_
      refine md_grw (pc := 47) g (dc_X7_drop_28.2.1.2.2) fk_X7_9 (by assumption) (fun r47 => ?_)
      refine sg_iload_n (pc := 50) (j := 1) (dc_X7_drop_28.2.2.1.1) rfl rfl ?_
      first | refine md_alX (pc := 51) (dc_X7_drop_28.2.2.1.2) hA (by assumption) (by assumption) (by omega) (by omega) (fun X51 l51 => ?_) | refine md_alXt (pc := 51) (dc_X7_drop_28.2.2.1.2) hA (by assumption) (by assumption) (by omega) (by omega) (fun X51 l51 => ?_)
      refine sg_iconst (pc := 52) (z := 0) (dc_X7_drop_28.2.2.2.1) (by decide) ?_
      refine sg_aload_n (pc := 53) (j := 0) (dc_X7_drop_28.2.2.2.2) rfl rfl ?_
      refine md_grw (pc := 54) g (dc_X7_drop_54.1.1.1.1) fk_X7_9 (by assumption) (fun r54 => ?_)
      refine sg_iload_n (pc := 57) (j := 1) (dc_X7_drop_54.1.1.1.2) rfl rfl ?_
      first | refine md_alX (pc := 58) (dc_X7_drop_54.1.1.2.1) hA (by assumption) (by assumption) (by omega) (by omega) (fun X58 l58 => ?_) | refine md_alXt (pc := 58) (dc_X7_drop_54.1.1.2.1) hA (by assumption) (by assumption) (by omega) (by omega) (fun X58 l58 => ?_)
      refine md_xlen (pc := 59) (dc_X7_drop_54.1.1.2.2) (by assumption) (by omega) ?_
      refine sg_iload_n (pc := 60) (j := 2) (dc_X7_drop_54.1.2.1.1) rfl rfl ?_
      first | refine sg_isubB (pc := 61) (dc_X7_drop_54.1.2.1.2) (by omega) (by omega) ?_ | refine sg_isub (pc := 61) (dc_X7_drop_54.1.2.1.2) ?_
      refine sg_cS3 (pc := 62) (d' := d - 1) (mc' := 1) (ms' := ((L.length : Int) - many).toNat) g (dc_X7_drop_54.1.2.2.1) cb_X7_part ml_X7_82 ms_X7_part (Nat.le_of_ble_eq_true rfl) (by first | exact jl_d0 hd rfl | omega) (by first | exact Nat.le_of_ble_eq_true rfl | omega) (by first | exact Nat.le_of_ble_eq_true rfl | omega) ?_
      refine f_X7_part (c := 0) (m := ((L.length : Int) - many).toNat) g (by first | exact jl_d1 hd rfl | omega) (by assumption) (by omega) (by omega) (by omega) (by omega) (fun h62 t62 => sg_K1 ?_)
      rw [show (L.drop _).take _ = L.take (L.length - many.toNat) from fo_part rfl (show ((L.length : Int) - many).toNat = L.length - many.toNat by omega)] at t62
      have x62 : md_M w h62 M := md_ME (by assumption) (md_FE t62)
      have th62 := md_tE (w := w) (M := M) (by assumption) (md_FE t62)
      have hk62 := x62.2.1
      have y62 : md_Y w h h62 M := md_YE (by assumption) (md_FE t62)
      refine sg_cE2 (pc := 65) (d' := d - 1) (mc' := 2) (ms' := 16) 8 g (dc_X7_drop_54.1.2.2.2) cb_X7_set ml_X7_78 mn_X7_set rfl mv_X7_set (Nat.le_of_ble_eq_true rfl) (md_oc (by assumption)) (Nat.le_of_ble_eq_true rfl) (by first | exact jl_d0 hd rfl | omega) (by first | exact Nat.le_of_ble_eq_true rfl | omega) (by first | exact Nat.le_of_ble_eq_true rfl | omega) ?_
      refine s_X7_set g (by first | exact jl_d1 hd rfl | omega) (by omega) (by assumption) (fun q => ⟨md_XA (md_FX t62), by first | omega | (simp only [List.length_take, List.length_reverse, List.length_map, List.length_append, tt_len]; omega)⟩) (fun q => absurd q (by omega)) (fun h65 y65 t65 ab65 => sg_K1 ?_)
      rw [md_Ya y62 hA, md_xl (md_FX t62)] at ab65
      have x65 := y65.1
      have hk65 := x65.2.1
      have z65 : md_W w h h65 M := md_Wt y62 y65
      refine sg_iret (pc := 68) (dc_X7_drop_54.2.1.1.1) rfl (by first | exact Nat.le_of_ble_eq_true rfl | omega) (by first | exact Nat.le_of_ble_eq_true rfl | omega) ?_
      exact hQ _ _ (by omega) (by omega) (by omega) (fun _ => ⟨by rw [List.length_take]; omega, ab65⟩) (fun q => absurd (by omega) q) z65
    · refine sg_iconst (pc := 28) (z := 1) (dc_X7_drop_28.1.1.1.1) (by decide) ?_
      refine sg_goto (pc := 29) (tgt := 33) (dc_X7_drop_28.1.1.1.2) (by decide) ?_
      refine sg_iconst (pc := 33) (z := 2) (dc_X7_drop_28.1.1.2.2) (by decide) ?_
      refine sg_cE2 (pc := 34) (d' := d - 1) (mc' := 0) (ms' := 0) 8 g (dc_X7_drop_28.1.2.1.1) cb_X7_refuse ml_X7_45 mn_X7_refuse rfl mv_X7_refuse (Nat.le_of_ble_eq_true rfl) (md_oc (by assumption)) (Nat.le_of_ble_eq_true rfl) (by first | exact jl_d0 hd rfl | omega) (by first | exact Nat.le_of_ble_eq_true rfl | omega) (by first | exact Nat.le_of_ble_eq_true rfl | omega) ?_
      refine s_X7_refuse g (by first | exact jl_d1 hd rfl | omega) (by omega) (by assumption) (fun v34 h34 b34 i34 t34 s34 u34 y34 => sg_K1 ?_)
      have x34 := y34.1
      have hk34 := x34.2.1
      have y34 := md_Yt (h0 := h) (by assumption) y34
      refine sg_if_eq (pc := 37) (tgt := 44) (dc_X7_drop_28.1.2.1.2) (by decide) (fun c37 => absurd c37 (by omega)) (fun c37 => ?_)
      refine sg_iconst (pc := 40) (z := 0) (dc_X7_drop_28.1.2.2.1) (by decide) ?_
      refine sg_goto (pc := 41) (tgt := 68) (dc_X7_drop_28.1.2.2.2) (by decide) ?_
      refine sg_iret (pc := 68) (dc_X7_drop_54.2.1.1.1) rfl (by first | exact Nat.le_of_ble_eq_true rfl | omega) (by first | exact Nat.le_of_ble_eq_true rfl | omega) ?_
      exact hQ _ _ (by omega) (by omega) (by omega) (fun q => absurd q (by omega)) (fun _ => md_Ya (by assumption) hA) (md_YW (by assumption))

set_option maxRecDepth 100000 in
set_option maxHeartbeats 400000 in
theorem f_X7_cut {w : sg_W} {Q : sg_O → sg_H → Prop} {h : sg_H} (g : sg_G w) {d : Nat} (hd : 9 ≤ d) {M : Nat} {trk many : Int} {A : fa_A} {L : List Int} (hA : md_ab h M = A) (hL : fa_L A (4 + trk.toNat) = L) (ok : fa_ok A) (hx : md_M w h M) (hQ : ∀ (v : Int) (h' : sg_H), ((trk < 0 ∨ 2 ≤ trk) → md_t h' M = 1) → (¬ (trk < 0 ∨ 2 ≤ trk) → (many < 0 ∨ (L.length : Int) < many) → md_t h' M = 2) → (¬ (trk < 0 ∨ 2 ≤ trk) → ¬ (many < 0 ∨ (L.length : Int) < many) → md_t h' M = 0) → (md_t h' M = 0 → v = (L.length : Int) - many ∧ md_ab h' M = fa_put A (4 + trk.toNat) (L.take (L.length - many.toNat))) → (md_t h' M ≠ 0 → md_ab h' M = A) → md_W w h h' M → Q (.inl (some (sg_i v))) h') : sg_C w mi_X7_cut d 3 56 [sg_r M, sg_i trk, sg_i many] h Q := by
  refine sg_of pn_X7 (Nat.le_of_ble_eq_true rfl) ?_
  have y0 := md_Y0 hx
  have hk := hx.2.1
  refine sg_aload_n (pc := 0) (j := 0) (dc_X7_cut_0.1.1.1.1) rfl rfl ?_
  refine sg_iload_n (pc := 1) (j := 1) (dc_X7_cut_0.1.1.1.2) rfl rfl ?_
  refine sg_cS1 (pc := 2) (d' := d - 1) (mc' := 0) (ms' := 0) g (dc_X7_cut_0.1.1.2.1) cb_X7_isNoTrack ml_X7_129 ms_X7_isNoTrack (Nat.le_of_ble_eq_true rfl) (by first | exact jl_d0 hd rfl | omega) (by first | exact Nat.le_of_ble_eq_true rfl | omega) (by first | exact Nat.le_of_ble_eq_true rfl | omega) ?_
  refine s_X7_isNoTrack g (by first | exact jl_d1 hd rfl | omega) (fun z2 h2 b2 => sg_K1 ?_)
  (try simp only [fm_no, fm_one, fn_betw, fn_sign, fn_radix, fn_high, fn_low, if_true, if_false] at h2)
  refine sg_iconst (pc := 5) (z := 1) (dc_X7_cut_0.1.1.2.2) (by decide) ?_
  refine sg_cE2 (pc := 6) (d' := d - 1) (mc' := 0) (ms' := 0) 8 g (dc_X7_cut_0.1.2.1.1) cb_X7_start ml_X7_71 mn_X7_start rfl mv_X7_start (Nat.le_of_ble_eq_true rfl) (md_oc (by assumption)) (Nat.le_of_ble_eq_true rfl) (by first | exact jl_d0 hd rfl | omega) (by first | exact Nat.le_of_ble_eq_true rfl | omega) (by first | exact Nat.le_of_ble_eq_true rfl | omega) ?_
  refine s_X7_start g (by first | exact jl_d1 hd rfl | omega) (by omega) (by assumption) (fun v6 h6 b6 i6 t6 s6 u6 y6 => sg_K1 ?_)
  have x6 := y6.1
  have hk6 := x6.2.1
  have y6 := md_Yt (h0 := h) (by assumption) y6
  refine sg_if_ne (pc := 9) (tgt := 42) (dc_X7_cut_0.1.2.1.2) (by decide) (fun c9 => ?_) (fun c9 => ?_)
  · refine sg_iconst (pc := 42) (z := 0) (dc_X7_cut_24.2.1.1.1) (by decide) ?_
    refine sg_goto (pc := 43) (tgt := 76) (dc_X7_cut_24.2.1.1.2) (by decide) ?_
    refine sg_iret (pc := 76) dc_X7_cut_76 rfl (by first | exact Nat.le_of_ble_eq_true rfl | omega) (by first | exact Nat.le_of_ble_eq_true rfl | omega) ?_
    exact hQ _ _ (by omega) (by omega) (by omega) (fun q => absurd q (by omega)) (fun _ => md_Ya (by assumption) hA) (md_YW (by assumption))
  · refine sg_aload_n (pc := 12) (j := 0) (dc_X7_cut_0.1.2.2.1) rfl rfl ?_
    refine sg_iload_n (pc := 13) (j := 2) (dc_X7_cut_0.1.2.2.2) rfl rfl ?_
    refine sg_iconst (pc := 14) (z := 0) (dc_X7_cut_0.2.1.1.1) (by decide) ?_
    refine sg_aload_n (pc := 15) (j := 0) (dc_X7_cut_0.2.1.1.2) rfl rfl ?_
    refine md_grw (pc := 16) g (dc_X7_cut_0.2.1.2.1) fk_X7_9 (by assumption) (fun r16 => ?_)
    refine sg_iconst (pc := 19) (z := 4) (dc_X7_cut_0.2.1.2.2) (by decide) ?_
    refine sg_iload_n (pc := 20) (j := 1) (dc_X7_cut_0.2.2.1.1) rfl rfl ?_
    first | refine sg_iaddB (pc := 21) (dc_X7_cut_0.2.2.1.2) (by omega) (by omega) ?_ | refine sg_iadd (pc := 21) (dc_X7_cut_0.2.2.1.2) ?_
    first | refine md_alX (pc := 22) (dc_X7_cut_0.2.2.2.1) hA (by assumption) (by assumption) (by omega) (by omega) (fun X22 l22 => ?_) | refine md_alXt (pc := 22) (dc_X7_cut_0.2.2.2.1) hA (by assumption) (by assumption) (by omega) (by omega) (fun X22 l22 => ?_)
    refine md_xlen (pc := 23) (dc_X7_cut_0.2.2.2.2) (by assumption) (by omega) ?_
    refine sg_cS3 (pc := 24) (d' := d - 1) (mc' := 0) (ms' := 0) g (dc_X7_cut_24.1.1.1.1) cb_X7_isOf ml_X7_22 ms_X7_isOf (Nat.le_of_ble_eq_true rfl) (by first | exact jl_d0 hd rfl | omega) (by first | exact Nat.le_of_ble_eq_true rfl | omega) (by first | exact Nat.le_of_ble_eq_true rfl | omega) ?_
    refine s_X7_isOf g (by first | exact jl_d1 hd rfl | omega) (fun z24 h24 b24 => sg_K1 ?_)
    (try simp only [fm_no, fm_one, fn_betw, fn_sign, fn_radix, fn_high, fn_low, if_true, if_false] at h24)
    refine sg_if_ne (pc := 27) (tgt := 34) (dc_X7_cut_24.1.1.1.2) (by decide) (fun c27 => ?_) (fun c27 => ?_)
    · refine sg_iconst (pc := 34) (z := 0) (dc_X7_cut_24.1.2.1.1) (by decide) ?_
      refine sg_iconst (pc := 35) (z := 2) (dc_X7_cut_24.1.2.1.2) (by decide) ?_
      refine sg_cE2 (pc := 36) (d' := d - 1) (mc' := 0) (ms' := 0) 8 g (dc_X7_cut_24.1.2.2.1) cb_X7_refuse ml_X7_45 mn_X7_refuse rfl mv_X7_refuse (Nat.le_of_ble_eq_true rfl) (md_oc (by assumption)) (Nat.le_of_ble_eq_true rfl) (by first | exact jl_d0 hd rfl | omega) (by first | exact Nat.le_of_ble_eq_true rfl | omega) (by first | exact Nat.le_of_ble_eq_true rfl | omega) ?_
      refine s_X7_refuse g (by first | exact jl_d1 hd rfl | omega) (by omega) (by assumption) (fun v36 h36 b36 i36 t36 s36 u36 y36 => sg_K1 ?_)
      have x36 := y36.1
      have hk36 := x36.2.1
      have y36 := md_Yt (h0 := h) (by assumption) y36
      refine sg_if_eq (pc := 39) (tgt := 46) (dc_X7_cut_24.1.2.2.2) (by decide) (fun c39 => ?_) (fun c39 => absurd c39 (by omega))
      refine sg_aload_n (pc := 46) (j := 0) (dc_X7_cut_24.2.1.2.1) rfl rfl ?_
      refine sg_iconst (pc := 47) (z := 4) (dc_X7_cut_24.2.1.2.2) (by decide) ?_
      refine sg_iload_n (pc := 48) (j := 1) (dc_X7_cut_24.2.2.1.1) rfl rfl ?_
      first | refine sg_iaddB (pc := 49) (dc_X7_cut_24.2.2.1.2) (by omega) (by omega) ?_ | refine sg_iadd (pc := 49) (dc_X7_cut_24.2.2.1.2) ?_
      refine sg_aload_n (pc := 50) (j := 0) (dc_X7_cut_24.2.2.2.1) rfl rfl ?_
      refine md_grw (pc := 51) g (dc_X7_cut_24.2.2.2.2) fk_X7_9 (by assumption) (fun r51 => ?_)
      refine sg_iconst (pc := 54) (z := 4) (dc_X7_cut_54.1.1.1.1) (by decide) ?_
      refine sg_iload_n (pc := 55) (j := 1) (dc_X7_cut_54.1.1.1.2) rfl rfl ?_
      first | refine sg_iaddB (pc := 56) (dc_X7_cut_54.1.1.2.1) (by omega) (by omega) ?_ | refine sg_iadd (pc := 56) (dc_X7_cut_54.1.1.2.1) ?_
      first | refine md_alX (pc := 57) (dc_X7_cut_54.1.1.2.2) hA (by assumption) (by assumption) (by omega) (by omega) (fun X57 l57 => ?_) | refine md_alXt (pc := 57) (dc_X7_cut_54.1.1.2.2) hA (by assumption) (by assumption) (by omega) (by omega) (fun X57 l57 => ?_)
      refine sg_iconst (pc := 58) (z := 0) (dc_X7_cut_54.1.2.1.1) (by decide) ?_
      refine sg_aload_n (pc := 59) (j := 0) (dc_X7_cut_54.1.2.1.2) rfl rfl ?_
      refine md_grw (pc := 60) g (dc_X7_cut_54.1.2.2.1) fk_X7_9 (by assumption) (fun r60 => ?_)
      refine sg_iconst (pc := 63) (z := 4) (dc_X7_cut_54.1.2.2.2) (by decide) ?_
      refine sg_iload_n (pc := 64) (j := 1) (dc_X7_cut_54.2.1.1.1) rfl rfl ?_
      first | refine sg_iaddB (pc := 65) (dc_X7_cut_54.2.1.1.2) (by omega) (by omega) ?_ | refine sg_iadd (pc := 65) (dc_X7_cut_54.2.1.1.2) ?_
      first | refine md_alX (pc := 66) (dc_X7_cut_54.2.1.2.1) hA (by assumption) (by assumption) (by omega) (by omega) (fun X66 l66 => ?_) | refine md_alXt (pc := 66) (dc_X7_cut_54.2.1.2.1) hA (by assumption) (by assumption) (by omega) (by omega) (fun X66 l66 => ?_)
      refine md_xlen (pc := 67) (dc_X7_cut_54.2.1.2.2) (by assumption) (by omega) ?_
      refine sg_iload_n (pc := 68) (j := 2) (dc_X7_cut_54.2.2.1.1) rfl rfl ?_
      first | refine sg_isubB (pc := 69) (dc_X7_cut_54.2.2.1.2) (by omega) (by omega) ?_ | refine sg_isub (pc := 69) (dc_X7_cut_54.2.2.1.2) ?_
      refine sg_cS3 (pc := 70) (d' := d - 1) (mc' := 1) (ms' := ((L.length : Int) - many).toNat) g (dc_X7_cut_54.2.2.2.1) cb_X7_part ml_X7_82 ms_X7_part (Nat.le_of_ble_eq_true rfl) (by first | exact jl_d0 hd rfl | omega) (by first | exact Nat.le_of_ble_eq_true rfl | omega) (by first | exact Nat.le_of_ble_eq_true rfl | omega) ?_
      refine f_X7_part (c := 1) (m := ((L.length : Int) - many).toNat) g (by first | exact jl_d1 hd rfl | omega) (by assumption) (by omega) (by omega) (by omega) (by omega) (fun h70 t70 => sg_K1 ?_)
      rw [show (L.drop _).take _ = L.take (L.length - many.toNat) from fo_part rfl (show ((L.length : Int) - many).toNat = L.length - many.toNat by omega)] at t70
      have x70 : md_M w h70 M := md_ME (by assumption) (md_FE t70)
      have th70 := md_tE (w := w) (M := M) (by assumption) (md_FE t70)
      have hk70 := x70.2.1
      have y70 : md_Y w h h70 M := md_YE (by assumption) (md_FE t70)
      refine sg_cE2 (pc := 73) (d' := d - 1) (mc' := 2) (ms' := 16) 8 g (dc_X7_cut_54.2.2.2.2) cb_X7_set ml_X7_78 mn_X7_set rfl mv_X7_set (Nat.le_of_ble_eq_true rfl) (md_oc (by assumption)) (Nat.le_of_ble_eq_true rfl) (by first | exact jl_d0 hd rfl | omega) (by first | exact Nat.le_of_ble_eq_true rfl | omega) (by first | exact Nat.le_of_ble_eq_true rfl | omega) ?_
      refine s_X7_set g (by first | exact jl_d1 hd rfl | omega) (by omega) (by assumption) (fun q => absurd q (by omega)) (fun q => ⟨md_XA (md_FX t70), by first | omega | (simp only [List.length_take, List.length_reverse, List.length_map, List.length_append, tt_len]; omega)⟩) (fun h73 y73 t73 ab73 => sg_K1 ?_)
      rw [md_Ya y70 hA, md_xl (md_FX t70)] at ab73
      rw [show (4 + trk).toNat = 4 + trk.toNat by omega] at ab73
      have x73 := y73.1
      have hk73 := x73.2.1
      have z73 : md_W w h h73 M := md_Wt y70 y73
      refine sg_iret (pc := 76) dc_X7_cut_76 rfl (by first | exact Nat.le_of_ble_eq_true rfl | omega) (by first | exact Nat.le_of_ble_eq_true rfl | omega) ?_
      exact hQ _ _ (by omega) (by omega) (by omega) (fun _ => ⟨by rw [List.length_take]; omega, ab73⟩) (fun q => absurd (by omega) q) z73
    · refine sg_iconst (pc := 30) (z := 1) (dc_X7_cut_24.1.1.2.1) (by decide) ?_
      refine sg_goto (pc := 31) (tgt := 35) (dc_X7_cut_24.1.1.2.2) (by decide) ?_
      refine sg_iconst (pc := 35) (z := 2) (dc_X7_cut_24.1.2.1.2) (by decide) ?_
      refine sg_cE2 (pc := 36) (d' := d - 1) (mc' := 0) (ms' := 0) 8 g (dc_X7_cut_24.1.2.2.1) cb_X7_refuse ml_X7_45 mn_X7_refuse rfl mv_X7_refuse (Nat.le_of_ble_eq_true rfl) (md_oc (by assumption)) (Nat.le_of_ble_eq_true rfl) (by first | exact jl_d0 hd rfl | omega) (by first | exact Nat.le_of_ble_eq_true rfl | omega) (by first | exact Nat.le_of_ble_eq_true rfl | omega) ?_
      refine s_X7_refuse g (by first | exact jl_d1 hd rfl | omega) (by omega) (by assumption) (fun v36 h36 b36 i36 t36 s36 u36 y36 => sg_K1 ?_)
      have x36 := y36.1
      have hk36 := x36.2.1
      have y36 := md_Yt (h0 := h) (by assumption) y36
      refine sg_if_eq (pc := 39) (tgt := 46) (dc_X7_cut_24.1.2.2.2) (by decide) (fun c39 => absurd c39 (by omega)) (fun c39 => ?_)
      refine sg_iconst (pc := 42) (z := 0) (dc_X7_cut_24.2.1.1.1) (by decide) ?_
      refine sg_goto (pc := 43) (tgt := 76) (dc_X7_cut_24.2.1.1.2) (by decide) ?_
      refine sg_iret (pc := 76) dc_X7_cut_76 rfl (by first | exact Nat.le_of_ble_eq_true rfl | omega) (by first | exact Nat.le_of_ble_eq_true rfl | omega) ?_
      exact hQ _ _ (by omega) (by omega) (by omega) (fun q => absurd q (by omega)) (fun _ => md_Ya (by assumption) hA) (md_YW (by assumption))

set_option maxRecDepth 100000 in
set_option maxHeartbeats 400000 in
theorem f_X7_copy {w : sg_W} {Q : sg_O → sg_H → Prop} {h : sg_H} (g : sg_G w) {d : Nat} (hd : 9 ≤ d) {M : Nat} {fr to : Int} {A : fa_A} {L Z : List Int} (hA : md_ab h M = A) (hL : fa_L A fr.toNat = L) (hN : fa_L A to.toNat = Z) (ok : fa_ok A) (hx : md_M w h M) (hQ : ∀ (v : Int) (h' : sg_H), ((fr < 0 ∨ 4 ≤ fr ∨ to < 0 ∨ 4 ≤ to) → md_t h' M = 1) → (¬ (fr < 0 ∨ 4 ≤ fr ∨ to < 0 ∨ 4 ≤ to) → md_t h' M = 0) → (md_t h' M = 0 → v = (Z.length : Int) ∧ md_ab h' M = fa_put A to.toNat L) → (md_t h' M ≠ 0 → md_ab h' M = A) → md_W w h h' M → Q (.inl (some (sg_i v))) h') : sg_C w mi_X7_copy d 2 16 [sg_r M, sg_i fr, sg_i to] h Q := by
  refine sg_of pn_X7 (Nat.le_of_ble_eq_true rfl) ?_
  have y0 := md_Y0 hx
  have hk := hx.2.1
  refine sg_aload_n (pc := 0) (j := 0) (dc_X7_copy_0.1.1.1.1) rfl rfl ?_
  refine sg_iload_n (pc := 1) (j := 1) (dc_X7_copy_0.1.1.1.2) rfl rfl ?_
  refine sg_cS1 (pc := 2) (d' := d - 1) (mc' := 0) (ms' := 0) g (dc_X7_copy_0.1.1.2.1) cb_X7_isNoRow ml_X7_68 ms_X7_isNoRow (Nat.le_of_ble_eq_true rfl) (by first | exact jl_d0 hd rfl | omega) (by first | exact Nat.le_of_ble_eq_true rfl | omega) (by first | exact Nat.le_of_ble_eq_true rfl | omega) ?_
  refine s_X7_isNoRow g (by first | exact jl_d1 hd rfl | omega) (fun z2 h2 b2 => sg_K1 ?_)
  (try simp only [fm_no, fm_one, fn_betw, fn_sign, fn_radix, fn_high, fn_low, if_true, if_false] at h2)
  refine sg_if_ne (pc := 5) (tgt := 15) (dc_X7_copy_0.1.1.2.2) (by decide) (fun c5 => ?_) (fun c5 => ?_)
  · refine sg_iconst (pc := 15) (z := 1) (dc_X7_copy_0.1.2.2.2) (by decide) ?_
    refine sg_goto (pc := 16) (tgt := 20) (dc_X7_copy_0.2.1.1.1) (by decide) ?_
    refine sg_iconst (pc := 20) (z := 1) (dc_X7_copy_0.2.1.2.1) (by decide) ?_
    refine sg_cE2 (pc := 21) (d' := d - 1) (mc' := 0) (ms' := 0) 8 g (dc_X7_copy_0.2.1.2.2) cb_X7_start ml_X7_71 mn_X7_start rfl mv_X7_start (Nat.le_of_ble_eq_true rfl) (md_oc (by assumption)) (Nat.le_of_ble_eq_true rfl) (by first | exact jl_d0 hd rfl | omega) (by first | exact Nat.le_of_ble_eq_true rfl | omega) (by first | exact Nat.le_of_ble_eq_true rfl | omega) ?_
    refine s_X7_start g (by first | exact jl_d1 hd rfl | omega) (by omega) (by assumption) (fun v21 h21 b21 i21 t21 s21 u21 y21 => sg_K1 ?_)
    have x21 := y21.1
    have hk21 := x21.2.1
    have y21 := md_Yt (h0 := h) (by assumption) y21
    refine sg_if_eq (pc := 24) (tgt := 29) (dc_X7_copy_0.2.2.1.1) (by decide) (fun c24 => absurd c24 (by omega)) (fun c24 => ?_)
    refine sg_iconst (pc := 27) (z := 0) (dc_X7_copy_0.2.2.1.2) (by decide) ?_
    refine sg_iret (pc := 28) (dc_X7_copy_0.2.2.2.1) rfl (by first | exact Nat.le_of_ble_eq_true rfl | omega) (by first | exact Nat.le_of_ble_eq_true rfl | omega) ?_
    exact hQ _ _ (by omega) (by omega) (fun q => absurd q (by omega)) (fun _ => md_Ya (by assumption) hA) (md_YW (by assumption))
  · refine sg_iload_n (pc := 8) (j := 2) (dc_X7_copy_0.1.2.1.1) rfl rfl ?_
    refine sg_cS1 (pc := 9) (d' := d - 1) (mc' := 0) (ms' := 0) g (dc_X7_copy_0.1.2.1.2) cb_X7_isNoRow ml_X7_68 ms_X7_isNoRow (Nat.le_of_ble_eq_true rfl) (by first | exact jl_d0 hd rfl | omega) (by first | exact Nat.le_of_ble_eq_true rfl | omega) (by first | exact Nat.le_of_ble_eq_true rfl | omega) ?_
    refine s_X7_isNoRow g (by first | exact jl_d1 hd rfl | omega) (fun z9 h9 b9 => sg_K1 ?_)
    (try simp only [fm_no, fm_one, fn_betw, fn_sign, fn_radix, fn_high, fn_low, if_true, if_false] at h9)
    refine sg_if_eq (pc := 12) (tgt := 19) (dc_X7_copy_0.1.2.2.1) (by decide) (fun c12 => ?_) (fun c12 => ?_)
    · refine sg_iconst (pc := 19) (z := 0) (dc_X7_copy_0.2.1.1.2) (by decide) ?_
      refine sg_iconst (pc := 20) (z := 1) (dc_X7_copy_0.2.1.2.1) (by decide) ?_
      refine sg_cE2 (pc := 21) (d' := d - 1) (mc' := 0) (ms' := 0) 8 g (dc_X7_copy_0.2.1.2.2) cb_X7_start ml_X7_71 mn_X7_start rfl mv_X7_start (Nat.le_of_ble_eq_true rfl) (md_oc (by assumption)) (Nat.le_of_ble_eq_true rfl) (by first | exact jl_d0 hd rfl | omega) (by first | exact Nat.le_of_ble_eq_true rfl | omega) (by first | exact Nat.le_of_ble_eq_true rfl | omega) ?_
      refine s_X7_start g (by first | exact jl_d1 hd rfl | omega) (by omega) (by assumption) (fun v21 h21 b21 i21 t21 s21 u21 y21 => sg_K1 ?_)
      have x21 := y21.1
      have hk21 := x21.2.1
      have y21 := md_Yt (h0 := h) (by assumption) y21
      refine sg_if_eq (pc := 24) (tgt := 29) (dc_X7_copy_0.2.2.1.1) (by decide) (fun c24 => ?_) (fun c24 => absurd c24 (by omega))
      refine sg_aload_n (pc := 29) (j := 0) (dc_X7_copy_0.2.2.2.2) rfl rfl ?_
      refine md_grw (pc := 30) g (dc_X7_copy_30.1.1.1.1) fk_X7_9 (by assumption) (fun r30 => ?_)
      refine sg_iload_n (pc := 33) (j := 2) (dc_X7_copy_30.1.1.1.2) rfl rfl ?_
      first | refine md_alX (pc := 34) (dc_X7_copy_30.1.1.2.1) hA (by assumption) (by assumption) (by omega) (by omega) (fun X34 l34 => ?_) | refine md_alXt (pc := 34) (dc_X7_copy_30.1.1.2.1) hA (by assumption) (by assumption) (by omega) (by omega) (fun X34 l34 => ?_)
      refine md_xlen (pc := 35) (dc_X7_copy_30.1.1.2.2) (by assumption) (by omega) ?_
      refine sg_istore_n (pc := 36) (j := 3) (dc_X7_copy_30.1.2.1.1) rfl (by decide) ?_
      refine sg_aload_n (pc := 37) (j := 0) (dc_X7_copy_30.1.2.1.2) rfl rfl ?_
      refine sg_iload_n (pc := 38) (j := 2) (dc_X7_copy_30.1.2.2.1) rfl rfl ?_
      refine sg_aload_n (pc := 39) (j := 0) (dc_X7_copy_30.1.2.2.2) rfl rfl ?_
      refine md_grw (pc := 40) g (dc_X7_copy_30.2.1.1.1) fk_X7_9 (by assumption) (fun r40 => ?_)
      refine sg_iload_n (pc := 43) (j := 1) (dc_X7_copy_30.2.1.1.2) rfl rfl ?_
      first | refine md_alX (pc := 44) (dc_X7_copy_30.2.1.2.1) hA (by assumption) (by assumption) (by omega) (by omega) (fun X44 l44 => ?_) | refine md_alXt (pc := 44) (dc_X7_copy_30.2.1.2.1) hA (by assumption) (by assumption) (by omega) (by omega) (fun X44 l44 => ?_)
      refine sg_cE2 (pc := 45) (d' := d - 1) (mc' := 2) (ms' := 16) 8 g (dc_X7_copy_30.2.1.2.2) cb_X7_set ml_X7_78 mn_X7_set rfl mv_X7_set (Nat.le_of_ble_eq_true rfl) (md_oc (by assumption)) (Nat.le_of_ble_eq_true rfl) (by first | exact jl_d0 hd rfl | omega) (by first | exact Nat.le_of_ble_eq_true rfl | omega) (by first | exact Nat.le_of_ble_eq_true rfl | omega) ?_
      refine s_X7_set g (by first | exact jl_d1 hd rfl | omega) (by omega) (by assumption) (fun q => ⟨md_XA X44, by first | omega | (simp only [List.length_take, List.length_reverse, List.length_map, List.length_append, tt_len]; omega)⟩) (fun q => absurd q (by omega)) (fun h45 y45 t45 ab45 => sg_K1 ?_)
      rw [md_Ya y21 hA, md_xl X44] at ab45
      have x45 := y45.1
      have hk45 := x45.2.1
      have z45 : md_W w h h45 M := md_Wt y21 y45
      refine sg_pop (pc := 48) (dc_X7_copy_30.2.2.1.1) rfl ?_
      refine sg_iload_n (pc := 49) (j := 3) (dc_X7_copy_30.2.2.1.2) rfl rfl ?_
      refine sg_iret (pc := 50) (dc_X7_copy_30.2.2.2.1) rfl (by first | exact Nat.le_of_ble_eq_true rfl | omega) (by first | exact Nat.le_of_ble_eq_true rfl | omega) ?_
      exact hQ _ _ (by omega) (by omega) (fun _ => ⟨rfl, ab45⟩) (fun q => absurd (by omega) q) z45
    · refine sg_iconst (pc := 15) (z := 1) (dc_X7_copy_0.1.2.2.2) (by decide) ?_
      refine sg_goto (pc := 16) (tgt := 20) (dc_X7_copy_0.2.1.1.1) (by decide) ?_
      refine sg_iconst (pc := 20) (z := 1) (dc_X7_copy_0.2.1.2.1) (by decide) ?_
      refine sg_cE2 (pc := 21) (d' := d - 1) (mc' := 0) (ms' := 0) 8 g (dc_X7_copy_0.2.1.2.2) cb_X7_start ml_X7_71 mn_X7_start rfl mv_X7_start (Nat.le_of_ble_eq_true rfl) (md_oc (by assumption)) (Nat.le_of_ble_eq_true rfl) (by first | exact jl_d0 hd rfl | omega) (by first | exact Nat.le_of_ble_eq_true rfl | omega) (by first | exact Nat.le_of_ble_eq_true rfl | omega) ?_
      refine s_X7_start g (by first | exact jl_d1 hd rfl | omega) (by omega) (by assumption) (fun v21 h21 b21 i21 t21 s21 u21 y21 => sg_K1 ?_)
      have x21 := y21.1
      have hk21 := x21.2.1
      have y21 := md_Yt (h0 := h) (by assumption) y21
      refine sg_if_eq (pc := 24) (tgt := 29) (dc_X7_copy_0.2.2.1.1) (by decide) (fun c24 => absurd c24 (by omega)) (fun c24 => ?_)
      refine sg_iconst (pc := 27) (z := 0) (dc_X7_copy_0.2.2.1.2) (by decide) ?_
      refine sg_iret (pc := 28) (dc_X7_copy_0.2.2.2.1) rfl (by first | exact Nat.le_of_ble_eq_true rfl | omega) (by first | exact Nat.le_of_ble_eq_true rfl | omega) ?_
      exact hQ _ _ (by omega) (by omega) (fun q => absurd q (by omega)) (fun _ => md_Ya (by assumption) hA) (md_YW (by assumption))

set_option maxRecDepth 100000 in
set_option maxHeartbeats 400000 in
theorem f_X7_cased {w : sg_W} {Q : sg_O → sg_H → Prop} {h : sg_H} (g : sg_G w) {d : Nat} (hd : 7 ≤ d) {M : Nat} {row up : Int} (hv : 0 ≤ row ∧ row < 4) {A : fa_A} {L : List Int} (hA : md_ab h M = A) (hL : fa_L A row.toNat = L) (ok : fa_ok A) {F : Int → Int} (hFu : up ≠ 0 → F = rz) (hFl : up = 0 → F = fn_lower) (hx : md_M w h M) (hQ : ∀ (v : Int) (h' : sg_H), v = fs_diff F L L.length → md_t h' M = md_t h M → md_ab h' M = fa_put A row.toNat (L.map F) → md_W w h h' M → Q (.inl (some (sg_i v))) h') : sg_C w mi_X7_cased d 3 56 [sg_r M, sg_i row, sg_i up] h Q := by
  refine sg_of pn_X7 (Nat.le_of_ble_eq_true rfl) ?_
  have y0 := md_Y0 hx
  have hk := hx.2.1
  obtain ⟨S, eS⟩ : ∃ S, S = L.map F := ⟨_, rfl⟩
  have lS : S.length = L.length := by rw [eS, List.length_map]
  have r4 := fa_row ok (i := row.toNat) (by omega)
  rw [hL] at r4
  have gS : ∀ p : Int, 0 ≤ p → p < (L.length : Int) → S.getD p.toNat 0 = F (L.getD p.toNat 0) := fun p p0 p1 => by rw [eS]; exact gd_map (by omega)
  refine sg_aload_n (pc := 0) (j := 0) (dc_X7_cased_0.1.1.1.1) rfl rfl ?_
  refine md_grw (pc := 1) g (dc_X7_cased_0.1.1.1.2) fk_X7_9 (by assumption) (fun r1 => ?_)
  refine sg_iload_n (pc := 4) (j := 1) (dc_X7_cased_0.1.1.2.1) rfl rfl ?_
  first | refine md_alX (pc := 5) (dc_X7_cased_0.1.1.2.2) hA (by assumption) (by assumption) (by omega) (by omega) (fun X5 l5 => ?_) | refine md_alXt (pc := 5) (dc_X7_cased_0.1.1.2.2) hA (by assumption) (by assumption) (by omega) (by omega) (fun X5 l5 => ?_)
  refine md_xlen (pc := 6) (dc_X7_cased_0.1.2.1.1) (by assumption) (by omega) ?_
  refine sg_newa (t := 100) (N := L.length) (pc := 7) g (dc_X7_cased_0.1.2.1.2) ac_int rfl (by decide) (by decide) rfl rfl (by decide) (by omega) (by omega) (by omega) (by omega) ?_
  refine sg_astore_n (pc := 9) (j := 3) (dc_X7_cased_0.1.2.2.1) rfl (by decide) ?_
  refine sg_iconst (pc := 10) (z := 0) (dc_X7_cased_0.1.2.2.2) (by decide) ?_
  refine sg_istore (pc := 11) (dc_X7_cased_0.2.1.1.1) (by decide) ?_
  refine sg_iconst (pc := 13) (z := 0) (dc_X7_cased_0.2.1.1.2) (by decide) ?_
  refine sg_istore (pc := 14) (dc_X7_cased_0.2.1.2.1) (by decide) ?_
  have loop16 : ∀ (N : Nat) (h1 : sg_H) (p s : Int), (md_F 0 h h1 (fx S p.toNat)) → (0 ≤ p ∧ p ≤ (L.length : Int)) → (s = fs_diff F L p.toNat) → ((L.length : Int) - p).toNat < N → sg_R w mi_X7_cased d 3 56 Q 16 [(5, sg_i p), (4, sg_i s), (0, sg_r M), (1, sg_i row), (2, sg_i up), (3, sg_r h.1)] [] h1 1 (0 + L.length) := by
    intro N
    induction N with
    | zero => intro h1 p s t1 p0 s0 hm; exact absurd hm (Nat.not_lt_zero _)
    | succ N ih =>
      intro h1 p s t1 p0 s0 hm
      have x1 : md_M w h1 M := md_ME hx (md_FE t1)
      have hk1 := x1.2.1
      have y1 : md_Y w h h1 M := md_YE y0 (md_FE t1)
      have th1 := md_tE (w := w) (M := M) hx (md_FE t1)
      have sb := fs_b (F := F) (L := L) (n := p.toNat)
      rw [← s0] at sb
      refine sg_iload (pc := 16) (dc_X7_cased_0.2.1.2.2) rfl ?_
      refine sg_aload_n (pc := 18) (j := 3) (dc_X7_cased_0.2.2.1.1) rfl rfl ?_
      refine md_xlen (pc := 19) (dc_X7_cased_0.2.2.1.2) (md_FX t1) (by rw [fx_len]; omega) ?_
      rw [fx_len, lS]
      refine sg_icmp_ge (pc := 20) (tgt := 100) (dc_X7_cased_0.2.2.2.1) (by decide) (fun c20 => ?_) (fun c20 => ?_)
      · have eS1 := fx_e (S := S) (k := p.toNat) (by omega)
        rw [eS1, eS] at t1
        refine sg_aload_n (pc := 100) (j := 0) (dc_X7_cased_88.1.2.1.2) rfl rfl ?_
        refine sg_iload_n (pc := 101) (j := 1) (dc_X7_cased_88.1.2.2.1) rfl rfl ?_
        refine sg_aload_n (pc := 102) (j := 3) (dc_X7_cased_88.1.2.2.2) rfl rfl ?_
        refine sg_cE2 (pc := 103) (d' := d - 1) (mc' := 2) (ms' := 16) 8 g (dc_X7_cased_88.2.1.1.1) cb_X7_set ml_X7_78 mn_X7_set rfl mv_X7_set (Nat.le_of_ble_eq_true rfl) (md_oc (by assumption)) (Nat.le_of_ble_eq_true rfl) (by first | exact jl_d0 hd rfl | omega) (by first | exact Nat.le_of_ble_eq_true rfl | omega) (by first | exact Nat.le_of_ble_eq_true rfl | omega) ?_
        refine s_X7_set g (by first | exact jl_d1 hd rfl | omega) (by omega) (by assumption) (fun q => ⟨md_XA (md_FX t1), by first | omega | (simp only [List.length_take, List.length_reverse, List.length_map, List.length_append, tt_len]; omega)⟩) (fun q => absurd q (by omega)) (fun h103 y103 t103 ab103 => sg_K1 ?_)
        rw [md_Ya y1 hA, md_xl (md_FX t1)] at ab103
        have x103 := y103.1
        have hk103 := x103.2.1
        have z103 : md_W w h h103 M := md_Wt y1 y103
        refine sg_pop (pc := 106) (dc_X7_cased_88.2.1.1.2) rfl ?_
        refine sg_iload (pc := 107) (dc_X7_cased_88.2.1.2.1) rfl ?_
        refine sg_iret (pc := 109) (dc_X7_cased_88.2.1.2.2) rfl (by first | exact Nat.le_of_ble_eq_true rfl | omega) (by first | exact Nat.le_of_ble_eq_true rfl | omega) ?_
        exact hQ _ _ (by rw [s0, show p.toNat = L.length by omega]) (t103.trans th1) ab103 z103
      · refine sg_aload_n (pc := 23) (j := 0) (dc_X7_cased_0.2.2.2.2) rfl rfl ?_
        refine md_grw (pc := 24) g (dc_X7_cased_24.1.1.1.1) fk_X7_9 (by assumption) (fun r24 => ?_)
        refine sg_iload_n (pc := 27) (j := 1) (dc_X7_cased_24.1.1.1.2) rfl rfl ?_
        first | refine md_alX (pc := 28) (dc_X7_cased_24.1.1.2.1) hA (by assumption) (by assumption) (by omega) (by omega) (fun X28 l28 => ?_) | refine md_alXt (pc := 28) (dc_X7_cased_24.1.1.2.1) hA (by assumption) (by assumption) (by omega) (by omega) (fun X28 l28 => ?_)
        refine sg_iload (pc := 29) (dc_X7_cased_24.1.1.2.2) rfl ?_
        refine md_xld (pc := 31) (dc_X7_cased_24.1.2.1.1) (by assumption) (by omega) (by omega) (fun g31 => ?_)
        refine sg_istore (pc := 32) (dc_X7_cased_24.1.2.1.2) (by decide) ?_
        refine sg_iload_n (pc := 34) (j := 2) (dc_X7_cased_24.1.2.2.1) rfl rfl ?_
        refine sg_if_eq (pc := 35) (tgt := 46) (dc_X7_cased_24.1.2.2.2) (by decide) (fun c35 => ?_) (fun c35 => ?_)
        · refine sg_iload (pc := 46) (dc_X7_cased_24.2.1.2.2) rfl ?_
          refine sg_cS1 (pc := 48) (d' := d - 1) (mc' := 0) (ms' := 0) g (dc_X7_cased_24.2.2.1.1) cb_X7_lowerOf ml_X7_89 ms_X7_lowerOf (Nat.le_of_ble_eq_true rfl) (by first | exact jl_d0 hd rfl | omega) (by first | exact Nat.le_of_ble_eq_true rfl | omega) (by first | exact Nat.le_of_ble_eq_true rfl | omega) ?_
          refine s_X7_lowerOf g (by first | exact jl_d1 hd rfl | omega) (by assumption) (fun z48 e48 => sg_K1 ?_)
          refine sg_istore (pc := 51) (dc_X7_cased_24.2.2.1.2) (by decide) ?_
          refine sg_aload_n (pc := 53) (j := 3) (dc_X7_cased_24.2.2.2.1) rfl rfl ?_
          refine sg_iload (pc := 54) (dc_X7_cased_24.2.2.2.2) rfl ?_
          refine sg_iload (pc := 56) (dc_X7_cased_56.1.1.1.1) rfl ?_
          refine sg_cS1 (pc := 58) (d' := d - 1) (mc' := 0) (ms' := 0) g (dc_X7_cased_56.1.1.1.2) cb_X7_isSign ml_X7_65 ms_X7_isSign (Nat.le_of_ble_eq_true rfl) (by first | exact jl_d0 hd rfl | omega) (by first | exact Nat.le_of_ble_eq_true rfl | omega) (by first | exact Nat.le_of_ble_eq_true rfl | omega) ?_
          refine s_X7_isSign g (by first | exact jl_d1 hd rfl | omega) (fun z58 h58 b58 => sg_K1 ?_)
          (try simp only [fm_no, fm_one, fn_betw, fn_sign, fn_radix, fn_high, fn_low, if_true, if_false] at h58)
          refine sg_if_eq (pc := 61) (tgt := 69) (dc_X7_cased_56.1.1.2.1) (by decide) (fun c61 => ?_) (fun c61 => ?_)
          · refine sg_iload (pc := 69) (dc_X7_cased_56.1.2.1.2) rfl ?_
            refine md_astF (pc := 71) (dc_X7_cased_56.1.2.2.1) t1 ck_v0 (by omega) (by rw [fx_len]; omega) (fun h71 t71 => ?_)
            have t72 : md_F 0 h h71 (fx S (p + 1).toNat) := md_Fw t71 (fx_s (by omega) (by omega) rfl (by rw [gS p (by omega) (by omega), hFl c35]; exact absurd (fn_lob (r4.2 _ (gd_mem (L := L) (j := p.toNat) (d := 0) (by omega)))) (by rw [← e48]; omega)))
            refine sg_iload (pc := 72) (dc_X7_cased_56.1.2.2.2) rfl ?_
            refine sg_aload_n (pc := 74) (j := 3) (dc_X7_cased_56.2.1.1.1) rfl rfl ?_
            refine sg_iload (pc := 75) (dc_X7_cased_56.2.1.1.2) rfl ?_
            refine md_xld (pc := 77) (dc_X7_cased_56.2.1.2.1) (md_FX t72) (by omega) (by rw [fx_len]; omega) (fun g77 => ?_)
            rw [fx_g (by omega), gS p (by omega) (by omega)]
            refine sg_iload (pc := 78) (dc_X7_cased_56.2.1.2.2) rfl ?_
            refine sg_icmp_eq (pc := 80) (tgt := 87) (dc_X7_cased_56.2.2.1.1) (by decide) (fun c80 => ?_) (fun c80 => ?_)
            · have bk := fs_d0 (F := F) (L := L) (p := p) (by omega) c80
              refine sg_iconst (pc := 87) (z := 0) (dc_X7_cased_56.2.2.2.2) (by decide) ?_
              refine sg_cS1 (pc := 88) (d' := d - 1) (mc' := 0) (ms' := 0) g (dc_X7_cased_88.1.1.1.1) cb_X7_one ml_X7_92 ms_X7_one (Nat.le_of_ble_eq_true rfl) (by first | exact jl_d0 hd rfl | omega) (by first | exact Nat.le_of_ble_eq_true rfl | omega) (by first | exact Nat.le_of_ble_eq_true rfl | omega) ?_
              refine s_X7_one g (by first | exact jl_d1 hd rfl | omega) (fun z88 h88 b88 => sg_K1 ?_)
              (try simp only [fm_no, fm_one, fn_betw, fn_sign, fn_radix, fn_high, fn_low, if_true, if_false] at h88)
              first | refine sg_iaddB (pc := 91) (dc_X7_cased_88.1.1.1.2) (by omega) (by omega) ?_ | refine sg_iadd (pc := 91) (dc_X7_cased_88.1.1.1.2) ?_
              refine sg_istore (pc := 92) (dc_X7_cased_88.1.1.2.1) (by decide) ?_
              first | refine sg_iincB (pc := 94) (dc_X7_cased_88.1.1.2.2) rfl (by decide) (by decide) (by omega) (by omega) ?_ | refine sg_iinc (pc := 94) (dc_X7_cased_88.1.1.2.2) rfl (by decide) (by decide) ?_
              refine sg_goto (pc := 97) (tgt := 16) (dc_X7_cased_88.1.2.1.1) (by decide) ?_
              refine sg_lsub (lv' := [(5, _), (4, _), (0, _), (1, _), (2, _), (3, _)]) ⟨rfl, rfl, rfl, rfl, rfl, rfl, trivial⟩ ?_
              exact ih _ _ _ t72 (by omega) (by omega) (by first | exact jl_m1 hm (by omega) | exact jl_m2 hm (by omega) | omega)
            · have bk := fs_d1 (F := F) (L := L) (p := p) (by omega) c80
              refine sg_iconst (pc := 83) (z := 1) (dc_X7_cased_56.2.2.1.2) (by decide) ?_
              refine sg_goto (pc := 84) (tgt := 88) (dc_X7_cased_56.2.2.2.1) (by decide) ?_
              refine sg_cS1 (pc := 88) (d' := d - 1) (mc' := 0) (ms' := 0) g (dc_X7_cased_88.1.1.1.1) cb_X7_one ml_X7_92 ms_X7_one (Nat.le_of_ble_eq_true rfl) (by first | exact jl_d0 hd rfl | omega) (by first | exact Nat.le_of_ble_eq_true rfl | omega) (by first | exact Nat.le_of_ble_eq_true rfl | omega) ?_
              refine s_X7_one g (by first | exact jl_d1 hd rfl | omega) (fun z88 h88 b88 => sg_K1 ?_)
              (try simp only [fm_no, fm_one, fn_betw, fn_sign, fn_radix, fn_high, fn_low, if_true, if_false] at h88)
              first | refine sg_iaddB (pc := 91) (dc_X7_cased_88.1.1.1.2) (by omega) (by omega) ?_ | refine sg_iadd (pc := 91) (dc_X7_cased_88.1.1.1.2) ?_
              refine sg_istore (pc := 92) (dc_X7_cased_88.1.1.2.1) (by decide) ?_
              first | refine sg_iincB (pc := 94) (dc_X7_cased_88.1.1.2.2) rfl (by decide) (by decide) (by omega) (by omega) ?_ | refine sg_iinc (pc := 94) (dc_X7_cased_88.1.1.2.2) rfl (by decide) (by decide) ?_
              refine sg_goto (pc := 97) (tgt := 16) (dc_X7_cased_88.1.2.1.1) (by decide) ?_
              refine sg_lsub (lv' := [(5, _), (4, _), (0, _), (1, _), (2, _), (3, _)]) ⟨rfl, rfl, rfl, rfl, rfl, rfl, trivial⟩ ?_
              exact ih _ _ _ t72 (by omega) (by omega) (by first | exact jl_m1 hm (by omega) | exact jl_m2 hm (by omega) | omega)
          · refine sg_iload (pc := 64) (dc_X7_cased_56.1.1.2.2) rfl ?_
            refine sg_goto (pc := 66) (tgt := 71) (dc_X7_cased_56.1.2.1.1) (by decide) ?_
            refine md_astF (pc := 71) (dc_X7_cased_56.1.2.2.1) t1 ck_v0 (by omega) (by rw [fx_len]; omega) (fun h71 t71 => ?_)
            have t72 : md_F 0 h h71 (fx S (p + 1).toNat) := md_Fw t71 (fx_s (by omega) (by omega) rfl (by rw [gS p (by omega) (by omega), hFl c35]; exact e48))
            refine sg_iload (pc := 72) (dc_X7_cased_56.1.2.2.2) rfl ?_
            refine sg_aload_n (pc := 74) (j := 3) (dc_X7_cased_56.2.1.1.1) rfl rfl ?_
            refine sg_iload (pc := 75) (dc_X7_cased_56.2.1.1.2) rfl ?_
            refine md_xld (pc := 77) (dc_X7_cased_56.2.1.2.1) (md_FX t72) (by omega) (by rw [fx_len]; omega) (fun g77 => ?_)
            rw [fx_g (by omega), gS p (by omega) (by omega)]
            refine sg_iload (pc := 78) (dc_X7_cased_56.2.1.2.2) rfl ?_
            refine sg_icmp_eq (pc := 80) (tgt := 87) (dc_X7_cased_56.2.2.1.1) (by decide) (fun c80 => ?_) (fun c80 => ?_)
            · have bk := fs_d0 (F := F) (L := L) (p := p) (by omega) c80
              refine sg_iconst (pc := 87) (z := 0) (dc_X7_cased_56.2.2.2.2) (by decide) ?_
              refine sg_cS1 (pc := 88) (d' := d - 1) (mc' := 0) (ms' := 0) g (dc_X7_cased_88.1.1.1.1) cb_X7_one ml_X7_92 ms_X7_one (Nat.le_of_ble_eq_true rfl) (by first | exact jl_d0 hd rfl | omega) (by first | exact Nat.le_of_ble_eq_true rfl | omega) (by first | exact Nat.le_of_ble_eq_true rfl | omega) ?_
              refine s_X7_one g (by first | exact jl_d1 hd rfl | omega) (fun z88 h88 b88 => sg_K1 ?_)
              (try simp only [fm_no, fm_one, fn_betw, fn_sign, fn_radix, fn_high, fn_low, if_true, if_false] at h88)
              first | refine sg_iaddB (pc := 91) (dc_X7_cased_88.1.1.1.2) (by omega) (by omega) ?_ | refine sg_iadd (pc := 91) (dc_X7_cased_88.1.1.1.2) ?_
              refine sg_istore (pc := 92) (dc_X7_cased_88.1.1.2.1) (by decide) ?_
              first | refine sg_iincB (pc := 94) (dc_X7_cased_88.1.1.2.2) rfl (by decide) (by decide) (by omega) (by omega) ?_ | refine sg_iinc (pc := 94) (dc_X7_cased_88.1.1.2.2) rfl (by decide) (by decide) ?_
              refine sg_goto (pc := 97) (tgt := 16) (dc_X7_cased_88.1.2.1.1) (by decide) ?_
              refine sg_lsub (lv' := [(5, _), (4, _), (0, _), (1, _), (2, _), (3, _)]) ⟨rfl, rfl, rfl, rfl, rfl, rfl, trivial⟩ ?_
              exact ih _ _ _ t72 (by omega) (by omega) (by first | exact jl_m1 hm (by omega) | exact jl_m2 hm (by omega) | omega)
            · have bk := fs_d1 (F := F) (L := L) (p := p) (by omega) c80
              refine sg_iconst (pc := 83) (z := 1) (dc_X7_cased_56.2.2.1.2) (by decide) ?_
              refine sg_goto (pc := 84) (tgt := 88) (dc_X7_cased_56.2.2.2.1) (by decide) ?_
              refine sg_cS1 (pc := 88) (d' := d - 1) (mc' := 0) (ms' := 0) g (dc_X7_cased_88.1.1.1.1) cb_X7_one ml_X7_92 ms_X7_one (Nat.le_of_ble_eq_true rfl) (by first | exact jl_d0 hd rfl | omega) (by first | exact Nat.le_of_ble_eq_true rfl | omega) (by first | exact Nat.le_of_ble_eq_true rfl | omega) ?_
              refine s_X7_one g (by first | exact jl_d1 hd rfl | omega) (fun z88 h88 b88 => sg_K1 ?_)
              (try simp only [fm_no, fm_one, fn_betw, fn_sign, fn_radix, fn_high, fn_low, if_true, if_false] at h88)
              first | refine sg_iaddB (pc := 91) (dc_X7_cased_88.1.1.1.2) (by omega) (by omega) ?_ | refine sg_iadd (pc := 91) (dc_X7_cased_88.1.1.1.2) ?_
              refine sg_istore (pc := 92) (dc_X7_cased_88.1.1.2.1) (by decide) ?_
              first | refine sg_iincB (pc := 94) (dc_X7_cased_88.1.1.2.2) rfl (by decide) (by decide) (by omega) (by omega) ?_ | refine sg_iinc (pc := 94) (dc_X7_cased_88.1.1.2.2) rfl (by decide) (by decide) ?_
              refine sg_goto (pc := 97) (tgt := 16) (dc_X7_cased_88.1.2.1.1) (by decide) ?_
              refine sg_lsub (lv' := [(5, _), (4, _), (0, _), (1, _), (2, _), (3, _)]) ⟨rfl, rfl, rfl, rfl, rfl, rfl, trivial⟩ ?_
              exact ih _ _ _ t72 (by omega) (by omega) (by first | exact jl_m1 hm (by omega) | exact jl_m2 hm (by omega) | omega)
        · refine sg_iload (pc := 38) (dc_X7_cased_24.2.1.1.1) rfl ?_
          refine sg_cS1 (pc := 40) (d' := d - 1) (mc' := 0) (ms' := 0) g (dc_X7_cased_24.2.1.1.2) cb_X7_upperOf ml_X7_86 ms_X7_upperOf (Nat.le_of_ble_eq_true rfl) (by first | exact jl_d0 hd rfl | omega) (by first | exact Nat.le_of_ble_eq_true rfl | omega) (by first | exact Nat.le_of_ble_eq_true rfl | omega) ?_
          refine s_X7_upperOf g (by first | exact jl_d1 hd rfl | omega) (fun z40 h40 => sg_K1 ?_)
          (try simp only [fm_no, fm_one, fn_betw, fn_sign, fn_radix, fn_high, fn_low, if_true, if_false] at h40)
          refine sg_goto (pc := 43) (tgt := 51) (dc_X7_cased_24.2.1.2.1) (by decide) ?_
          refine sg_istore (pc := 51) (dc_X7_cased_24.2.2.1.2) (by decide) ?_
          refine sg_aload_n (pc := 53) (j := 3) (dc_X7_cased_24.2.2.2.1) rfl rfl ?_
          refine sg_iload (pc := 54) (dc_X7_cased_24.2.2.2.2) rfl ?_
          refine sg_iload (pc := 56) (dc_X7_cased_56.1.1.1.1) rfl ?_
          refine sg_cS1 (pc := 58) (d' := d - 1) (mc' := 0) (ms' := 0) g (dc_X7_cased_56.1.1.1.2) cb_X7_isSign ml_X7_65 ms_X7_isSign (Nat.le_of_ble_eq_true rfl) (by first | exact jl_d0 hd rfl | omega) (by first | exact Nat.le_of_ble_eq_true rfl | omega) (by first | exact Nat.le_of_ble_eq_true rfl | omega) ?_
          refine s_X7_isSign g (by first | exact jl_d1 hd rfl | omega) (fun z58 h58 b58 => sg_K1 ?_)
          (try simp only [fm_no, fm_one, fn_betw, fn_sign, fn_radix, fn_high, fn_low, if_true, if_false] at h58)
          refine sg_if_eq (pc := 61) (tgt := 69) (dc_X7_cased_56.1.1.2.1) (by decide) (fun c61 => ?_) (fun c61 => ?_)
          · refine sg_iload (pc := 69) (dc_X7_cased_56.1.2.1.2) rfl ?_
            refine md_astF (pc := 71) (dc_X7_cased_56.1.2.2.1) t1 ck_v0 (by omega) (by rw [fx_len]; omega) (fun h71 t71 => ?_)
            have t72 : md_F 0 h h71 (fx S (p + 1).toNat) := md_Fw t71 (fx_s (by omega) (by omega) rfl (by rw [gS p (by omega) (by omega), hFu c35]; exact (rz_n (by rw [← h40]; omega)).symm))
            refine sg_iload (pc := 72) (dc_X7_cased_56.1.2.2.2) rfl ?_
            refine sg_aload_n (pc := 74) (j := 3) (dc_X7_cased_56.2.1.1.1) rfl rfl ?_
            refine sg_iload (pc := 75) (dc_X7_cased_56.2.1.1.2) rfl ?_
            refine md_xld (pc := 77) (dc_X7_cased_56.2.1.2.1) (md_FX t72) (by omega) (by rw [fx_len]; omega) (fun g77 => ?_)
            rw [fx_g (by omega), gS p (by omega) (by omega)]
            refine sg_iload (pc := 78) (dc_X7_cased_56.2.1.2.2) rfl ?_
            refine sg_icmp_eq (pc := 80) (tgt := 87) (dc_X7_cased_56.2.2.1.1) (by decide) (fun c80 => ?_) (fun c80 => ?_)
            · have bk := fs_d0 (F := F) (L := L) (p := p) (by omega) c80
              refine sg_iconst (pc := 87) (z := 0) (dc_X7_cased_56.2.2.2.2) (by decide) ?_
              refine sg_cS1 (pc := 88) (d' := d - 1) (mc' := 0) (ms' := 0) g (dc_X7_cased_88.1.1.1.1) cb_X7_one ml_X7_92 ms_X7_one (Nat.le_of_ble_eq_true rfl) (by first | exact jl_d0 hd rfl | omega) (by first | exact Nat.le_of_ble_eq_true rfl | omega) (by first | exact Nat.le_of_ble_eq_true rfl | omega) ?_
              refine s_X7_one g (by first | exact jl_d1 hd rfl | omega) (fun z88 h88 b88 => sg_K1 ?_)
              (try simp only [fm_no, fm_one, fn_betw, fn_sign, fn_radix, fn_high, fn_low, if_true, if_false] at h88)
              first | refine sg_iaddB (pc := 91) (dc_X7_cased_88.1.1.1.2) (by omega) (by omega) ?_ | refine sg_iadd (pc := 91) (dc_X7_cased_88.1.1.1.2) ?_
              refine sg_istore (pc := 92) (dc_X7_cased_88.1.1.2.1) (by decide) ?_
              first | refine sg_iincB (pc := 94) (dc_X7_cased_88.1.1.2.2) rfl (by decide) (by decide) (by omega) (by omega) ?_ | refine sg_iinc (pc := 94) (dc_X7_cased_88.1.1.2.2) rfl (by decide) (by decide) ?_
              refine sg_goto (pc := 97) (tgt := 16) (dc_X7_cased_88.1.2.1.1) (by decide) ?_
              refine sg_lsub (lv' := [(5, _), (4, _), (0, _), (1, _), (2, _), (3, _)]) ⟨rfl, rfl, rfl, rfl, rfl, rfl, trivial⟩ ?_
              exact ih _ _ _ t72 (by omega) (by omega) (by first | exact jl_m1 hm (by omega) | exact jl_m2 hm (by omega) | omega)
            · have bk := fs_d1 (F := F) (L := L) (p := p) (by omega) c80
              refine sg_iconst (pc := 83) (z := 1) (dc_X7_cased_56.2.2.1.2) (by decide) ?_
              refine sg_goto (pc := 84) (tgt := 88) (dc_X7_cased_56.2.2.2.1) (by decide) ?_
              refine sg_cS1 (pc := 88) (d' := d - 1) (mc' := 0) (ms' := 0) g (dc_X7_cased_88.1.1.1.1) cb_X7_one ml_X7_92 ms_X7_one (Nat.le_of_ble_eq_true rfl) (by first | exact jl_d0 hd rfl | omega) (by first | exact Nat.le_of_ble_eq_true rfl | omega) (by first | exact Nat.le_of_ble_eq_true rfl | omega) ?_
              refine s_X7_one g (by first | exact jl_d1 hd rfl | omega) (fun z88 h88 b88 => sg_K1 ?_)
              (try simp only [fm_no, fm_one, fn_betw, fn_sign, fn_radix, fn_high, fn_low, if_true, if_false] at h88)
              first | refine sg_iaddB (pc := 91) (dc_X7_cased_88.1.1.1.2) (by omega) (by omega) ?_ | refine sg_iadd (pc := 91) (dc_X7_cased_88.1.1.1.2) ?_
              refine sg_istore (pc := 92) (dc_X7_cased_88.1.1.2.1) (by decide) ?_
              first | refine sg_iincB (pc := 94) (dc_X7_cased_88.1.1.2.2) rfl (by decide) (by decide) (by omega) (by omega) ?_ | refine sg_iinc (pc := 94) (dc_X7_cased_88.1.1.2.2) rfl (by decide) (by decide) ?_
              refine sg_goto (pc := 97) (tgt := 16) (dc_X7_cased_88.1.2.1.1) (by decide) ?_
              refine sg_lsub (lv' := [(5, _), (4, _), (0, _), (1, _), (2, _), (3, _)]) ⟨rfl, rfl, rfl, rfl, rfl, rfl, trivial⟩ ?_
              exact ih _ _ _ t72 (by omega) (by omega) (by first | exact jl_m1 hm (by omega) | exact jl_m2 hm (by omega) | omega)
          · refine sg_iload (pc := 64) (dc_X7_cased_56.1.1.2.2) rfl ?_
            refine sg_goto (pc := 66) (tgt := 71) (dc_X7_cased_56.1.2.1.1) (by decide) ?_
            refine md_astF (pc := 71) (dc_X7_cased_56.1.2.2.1) t1 ck_v0 (by omega) (by rw [fx_len]; omega) (fun h71 t71 => ?_)
            have t72 : md_F 0 h h71 (fx S (p + 1).toNat) := md_Fw t71 (fx_s (by omega) (by omega) rfl (by rw [gS p (by omega) (by omega), hFu c35]; exact h40.trans (rz_p (by rw [← h40]; omega)).symm))
            refine sg_iload (pc := 72) (dc_X7_cased_56.1.2.2.2) rfl ?_
            refine sg_aload_n (pc := 74) (j := 3) (dc_X7_cased_56.2.1.1.1) rfl rfl ?_
            refine sg_iload (pc := 75) (dc_X7_cased_56.2.1.1.2) rfl ?_
            refine md_xld (pc := 77) (dc_X7_cased_56.2.1.2.1) (md_FX t72) (by omega) (by rw [fx_len]; omega) (fun g77 => ?_)
            rw [fx_g (by omega), gS p (by omega) (by omega)]
            refine sg_iload (pc := 78) (dc_X7_cased_56.2.1.2.2) rfl ?_
            refine sg_icmp_eq (pc := 80) (tgt := 87) (dc_X7_cased_56.2.2.1.1) (by decide) (fun c80 => ?_) (fun c80 => ?_)
            · have bk := fs_d0 (F := F) (L := L) (p := p) (by omega) c80
              refine sg_iconst (pc := 87) (z := 0) (dc_X7_cased_56.2.2.2.2) (by decide) ?_
              refine sg_cS1 (pc := 88) (d' := d - 1) (mc' := 0) (ms' := 0) g (dc_X7_cased_88.1.1.1.1) cb_X7_one ml_X7_92 ms_X7_one (Nat.le_of_ble_eq_true rfl) (by first | exact jl_d0 hd rfl | omega) (by first | exact Nat.le_of_ble_eq_true rfl | omega) (by first | exact Nat.le_of_ble_eq_true rfl | omega) ?_
              refine s_X7_one g (by first | exact jl_d1 hd rfl | omega) (fun z88 h88 b88 => sg_K1 ?_)
              (try simp only [fm_no, fm_one, fn_betw, fn_sign, fn_radix, fn_high, fn_low, if_true, if_false] at h88)
              first | refine sg_iaddB (pc := 91) (dc_X7_cased_88.1.1.1.2) (by omega) (by omega) ?_ | refine sg_iadd (pc := 91) (dc_X7_cased_88.1.1.1.2) ?_
              refine sg_istore (pc := 92) (dc_X7_cased_88.1.1.2.1) (by decide) ?_
              first | refine sg_iincB (pc := 94) (dc_X7_cased_88.1.1.2.2) rfl (by decide) (by decide) (by omega) (by omega) ?_ | refine sg_iinc (pc := 94) (dc_X7_cased_88.1.1.2.2) rfl (by decide) (by decide) ?_
              refine sg_goto (pc := 97) (tgt := 16) (dc_X7_cased_88.1.2.1.1) (by decide) ?_
              refine sg_lsub (lv' := [(5, _), (4, _), (0, _), (1, _), (2, _), (3, _)]) ⟨rfl, rfl, rfl, rfl, rfl, rfl, trivial⟩ ?_
              exact ih _ _ _ t72 (by omega) (by omega) (by first | exact jl_m1 hm (by omega) | exact jl_m2 hm (by omega) | omega)
            · have bk := fs_d1 (F := F) (L := L) (p := p) (by omega) c80
              refine sg_iconst (pc := 83) (z := 1) (dc_X7_cased_56.2.2.1.2) (by decide) ?_
              refine sg_goto (pc := 84) (tgt := 88) (dc_X7_cased_56.2.2.2.1) (by decide) ?_
              refine sg_cS1 (pc := 88) (d' := d - 1) (mc' := 0) (ms' := 0) g (dc_X7_cased_88.1.1.1.1) cb_X7_one ml_X7_92 ms_X7_one (Nat.le_of_ble_eq_true rfl) (by first | exact jl_d0 hd rfl | omega) (by first | exact Nat.le_of_ble_eq_true rfl | omega) (by first | exact Nat.le_of_ble_eq_true rfl | omega) ?_
              refine s_X7_one g (by first | exact jl_d1 hd rfl | omega) (fun z88 h88 b88 => sg_K1 ?_)
              (try simp only [fm_no, fm_one, fn_betw, fn_sign, fn_radix, fn_high, fn_low, if_true, if_false] at h88)
              first | refine sg_iaddB (pc := 91) (dc_X7_cased_88.1.1.1.2) (by omega) (by omega) ?_ | refine sg_iadd (pc := 91) (dc_X7_cased_88.1.1.1.2) ?_
              refine sg_istore (pc := 92) (dc_X7_cased_88.1.1.2.1) (by decide) ?_
              first | refine sg_iincB (pc := 94) (dc_X7_cased_88.1.1.2.2) rfl (by decide) (by decide) (by omega) (by omega) ?_ | refine sg_iinc (pc := 94) (dc_X7_cased_88.1.1.2.2) rfl (by decide) (by decide) ?_
              refine sg_goto (pc := 97) (tgt := 16) (dc_X7_cased_88.1.2.1.1) (by decide) ?_
              refine sg_lsub (lv' := [(5, _), (4, _), (0, _), (1, _), (2, _), (3, _)]) ⟨rfl, rfl, rfl, rfl, rfl, rfl, trivial⟩ ?_
              exact ih _ _ _ t72 (by omega) (by omega) (by first | exact jl_m1 hm (by omega) | exact jl_m2 hm (by omega) | omega)
  refine sg_lsub (lv' := [(5, _), (4, _), (0, _), (1, _), (2, _), (3, _)]) ⟨rfl, rfl, rfl, rfl, rfl, rfl, trivial⟩ ?_
  exact loop16 _ _ _ _ (md_Fw md_newF (fx_0 rfl lS)) (by omega) rfl (Nat.lt_succ_self _)

set_option maxRecDepth 100000 in
set_option maxHeartbeats 400000 in
theorem f_X7_raise {w : sg_W} {Q : sg_O → sg_H → Prop} {h : sg_H} (g : sg_G w) {d : Nat} (hd : 8 ≤ d) {M : Nat} {row : Int} {A : fa_A} {L : List Int} (hA : md_ab h M = A) (hL : fa_L A row.toNat = L) (ok : fa_ok A) (hx : md_M w h M) (hQ : ∀ (v : Int) (h' : sg_H), ((row < 0 ∨ 4 ≤ row) → md_t h' M = 1) → (¬ (row < 0 ∨ 4 ≤ row) → md_t h' M = 0) → (md_t h' M = 0 → v = fs_diff rz L L.length ∧ md_ab h' M = fa_put A row.toNat (L.map rz)) → (md_t h' M ≠ 0 → md_ab h' M = A) → md_W w h h' M → Q (.inl (some (sg_i v))) h') : sg_C w mi_X7_raise d 3 56 [sg_r M, sg_i row] h Q := by
  refine sg_of pn_X7 (Nat.le_of_ble_eq_true rfl) ?_
  have y0 := md_Y0 hx
  have hk := hx.2.1
  refine sg_aload_n (pc := 0) (j := 0) (dc_X7_raise_0.1.1.1.1) rfl rfl ?_
  refine sg_iload_n (pc := 1) (j := 1) (dc_X7_raise_0.1.1.1.2) rfl rfl ?_
  refine sg_cS1 (pc := 2) (d' := d - 1) (mc' := 0) (ms' := 0) g (dc_X7_raise_0.1.1.2.1) cb_X7_isNoRow ml_X7_68 ms_X7_isNoRow (Nat.le_of_ble_eq_true rfl) (by first | exact jl_d0 hd rfl | omega) (by first | exact Nat.le_of_ble_eq_true rfl | omega) (by first | exact Nat.le_of_ble_eq_true rfl | omega) ?_
  refine s_X7_isNoRow g (by first | exact jl_d1 hd rfl | omega) (fun z2 h2 b2 => sg_K1 ?_)
  (try simp only [fm_no, fm_one, fn_betw, fn_sign, fn_radix, fn_high, fn_low, if_true, if_false] at h2)
  refine sg_iconst (pc := 5) (z := 1) (dc_X7_raise_0.1.1.2.2) (by decide) ?_
  refine sg_cE2 (pc := 6) (d' := d - 1) (mc' := 0) (ms' := 0) 8 g (dc_X7_raise_0.1.2.1.1) cb_X7_start ml_X7_71 mn_X7_start rfl mv_X7_start (Nat.le_of_ble_eq_true rfl) (md_oc (by assumption)) (Nat.le_of_ble_eq_true rfl) (by first | exact jl_d0 hd rfl | omega) (by first | exact Nat.le_of_ble_eq_true rfl | omega) (by first | exact Nat.le_of_ble_eq_true rfl | omega) ?_
  refine s_X7_start g (by first | exact jl_d1 hd rfl | omega) (by omega) (by assumption) (fun v6 h6 b6 i6 t6 s6 u6 y6 => sg_K1 ?_)
  have x6 := y6.1
  have hk6 := x6.2.1
  have y6 := md_Yt (h0 := h) (by assumption) y6
  refine sg_if_eq (pc := 9) (tgt := 16) (dc_X7_raise_0.1.2.1.2) (by decide) (fun c9 => ?_) (fun c9 => ?_)
  · refine sg_aload_n (pc := 16) (j := 0) (dc_X7_raise_0.2.1.1.1) rfl rfl ?_
    refine sg_iload_n (pc := 17) (j := 1) (dc_X7_raise_0.2.1.1.2) rfl rfl ?_
    refine sg_iconst (pc := 18) (z := 1) (dc_X7_raise_0.2.1.2.1) (by decide) ?_
    refine sg_cE2 (pc := 19) (d' := d - 1) (mc' := 3) (ms' := 56) 8 g (dc_X7_raise_0.2.1.2.2) cb_X7_cased ml_X7_96 mn_X7_cased rfl mv_X7_cased (Nat.le_of_ble_eq_true rfl) (md_oc (by assumption)) (Nat.le_of_ble_eq_true rfl) (by first | exact jl_d0 hd rfl | omega) (by first | exact Nat.le_of_ble_eq_true rfl | omega) (by first | exact Nat.le_of_ble_eq_true rfl | omega) ?_
    refine f_X7_cased (F := rz) g (by first | exact jl_d1 hd rfl | omega) (by omega) (md_Ya y6 hA) hL ok (fun q => rfl) (fun q => absurd q (by decide)) (by assumption) (fun v19 h19 e19 t19 ab19 y19 => sg_K1 ?_)
    have z19 : md_W w h h19 M := md_Wt y6 y19
    refine sg_iret (pc := 22) (dc_X7_raise_0.2.2.1.1) rfl (by first | exact Nat.le_of_ble_eq_true rfl | omega) (by first | exact Nat.le_of_ble_eq_true rfl | omega) ?_
    exact hQ _ _ (by omega) (by omega) (fun _ => ⟨e19, ab19⟩) (fun q => absurd (by omega) q) z19
  · refine sg_iconst (pc := 12) (z := 0) (dc_X7_raise_0.1.2.2.1) (by decide) ?_
    refine sg_goto (pc := 13) (tgt := 22) (dc_X7_raise_0.1.2.2.2) (by decide) ?_
    refine sg_iret (pc := 22) (dc_X7_raise_0.2.2.1.1) rfl (by first | exact Nat.le_of_ble_eq_true rfl | omega) (by first | exact Nat.le_of_ble_eq_true rfl | omega) ?_
    exact hQ _ _ (by omega) (by omega) (fun q => absurd q (by omega)) (fun _ => md_Ya (by assumption) hA) (md_YW (by assumption))

set_option maxRecDepth 100000 in
set_option maxHeartbeats 400000 in
theorem f_X7_sink {w : sg_W} {Q : sg_O → sg_H → Prop} {h : sg_H} (g : sg_G w) {d : Nat} (hd : 8 ≤ d) {M : Nat} {row : Int} {A : fa_A} {L : List Int} (hA : md_ab h M = A) (hL : fa_L A row.toNat = L) (ok : fa_ok A) (hx : md_M w h M) (hQ : ∀ (v : Int) (h' : sg_H), ((row < 0 ∨ 4 ≤ row) → md_t h' M = 1) → (¬ (row < 0 ∨ 4 ≤ row) → md_t h' M = 0) → (md_t h' M = 0 → v = fs_diff fn_lower L L.length ∧ md_ab h' M = fa_put A row.toNat (L.map fn_lower)) → (md_t h' M ≠ 0 → md_ab h' M = A) → md_W w h h' M → Q (.inl (some (sg_i v))) h') : sg_C w mi_X7_sink d 3 56 [sg_r M, sg_i row] h Q := by
  refine sg_of pn_X7 (Nat.le_of_ble_eq_true rfl) ?_
  have y0 := md_Y0 hx
  have hk := hx.2.1
  refine sg_aload_n (pc := 0) (j := 0) (dc_X7_sink_0.1.1.1.1) rfl rfl ?_
  refine sg_iload_n (pc := 1) (j := 1) (dc_X7_sink_0.1.1.1.2) rfl rfl ?_
  refine sg_cS1 (pc := 2) (d' := d - 1) (mc' := 0) (ms' := 0) g (dc_X7_sink_0.1.1.2.1) cb_X7_isNoRow ml_X7_68 ms_X7_isNoRow (Nat.le_of_ble_eq_true rfl) (by first | exact jl_d0 hd rfl | omega) (by first | exact Nat.le_of_ble_eq_true rfl | omega) (by first | exact Nat.le_of_ble_eq_true rfl | omega) ?_
  refine s_X7_isNoRow g (by first | exact jl_d1 hd rfl | omega) (fun z2 h2 b2 => sg_K1 ?_)
  (try simp only [fm_no, fm_one, fn_betw, fn_sign, fn_radix, fn_high, fn_low, if_true, if_false] at h2)
  refine sg_iconst (pc := 5) (z := 1) (dc_X7_sink_0.1.1.2.2) (by decide) ?_
  refine sg_cE2 (pc := 6) (d' := d - 1) (mc' := 0) (ms' := 0) 8 g (dc_X7_sink_0.1.2.1.1) cb_X7_start ml_X7_71 mn_X7_start rfl mv_X7_start (Nat.le_of_ble_eq_true rfl) (md_oc (by assumption)) (Nat.le_of_ble_eq_true rfl) (by first | exact jl_d0 hd rfl | omega) (by first | exact Nat.le_of_ble_eq_true rfl | omega) (by first | exact Nat.le_of_ble_eq_true rfl | omega) ?_
  refine s_X7_start g (by first | exact jl_d1 hd rfl | omega) (by omega) (by assumption) (fun v6 h6 b6 i6 t6 s6 u6 y6 => sg_K1 ?_)
  have x6 := y6.1
  have hk6 := x6.2.1
  have y6 := md_Yt (h0 := h) (by assumption) y6
  refine sg_if_eq (pc := 9) (tgt := 16) (dc_X7_sink_0.1.2.1.2) (by decide) (fun c9 => ?_) (fun c9 => ?_)
  · refine sg_aload_n (pc := 16) (j := 0) (dc_X7_sink_0.2.1.1.1) rfl rfl ?_
    refine sg_iload_n (pc := 17) (j := 1) (dc_X7_sink_0.2.1.1.2) rfl rfl ?_
    refine sg_iconst (pc := 18) (z := 0) (dc_X7_sink_0.2.1.2.1) (by decide) ?_
    refine sg_cE2 (pc := 19) (d' := d - 1) (mc' := 3) (ms' := 56) 8 g (dc_X7_sink_0.2.1.2.2) cb_X7_cased ml_X7_96 mn_X7_cased rfl mv_X7_cased (Nat.le_of_ble_eq_true rfl) (md_oc (by assumption)) (Nat.le_of_ble_eq_true rfl) (by first | exact jl_d0 hd rfl | omega) (by first | exact Nat.le_of_ble_eq_true rfl | omega) (by first | exact Nat.le_of_ble_eq_true rfl | omega) ?_
    refine f_X7_cased (F := fn_lower) g (by first | exact jl_d1 hd rfl | omega) (by omega) (md_Ya y6 hA) hL ok (fun q => absurd rfl q) (fun q => rfl) (by assumption) (fun v19 h19 e19 t19 ab19 y19 => sg_K1 ?_)
    have z19 : md_W w h h19 M := md_Wt y6 y19
    refine sg_iret (pc := 22) (dc_X7_sink_0.2.2.1.1) rfl (by first | exact Nat.le_of_ble_eq_true rfl | omega) (by first | exact Nat.le_of_ble_eq_true rfl | omega) ?_
    exact hQ _ _ (by omega) (by omega) (fun _ => ⟨e19, ab19⟩) (fun q => absurd (by omega) q) z19
  · refine sg_iconst (pc := 12) (z := 0) (dc_X7_sink_0.1.2.2.1) (by decide) ?_
    refine sg_goto (pc := 13) (tgt := 22) (dc_X7_sink_0.1.2.2.2) (by decide) ?_
    refine sg_iret (pc := 22) (dc_X7_sink_0.2.2.1.1) rfl (by first | exact Nat.le_of_ble_eq_true rfl | omega) (by first | exact Nat.le_of_ble_eq_true rfl | omega) ?_
    exact hQ _ _ (by omega) (by omega) (fun q => absurd q (by omega)) (fun _ => md_Ya (by assumption) hA) (md_YW (by assumption))

set_option maxRecDepth 100000 in
set_option maxHeartbeats 400000 in
theorem f_X7_turn {w : sg_W} {Q : sg_O → sg_H → Prop} {h : sg_H} (g : sg_G w) {d : Nat} (hd : 9 ≤ d) {M : Nat} {row : Int} {A : fa_A} {L : List Int} (hA : md_ab h M = A) (hL : fa_L A row.toNat = L) (ok : fa_ok A) (hx : md_M w h M) (hQ : ∀ (v : Int) (h' : sg_H), ((row < 0 ∨ 4 ≤ row) → md_t h' M = 1) → (¬ (row < 0 ∨ 4 ≤ row) → md_t h' M = 0) → (md_t h' M = 0 → v = (L.length : Int) ∧ md_ab h' M = fa_put A row.toNat L.reverse) → (md_t h' M ≠ 0 → md_ab h' M = A) → md_W w h h' M → Q (.inl (some (sg_i v))) h') : sg_C w mi_X7_turn d 3 56 [sg_r M, sg_i row] h Q := by
  refine sg_of pn_X7 (Nat.le_of_ble_eq_true rfl) ?_
  have y0 := md_Y0 hx
  have hk := hx.2.1
  refine sg_aload_n (pc := 0) (j := 0) (dc_X7_turn_0.1.1.1.1) rfl rfl ?_
  refine sg_iload_n (pc := 1) (j := 1) (dc_X7_turn_0.1.1.1.2) rfl rfl ?_
  refine sg_cS1 (pc := 2) (d' := d - 1) (mc' := 0) (ms' := 0) g (dc_X7_turn_0.1.1.2.1) cb_X7_isNoRow ml_X7_68 ms_X7_isNoRow (Nat.le_of_ble_eq_true rfl) (by first | exact jl_d0 hd rfl | omega) (by first | exact Nat.le_of_ble_eq_true rfl | omega) (by first | exact Nat.le_of_ble_eq_true rfl | omega) ?_
  refine s_X7_isNoRow g (by first | exact jl_d1 hd rfl | omega) (fun z2 h2 b2 => sg_K1 ?_)
  (try simp only [fm_no, fm_one, fn_betw, fn_sign, fn_radix, fn_high, fn_low, if_true, if_false] at h2)
  refine sg_iconst (pc := 5) (z := 1) (dc_X7_turn_0.1.1.2.2) (by decide) ?_
  refine sg_cE2 (pc := 6) (d' := d - 1) (mc' := 0) (ms' := 0) 8 g (dc_X7_turn_0.1.2.1.1) cb_X7_start ml_X7_71 mn_X7_start rfl mv_X7_start (Nat.le_of_ble_eq_true rfl) (md_oc (by assumption)) (Nat.le_of_ble_eq_true rfl) (by first | exact jl_d0 hd rfl | omega) (by first | exact Nat.le_of_ble_eq_true rfl | omega) (by first | exact Nat.le_of_ble_eq_true rfl | omega) ?_
  refine s_X7_start g (by first | exact jl_d1 hd rfl | omega) (by omega) (by assumption) (fun v6 h6 b6 i6 t6 s6 u6 y6 => sg_K1 ?_)
  have x6 := y6.1
  have hk6 := x6.2.1
  have y6 := md_Yt (h0 := h) (by assumption) y6
  refine sg_if_eq (pc := 9) (tgt := 16) (dc_X7_turn_0.1.2.1.2) (by decide) (fun c9 => ?_) (fun c9 => ?_)
  · refine sg_aload_n (pc := 16) (j := 0) (dc_X7_turn_0.2.1.1.1) rfl rfl ?_
    refine sg_iload_n (pc := 17) (j := 1) (dc_X7_turn_0.2.1.1.2) rfl rfl ?_
    refine sg_aload_n (pc := 18) (j := 0) (dc_X7_turn_0.2.1.2.1) rfl rfl ?_
    refine md_grw (pc := 19) g (dc_X7_turn_0.2.1.2.2) fk_X7_9 (by assumption) (fun r19 => ?_)
    refine sg_iload_n (pc := 22) (j := 1) (dc_X7_turn_0.2.2.1.1) rfl rfl ?_
    first | refine md_alX (pc := 23) (dc_X7_turn_0.2.2.1.2) hA (by assumption) (by assumption) (by omega) (by omega) (fun X23 l23 => ?_) | refine md_alXt (pc := 23) (dc_X7_turn_0.2.2.1.2) hA (by assumption) (by assumption) (by omega) (by omega) (fun X23 l23 => ?_)
    refine sg_cS1 (pc := 24) (d' := d - 1) (mc' := 1) (ms' := L.length) g (dc_X7_turn_0.2.2.2.1) cb_X7_turned ml_X7_103 ms_X7_turned (Nat.le_of_ble_eq_true rfl) (by first | exact jl_d0 hd rfl | omega) (by first | exact Nat.le_of_ble_eq_true rfl | omega) (by first | exact Nat.le_of_ble_eq_true rfl | omega) ?_
    refine f_X7_turned (c := 0) g (by first | exact jl_d1 hd rfl | omega) (by assumption) (by omega) (fun h24 t24 => sg_K1 ?_)
    have x24 : md_M w h24 M := md_ME (by assumption) (md_FE t24)
    have th24 := md_tE (w := w) (M := M) (by assumption) (md_FE t24)
    have hk24 := x24.2.1
    have y24 : md_Y w h h24 M := md_YE (by assumption) (md_FE t24)
    refine sg_cE2 (pc := 27) (d' := d - 1) (mc' := 2) (ms' := 16) 8 g (dc_X7_turn_0.2.2.2.2) cb_X7_set ml_X7_78 mn_X7_set rfl mv_X7_set (Nat.le_of_ble_eq_true rfl) (md_oc (by assumption)) (Nat.le_of_ble_eq_true rfl) (by first | exact jl_d0 hd rfl | omega) (by first | exact Nat.le_of_ble_eq_true rfl | omega) (by first | exact Nat.le_of_ble_eq_true rfl | omega) ?_
    refine s_X7_set g (by first | exact jl_d1 hd rfl | omega) (by omega) (by assumption) (fun q => ⟨md_XA (md_FX t24), by first | omega | (simp only [List.length_take, List.length_reverse, List.length_map, List.length_append, tt_len]; omega)⟩) (fun q => absurd q (by omega)) (fun h27 y27 t27 ab27 => sg_K1 ?_)
    rw [md_Ya y24 hA, md_xl (md_FX t24)] at ab27
    have x27 := y27.1
    have hk27 := x27.2.1
    have z27 : md_W w h h27 M := md_Wt y24 y27
    refine sg_iret (pc := 30) dc_X7_turn_30 rfl (by first | exact Nat.le_of_ble_eq_true rfl | omega) (by first | exact Nat.le_of_ble_eq_true rfl | omega) ?_
    exact hQ _ _ (by omega) (by omega) (fun _ => ⟨by rw [List.length_reverse], ab27⟩) (fun q => absurd (by omega) q) z27
  · refine sg_iconst (pc := 12) (z := 0) (dc_X7_turn_0.1.2.2.1) (by decide) ?_
    refine sg_goto (pc := 13) (tgt := 30) (dc_X7_turn_0.1.2.2.2) (by decide) ?_
    refine sg_iret (pc := 30) dc_X7_turn_30 rfl (by first | exact Nat.le_of_ble_eq_true rfl | omega) (by first | exact Nat.le_of_ble_eq_true rfl | omega) ?_
    exact hQ _ _ (by omega) (by omega) (fun q => absurd q (by omega)) (fun _ => md_Ya (by assumption) hA) (md_YW (by assumption))

