theorem md_vX {c : Nat} {h : sg_H} {a : Nat} {L : List Int} (x : md_X c h a L) (i : Int) : md_v h a i = L.getD i.toNat 0 := by
  unfold md_v
  rw [x.2.2]
  simp only [List.getElem?_map, List.getD_eq_getElem?_getD]
  cases L[i.toNat]? <;> rfl
theorem jwc_wn {c : Nat} {h : sg_H} {a : Nat} {L : List Int} (x : md_X c h a L) : ∀ n : Nat, jwc (md_v h a) n = fs_wn L n
  | 0 => rfl
  | n + 1 => by
    show jwc (md_v h a) n + (if fn_isOf (md_v h a n) 2 = 1 ∧ (n = 0 ∨ fn_isOf (md_v h a ((n : Int) - 1)) 2 ≠ 1) then (1 : Int) else 0) = fs_wn L n + (if fs_wb L n then (1 : Int) else 0)
    rw [jwc_wn x n, md_vX x, md_vX x, Int.toNat_natCast, show ((n : Int) - 1).toNat = n - 1 by omega]
    have b1 := fk_b (L.getD n 0) 2
    have b2 := fk_b (L.getD (n - 1) 0) 2
    congr 1
    by_cases q : fs_wb L n
    · have q1 := q.1
      have q2 := q.2
      rw [if_pos q, if_pos ⟨by omega, by omega⟩]
    · rw [if_neg q, if_neg (fun r => q ⟨by omega, by omega⟩)]
section
variable {w : sg_W} {mi : sg_M} {d mc ms : Nat} {Q : sg_O → sg_H → Prop} {pc : Nat} {lv : List (Nat × sg_V)} {st : List sg_V} {h h0 : sg_H} {k n M : Nat} {A : fa_A} {L : List Int}
end
set_option maxRecDepth 100000 in
theorem f_X7_words {w : sg_W} {Q : sg_O → sg_H → Prop} {h : sg_H} (g : sg_G w) {d : Nat} (hd : 11 ≤ d) {M : Nat} {row : Int} {A : fa_A} {L : List Int} (hA : md_ab h M = A) (hL : fa_L A row.toNat = L) (hx : md_M w h M) (hQ : ∀ (v : Int) (h' : sg_H), ((row < 0 ∨ 4 ≤ row) → md_t h' M = 1) → (¬ (row < 0 ∨ 4 ≤ row) → md_t h' M = 0) → (md_t h' M = 0 → v = fs_wn L L.length) → md_Y w h h' M → Q (.inl (some (sg_i v))) h') : sg_C w mi_X7_words d 24 90 [sg_r M, sg_i row] h Q := by
  refine sg_of pn_X7 (Nat.le_of_ble_eq_true rfl) ?_
  have y0 := md_Y0 hx
  have hk := hx.2.1
  refine sg_aload_n (pc := 0) (j := 0) (dc_X7_words_0.1.1.1.1) rfl rfl ?_
  refine sg_iload_n (pc := 1) (j := 1) (dc_X7_words_0.1.1.1.2) rfl rfl ?_
  refine sg_cS1 (pc := 2) (d' := d - 1) (mc' := 0) (ms' := 0) g (dc_X7_words_0.1.1.2.1) cb_X7_isNoRow ml_X7_68 ms_X7_isNoRow (Nat.le_of_ble_eq_true rfl) (by first | exact jl_d0 hd rfl | omega) (by first | exact Nat.le_of_ble_eq_true rfl | omega) (by first | exact Nat.le_of_ble_eq_true rfl | omega) ?_
  refine s_X7_isNoRow g (by first | exact jl_d1 hd rfl | omega) (fun z2 h2 b2 => sg_K1 ?_)
  (try simp only [fm_no, fm_one, fn_betw, fn_sign, fn_radix, fn_high, fn_low] at h2)
  refine sg_iconst (pc := 5) (z := 1) (dc_X7_words_0.1.1.2.2) (by decide) ?_
  refine sg_cE2 (pc := 6) (d' := d - 1) (mc' := 0) (ms' := 0) 8 g (dc_X7_words_0.1.2.1.1) cb_X7_start ml_X7_71 mn_X7_start rfl mv_X7_start (Nat.le_of_ble_eq_true rfl) (md_oc (by assumption)) (Nat.le_of_ble_eq_true rfl) (by first | exact jl_d0 hd rfl | omega) (by first | exact Nat.le_of_ble_eq_true rfl | omega) (by first | exact Nat.le_of_ble_eq_true rfl | omega) ?_
  refine s_X7_start g (by first | exact jl_d1 hd rfl | omega) (by omega) (by assumption) (fun v6 h6 b6 i6 t6 s6 u6 y6 => sg_K1 ?_)
  have x6 := y6.1
  have hk6 := x6.2.1
  have y6 := md_Yt (h0 := h) (by assumption) y6
  refine sg_if_eq (pc := 9) (tgt := 16) (dc_X7_words_0.1.2.1.2) (by decide) (fun c9 => ?_) (fun c9 => ?_)
  · refine sg_aload_n (pc := 16) (j := 0) (dc_X7_words_0.2.1.1.1) rfl rfl ?_
    refine sg_iload_n (pc := 17) (j := 1) (dc_X7_words_0.2.1.1.2) rfl rfl ?_
    refine sg_cE1 (pc := 18) (d' := d - 1) (mc' := 24) (ms' := 90) 8 g (dc_X7_words_0.2.1.2.1) cb_X7_wordsOf ml_X7_215 mn_X7_wordsOf rfl mv_X7_wordsOf (Nat.le_of_ble_eq_true rfl) (md_oc (by assumption)) (Nat.le_of_ble_eq_true rfl) (by first | exact jl_d0 hd rfl | omega) (by first | exact Nat.le_of_ble_eq_true rfl | omega) (by first | exact Nat.le_of_ble_eq_true rfl | omega) ?_
    refine s_X7_wordsOf g (by first | exact jl_d1 hd rfl | omega) (by omega) (by assumption) (fun h18 b18 cap18 sz18 P18 w18 l18 => sg_K1 ?_)
    have X18 : md_M w h18 M := md_ME (by assumption) P18.2.1
    have th18 := md_tE (w := w) (M := M) (by assumption) P18.2.1
    have y18 : md_Y w h h18 M := md_YE (by assumption) P18.2.1
    obtain ⟨-, -, -, m18, E18, xs18, hb18, hE18, s18, sc18, hj18⟩ := id P18
    have xr := md_rX (show md_M w h6 M by assumption) (i := row) (by omega) (by omega)
    rw [md_Ya y6 hA, hL] at xr
    have e18 : sz18 = fs_wn L L.length := by rw [w18, jwc_wn xr, md_ne (md_XA xr)]
    refine sg_cV0 (pc := 21) (d' := d - 1) (mc' := 0) (ms' := 0) g (dc_X7_words_0.2.1.2.2) cb_Jx4a65c_size_8abf5 ml_X7_53 mn_Jx4a65c_size_8abf5 mv_Jx4a65c_size_8abf5 hb18 (Nat.le_of_ble_eq_true rfl) rfl (Nat.le_of_ble_eq_true rfl) (by first | exact jl_d0 hd rfl | omega) (by first | exact Nat.le_of_ble_eq_true rfl | omega) (by first | exact Nat.le_of_ble_eq_true rfl | omega) ?_
    refine s_al_size g (by first | exact jl_d1 hd rfl | omega) hb18 ?_
    refine sg_K1 ?_
    refine sg_iret (pc := 24) (dc_X7_words_0.2.2.1.1) rfl (by first | exact Nat.le_of_ble_eq_true rfl | omega) (by first | exact Nat.le_of_ble_eq_true rfl | omega) ?_
    first
      | exact hQ _ _ (by omega) (by omega) (fun q => absurd q (by omega)) (by assumption)
      | exact hQ _ _ (by omega) (by omega) (fun _ => e18) (by assumption)
  · refine sg_iconst (pc := 12) (z := 0) (dc_X7_words_0.1.2.2.1) (by decide) ?_
    refine sg_goto (pc := 13) (tgt := 24) (dc_X7_words_0.1.2.2.2) (by decide) ?_
    refine sg_iret (pc := 24) (dc_X7_words_0.2.2.1.1) rfl (by first | exact Nat.le_of_ble_eq_true rfl | omega) (by first | exact Nat.le_of_ble_eq_true rfl | omega) ?_
    first
      | exact hQ _ _ (by omega) (by omega) (fun q => absurd q (by omega)) (by assumption)
      | exact hQ _ _ (by omega) (by omega) (fun _ => e18) (by assumption)

