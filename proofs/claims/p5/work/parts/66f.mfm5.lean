/-! one CODE further -/
theorem fs_cstep {L : List Int} (hu : ∀ z ∈ L, 0 ≤ z ∧ z ≤ 65535) {p : Nat} (hp : p < L.length) (hb : fs_bg L p) : fs_cs L (p + (fs_sent (fs_cd L p)).length) = fs_cs L p ++ [fs_cd L p] ∧ fs_bg L (p + (fs_sent (fs_cd L p)).length) ∧ p + (fs_sent (fs_cd L p)).length ≤ L.length := by
  rw [fs_scd hu hp]
  by_cases c : fs_hl L p
  · rw [if_pos c]
    show fs_cs L (p + 1 + 1) = _ ∧ fs_bg L (p + 2) ∧ p + 2 ≤ L.length
    have nb : ¬ fs_bg L (p + 1) := fun q => by
      rcases q with q | q
      · omega
      · exact q c
    refine ⟨?_, Or.inr (fs_h2 c), by have := c.2.1; omega⟩
    rw [fs_css (p := p + 1), if_neg nb, List.append_nil, fs_css, if_pos hb]
  · rw [if_neg c]
    show fs_cs L (p + 1) = _ ∧ fs_bg L (p + 1) ∧ p + 1 ≤ L.length
    exact ⟨by rw [fs_css, if_pos hb], Or.inr c, hp⟩
theorem fs_sl1 {c : Int} : 1 ≤ (fs_sent c).length ∧ (fs_sent c).length ≤ 2 := by
  have := fs_sl (c := c)
  split at this <;> omega
/-- the first k CODES, turned round and sent -/
def fs_rv (L : List Int) (k : Nat) : List Int := ((fs_codes L).take k).reverse.flatMap fs_sent
theorem fs_rvs {L : List Int} {k : Nat} (hk : k < (fs_codes L).length) : fs_sent ((fs_codes L).getD k 0) ++ fs_rv L k = fs_rv L (k + 1) := by
  unfold fs_rv
  rw [List.take_add_one, List.getElem?_eq_getElem hk, List.reverse_append, gd_in hk]
  rfl
theorem fs_rvl {L : List Int} (hu : ∀ z ∈ L, 0 ≤ z ∧ z ≤ 65535) {k : Nat} : (fs_rv L k).length ≤ L.length := by
  unfold fs_rv
  rw [fm_rl]
  have e : (fs_codes L).flatMap fs_sent = ((fs_codes L).take k).flatMap fs_sent ++ ((fs_codes L).drop k).flatMap fs_sent := by rw [← List.flatMap_append, List.take_append_drop]
  have h := congrArg List.length e
  rw [fs_cul hu, List.length_append] at h
  omega
theorem fs_rvn {L : List Int} {k : Nat} (hk : (fs_codes L).length ≤ k) : fs_rv L k = (fs_codes L).reverse.flatMap fs_sent := by
  unfold fs_rv
  rw [List.take_of_length_le hk]
theorem fa_Lp {A : fa_A} {i : Nat} {L : List Int} (h : i < A.1.length) : fa_L (fa_put A i L) i = L := by
  show (A.1.set i L).getD i [] = L
  rw [gd_set h, if_pos rfl]
theorem md_ab6 {h : sg_H} {M : Nat} {A : fa_A} (hA : md_ab h M = A) : A.1.length = 6 := by rw [← hA]; rfl
theorem fa_tl1 {α : Type} {X : List α} {y : α} {n : Nat} (hl : X.length = n + 1) (d : α) (hy : X.getD n d = y) : X.reverse.headD d = y ∧ X.reverse.tail = (X.take n).reverse := by
  have e : X = X.take n ++ [y] := by
    have h := List.take_append_drop n X
    rw [List.drop_eq_getElem_cons (i := n) (by omega), List.drop_of_length_le (by omega)] at h
    rw [gd_in (by omega)] at hy
    rw [hy] at h
    exact h.symm
  constructor
  · rw [e, List.reverse_append]
    rfl
  · conv => lhs; rw [e, List.reverse_append]
    rfl
set_option maxRecDepth 100000 in
theorem f_X7_codeOf {w : sg_W} {Q : sg_O → sg_H → Prop} {h : sg_H} (g : sg_G w) {d : Nat} (hd : 5 ≤ d) {M : Nat} {trk p : Int} (hv : 0 ≤ trk ∧ trk < 2) {A : fa_A} {L : List Int} (hA : md_ab h M = A) (hL : fa_L A (4 + trk.toNat) = L) (hp : 0 ≤ p ∧ p < (L.length : Int)) (hx : md_M w h M) (hQ : ∀ v : Int, v = fs_cd L p.toNat → Q (.inl (some (sg_i v))) h) : sg_C w mi_X7_codeOf d 0 0 [sg_r M, sg_i trk, sg_i p] h Q := by
  refine sg_of pn_X7 (Nat.le_of_ble_eq_true rfl) ?_
  have y0 := md_Y0 hx
  have hk := hx.2.1
  refine sg_aload_n (pc := 0) (j := 0) (dc_X7_codeOf_0.1.1.1.1) rfl rfl ?_
  refine md_grw (pc := 1) g (dc_X7_codeOf_0.1.1.1.2) fk_X7_9 (by assumption) (fun r1 => ?_)
  refine sg_iconst (pc := 4) (z := 4) (dc_X7_codeOf_0.1.1.2.1) (by decide) ?_
  refine sg_iload_n (pc := 5) (j := 1) (dc_X7_codeOf_0.1.1.2.2) rfl rfl ?_
  first | refine sg_iaddB (pc := 6) (dc_X7_codeOf_0.1.2.1.1) (by omega) (by omega) ?_ | refine sg_iadd (pc := 6) (dc_X7_codeOf_0.1.2.1.1) ?_
  first | refine md_alX (pc := 7) (dc_X7_codeOf_0.1.2.1.2) hA (by assumption) (by assumption) (by omega) (by omega) (fun X7 l7 => ?_) | refine md_alXt (pc := 7) (dc_X7_codeOf_0.1.2.1.2) hA (by assumption) (by assumption) (by omega) (by omega) (fun X7 l7 => ?_)
  refine sg_astore_n (pc := 8) (j := 3) (dc_X7_codeOf_0.1.2.2.1) rfl (by decide) ?_
  refine sg_aload_n (pc := 9) (j := 3) (dc_X7_codeOf_0.1.2.2.2) rfl rfl ?_
  refine sg_iload_n (pc := 10) (j := 2) (dc_X7_codeOf_0.2.1.1.1) rfl rfl ?_
  refine md_xld (pc := 11) (dc_X7_codeOf_0.2.1.1.2) X7 (by omega) (by omega) (fun g11 => ?_)
  have q11 := ck_v1.mp g11
  refine sg_cS1 (pc := 12) (d' := d - 1) (mc' := 0) (ms' := 0) g (dc_X7_codeOf_0.2.1.2.1) cb_X7_isHigh ml_X7_122 ms_X7_isHigh (Nat.le_of_ble_eq_true rfl) (by first | exact jl_d0 hd rfl | omega) (by first | exact Nat.le_of_ble_eq_true rfl | omega) (by first | exact Nat.le_of_ble_eq_true rfl | omega) ?_
  refine s_X7_isHigh g (by first | exact jl_d1 hd rfl | omega) (fun z12 h12 b12 => sg_K1 ?_)
  (try simp only [fm_no, fm_one, fn_betw, fn_sign, fn_radix, fn_high, fn_low] at h12)
  refine sg_if_eq (pc := 15) (tgt := 51) (dc_X7_codeOf_0.2.1.2.2) (by decide) (fun c15 => ?_) (fun c15 => ?_)
  · refine sg_aload_n (pc := 51) (j := 3) (dc_X7_codeOf_44.1.2.2) rfl rfl ?_
    refine sg_iload_n (pc := 52) (j := 2) (dc_X7_codeOf_44.2.1.1) rfl rfl ?_
    refine md_xld (pc := 53) (dc_X7_codeOf_44.2.1.2) X7 (by omega) (by omega) (fun g53 => ?_)
    have q53 := ck_v1.mp g53
    refine sg_iret (pc := 54) (dc_X7_codeOf_44.2.2.1) rfl (by first | exact Nat.le_of_ble_eq_true rfl | omega) (by first | exact Nat.le_of_ble_eq_true rfl | omega) ?_
    exact hQ _ (by unfold fs_cd; rw [if_neg (fun q => by have q1 := fn_hi.mp q.1; omega)])
  · refine sg_iload_n (pc := 18) (j := 2) (dc_X7_codeOf_0.2.2.1.1) rfl rfl ?_
    refine sg_iconst (pc := 19) (z := 1) (dc_X7_codeOf_0.2.2.1.2) (by decide) ?_
    first | refine sg_iaddB (pc := 20) (dc_X7_codeOf_0.2.2.2.1) (by omega) (by omega) ?_ | refine sg_iadd (pc := 20) (dc_X7_codeOf_0.2.2.2.1) ?_
    refine sg_aload_n (pc := 21) (j := 3) (dc_X7_codeOf_0.2.2.2.2) rfl rfl ?_
    refine md_xlen (pc := 22) (dc_X7_codeOf_22.1.1.1.1) (by assumption) (by omega) ?_
    refine sg_icmp_ge (pc := 23) (tgt := 51) (dc_X7_codeOf_22.1.1.1.2) (by decide) (fun c23 => ?_) (fun c23 => ?_)
    · refine sg_aload_n (pc := 51) (j := 3) (dc_X7_codeOf_44.1.2.2) rfl rfl ?_
      refine sg_iload_n (pc := 52) (j := 2) (dc_X7_codeOf_44.2.1.1) rfl rfl ?_
      refine md_xld (pc := 53) (dc_X7_codeOf_44.2.1.2) X7 (by omega) (by omega) (fun g53 => ?_)
      have q53 := ck_v1.mp g53
      refine sg_iret (pc := 54) (dc_X7_codeOf_44.2.2.1) rfl (by first | exact Nat.le_of_ble_eq_true rfl | omega) (by first | exact Nat.le_of_ble_eq_true rfl | omega) ?_
      exact hQ _ (by unfold fs_cd; rw [if_neg (fun q => by have q1 := q.2.1; omega)])
    · refine sg_aload_n (pc := 26) (j := 3) (dc_X7_codeOf_22.1.1.2.1) rfl rfl ?_
      refine sg_iload_n (pc := 27) (j := 2) (dc_X7_codeOf_22.1.1.2.2) rfl rfl ?_
      refine sg_iconst (pc := 28) (z := 1) (dc_X7_codeOf_22.1.2.1.1) (by decide) ?_
      first | refine sg_iaddB (pc := 29) (dc_X7_codeOf_22.1.2.1.2) (by omega) (by omega) ?_ | refine sg_iadd (pc := 29) (dc_X7_codeOf_22.1.2.1.2) ?_
      refine md_xld (pc := 30) (dc_X7_codeOf_22.1.2.2.1) X7 (by omega) (by omega) (fun g30 => ?_)
      have q30 := ck_v1.mp g30
      refine sg_cS1 (pc := 31) (d' := d - 1) (mc' := 0) (ms' := 0) g (dc_X7_codeOf_22.1.2.2.2) cb_X7_isLow ml_X7_125 ms_X7_isLow (Nat.le_of_ble_eq_true rfl) (by first | exact jl_d0 hd rfl | omega) (by first | exact Nat.le_of_ble_eq_true rfl | omega) (by first | exact Nat.le_of_ble_eq_true rfl | omega) ?_
      refine s_X7_isLow g (by first | exact jl_d1 hd rfl | omega) (fun z31 h31 b31 => sg_K1 ?_)
      (try simp only [fm_no, fm_one, fn_betw, fn_sign, fn_radix, fn_high, fn_low] at h31)
      refine sg_if_eq (pc := 34) (tgt := 51) (dc_X7_codeOf_22.2.1.1.1) (by decide) (fun c34 => ?_) (fun c34 => ?_)
      · refine sg_aload_n (pc := 51) (j := 3) (dc_X7_codeOf_44.1.2.2) rfl rfl ?_
        refine sg_iload_n (pc := 52) (j := 2) (dc_X7_codeOf_44.2.1.1) rfl rfl ?_
        refine md_xld (pc := 53) (dc_X7_codeOf_44.2.1.2) X7 (by omega) (by omega) (fun g53 => ?_)
        have q53 := ck_v1.mp g53
        refine sg_iret (pc := 54) (dc_X7_codeOf_44.2.2.1) rfl (by first | exact Nat.le_of_ble_eq_true rfl | omega) (by first | exact Nat.le_of_ble_eq_true rfl | omega) ?_
        exact hQ _ (by unfold fs_cd; rw [if_neg (fun q => by have q1 := fn_lo.mp q.2.2; rw [show p.toNat + 1 = (p + 1).toNat by omega] at q1; omega)])
      · refine sg_aload_n (pc := 37) (j := 3) (dc_X7_codeOf_22.2.1.1.2) rfl rfl ?_
        refine sg_iload_n (pc := 38) (j := 2) (dc_X7_codeOf_22.2.1.2.1) rfl rfl ?_
        refine md_xld (pc := 39) (dc_X7_codeOf_22.2.1.2.2) X7 (by omega) (by omega) (fun g39 => ?_)
        have q39 := ck_v1.mp g39
        refine sg_aload_n (pc := 40) (j := 3) (dc_X7_codeOf_22.2.2.1.1) rfl rfl ?_
        refine sg_iload_n (pc := 41) (j := 2) (dc_X7_codeOf_22.2.2.1.2) rfl rfl ?_
        refine sg_iconst (pc := 42) (z := 1) (dc_X7_codeOf_22.2.2.2.1) (by decide) ?_
        first | refine sg_iaddB (pc := 43) (dc_X7_codeOf_22.2.2.2.2) (by omega) (by omega) ?_ | refine sg_iadd (pc := 43) (dc_X7_codeOf_22.2.2.2.2) ?_
        refine md_xld (pc := 44) (dc_X7_codeOf_44.1.1.1) X7 (by omega) (by omega) (fun g44 => ?_)
        have q44 := ck_v1.mp g44
        refine sg_cS2 (pc := 45) (d' := d - 1) (mc' := 0) (ms' := 0) g (dc_X7_codeOf_44.1.1.2) cb_X7_both ml_X7_147 ms_X7_both (Nat.le_of_ble_eq_true rfl) (by first | exact jl_d0 hd rfl | omega) (by first | exact Nat.le_of_ble_eq_true rfl | omega) (by first | exact Nat.le_of_ble_eq_true rfl | omega) ?_
        refine s_X7_both g (by first | exact jl_d1 hd rfl | omega) (fun z45 h45 => sg_K1 ?_)
        refine sg_goto (pc := 48) (tgt := 54) (dc_X7_codeOf_44.1.2.1) (by decide) ?_
        refine sg_iret (pc := 54) (dc_X7_codeOf_44.2.2.1) rfl (by first | exact Nat.le_of_ble_eq_true rfl | omega) (by first | exact Nat.le_of_ble_eq_true rfl | omega) ?_
        exact hQ _ (by unfold fs_cd; rw [if_pos ⟨fn_hi.mpr (by omega), by omega, fn_lo.mpr (by rw [show p.toNat + 1 = (p + 1).toNat by omega]; omega)⟩, show p.toNat + 1 = (p + 1).toNat by omega]; exact h45 (by omega) (by omega))

set_option maxRecDepth 100000 in
set_option maxHeartbeats 800000 in
theorem f_X7_codes {w : sg_W} {Q : sg_O → sg_H → Prop} {h : sg_H} (g : sg_G w) {d : Nat} (hd : 7 ≤ d) {M : Nat} {trk : Int} (hv : 0 ≤ trk ∧ trk < 2) {A : fa_A} {L : List Int} (hA : md_ab h M = A) (hL : fa_L A (4 + trk.toNat) = L) (hx : md_M w h M) (hQ : ∀ (h' : sg_H) (a : Nat), md_E h h' → md_X 2 h' a (fs_codes L) → Q (.inl (some (sg_r a))) h') : sg_C w mi_X7_codes d 76 675 [sg_r M, sg_i trk] h Q := by
  refine sg_of pn_X7 (Nat.le_of_ble_eq_true rfl) ?_
  have y0 := md_Y0 hx
  have hk := hx.2.1
  obtain ⟨hXr, l24⟩ := md_rT hx (i := 4 + trk) (by omega) (by omega)
  rw [hA, show (4 + trk).toNat = 4 + trk.toNat by omega, hL] at hXr l24
  have hu : ∀ z ∈ L, 0 ≤ z ∧ z ≤ 65535 := fun z hz => ck_v1.mp (hXr.2.1 z hz)
  refine sg_iconst (pc := 0) (z := 0) (dc_X7_codes_0.1.1.1.1) (by decide) ?_
  refine sg_newa (t := 100) (N := 0) (pc := 1) g (dc_X7_codes_0.1.1.1.2) ac_int rfl (by decide) (by decide) rfl rfl (by decide) (by omega) (by omega) (by omega) (by omega) ?_
  refine sg_astore_n (pc := 3) (j := 2) (dc_X7_codes_0.1.1.2.1) rfl (by decide) ?_
  refine sg_iconst (pc := 4) (z := 0) (dc_X7_codes_0.1.1.2.2) (by decide) ?_
  refine sg_istore_n (pc := 5) (j := 3) (dc_X7_codes_0.1.2.1.1) rfl (by decide) ?_
  have loop6 : ∀ (N : Nat) (h1 : sg_H) (p : Int) (a k1 n1 : Nat), (md_E h h1) → (md_X 2 h1 a (fs_cs L p.toNat)) → (0 ≤ p ∧ p ≤ (L.length : Int)) → (fs_bg L p.toNat) → ((k1 : Int) ≤ 1 + 3 * p) → ((n1 : Int) ≤ 27 * p) → (25 - p).toNat < N → sg_R w mi_X7_codes d 76 675 Q 6 [(3, sg_i p), (0, sg_r M), (1, sg_i trk), (2, sg_r a)] [] h1 k1 n1 := by
    intro N
    induction N with
    | zero => intro h1 p a k1 n1 E1 X1 p0 hb kb nb hm; exact absurd hm (Nat.not_lt_zero _)
    | succ N ih =>
      intro h1 p a k1 n1 E1 X1 p0 hb kb nb hm
      have x1 := md_ME hx E1
      have y1 := md_YE y0 E1
      have hk1 := x1.2.1
      have cl := fs_csl (L := L) (p := p.toNat)
      refine sg_iload_n (pc := 6) (j := 3) (dc_X7_codes_0.1.2.1.2) rfl rfl ?_
      refine sg_aload_n (pc := 7) (j := 0) (dc_X7_codes_0.1.2.2.1) rfl rfl ?_
      refine md_grw (pc := 8) g (dc_X7_codes_0.1.2.2.2) fk_X7_9 (by assumption) (fun r8 => ?_)
      refine sg_iconst (pc := 11) (z := 4) (dc_X7_codes_0.2.1.1.1) (by decide) ?_
      refine sg_iload_n (pc := 12) (j := 1) (dc_X7_codes_0.2.1.1.2) rfl rfl ?_
      first | refine sg_iaddB (pc := 13) (dc_X7_codes_0.2.1.2.1) (by omega) (by omega) ?_ | refine sg_iadd (pc := 13) (dc_X7_codes_0.2.1.2.1) ?_
      first | refine md_alX (pc := 14) (dc_X7_codes_0.2.1.2.2) hA (by assumption) (by assumption) (by omega) (by omega) (fun X14 l14 => ?_) | refine md_alXt (pc := 14) (dc_X7_codes_0.2.1.2.2) hA (by assumption) (by assumption) (by omega) (by omega) (fun X14 l14 => ?_)
      refine md_xlen (pc := 15) (dc_X7_codes_0.2.2.1.1) (by assumption) (by omega) ?_
      refine sg_icmp_ge (pc := 16) (tgt := 52) (dc_X7_codes_0.2.2.1.2) (by decide) (fun c16 => ?_) (fun c16 => ?_)
      · refine sg_aload_n (pc := 52) (j := 2) (dc_X7_codes_46.2.1.1) rfl rfl ?_
        refine sg_aret (pc := 53) (dc_X7_codes_46.2.1.2) rfl (by first | exact Or.inl ⟨_, rfl⟩ | exact Or.inr ⟨_, rfl⟩) (by first | exact Nat.le_of_ble_eq_true rfl | omega) (by first | exact Nat.le_of_ble_eq_true rfl | omega) ?_
        exact hQ _ _ E1 (by rw [show fs_codes L = fs_cs L p.toNat by rw [show p.toNat = L.length by omega]]; exact X1)
      · have cs := fs_cstep hu (p := p.toNat) (by omega) hb
        have cr := fs_cdr hu (p := p.toNat) (by omega)
        have sl := fs_sl1 (c := fs_cd L p.toNat)
        have E21 := md_Et E1 (md_FE (md_newF (c := 2) (N := 1) (h := h1)))
        have x21 := md_ME hx E21
        have y21 := md_YE y0 E21
        refine sg_aload_n (pc := 19) (j := 2) (dc_X7_codes_0.2.2.2.1) rfl rfl ?_
        refine sg_iconst (pc := 20) (z := 1) (dc_X7_codes_0.2.2.2.2) (by decide) ?_
        refine sg_newa (t := 100) (N := 1) (pc := 21) g (dc_X7_codes_21.1.1.1.1) ac_int rfl (by decide) (by decide) rfl rfl (by decide) (by omega) (by omega) (by omega) (by omega) ?_
        refine sg_dup (pc := 23) (dc_X7_codes_21.1.1.1.2) rfl ?_
        refine sg_iconst (pc := 24) (z := 0) (dc_X7_codes_21.1.1.2.1) (by decide) ?_
        refine sg_aload_n (pc := 25) (j := 0) (dc_X7_codes_21.1.1.2.2) rfl rfl ?_
        refine sg_iload_n (pc := 26) (j := 1) (dc_X7_codes_21.1.2.1.1) rfl rfl ?_
        refine sg_iload_n (pc := 27) (j := 3) (dc_X7_codes_21.1.2.1.2) rfl rfl ?_
        refine sg_cE2 (pc := 28) (d' := d - 1) (mc' := 0) (ms' := 0) 8 g (dc_X7_codes_21.1.2.2.1) cb_X7_codeOf ml_X7_150 mn_X7_codeOf rfl mv_X7_codeOf (Nat.le_of_ble_eq_true rfl) (md_oc (by assumption)) (Nat.le_of_ble_eq_true rfl) (by first | exact jl_d0 hd rfl | omega) (by first | exact Nat.le_of_ble_eq_true rfl | omega) (by first | exact Nat.le_of_ble_eq_true rfl | omega) ?_
        refine f_X7_codeOf g (by first | exact jl_d1 hd rfl | omega) (by omega) (md_Ya (h0 := h) (by assumption) hA) hL (by omega) (by assumption) (fun v28 e28 => sg_K1 ?_)
        refine md_astF (pc := 31) (dc_X7_codes_21.1.2.2.2) (md_newF (c := 2)) (by rw [ck_v2, e28]; exact cr) (by decide) (by decide) (fun h31 t31 => ?_)
        have l31 : [fs_cd L p.toNat].length = 1 := rfl
        have t31 : md_F 2 h1 h31 [fs_cd L p.toNat] := md_Fw t31 (by rw [e28]; rfl)
        refine sg_cS2 (pc := 32) (d' := d - 1) (mc' := 1) (ms' := ((fs_cs L p.toNat).length + [fs_cd L p.toNat].length)) g (dc_X7_codes_21.2.1.1.1) cb_X7_joined ml_X7_61 ms_X7_joined (Nat.le_of_ble_eq_true rfl) (by first | exact jl_d0 hd rfl | omega) (by first | exact Nat.le_of_ble_eq_true rfl | omega) (by first | exact Nat.le_of_ble_eq_true rfl | omega) ?_
        refine f_X7_joined (L := fs_cs L p.toNat) (M := [fs_cd L p.toNat]) g (by first | exact jl_d1 hd rfl | omega) (md_XE X1 (md_FE t31)) (md_FX t31) (by omega) (by omega) (fun h32 t32 => sg_K1 ?_)
        have E32 := md_Et E1 (md_Et (md_FE t31) (md_FE t32))
        have x32 : md_M w h32 M := md_ME hx E32
        have y32 : md_Y w h h32 M := md_YE y0 E32
        rw [← cs.1] at t32
        refine sg_astore_n (pc := 35) (j := 2) (dc_X7_codes_21.2.1.1.2) rfl (by decide) ?_
        refine sg_iload_n (pc := 36) (j := 3) (dc_X7_codes_21.2.1.2.1) rfl rfl ?_
        refine sg_aload_n (pc := 37) (j := 0) (dc_X7_codes_21.2.1.2.2) rfl rfl ?_
        refine sg_iload_n (pc := 38) (j := 1) (dc_X7_codes_21.2.2.1.1) rfl rfl ?_
        refine sg_iload_n (pc := 39) (j := 3) (dc_X7_codes_21.2.2.1.2) rfl rfl ?_
        refine sg_cE2 (pc := 40) (d' := d - 1) (mc' := 0) (ms' := 0) 8 g (dc_X7_codes_21.2.2.2.1) cb_X7_codeOf ml_X7_150 mn_X7_codeOf rfl mv_X7_codeOf (Nat.le_of_ble_eq_true rfl) (md_oc (by assumption)) (Nat.le_of_ble_eq_true rfl) (by first | exact jl_d0 hd rfl | omega) (by first | exact Nat.le_of_ble_eq_true rfl | omega) (by first | exact Nat.le_of_ble_eq_true rfl | omega) ?_
        refine f_X7_codeOf g (by first | exact jl_d1 hd rfl | omega) (by omega) (md_Ya (h0 := h) (by assumption) hA) hL (by omega) (by assumption) (fun v40 e40 => sg_K1 ?_)
        refine sg_cS1 (pc := 43) (d' := d - 1) (mc' := 1) (ms' := 2) g (dc_X7_codes_21.2.2.2.2) cb_X7_sent ml_X7_133 ms_X7_sent (Nat.le_of_ble_eq_true rfl) (by first | exact jl_d0 hd rfl | omega) (by first | exact Nat.le_of_ble_eq_true rfl | omega) (by first | exact Nat.le_of_ble_eq_true rfl | omega) ?_
        refine f_X7_sent g (by first | exact jl_d1 hd rfl | omega) (by omega) (fun h43 t43 => sg_K1 ?_)
        skip
        rw [e40] at t43
        refine md_xlen (pc := 46) (dc_X7_codes_46.1.1.1) (md_FX t43) (by omega) ?_
        first | refine sg_iaddB (pc := 47) (dc_X7_codes_46.1.1.2) (by omega) (by omega) ?_ | refine sg_iadd (pc := 47) (dc_X7_codes_46.1.1.2) ?_
        refine sg_istore_n (pc := 48) (j := 3) (dc_X7_codes_46.1.2.1) rfl (by decide) ?_
        refine sg_goto (pc := 49) (tgt := 6) (dc_X7_codes_46.1.2.2) (by decide) ?_
        refine sg_lsub (lv' := [(3, _), (0, _), (1, _), (2, _)]) ⟨rfl, rfl, rfl, rfl, trivial⟩ ?_
        exact ih _ _ _ _ _ (md_Et E32 (md_FE t43)) (by rw [show (p + ((fs_sent (fs_cd L p.toNat)).length : Int)).toNat = p.toNat + (fs_sent (fs_cd L p.toNat)).length by omega]; exact md_XE (md_FX t32) (md_FE t43)) (by omega) (by rw [show (p + ((fs_sent (fs_cd L p.toNat)).length : Int)).toNat = p.toNat + (fs_sent (fs_cd L p.toNat)).length by omega]; exact cs.2.1) (by omega) (by omega) (by first | exact jl_m1 hm (by omega) | exact jl_m2 hm (by omega) | omega)
  refine sg_lsub (lv' := [(3, _), (0, _), (1, _), (2, _)]) ⟨rfl, rfl, rfl, rfl, trivial⟩ ?_
  exact loop6 _ _ _ _ _ _ (md_FE (md_newF (c := 2))) (md_FX md_newF) (by omega) (Or.inl rfl) (by omega) (by omega) (Nat.lt_succ_self _)

set_option maxRecDepth 100000 in
set_option maxHeartbeats 1000000 in
theorem f_X7_reverse {w : sg_W} {Q : sg_O → sg_H → Prop} {h : sg_H} (g : sg_G w) {d : Nat} (hd : 9 ≤ d) {M : Nat} {trk : Int} {A : fa_A} {L : List Int} (hA : md_ab h M = A) (hL : fa_L A (4 + trk.toNat) = L) (ok : fa_ok A) (hx : md_M w h M) (hQ : ∀ (v : Int) (h' : sg_H), ((trk < 0 ∨ 2 ≤ trk) → md_t h' M = 1) → (¬ (trk < 0 ∨ 2 ≤ trk) → md_t h' M = 0) → (md_t h' M = 0 → v = ((fs_codes ((fs_codes L).reverse.flatMap fs_sent)).length : Int) ∧ md_ab h' M = fa_put A (4 + trk.toNat) ((fs_codes L).reverse.flatMap fs_sent)) → (md_t h' M ≠ 0 → md_ab h' M = A) → md_W w h h' M → Q (.inl (some (sg_i v))) h') : sg_C w mi_X7_reverse d 210 2100 [sg_r M, sg_i trk] h Q := by
  refine sg_of pn_X7 (Nat.le_of_ble_eq_true rfl) ?_
  have y0 := md_Y0 hx
  have hk := hx.2.1
  have hu : (0 ≤ trk ∧ trk < 2) → (∀ z ∈ L, 0 ≤ z ∧ z ≤ 65535) ∧ L.length ≤ 24 := fun q => by
    obtain ⟨r1, r2⟩ := md_rT hx (i := 4 + trk) (by omega) (by omega)
    rw [hA, show (4 + trk).toNat = 4 + trk.toNat by omega, hL] at r1 r2
    exact ⟨fun z hz => ck_v1.mp (r1.2.1 z hz), r2⟩
  refine sg_aload_n (pc := 0) (j := 0) (dc_X7_reverse_0.1.1.1.1) rfl rfl ?_
  refine sg_iload_n (pc := 1) (j := 1) (dc_X7_reverse_0.1.1.1.2) rfl rfl ?_
  refine sg_cS1 (pc := 2) (d' := d - 1) (mc' := 0) (ms' := 0) g (dc_X7_reverse_0.1.1.2.1) cb_X7_isNoTrack ml_X7_129 ms_X7_isNoTrack (Nat.le_of_ble_eq_true rfl) (by first | exact jl_d0 hd rfl | omega) (by first | exact Nat.le_of_ble_eq_true rfl | omega) (by first | exact Nat.le_of_ble_eq_true rfl | omega) ?_
  refine s_X7_isNoTrack g (by first | exact jl_d1 hd rfl | omega) (fun z2 h2 b2 => sg_K1 ?_)
  (try simp only [fm_no, fm_one, fn_betw, fn_sign, fn_radix, fn_high, fn_low, if_true, if_false] at h2)
  refine sg_iconst (pc := 5) (z := 1) (dc_X7_reverse_0.1.1.2.2) (by decide) ?_
  refine sg_cE2 (pc := 6) (d' := d - 1) (mc' := 0) (ms' := 0) 8 g (dc_X7_reverse_0.1.2.1.1) cb_X7_start ml_X7_71 mn_X7_start rfl mv_X7_start (Nat.le_of_ble_eq_true rfl) (md_oc (by assumption)) (Nat.le_of_ble_eq_true rfl) (by first | exact jl_d0 hd rfl | omega) (by first | exact Nat.le_of_ble_eq_true rfl | omega) (by first | exact Nat.le_of_ble_eq_true rfl | omega) ?_
  refine s_X7_start g (by first | exact jl_d1 hd rfl | omega) (by omega) (by assumption) (fun v6 h6 b6 i6 t6 s6 u6 y6 => sg_K1 ?_)
  have x6 := y6.1
  have hk6 := x6.2.1
  have y6 := md_Yt (h0 := h) (by assumption) y6
  refine sg_if_eq (pc := 9) (tgt := 14) (dc_X7_reverse_0.1.2.1.2) (by decide) (fun c9 => ?_) (fun c9 => ?_)
  · have hu2 := hu (by omega)
    have T15 := md_newF (c := 1) (N := 0) (h := h6)
    have x15 : md_M w (h6.1 + 1, sg_up h6.2 h6.1 (100, List.replicate 0 (sg_i 0))) M := md_ME x6 (md_FE T15)
    have th15 := md_tE (w := w) (M := M) x6 (md_FE T15)
    have y15 : md_Y w h (h6.1 + 1, sg_up h6.2 h6.1 (100, List.replicate 0 (sg_i 0))) M := md_YE y6 (md_FE T15)
    have cl6 : (fs_codes L).length ≤ L.length := fs_csl
    refine sg_iconst (pc := 14) (z := 0) (dc_X7_reverse_0.2.1.1.1) (by decide) ?_
    refine sg_newa (t := 100) (N := 0) (pc := 15) g (dc_X7_reverse_0.2.1.1.2) ac_int rfl (by decide) (by decide) rfl rfl (by decide) (by omega) (by omega) (by omega) (by omega) ?_
    refine sg_astore_n (pc := 17) (j := 2) (dc_X7_reverse_0.2.1.2.1) rfl (by decide) ?_
    refine sg_aload_n (pc := 18) (j := 0) (dc_X7_reverse_0.2.1.2.2) rfl rfl ?_
    refine sg_iload_n (pc := 19) (j := 1) (dc_X7_reverse_0.2.2.1.1) rfl rfl ?_
    refine sg_cE1 (pc := 20) (d' := d - 1) (mc' := 76) (ms' := 675) 8 g (dc_X7_reverse_0.2.2.1.2) cb_X7_codes ml_X7_153 mn_X7_codes rfl mv_X7_codes (Nat.le_of_ble_eq_true rfl) (md_oc (by assumption)) (Nat.le_of_ble_eq_true rfl) (by first | exact jl_d0 hd rfl | omega) (by first | exact Nat.le_of_ble_eq_true rfl | omega) (by first | exact Nat.le_of_ble_eq_true rfl | omega) ?_
    refine f_X7_codes g (by first | exact jl_d1 hd rfl | omega) (by omega) (md_Ya (h0 := h) (by assumption) hA) hL (by assumption) (fun h20 a20 E20 C20 => sg_K1 ?_)
    have x20 : md_M w h20 M := md_ME (by assumption) E20
    have hk20 := x20.2.1
    have th20 := md_tE (w := w) (M := M) (by assumption) E20
    have y20 : md_Y w h h20 M := md_YE (by assumption) E20
    refine sg_astore_n (pc := 23) (j := 3) (dc_X7_reverse_0.2.2.2.1) rfl (by decide) ?_
    refine sg_aload_n (pc := 24) (j := 3) (dc_X7_reverse_0.2.2.2.2) rfl rfl ?_
    refine md_xlen (pc := 25) (dc_X7_reverse_25.1.1.1.1) C20 (by omega) ?_
    refine sg_istore (pc := 26) (dc_X7_reverse_25.1.1.1.2) (by decide) ?_
    refine sg_iconst (pc := 28) (z := 0) (dc_X7_reverse_25.1.1.2.1) (by decide) ?_
    refine sg_istore (pc := 29) (dc_X7_reverse_25.1.1.2.2) (by decide) ?_
    have loop31 : ∀ (N : Nat) (h1 : sg_H) (p b k1 n1 : Nat), (md_E h20 h1) → (md_X 1 h1 b (fs_rv L p)) → (p ≤ (fs_codes L).length) → (k1 ≤ 77 + 2 * p) → (n1 ≤ 675 + 28 * p) → ((fs_codes L).length - p) < N → sg_R w mi_X7_reverse d 210 2100 Q 31 [(5, sg_i (p : Int)), (4, sg_i ((fs_codes L).length : Int)), (3, sg_r a20), (2, sg_r b), (0, sg_r M), (1, sg_i trk)] [] h1 k1 n1 := by
      intro N
      induction N with
      | zero => intro h1 p b k1 n1 E1 B1 p1 kb nb hm; exact absurd hm (Nat.not_lt_zero _)
      | succ N ih =>
        intro h1 p b k1 n1 E1 B1 p1 kb nb hm
        have x1 : md_M w h1 M := md_ME x20 E1
        have hk1 := x1.2.1
        have y1 : md_Y w h h1 M := md_YE y20 E1
        have th1 := md_tE (w := w) (M := M) x20 E1
        have rl := fs_rvl hu2.1 (k := p)
        refine sg_iload (pc := 31) (dc_X7_reverse_25.1.2.1.1) rfl ?_
        refine sg_iload (pc := 33) (dc_X7_reverse_25.1.2.1.2) rfl ?_
        refine sg_icmp_ge (pc := 35) (tgt := 60) (dc_X7_reverse_25.1.2.2.1) (by decide) (fun c35 => ?_) (fun c35 => ?_)
        · have rn := fs_rvn (L := L) (k := p) (by omega)
          rw [rn] at B1 rl
          refine sg_aload_n (pc := 60) (j := 0) (dc_X7_reverse_54.1.1.2.1) rfl rfl ?_
          refine sg_iconst (pc := 61) (z := 4) (dc_X7_reverse_54.1.1.2.2) (by decide) ?_
          refine sg_iload_n (pc := 62) (j := 1) (dc_X7_reverse_54.1.2.1.1) rfl rfl ?_
          first | refine sg_iaddB (pc := 63) (dc_X7_reverse_54.1.2.1.2) (by omega) (by omega) ?_ | refine sg_iadd (pc := 63) (dc_X7_reverse_54.1.2.1.2) ?_
          refine sg_aload_n (pc := 64) (j := 2) (dc_X7_reverse_54.1.2.2.1) rfl rfl ?_
          refine sg_cE2 (pc := 65) (d' := d - 1) (mc' := 2) (ms' := 16) 8 g (dc_X7_reverse_54.1.2.2.2) cb_X7_set ml_X7_78 mn_X7_set rfl mv_X7_set (Nat.le_of_ble_eq_true rfl) (md_oc (by assumption)) (Nat.le_of_ble_eq_true rfl) (by first | exact jl_d0 hd rfl | omega) (by first | exact Nat.le_of_ble_eq_true rfl | omega) (by first | exact Nat.le_of_ble_eq_true rfl | omega) ?_
          refine s_X7_set g (by first | exact jl_d1 hd rfl | omega) (by omega) (by assumption) (fun q => absurd q (by omega)) (fun q => ⟨md_XA B1, by first | omega | (simp only [List.length_take, List.length_reverse, List.length_map, List.length_append, tt_len]; omega)⟩) (fun h65 y65 t65 ab65 => sg_K1 ?_)
          rw [md_Ya y1 hA, md_xl B1] at ab65
          rw [show (4 + trk).toNat = 4 + trk.toNat by omega] at ab65
          have x65 := y65.1
          have hk65 := x65.2.1
          have z65 : md_W w h h65 M := md_Wt y1 y65
          refine sg_pop (pc := 68) (dc_X7_reverse_54.2.1.1.1) rfl ?_
          refine sg_aload_n (pc := 69) (j := 0) (dc_X7_reverse_54.2.1.1.2) rfl rfl ?_
          refine sg_iload_n (pc := 70) (j := 1) (dc_X7_reverse_54.2.1.2.1) rfl rfl ?_
          refine sg_cE1 (pc := 71) (d' := d - 1) (mc' := 76) (ms' := 675) 8 g (dc_X7_reverse_54.2.1.2.2) cb_X7_codes ml_X7_153 mn_X7_codes rfl mv_X7_codes (Nat.le_of_ble_eq_true rfl) (md_oc x65) (Nat.le_of_ble_eq_true rfl) (by first | exact jl_d0 hd rfl | omega) (by first | exact Nat.le_of_ble_eq_true rfl | omega) (by first | exact Nat.le_of_ble_eq_true rfl | omega) ?_
          refine f_X7_codes g (by first | exact jl_d1 hd rfl | omega) (by omega) ab65 (fa_Lp (by rw [md_ab6 hA]; omega)) x65 (fun h71 a71 E71 C71 => sg_K1 ?_)
          have z71 := md_WE z65 E71
          have ab71 : md_ab h71 M = _ := (md_abE x65 E71).trans ab65
          have t71 := md_tE x65 E71
          have cl7 : (fs_codes ((fs_codes L).reverse.flatMap fs_sent)).length ≤ ((fs_codes L).reverse.flatMap fs_sent).length := fs_csl
          refine md_xlen (pc := 74) (dc_X7_reverse_54.2.2.1.1) C71 (by omega) ?_
          refine sg_iret (pc := 75) (dc_X7_reverse_54.2.2.1.2) rfl (by first | exact Nat.le_of_ble_eq_true rfl | omega) (by first | exact Nat.le_of_ble_eq_true rfl | omega) ?_
          exact hQ _ _ (by omega) (by omega) (fun _ => ⟨rfl, ab71⟩) (fun q => absurd (by omega) q) z71
        · refine sg_aload_n (pc := 38) (j := 3) (dc_X7_reverse_25.1.2.2.2) rfl rfl ?_
          refine sg_iload (pc := 39) (dc_X7_reverse_25.2.1.1.1) rfl ?_
          refine md_xld (pc := 41) (dc_X7_reverse_25.2.1.1.2) (md_XE C20 E1) (by omega) (by omega) (fun g41 => ?_)
          have q41 := ck_v2.mp g41
          have rs := fs_rvs (L := L) (k := p) (by omega)
          rw [Int.toNat_natCast] at q41 ⊢
          have sl := fs_sl1 (c := (fs_codes L).getD p 0)
          refine sg_istore (pc := 42) (dc_X7_reverse_25.2.1.2.1) (by decide) ?_
          refine sg_iload (pc := 44) (dc_X7_reverse_25.2.1.2.2) rfl ?_
          refine sg_cS1 (pc := 46) (d' := d - 1) (mc' := 1) (ms' := 2) g (dc_X7_reverse_25.2.2.1.1) cb_X7_sent ml_X7_133 ms_X7_sent (Nat.le_of_ble_eq_true rfl) (by first | exact jl_d0 hd rfl | omega) (by first | exact Nat.le_of_ble_eq_true rfl | omega) (by first | exact Nat.le_of_ble_eq_true rfl | omega) ?_
          refine f_X7_sent g (by first | exact jl_d1 hd rfl | omega) (by omega) (fun h46 t46 => sg_K1 ?_)
          skip
          refine sg_aload_n (pc := 49) (j := 2) (dc_X7_reverse_25.2.2.1.2) rfl rfl ?_
          refine sg_cS2 (pc := 50) (d' := d - 1) (mc' := 1) (ms' := ((fs_sent ((fs_codes L).getD p 0)).length + (fs_rv L p).length)) g (dc_X7_reverse_25.2.2.2.1) cb_X7_joined ml_X7_61 ms_X7_joined (Nat.le_of_ble_eq_true rfl) (by first | exact jl_d0 hd rfl | omega) (by first | exact Nat.le_of_ble_eq_true rfl | omega) (by first | exact Nat.le_of_ble_eq_true rfl | omega) ?_
          refine f_X7_joined (c := 1) g (by first | exact jl_d1 hd rfl | omega) (md_FX t46) (md_XE B1 (md_FE t46)) (by omega) (by omega) (fun h50 t50 => sg_K1 ?_)
          rw [rs] at t50
          refine sg_astore_n (pc := 53) (j := 2) (dc_X7_reverse_25.2.2.2.2) rfl (by decide) ?_
          first | refine sg_iincB (pc := 54) (dc_X7_reverse_54.1.1.1.1) rfl (by decide) (by decide) (by omega) (by omega) ?_ | refine sg_iinc (pc := 54) (dc_X7_reverse_54.1.1.1.1) rfl (by decide) (by decide) ?_
          refine sg_goto (pc := 57) (tgt := 31) (dc_X7_reverse_54.1.1.1.2) (by decide) ?_
          refine sg_lsub (lv' := [(5, _), (4, _), (3, _), (2, _), (0, _), (1, _)]) ⟨rfl, rfl, rfl, rfl, rfl, rfl, trivial⟩ ?_
          exact ih _ (p + 1) _ _ _ (md_Et E1 (md_Et (md_FE t46) (md_FE t50))) (md_FX t50) (by omega) (by omega) (by omega) (by first | exact jl_m1 hm (by omega) | exact jl_m2 hm (by omega) | omega)
    refine sg_lsub (lv' := [(5, _), (4, _), (3, _), (2, _), (0, _), (1, _)]) ⟨rfl, rfl, rfl, rfl, rfl, rfl, trivial⟩ ?_
    exact loop31 _ _ 0 _ _ _ md_E0 (md_XE (md_FX (md_newF (c := 1) (N := 0) (h := h6))) E20) (by omega) (by omega) (by omega) (Nat.lt_succ_self _)
  · refine sg_iconst (pc := 12) (z := 0) (dc_X7_reverse_0.1.2.2.1) (by decide) ?_
    refine sg_iret (pc := 13) (dc_X7_reverse_0.1.2.2.2) rfl (by first | exact Nat.le_of_ble_eq_true rfl | omega) (by first | exact Nat.le_of_ble_eq_true rfl | omega) ?_
    exact hQ _ _ (by omega) (by omega) (fun q => absurd q (by omega)) (fun _ => md_Ya (by assumption) hA) (md_YW (by assumption))

set_option maxRecDepth 100000 in
theorem f_X7_refuseR {w : sg_W} {Q : sg_O → sg_H → Prop} {h : sg_H} (g : sg_G w) {d : Nat} (hd : 1 ≤ d) {M : Nat} {th kn is wh : Int} {R b : Nat} (hM : h.2 M = some (8, [sg_i th, sg_r R, sg_r b, sg_i kn])) (th0 : 0 ≤ th) (w0 : 0 < wh) (hQ : ∀ (v th' : Int) (f : Nat → Option sg_E), 0 ≤ th' → (v = 0 ∨ v = 1) → ((th = 0 ∧ is ≠ 0 → v = 1 ∧ th' = wh) ∧ (th = 0 ∧ is = 0 → v = 0 ∧ th' = 0)) → f M = some (8, [sg_i th', sg_r R, sg_r b, sg_i kn]) → (∀ q, q ≠ M → f q = h.2 q) → Q (.inl (some (sg_i v))) (h.1, f)) : sg_C w mi_X7_refuse d 0 0 [sg_r M, sg_i is, sg_i wh] h Q := by
  refine sg_of pn_X7 (Nat.le_of_ble_eq_true rfl) ?_
  refine sg_iload_n (pc := 0) (j := 1) (dc_X7_refuse_0.1.1.1.1) rfl rfl ?_
  refine sg_if_eq (pc := 1) (tgt := 16) (dc_X7_refuse_0.1.1.1.2) (by decide) (fun c1 => ?_) (fun c1 => ?_)
  · refine sg_aload_n (pc := 16) (j := 0) (dc_X7_refuse_0.2.1.1.1) rfl rfl ?_
    refine sg_getf (pc := 17) g (dc_X7_refuse_0.2.1.1.2) fk_X7_41 (by first | assumption | (repeat (first | with_reducible exact sg_up_s | with_reducible refine (sg_up_n (by omega)).trans ?_)) <;> assumption) (by rfl) (by rfl) ?_
    refine sg_if_le (pc := 20) (tgt := 27) (dc_X7_refuse_0.2.1.2.1) (by decide) (fun c20 => ?_) (fun c20 => ?_)
    · refine sg_iconst (pc := 27) (z := 0) (dc_X7_refuse_0.2.2.1.2) (by decide) ?_
      refine sg_zret (pc := 28) (dc_X7_refuse_0.2.2.2.1) rfl (by first | exact Or.inl rfl | exact Or.inr rfl | omega | assumption) (by first | exact Nat.le_of_ble_eq_true rfl | omega) (by first | exact Nat.le_of_ble_eq_true rfl | omega) ?_
      first | exact hQ _ _ _ (by omega) (by first | exact Or.inl rfl | exact Or.inr rfl) (by omega) hM (fun _ _ => rfl) | exact hQ _ _ _ (by omega) (by first | exact Or.inl rfl | exact Or.inr rfl) (by omega) sg_up_s (fun q hq => sg_up_n hq)
    · refine sg_iconst (pc := 23) (z := 1) (dc_X7_refuse_0.2.1.2.2) (by decide) ?_
      refine sg_goto (pc := 24) (tgt := 28) (dc_X7_refuse_0.2.2.1.1) (by decide) ?_
      refine sg_zret (pc := 28) (dc_X7_refuse_0.2.2.2.1) rfl (by first | exact Or.inl rfl | exact Or.inr rfl | omega | assumption) (by first | exact Nat.le_of_ble_eq_true rfl | omega) (by first | exact Nat.le_of_ble_eq_true rfl | omega) ?_
      first | exact hQ _ _ _ (by omega) (by first | exact Or.inl rfl | exact Or.inr rfl) (by omega) hM (fun _ _ => rfl) | exact hQ _ _ _ (by omega) (by first | exact Or.inl rfl | exact Or.inr rfl) (by omega) sg_up_s (fun q hq => sg_up_n hq)
  · refine sg_aload_n (pc := 4) (j := 0) (dc_X7_refuse_0.1.1.2.1) rfl rfl ?_
    refine sg_getf (pc := 5) g (dc_X7_refuse_0.1.1.2.2) fk_X7_41 (by first | assumption | (repeat (first | with_reducible exact sg_up_s | with_reducible refine (sg_up_n (by omega)).trans ?_)) <;> assumption) (by rfl) (by rfl) ?_
    refine sg_if_ne (pc := 8) (tgt := 16) (dc_X7_refuse_0.1.2.1.1) (by decide) (fun c8 => ?_) (fun c8 => ?_)
    · refine sg_aload_n (pc := 16) (j := 0) (dc_X7_refuse_0.2.1.1.1) rfl rfl ?_
      refine sg_getf (pc := 17) g (dc_X7_refuse_0.2.1.1.2) fk_X7_41 (by first | assumption | (repeat (first | with_reducible exact sg_up_s | with_reducible refine (sg_up_n (by omega)).trans ?_)) <;> assumption) (by rfl) (by rfl) ?_
      refine sg_if_le (pc := 20) (tgt := 27) (dc_X7_refuse_0.2.1.2.1) (by decide) (fun c20 => ?_) (fun c20 => ?_)
      · refine sg_iconst (pc := 27) (z := 0) (dc_X7_refuse_0.2.2.1.2) (by decide) ?_
        refine sg_zret (pc := 28) (dc_X7_refuse_0.2.2.2.1) rfl (by first | exact Or.inl rfl | exact Or.inr rfl | omega | assumption) (by first | exact Nat.le_of_ble_eq_true rfl | omega) (by first | exact Nat.le_of_ble_eq_true rfl | omega) ?_
        first | exact hQ _ _ _ (by omega) (by first | exact Or.inl rfl | exact Or.inr rfl) (by omega) hM (fun _ _ => rfl) | exact hQ _ _ _ (by omega) (by first | exact Or.inl rfl | exact Or.inr rfl) (by omega) sg_up_s (fun q hq => sg_up_n hq)
      · refine sg_iconst (pc := 23) (z := 1) (dc_X7_refuse_0.2.1.2.2) (by decide) ?_
        refine sg_goto (pc := 24) (tgt := 28) (dc_X7_refuse_0.2.2.1.1) (by decide) ?_
        refine sg_zret (pc := 28) (dc_X7_refuse_0.2.2.2.1) rfl (by first | exact Or.inl rfl | exact Or.inr rfl | omega | assumption) (by first | exact Nat.le_of_ble_eq_true rfl | omega) (by first | exact Nat.le_of_ble_eq_true rfl | omega) ?_
        first | exact hQ _ _ _ (by omega) (by first | exact Or.inl rfl | exact Or.inr rfl) (by omega) hM (fun _ _ => rfl) | exact hQ _ _ _ (by omega) (by first | exact Or.inl rfl | exact Or.inr rfl) (by omega) sg_up_s (fun q hq => sg_up_n hq)
    · refine sg_aload_n (pc := 11) (j := 0) (dc_X7_refuse_0.1.2.1.2) rfl rfl ?_
      refine sg_iload_n (pc := 12) (j := 2) (dc_X7_refuse_0.1.2.2.1) rfl rfl ?_
      refine sg_putf (pc := 13) g (dc_X7_refuse_0.1.2.2.2) fk_X7_41 (by first | assumption | (repeat (first | with_reducible exact sg_up_s | with_reducible refine (sg_up_n (by omega)).trans ?_)) <;> assumption) sg_ft_i ?_
      try dsimp only
      refine sg_aload_n (pc := 16) (j := 0) (dc_X7_refuse_0.2.1.1.1) rfl rfl ?_
      refine sg_getf (pc := 17) g (dc_X7_refuse_0.2.1.1.2) fk_X7_41 (by first | assumption | (repeat (first | with_reducible exact sg_up_s | with_reducible refine (sg_up_n (by omega)).trans ?_)) <;> assumption) (by rfl) (by rfl) ?_
      refine sg_if_le (pc := 20) (tgt := 27) (dc_X7_refuse_0.2.1.2.1) (by decide) (fun c20 => ?_) (fun c20 => ?_)
      · refine sg_iconst (pc := 27) (z := 0) (dc_X7_refuse_0.2.2.1.2) (by decide) ?_
        refine sg_zret (pc := 28) (dc_X7_refuse_0.2.2.2.1) rfl (by first | exact Or.inl rfl | exact Or.inr rfl | omega | assumption) (by first | exact Nat.le_of_ble_eq_true rfl | omega) (by first | exact Nat.le_of_ble_eq_true rfl | omega) ?_
        first | exact hQ _ _ _ (by omega) (by first | exact Or.inl rfl | exact Or.inr rfl) (by omega) hM (fun _ _ => rfl) | exact hQ _ _ _ (by omega) (by first | exact Or.inl rfl | exact Or.inr rfl) (by omega) sg_up_s (fun q hq => sg_up_n hq)
      · refine sg_iconst (pc := 23) (z := 1) (dc_X7_refuse_0.2.1.2.2) (by decide) ?_
        refine sg_goto (pc := 24) (tgt := 28) (dc_X7_refuse_0.2.2.1.1) (by decide) ?_
        refine sg_zret (pc := 28) (dc_X7_refuse_0.2.2.2.1) rfl (by first | exact Or.inl rfl | exact Or.inr rfl | omega | assumption) (by first | exact Nat.le_of_ble_eq_true rfl | omega) (by first | exact Nat.le_of_ble_eq_true rfl | omega) ?_
        first | exact hQ _ _ _ (by omega) (by first | exact Or.inl rfl | exact Or.inr rfl) (by omega) hM (fun _ _ => rfl) | exact hQ _ _ _ (by omega) (by first | exact Or.inl rfl | exact Or.inr rfl) (by omega) sg_up_s (fun q hq => sg_up_n hq)

set_option maxRecDepth 100000 in
theorem f_X7_startR {w : sg_W} {Q : sg_O → sg_H → Prop} {h : sg_H} (g : sg_G w) {d : Nat} (hd : 2 ≤ d) {M : Nat} {th kn is wh : Int} {R b : Nat} (hM : h.2 M = some (8, [sg_i th, sg_r R, sg_r b, sg_i kn])) (th0 : 0 ≤ th) (w0 : 0 < wh) (hQ : ∀ (v th' : Int) (f : Nat → Option sg_E), 0 ≤ th' → (v = 0 ∨ v = 1) → ((is ≠ 0 → v = 1 ∧ th' = wh) ∧ (is = 0 → v = 0 ∧ th' = 0)) → f M = some (8, [sg_i th', sg_r R, sg_r b, sg_i kn]) → (∀ q, q ≠ M → f q = h.2 q) → Q (.inl (some (sg_i v))) (h.1, f)) : sg_C w mi_X7_start d 0 0 [sg_r M, sg_i is, sg_i wh] h Q := by
  refine sg_of pn_X7 (Nat.le_of_ble_eq_true rfl) ?_
  refine sg_aload_n (pc := 0) (j := 0) (dc_X7_start_0.1.1.1) rfl rfl ?_
  refine sg_iconst (pc := 1) (z := 0) (dc_X7_start_0.1.1.2) (by decide) ?_
  refine sg_putf (pc := 2) g (dc_X7_start_0.1.2.1) fk_X7_41 (by first | assumption | (repeat (first | with_reducible exact sg_up_s | with_reducible refine (sg_up_n (by omega)).trans ?_)) <;> assumption) sg_ft_i ?_
  try dsimp only
  refine sg_aload_n (pc := 5) (j := 0) (dc_X7_start_0.1.2.2) rfl rfl ?_
  refine sg_iload_n (pc := 6) (j := 1) (dc_X7_start_0.2.1.1) rfl rfl ?_
  refine sg_iload_n (pc := 7) (j := 2) (dc_X7_start_0.2.1.2) rfl rfl ?_
  refine sg_cV2 (pc := 8) (d' := d - 1) (mc' := 0) (ms' := 0) g (dc_X7_start_0.2.2.1) cb_X7_refuse ml_X7_45 mn_X7_refuse mv_X7_refuse sg_up_s (Nat.le_of_ble_eq_true rfl) rfl (Nat.le_of_ble_eq_true rfl) (by first | exact jl_d0 hd rfl | omega) (by first | exact Nat.le_of_ble_eq_true rfl | omega) (by first | exact Nat.le_of_ble_eq_true rfl | omega) ?_
  refine f_X7_refuseR g (by first | exact jl_d1 hd rfl | omega) sg_up_s (by decide) w0 (fun v8 t8 f8 o8 b8 i8 m8 r8 => ?_)
  refine sg_K1 ?_
  refine sg_zret (pc := 11) (dc_X7_start_0.2.2.2) rfl (by first | exact Or.inl rfl | exact Or.inr rfl | omega | assumption) (by first | exact Nat.le_of_ble_eq_true rfl | omega) (by first | exact Nat.le_of_ble_eq_true rfl | omega) ?_
  exact hQ v8 t8 f8 o8 b8 (by omega) m8 (fun q hq => (r8 q hq).trans (sg_up_n hq))

set_option maxRecDepth 100000 in
theorem f_al_isEmpty {w : sg_W} {Q : sg_O → sg_H → Prop} {h : sg_H} (g : sg_G w) {d : Nat} (hd : 1 ≤ d) {b E : Nat} {m sz : Int} (hb : h.2 b = some (2, [sg_i m, sg_r E, sg_i sz])) (hQ : ∀ z : Int, ((z = 0 ∧ sz ≠ 0) ∨ (z = 1 ∧ sz = 0)) → Q (.inl (some (sg_i z))) h) : sg_C w mi_Jx4a65c_isEmpty_aae02 d 0 0 [sg_r b] h Q := by
  refine sg_of pn_Jx4a65c (Nat.le_of_ble_eq_true rfl) ?_
  refine sg_aload_n (pc := 0) (j := 0) (dc_Jx4a65c_isEmpty_aae02_0.1.1.1) rfl rfl ?_
  refine sg_getf (pc := 1) g (dc_Jx4a65c_isEmpty_aae02_0.1.1.2) fk_Jx4a65c_48 hb rfl rfl ?_
  refine sg_if_ne (pc := 4) (tgt := 11) (dc_Jx4a65c_isEmpty_aae02_0.1.2.1) (by decide) (fun c4 => ?_) (fun c4 => ?_)
  · refine sg_iconst (pc := 11) (z := 0) (dc_Jx4a65c_isEmpty_aae02_0.2.1.2) (by decide) ?_
    refine sg_zret (pc := 12) (dc_Jx4a65c_isEmpty_aae02_0.2.2.1) rfl (by first | exact Or.inl rfl | exact Or.inr rfl | omega | assumption) (by first | exact Nat.le_of_ble_eq_true rfl | omega) (by first | exact Nat.le_of_ble_eq_true rfl | omega) ?_
    first | exact hQ _ (Or.inl ⟨rfl, by omega⟩) | exact hQ _ (Or.inr ⟨rfl, by omega⟩)
  · refine sg_iconst (pc := 7) (z := 1) (dc_Jx4a65c_isEmpty_aae02_0.1.2.2) (by decide) ?_
    refine sg_goto (pc := 8) (tgt := 12) (dc_Jx4a65c_isEmpty_aae02_0.2.1.1) (by decide) ?_
    refine sg_zret (pc := 12) (dc_Jx4a65c_isEmpty_aae02_0.2.2.1) rfl (by first | exact Or.inl rfl | exact Or.inr rfl | omega | assumption) (by first | exact Nat.le_of_ble_eq_true rfl | omega) (by first | exact Nat.le_of_ble_eq_true rfl | omega) ?_
    first | exact hQ _ (Or.inl ⟨rfl, by omega⟩) | exact hQ _ (Or.inr ⟨rfl, by omega⟩)

set_option maxRecDepth 100000 in
set_option maxHeartbeats 400000 in
theorem f_X7_undo {w : sg_W} {Q : sg_O → sg_H → Prop} {h : sg_H} (g : sg_G w) {d : Nat} (hd : 6 ≤ d) {M : Nat} {A : fa_A} (hA : md_ab h M = A) (hx : md_M w h M) (hQ : ∀ (v : Int) (h' : sg_H), (A.2.1.length = 0 → md_t h' M = 1) → (¬ (A.2.1.length = 0) → md_t h' M = 0) → (md_t h' M = 0 → v = (A.2.1.length : Int) - 1 ∧ md_ab h' M = (A.2.1.headD [], (A.2.1.tail, A.2.2))) → (md_t h' M ≠ 0 → md_ab h' M = A) → md_W w h h' M → Q (.inl (some (sg_i v))) h') : sg_C w mi_X7_undo d 0 0 [sg_r M] h Q := by
  refine sg_of pn_X7 (Nat.le_of_ble_eq_true rfl) ?_
  obtain ⟨hMl, hk0, th, kn, R, b, hM, th0, hR, hL0⟩ := id hx
  obtain ⟨hb1, m, sz, E, t, xs, hb, hE1, hE, hEt, sz0, sz6, szx, hel⟩ := id hL0
  have pl : ((A.2.1.length : Nat) : Int) = sz := by rw [← hA, md_abe hM, List.length_reverse, List.length_map]; exact md_bll hb hE sz0 szx
  refine sg_aload_n (pc := 0) (j := 0) (dc_X7_undo_0.1.1.1.1) rfl rfl ?_
  refine sg_aload_n (pc := 1) (j := 0) (dc_X7_undo_0.1.1.1.2) rfl rfl ?_
  refine sg_getf (pc := 2) g (dc_X7_undo_0.1.1.2.1) fk_X7_18 hM rfl rfl ?_
  refine sg_cV0 (pc := 5) (d' := d - 1) (mc' := 0) (ms' := 0) g (dc_X7_undo_0.1.1.2.2) cb_Jx4a65c_isEmpty_aae02 ml_X7_156 mn_Jx4a65c_isEmpty_aae02 mv_Jx4a65c_isEmpty_aae02 hb (Nat.le_of_ble_eq_true rfl) rfl (Nat.le_of_ble_eq_true rfl) (by first | exact jl_d0 hd rfl | omega) (by first | exact Nat.le_of_ble_eq_true rfl | omega) (by first | exact Nat.le_of_ble_eq_true rfl | omega) ?_
  refine f_al_isEmpty g (by first | exact jl_d1 hd rfl | omega) hb (fun z5 b5 => sg_K1 ?_)
  refine sg_iconst (pc := 8) (z := 1) (dc_X7_undo_0.1.2.1.1) (by decide) ?_
  refine sg_cV2 (pc := 9) (d' := d - 1) (mc' := 0) (ms' := 0) g (dc_X7_undo_0.1.2.1.2) cb_X7_start ml_X7_71 mn_X7_start mv_X7_start hM (Nat.le_of_ble_eq_true rfl) rfl (Nat.le_of_ble_eq_true rfl) (by first | exact jl_d0 hd rfl | omega) (by first | exact Nat.le_of_ble_eq_true rfl | omega) (by first | exact Nat.le_of_ble_eq_true rfl | omega) ?_
  refine f_X7_startR g (by first | exact jl_d1 hd rfl | omega) hM th0 (by decide) (fun v9 t9 f o9 b9 i9 m9 r9 => ?_)
  refine sg_K1 ?_
  have hup : md_P h (h.1, f) := ⟨Nat.le_refl _, fun q hq e he n1 => (r9 q (fun z => by rw [z, hM] at he; cases he; exact absurd n1 (by simp))).trans he⟩
  have kup : md_kp h (h.1, f) := fun q e hq he hk9 => (r9 q (fun z => by rw [z, hM] at he; cases he; simp at hk9)).trans he
  have ab9 : md_ab (h.1, f) M = A := (md_abG hM m9 hR hL0 kup).trans hA
  have nbM : b ≠ M := fun q => by rw [q, hM] at hb; cases hb
  have hb9 : ((h.1, f) : sg_H).2 b = _ := (r9 b nbM).trans hb
  have nEM : E ≠ M := fun q => by rw [q, hM] at hE; cases hE; rcases hEt with ⟨q, -⟩ | ⟨q, -⟩ <;> omega
  have hE9 : ((h.1, f) : sg_H).2 E = _ := (r9 E nEM).trans hE
  refine sg_if_eq (pc := 12) (tgt := 17) (dc_X7_undo_0.1.2.2.1) (by decide) (fun c12 => ?_) (fun c12 => ?_)
  · refine sg_aload_n (pc := 17) (j := 0) (dc_X7_undo_0.2.1.1.2) rfl rfl ?_
    refine sg_aload_n (pc := 18) (j := 0) (dc_X7_undo_0.2.1.2.1) rfl rfl ?_
    refine sg_getf (pc := 19) g (dc_X7_undo_0.2.1.2.2) fk_X7_18 m9 rfl rfl ?_
    refine sg_aload_n (pc := 22) (j := 0) (dc_X7_undo_0.2.2.1.1) rfl rfl ?_
    refine sg_getf (pc := 23) g (dc_X7_undo_0.2.2.1.2) fk_X7_18 m9 rfl rfl ?_
    refine sg_cV0 (pc := 26) (d' := d - 1) (mc' := 0) (ms' := 0) g (dc_X7_undo_0.2.2.2.1) cb_Jx4a65c_size_8abf5 ml_X7_53 mn_Jx4a65c_size_8abf5 mv_Jx4a65c_size_8abf5 hb9 (Nat.le_of_ble_eq_true rfl) rfl (Nat.le_of_ble_eq_true rfl) (by first | exact jl_d0 hd rfl | omega) (by first | exact Nat.le_of_ble_eq_true rfl | omega) (by first | exact Nat.le_of_ble_eq_true rfl | omega) ?_
    refine s_al_size g (by first | exact jl_d1 hd rfl | omega) hb9 ?_
    refine sg_K1 ?_
    refine sg_iconst (pc := 29) (z := 1) (dc_X7_undo_0.2.2.2.2) (by decide) ?_
    first | refine sg_isubB (pc := 30) (dc_X7_undo_30.1.1.1) (by omega) (by omega) ?_ | refine sg_isub (pc := 30) (dc_X7_undo_30.1.1.1) ?_
    have s1 : 1 ≤ sz := by omega
    have ht : t = 113 ∧ xs.length = 10 := by rcases hEt with q | ⟨-, q, -⟩ <;> omega
    obtain ⟨rfl, xl⟩ := ht
    obtain ⟨R9, hv9, hR9⟩ := hel (sz - 1).toNat (by omega)
    have hR8 := md_RP hR9 hup
    obtain ⟨R9l, A9, N9, e9, -⟩ := id hR8
    have hel9 : ∀ i : Nat, (i : Int) < sz → sg_el (h.1, f) 113 (xs.getD i sg_n) := fun i hi => by
      obtain ⟨R7, q1, q2⟩ := hel i hi
      obtain ⟨-, A7, N7, q3, -⟩ := md_RP q2 hup
      exact Or.inr ⟨rfl, Or.inr ⟨R7, 110, _, by rw [List.getD_eq_getElem?_getD, q1]; rfl, q3, md_asO, rfl⟩⟩
    refine sg_cV1 (pc := 31) (d' := d - 1) (mc' := 0) (ms' := 0) g (dc_X7_undo_30.1.1.2) cb_Jx4a65c_remove_915e3 ml_X7_57 mn_Jx4a65c_remove_915e3 mv_Jx4a65c_remove_915e3 hb9 (Nat.le_of_ble_eq_true rfl) rfl (Nat.le_of_ble_eq_true rfl) (by first | exact jl_d0 hd rfl | omega) (by first | exact Nat.le_of_ble_eq_true rfl | omega) (by first | exact Nat.le_of_ble_eq_true rfl | omega) ?_
    refine s_al_remove g (by first | exact jl_d1 hd rfl | omega) hb9 hE9 (i := sz - 1) (by omega) (by omega) (by omega) (by omega) hel9 hv9 (fun m1 f1 zs g1 g2 g3 g4 g5 => ?_)
    refine sg_K1 ?_
    have hqf : md_Q (h.1, f) (h.1, f1) := ⟨Nat.le_refl _, fun q hq e he n1 => (g5 q (fun z => by rw [z, hb9] at he; cases he; exact absurd n1 (by simp)) (fun z => by rw [z, hE9] at he; cases he; exact absurd n1 (by simp))).trans he⟩
    have nMb := Ne.symm nbM
    have nME := Ne.symm nEM
    have hM1 := (g5 M nMb nME).trans m9
    have nRb : R9 ≠ b := fun q => by rw [q, hb9] at e9; cases e9
    have nRE : R9 ≠ E := fun q => by rw [q, hE9] at e9; cases e9
    have e1 := (g5 R9 nRb nRE).trans e9
    refine sg_castA (pc := 34) g (dc_X7_undo_30.1.2.1) cl_X7_160 e1 (by decide) (by decide +kernel) ?_
    refine sg_putf (pc := 37) g (dc_X7_undo_30.1.2.2) fk_X7_9 hM1 sg_ft_a ?_
    try dsimp only
    have hL1 : md_L w (h.1, f1) b := md_rem7 (h := (h.1, f)) (i := sz - 1) hqf hb1 hE1 g1 g2 xl g3 s1 (by omega) g4 (fun j hj => by
      obtain ⟨R7, q1, q2⟩ := hel j hj
      exact ⟨R7, q1, md_RP q2 hup⟩)
    have hu2 : md_P (h.1, f1) (h.1, sg_up f1 M (8, [sg_i t9, sg_r R9, sg_r b, sg_i kn])) := md_up hM1
    have hW : md_W w h (h.1, sg_up f1 M (8, [sg_i t9, sg_r R9, sg_r b, sg_i kn])) M := ⟨⟨hMl, md_KP (md_KP (md_KP hk0 hup) (md_QP hqf)) hu2, t9, kn, R9, b, sg_up_s, o9, md_RP (md_RP hR8 (md_QP hqf)) hu2, md_Lup hM1 hL1⟩, md_Pt hup (md_Pt (md_QP hqf) hu2)⟩
    have k12 : md_ka (h.1, f) (h.1, sg_up f1 M (8, [sg_i t9, sg_r R9, sg_r b, sg_i kn])) := md_kat hqf.1 (md_Qka hqf) (md_kk (md_kpM hM1))
    have hbl9 : ∀ r ∈ (md_bl (h.1, f) b).take (sz - 1).toNat, md_R h r := fun r hr => by
      have hr2 := List.mem_of_mem_take hr
      rw [show md_bl (h.1, f) b = md_bl h b from (md_blG hL0 kup).1] at hr2
      exact md_blR hL0 r hr2
    have bB := md_blB (h1 := (h.1, f1)) hb9 hE9 g1 g2 s1 g4
    have bU : md_bl (h.1, sg_up f1 M (8, [sg_i t9, sg_r R9, sg_r b, sg_i kn])) b = md_bl (h.1, f1) b := (md_blG hL1 (md_kpM hM1)).1
    have bl9 := md_bll hb9 hE9 sz0 szx
    have e0 : md_ab (h.1, f) M = (md_s (h.1, f) R, (((md_bl (h.1, f) b).map (md_s (h.1, f))).reverse, kn)) := md_abe m9
    have eA := ab9.symm.trans e0
    have last : ((md_bl (h.1, f) b).map (md_s (h.1, f))).getD (sz - 1).toNat [] = md_s (h.1, f) R9 := by
      rw [md_ble hb9 hE9, List.getD_eq_getElem?_getD, List.getElem?_map, List.getElem?_map, List.getElem?_take_of_lt (by omega), hv9]
      rfl
    have tl := fa_tl1 (X := (md_bl (h.1, f) b).map (md_s (h.1, f))) (n := (sz - 1).toNat) (by rw [List.length_map]; omega) [] last
    have ab37 : md_ab (h.1, sg_up f1 M (8, [sg_i t9, sg_r R9, sg_r b, sg_i kn])) M = (A.2.1.headD [], (A.2.1.tail, A.2.2)) := by
      rw [md_abe (h := (h.1, sg_up f1 M (8, [sg_i t9, sg_r R9, sg_r b, sg_i kn]))) sg_up_s, md_sG (md_RP hR9 hup) k12, bU, bB, eA]
      show _ = ((((md_bl (h.1, f) b).map (md_s (h.1, f))).reverse).headD [], ((((md_bl (h.1, f) b).map (md_s (h.1, f))).reverse).tail, kn))
      rw [tl.1, tl.2, ← List.map_take, List.map_congr_left (fun r hr => md_sG (md_RP (hbl9 r hr) hup) k12)]
    refine sg_aload_n (pc := 40) (j := 0) (dc_X7_undo_30.2.1.1) rfl rfl ?_
    refine sg_getf (pc := 41) g (dc_X7_undo_30.2.1.2) fk_X7_18 sg_up_s rfl rfl ?_
    refine sg_cV0 (pc := 44) (d' := d - 1) (mc' := 0) (ms' := 0) g (dc_X7_undo_30.2.2.1) cb_Jx4a65c_size_8abf5 ml_X7_53 mn_Jx4a65c_size_8abf5 mv_Jx4a65c_size_8abf5 ((sg_up_n nbM).trans g1) (Nat.le_of_ble_eq_true rfl) rfl (Nat.le_of_ble_eq_true rfl) (by first | exact jl_d0 hd rfl | omega) (by first | exact Nat.le_of_ble_eq_true rfl | omega) (by first | exact Nat.le_of_ble_eq_true rfl | omega) ?_
    refine s_al_size g (by first | exact jl_d1 hd rfl | omega) ((sg_up_n nbM).trans g1) ?_
    refine sg_K1 ?_
    refine sg_iret (pc := 47) (dc_X7_undo_30.2.2.2) rfl (by first | exact Nat.le_of_ble_eq_true rfl | omega) (by first | exact Nat.le_of_ble_eq_true rfl | omega) ?_
    have t37 : md_t (h.1, sg_up f1 M (8, [sg_i t9, sg_r R9, sg_r b, sg_i kn])) M = t9 := md_te sg_up_s
    exact hQ _ _ (fun q => t37.trans (by omega)) (fun _ => t37.trans (by omega)) (fun _ => ⟨by omega, ab37⟩) (fun q => absurd (t37.trans (by omega)) q) hW
  · refine sg_iconst (pc := 15) (z := 0) (dc_X7_undo_0.1.2.2.2) (by decide) ?_
    refine sg_iret (pc := 16) (dc_X7_undo_0.2.1.1.1) rfl (by first | exact Nat.le_of_ble_eq_true rfl | omega) (by first | exact Nat.le_of_ble_eq_true rfl | omega) ?_
    have t16 : md_t (h.1, f) M = t9 := md_te m9
    exact hQ _ _ (fun _ => by rw [t16]; omega) (fun q => by rw [t16]; omega) (fun q => absurd (t16.symm.trans q) (by omega)) (fun _ => ab9) ⟨⟨hMl, md_KP hk0 hup, t9, kn, R, b, m9, o9, md_RP hR hup, ⟨hb1, m, sz, E, t, xs, hb9, hE1, hE9, hEt, sz0, sz6, szx, fun j hj => by
      obtain ⟨R7, q1, q2⟩ := hel j hj
      exact ⟨R7, q1, md_RP q2 hup⟩⟩⟩, hup⟩

