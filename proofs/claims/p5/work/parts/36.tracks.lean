/-! CODES of a track -/
abbrev fs_hl (L : List Int) (p : Nat) : Prop := fn_high (L.getD p 0) = 1 ∧ p + 1 < L.length ∧ fn_low (L.getD (p + 1) 0) = 1
abbrev fs_bg (L : List Int) (p : Nat) : Prop := p = 0 ∨ ¬ fs_hl L (p - 1)
def fs_cd (L : List Int) (p : Nat) : Int := if fs_hl L p then 65536 + (L.getD p 0 - 55296) * 1024 + (L.getD (p + 1) 0 - 56320) else L.getD p 0
def fs_cs (L : List Int) (p : Nat) : List Int := ((List.range p).filter (fun q => decide (fs_bg L q))).map (fs_cd L)
abbrev fs_codes (L : List Int) : List Int := fs_cs L L.length
theorem fs_css {L : List Int} {p : Nat} : fs_cs L (p + 1) = fs_cs L p ++ (if fs_bg L p then [fs_cd L p] else []) := by
  unfold fs_cs
  rw [List.range_succ, List.filter_append, List.map_append]
  congr 1
  by_cases c : fs_bg L p
  · rw [if_pos c, List.filter_cons, if_pos (decide_eq_true c)]
    rfl
  · rw [if_neg c, List.filter_cons, if_neg (by rw [decide_eq_false c]; decide)]
    rfl
def fs_sent (c : Int) : List Int := if 65536 ≤ c then [55296 + (c - 65536) / 1024, 56320 + (c - 65536) % 1024] else [c]
theorem fn_hi {u : Int} : fn_high u = 1 ↔ 55296 ≤ u ∧ u < 56320 := by
  unfold fn_high
  split <;> omega
theorem fn_lo {u : Int} : fn_low u = 1 ↔ 56320 ≤ u ∧ u < 57344 := by
  unfold fn_low
  split <;> omega
theorem fs_cdr {L : List Int} (hu : ∀ z ∈ L, 0 ≤ z ∧ z ≤ 65535) {p : Nat} (hp : p < L.length) : 0 ≤ fs_cd L p ∧ fs_cd L p ≤ 1114111 := by
  have h1 := hu _ (gd_mem (d := 0) hp)
  unfold fs_cd
  split
  · rename_i c
    have c1 := fn_hi.mp c.1
    have c2 := fn_lo.mp c.2.2
    omega
  · omega
theorem fs_csr {L : List Int} (hu : ∀ z ∈ L, 0 ≤ z ∧ z ≤ 65535) {p : Nat} (hp : p ≤ L.length) : ∀ z ∈ fs_cs L p, 0 ≤ z ∧ z ≤ 1114111 := by
  intro z hz
  unfold fs_cs at hz
  obtain ⟨q, hq, rfl⟩ := List.mem_map.mp hz
  have := List.mem_range.mp (List.mem_filter.mp hq).1
  exact fs_cdr hu (by omega)
theorem fs_csl {L : List Int} {p : Nat} : (fs_cs L p).length ≤ p := by
  unfold fs_cs
  rw [List.length_map]
  refine Nat.le_trans (List.length_filter_le _ _) ?_
  rw [List.length_range]
  exact Nat.le_refl _
/-- two wide CODES don't overlap -/
theorem fs_h2 {L : List Int} {p : Nat} (h : fs_hl L p) : ¬ fs_hl L (p + 1) := fun q => by
  have c1 := fn_lo.mp h.2.2
  have c2 := fn_hi.mp q.1
  omega
theorem fs_scd {L : List Int} (hu : ∀ z ∈ L, 0 ≤ z ∧ z ≤ 65535) {p : Nat} (hp : p < L.length) : fs_sent (fs_cd L p) = if fs_hl L p then [L.getD p 0, L.getD (p + 1) 0] else [L.getD p 0] := by
  unfold fs_cd
  by_cases c : fs_hl L p
  · rw [if_pos c, if_pos c]
    have c1 := fn_hi.mp c.1
    have c2 := fn_lo.mp c.2.2
    unfold fs_sent
    rw [if_pos (by omega)]
    have e1 : 55296 + (65536 + (L.getD p 0 - 55296) * 1024 + (L.getD (p + 1) 0 - 56320) - 65536) / 1024 = L.getD p 0 := by omega
    have e2 : 56320 + (65536 + (L.getD p 0 - 55296) * 1024 + (L.getD (p + 1) 0 - 56320) - 65536) % 1024 = L.getD (p + 1) 0 := by omega
    rw [e1, e2]
  · rw [if_neg c, if_neg c]
    have h1 := hu _ (gd_mem (d := 0) hp)
    unfold fs_sent
    rw [if_neg (by omega)]
theorem gd_tk {L : List Int} {p : Nat} (hp : p < L.length) : L.take (p + 1) = L.take p ++ [L.getD p 0] := by
  rw [List.take_add_one, List.getElem?_eq_getElem hp, gd_in hp]
  rfl
/-- the CODES, sent again, are the UNITS -/
theorem fs_cu {L : List Int} (hu : ∀ z ∈ L, 0 ≤ z ∧ z ≤ 65535) : ∀ p : Nat, p ≤ L.length → (fs_bg L p → (fs_cs L p).flatMap fs_sent = L.take p) ∧ (¬ fs_bg L p → (fs_cs L p).flatMap fs_sent = L.take (p + 1))
  | 0, _ => ⟨fun _ => rfl, fun q => absurd (Or.inl rfl) q⟩
  | p + 1, hp => by
    obtain ⟨i1, i2⟩ := fs_cu hu p (by omega)
    rw [fs_css, List.flatMap_append]
    by_cases c : fs_bg L p
    · rw [if_pos c, i1 c, List.flatMap_cons, List.flatMap_nil, List.append_nil, fs_scd hu (by omega)]
      by_cases c2 : fs_hl L p
      · rw [if_pos c2]
        refine ⟨fun q => absurd c2 (q.resolve_left (by omega)), fun _ => ?_⟩
        rw [gd_tk (p := p + 1) c2.2.1, gd_tk (by omega), List.append_assoc]
        rfl
      · rw [if_neg c2]
        exact ⟨fun _ => (gd_tk (by omega)).symm, fun q => absurd (Or.inr c2) q⟩
    · rw [if_neg c, List.flatMap_nil, List.append_nil]
      have c3 : p ≠ 0 := fun e => c (Or.inl e)
      have c4 : fs_hl L (p - 1) := Classical.byContradiction (fun e => c (Or.inr e))
      have c5 : ¬ fs_hl L p := by
        have := fs_h2 c4
        rw [show p - 1 + 1 = p by omega] at this
        exact this
      exact ⟨fun _ => i2 c, fun q => absurd (Or.inr c5) q⟩
theorem fs_bn {L : List Int} : fs_bg L L.length := by
  by_cases c : L.length = 0
  · exact Or.inl c
  · exact Or.inr (fun q => by have := q.2.1; omega)
theorem fs_cul {L : List Int} (hu : ∀ z ∈ L, 0 ≤ z ∧ z ≤ 65535) : (fs_codes L).flatMap fs_sent = L := by
  rw [(fs_cu hu L.length (Nat.le_refl _)).1 fs_bn, List.take_length]
theorem fs_sr {c : Int} (h0 : 0 ≤ c) (h1 : c ≤ 1114111) : ∀ z ∈ fs_sent c, 0 ≤ z ∧ z ≤ 65535 := by
  intro z hz
  unfold fs_sent at hz
  split at hz
  · simp only [List.mem_cons, List.not_mem_nil, or_false] at hz
    omega
  · simp only [List.mem_cons, List.not_mem_nil, or_false] at hz
    omega
theorem fs_sl {c : Int} : ((fs_sent c).length : Int) = if 65536 ≤ c then 2 else 1 := by
  unfold fs_sent
  split <;> rfl
theorem fm_rl {α β : Type} {f : α → List β} : ∀ {L : List α}, (L.reverse.flatMap f).length = (L.flatMap f).length
  | [] => rfl
  | a :: L => by
    rw [List.reverse_cons, List.flatMap_append, List.length_append, fm_rl (L := L), List.flatMap_cons, List.flatMap_cons, List.flatMap_nil, List.append_nil, List.length_append]
    omega
/-- how many UNITS behind the k-th CODE -/
theorem fm_dl {α β : Type} {f : α → List β} {L : List α} {k : Nat} : ((L.drop k).flatMap f).length ≤ (L.flatMap f).length := by
  have e : L.flatMap f = (L.take k).flatMap f ++ (L.drop k).flatMap f := by rw [← List.flatMap_append, List.take_append_drop]
  rw [e, List.length_append]
  omega
def fn_turn (u : Int) : Int := u % 256 * 256 + u / 256
/-- of what counts, how much: 0 UNITS, 1 CODES, 2 WIDE ones, 3 LONE HALVES -/
abbrev fs_ct (c t : Int) : Prop := t = 1 ∨ (t = 2 ∧ fn_wide c = 1) ∨ (t = 3 ∧ fn_half c = 1)
def fs_hm (L : List Int) (t : Int) (n : Nat) : Int := fz (fun p => if fs_bg L p ∧ fs_ct (fs_cd L p) t then 1 else 0) n
def fs_how (L : List Int) (t : Int) : Int := if t = 0 then (L.length : Int) else fs_hm L t L.length
theorem fs_hb {L : List Int} {t : Int} {n : Nat} : 0 ≤ fs_hm L t n ∧ fs_hm L t n ≤ (n : Int) := by
  unfold fs_hm
  induction n with
  | zero => exact ⟨Int.le_refl _, Int.le_refl _⟩
  | succ n ih =>
    show 0 ≤ fz _ n + (if _ then 1 else 0) ∧ fz _ n + (if _ then 1 else 0) ≤ _
    split <;> omega
theorem fs_hc {L : List Int} : ∀ n : Nat, fs_hm L 1 n = ((fs_cs L n).length : Int)
  | 0 => rfl
  | n + 1 => by
    rw [fs_css, List.length_append]
    show fs_hm L 1 n + (if _ then 1 else 0) = _
    rw [fs_hc n]
    by_cases c : fs_bg L n
    · rw [if_pos c, if_pos ⟨c, Or.inl rfl⟩]
      rfl
    · rw [if_neg c, if_neg (fun q => c q.1)]
      rfl
set_option maxRecDepth 100000 in
theorem f_X4_codeFrom {w : sg_W} {Q : sg_O → sg_H → Prop} {h : sg_H} (g : sg_G w) {d : Nat} (hd : 3 ≤ d) {B a1 : Nat} (hx : ck_X h B) (L1 : ck_L B a1 1) {L : List Int} (kk : cf_l h a1 = L) (hu : ∀ z ∈ L, 0 ≤ z ∧ z ≤ 65535) {p : Int} (p0 : 0 ≤ p) (p1 : p < (L.length : Int)) (hQ : ∀ z : Int, z = fs_cd L p.toNat → Q (.inl (some (sg_i z))) h) : sg_C w mi_X4_codeFrom d 0 0 [sg_r a1, sg_i p] h Q := by
  refine sg_of pn_X4 (Nat.le_of_ble_eq_true rfl) ?_
  have y0 := ck_Y0 hx
  have l24 := cf_40 hx L1
  rw [kk] at l24
  have hc24 : ck_cap 1 = 24 := rfl
  refine sg_aload_n (pc := 0) (j := 0) (dc_X4_codeFrom_0.1.1.1.1) rfl rfl ?_
  refine sg_iload_n (pc := 1) (j := 1) (dc_X4_codeFrom_0.1.1.1.2) rfl rfl ?_
  refine sg_cE1 (pc := 2) (d' := d - 1) (mc' := 0) (ms' := 0) 3 g (dc_X4_codeFrom_0.1.1.2.1) cb_X0_get ml_X4_39 mn_X0_get rfl mv_X0_get (Nat.le_of_ble_eq_true rfl) (ck_lc (by assumption) (by first | assumption | exact ck_rev)) (Nat.le_of_ble_eq_true rfl) (by first | exact jl_d0 hd rfl | omega) (by first | exact Nat.le_of_ble_eq_true rfl | omega) (by first | exact Nat.le_of_ble_eq_true rfl | omega) ?_
  refine f_X0_get g (by first | exact jl_d1 hd rfl | omega) (by assumption) L1 (fun z2 e2 v2 => sg_K1 ?_)
  rw [kk] at e2
  rw [kk] at v2
  try rw [fa_tg (by omega) (by omega)] at e2
  refine sg_istore_n (pc := 5) (j := 2) (dc_X4_codeFrom_0.1.1.2.2) rfl (by decide) ?_
  rw [gg_in (by omega) (by omega)] at e2
  have u2 := hu _ (gd_mem (L := L) (j := p.toNat) (d := 0) (by omega))
  subst e2
  refine sg_iload_n (pc := 6) (j := 2) (dc_X4_codeFrom_0.1.2.1.1) rfl rfl ?_
  refine sg_cS1 (pc := 7) (d' := d - 1) (mc' := 0) (ms' := 0) g (dc_X4_codeFrom_0.1.2.1.2) cb_X4_isHigh ml_X4_15 ms_X4_isHigh (Nat.le_of_ble_eq_true rfl) (by first | exact jl_d0 hd rfl | omega) (by first | exact Nat.le_of_ble_eq_true rfl | omega) (by first | exact Nat.le_of_ble_eq_true rfl | omega) ?_
  refine s_X4_isHigh g (by first | exact jl_d1 hd rfl | omega) (fun z7 h7 b7 => sg_K1 ?_)
  (try simp only [fn_high, fn_low] at h7)
  refine sg_if_eq (pc := 10) (tgt := 38) (dc_X4_codeFrom_0.1.2.2.1) (by decide) (fun c10 => ?_) (fun c10 => ?_)
  · refine sg_iload_n (pc := 38) (j := 2) (dc_X4_codeFrom_28.2.2.1) rfl rfl ?_
    refine sg_iret (pc := 39) (dc_X4_codeFrom_28.2.2.2) rfl (by first | exact Nat.le_of_ble_eq_true rfl | omega) (by first | exact Nat.le_of_ble_eq_true rfl | omega) ?_
    refine hQ _ ?_
    unfold fs_cd
    rw [if_neg (fun q => by have q1 := fn_hi.mp q.1; omega)]
  · refine sg_aload_n (pc := 13) (j := 0) (dc_X4_codeFrom_0.1.2.2.2) rfl rfl ?_
    refine sg_iload_n (pc := 14) (j := 1) (dc_X4_codeFrom_0.2.1.1.1) rfl rfl ?_
    refine sg_iconst (pc := 15) (z := 1) (dc_X4_codeFrom_0.2.1.1.2) (by decide) ?_
    first | refine sg_iaddB (pc := 16) (dc_X4_codeFrom_0.2.1.2.1) (by omega) (by omega) ?_ | refine sg_iadd (pc := 16) (dc_X4_codeFrom_0.2.1.2.1) ?_
    refine sg_cE1 (pc := 17) (d' := d - 1) (mc' := 0) (ms' := 0) 3 g (dc_X4_codeFrom_0.2.1.2.2) cb_X0_get ml_X4_39 mn_X0_get rfl mv_X0_get (Nat.le_of_ble_eq_true rfl) (ck_lc (by assumption) (by first | assumption | exact ck_rev)) (Nat.le_of_ble_eq_true rfl) (by first | exact jl_d0 hd rfl | omega) (by first | exact Nat.le_of_ble_eq_true rfl | omega) (by first | exact Nat.le_of_ble_eq_true rfl | omega) ?_
    refine f_X0_get g (by first | exact jl_d1 hd rfl | omega) (by assumption) L1 (fun z17 e17 v17 => sg_K1 ?_)
    rw [kk] at e17
    rw [kk] at v17
    try rw [fa_tg (by omega) (by omega)] at e17
    have q17 : z17 = if p + 1 < (L.length : Int) then L.getD (p.toNat + 1) 0 else -1 := by
      rw [e17]
      split
      · rw [gg_in (by omega) (by omega), show (p + 1).toNat = p.toNat + 1 by omega]
      · rw [gg_out (by omega)]
    refine sg_cS1 (pc := 20) (d' := d - 1) (mc' := 0) (ms' := 0) g (dc_X4_codeFrom_0.2.2.1.1) cb_X4_isLow ml_X4_19 ms_X4_isLow (Nat.le_of_ble_eq_true rfl) (by first | exact jl_d0 hd rfl | omega) (by first | exact Nat.le_of_ble_eq_true rfl | omega) (by first | exact Nat.le_of_ble_eq_true rfl | omega) ?_
    refine s_X4_isLow g (by first | exact jl_d1 hd rfl | omega) (fun z20 h20 b20 => sg_K1 ?_)
    (try simp only [fn_high, fn_low] at h20)
    refine sg_if_eq (pc := 23) (tgt := 38) (dc_X4_codeFrom_0.2.2.1.2) (by decide) (fun c23 => ?_) (fun c23 => ?_)
    · refine sg_iload_n (pc := 38) (j := 2) (dc_X4_codeFrom_28.2.2.1) rfl rfl ?_
      refine sg_iret (pc := 39) (dc_X4_codeFrom_28.2.2.2) rfl (by first | exact Nat.le_of_ble_eq_true rfl | omega) (by first | exact Nat.le_of_ble_eq_true rfl | omega) ?_
      refine hQ _ ?_
      unfold fs_cd
      rw [if_neg (fun q => by have q1 := fn_lo.mp q.2.2; have q2 := q.2.1; rw [if_pos (by omega)] at q17; omega)]
    · refine sg_iload_n (pc := 26) (j := 2) (dc_X4_codeFrom_0.2.2.2.1) rfl rfl ?_
      refine sg_aload_n (pc := 27) (j := 0) (dc_X4_codeFrom_0.2.2.2.2) rfl rfl ?_
      refine sg_iload_n (pc := 28) (j := 1) (dc_X4_codeFrom_28.1.1.1) rfl rfl ?_
      refine sg_iconst (pc := 29) (z := 1) (dc_X4_codeFrom_28.1.1.2) (by decide) ?_
      first | refine sg_iaddB (pc := 30) (dc_X4_codeFrom_28.1.2.1) (by omega) (by omega) ?_ | refine sg_iadd (pc := 30) (dc_X4_codeFrom_28.1.2.1) ?_
      refine sg_cE1 (pc := 31) (d' := d - 1) (mc' := 0) (ms' := 0) 3 g (dc_X4_codeFrom_28.1.2.2) cb_X0_get ml_X4_39 mn_X0_get rfl mv_X0_get (Nat.le_of_ble_eq_true rfl) (ck_lc (by assumption) (by first | assumption | exact ck_rev)) (Nat.le_of_ble_eq_true rfl) (by first | exact jl_d0 hd rfl | omega) (by first | exact Nat.le_of_ble_eq_true rfl | omega) (by first | exact Nat.le_of_ble_eq_true rfl | omega) ?_
      refine f_X0_get g (by first | exact jl_d1 hd rfl | omega) (by assumption) L1 (fun z31 e31 v31 => sg_K1 ?_)
      rw [kk] at e31
      rw [kk] at v31
      try rw [fa_tg (by omega) (by omega)] at e31
      refine sg_cS2 (pc := 34) (d' := d - 1) (mc' := 0) (ms' := 0) g (dc_X4_codeFrom_28.2.1.1) cb_X4_codeOf ml_X4_42 ms_X4_codeOf (Nat.le_of_ble_eq_true rfl) (by first | exact jl_d0 hd rfl | omega) (by first | exact Nat.le_of_ble_eq_true rfl | omega) (by first | exact Nat.le_of_ble_eq_true rfl | omega) ?_
      refine s_X4_codeOf g (by first | exact jl_d1 hd rfl | omega) (fun z34 h34 => sg_K1 ?_)
      refine sg_iret (pc := 37) (dc_X4_codeFrom_28.2.1.2) rfl (by first | exact Nat.le_of_ble_eq_true rfl | omega) (by first | exact Nat.le_of_ble_eq_true rfl | omega) ?_
      refine hQ _ ?_
      have hlt : p + 1 < (L.length : Int) := by
        by_cases q : p + 1 < (L.length : Int)
        · exact q
        · rw [if_neg q] at q17; omega
      rw [if_pos hlt] at q17
      unfold fs_cd
      rw [if_pos ⟨fn_hi.mpr (by omega), by omega, fn_lo.mpr (by omega)⟩]
      rw [gg_in (by omega) (by omega), show (p + 1).toNat = p.toNat + 1 by omega] at e31
      rw [h34 (by omega) (by omega), e31]

set_option maxRecDepth 100000 in
theorem f_X4_isCodeBegin {w : sg_W} {Q : sg_O → sg_H → Prop} {h : sg_H} (g : sg_G w) {d : Nat} (hd : 3 ≤ d) {B a1 : Nat} (hx : ck_X h B) (L1 : ck_L B a1 1) {L : List Int} (kk : cf_l h a1 = L) {p : Int} (p0 : 0 ≤ p) (p1 : p < (L.length : Int)) (hQ : ∀ z : Int, ((z = 0 ∧ ¬ fs_bg L p.toNat) ∨ (z = 1 ∧ fs_bg L p.toNat)) → Q (.inl (some (sg_i z))) h) : sg_C w mi_X4_isCodeBegin d 0 0 [sg_r a1, sg_i p] h Q := by
  refine sg_of pn_X4 (Nat.le_of_ble_eq_true rfl) ?_
  have y0 := ck_Y0 hx
  have l24 := cf_40 hx L1
  rw [kk] at l24
  have hc24 : ck_cap 1 = 24 := rfl
  refine sg_iload_n (pc := 0) (j := 1) (dc_X4_isCodeBegin_0.1.1.1.1) rfl rfl ?_
  refine sg_if_eq (pc := 1) (tgt := 28) (dc_X4_isCodeBegin_0.1.1.1.2) (by decide) (fun c1 => ?_) (fun c1 => ?_)
  · refine sg_iconst (pc := 28) (z := 1) (dc_X4_isCodeBegin_0.2.2.2.1) (by decide) ?_
    refine sg_goto (pc := 29) (tgt := 33) (dc_X4_isCodeBegin_0.2.2.2.2) (by decide) ?_
    refine sg_zret (pc := 33) (dc_X4_isCodeBegin_32.2) rfl (by first | exact Or.inl rfl | exact Or.inr rfl | omega | assumption) (by first | exact Nat.le_of_ble_eq_true rfl | omega) (by first | exact Nat.le_of_ble_eq_true rfl | omega) ?_
    first
      | exact hQ _ (Or.inr ⟨rfl, Or.inl (by omega)⟩)
      | exact hQ _ (Or.inr ⟨rfl, Or.inr (fun q => by have q1 := fn_lo.mp q.2.2; rw [show p.toNat - 1 + 1 = p.toNat by omega] at q1; omega)⟩)
      | exact hQ _ (Or.inr ⟨rfl, Or.inr (fun q => by have q1 := fn_hi.mp q.1; omega)⟩)
      | exact hQ _ (Or.inl ⟨rfl, fun q => (q.resolve_left (by omega)) ⟨fn_hi.mpr (by omega), by omega, fn_lo.mpr (by rw [show p.toNat - 1 + 1 = p.toNat by omega]; omega)⟩⟩)
  · refine sg_aload_n (pc := 4) (j := 0) (dc_X4_isCodeBegin_0.1.1.2.1) rfl rfl ?_
    refine sg_iload_n (pc := 5) (j := 1) (dc_X4_isCodeBegin_0.1.1.2.2) rfl rfl ?_
    refine sg_cE1 (pc := 6) (d' := d - 1) (mc' := 0) (ms' := 0) 3 g (dc_X4_isCodeBegin_0.1.2.1.1) cb_X0_get ml_X4_39 mn_X0_get rfl mv_X0_get (Nat.le_of_ble_eq_true rfl) (ck_lc (by assumption) (by first | assumption | exact ck_rev)) (Nat.le_of_ble_eq_true rfl) (by first | exact jl_d0 hd rfl | omega) (by first | exact Nat.le_of_ble_eq_true rfl | omega) (by first | exact Nat.le_of_ble_eq_true rfl | omega) ?_
    refine f_X0_get g (by first | exact jl_d1 hd rfl | omega) (by assumption) L1 (fun z6 e6 v6 => sg_K1 ?_)
    rw [kk] at e6
    rw [kk] at v6
    try rw [fa_tg (by omega) (by omega)] at e6
    rw [gg_in (by omega) (by omega)] at e6
    refine sg_cS1 (pc := 9) (d' := d - 1) (mc' := 0) (ms' := 0) g (dc_X4_isCodeBegin_0.1.2.1.2) cb_X4_isLow ml_X4_19 ms_X4_isLow (Nat.le_of_ble_eq_true rfl) (by first | exact jl_d0 hd rfl | omega) (by first | exact Nat.le_of_ble_eq_true rfl | omega) (by first | exact Nat.le_of_ble_eq_true rfl | omega) ?_
    refine s_X4_isLow g (by first | exact jl_d1 hd rfl | omega) (fun z9 h9 b9 => sg_K1 ?_)
    (try simp only [fn_high, fn_low] at h9)
    refine sg_if_eq (pc := 12) (tgt := 28) (dc_X4_isCodeBegin_0.1.2.2.1) (by decide) (fun c12 => ?_) (fun c12 => ?_)
    · refine sg_iconst (pc := 28) (z := 1) (dc_X4_isCodeBegin_0.2.2.2.1) (by decide) ?_
      refine sg_goto (pc := 29) (tgt := 33) (dc_X4_isCodeBegin_0.2.2.2.2) (by decide) ?_
      refine sg_zret (pc := 33) (dc_X4_isCodeBegin_32.2) rfl (by first | exact Or.inl rfl | exact Or.inr rfl | omega | assumption) (by first | exact Nat.le_of_ble_eq_true rfl | omega) (by first | exact Nat.le_of_ble_eq_true rfl | omega) ?_
      first
        | exact hQ _ (Or.inr ⟨rfl, Or.inl (by omega)⟩)
        | exact hQ _ (Or.inr ⟨rfl, Or.inr (fun q => by have q1 := fn_lo.mp q.2.2; rw [show p.toNat - 1 + 1 = p.toNat by omega] at q1; omega)⟩)
        | exact hQ _ (Or.inr ⟨rfl, Or.inr (fun q => by have q1 := fn_hi.mp q.1; omega)⟩)
        | exact hQ _ (Or.inl ⟨rfl, fun q => (q.resolve_left (by omega)) ⟨fn_hi.mpr (by omega), by omega, fn_lo.mpr (by rw [show p.toNat - 1 + 1 = p.toNat by omega]; omega)⟩⟩)
    · refine sg_aload_n (pc := 15) (j := 0) (dc_X4_isCodeBegin_0.1.2.2.2) rfl rfl ?_
      refine sg_iload_n (pc := 16) (j := 1) (dc_X4_isCodeBegin_0.2.1.1.1) rfl rfl ?_
      refine sg_iconst (pc := 17) (z := 1) (dc_X4_isCodeBegin_0.2.1.1.2) (by decide) ?_
      first | refine sg_isubB (pc := 18) (dc_X4_isCodeBegin_0.2.1.2.1) (by omega) (by omega) ?_ | refine sg_isub (pc := 18) (dc_X4_isCodeBegin_0.2.1.2.1) ?_
      refine sg_cE1 (pc := 19) (d' := d - 1) (mc' := 0) (ms' := 0) 3 g (dc_X4_isCodeBegin_0.2.1.2.2) cb_X0_get ml_X4_39 mn_X0_get rfl mv_X0_get (Nat.le_of_ble_eq_true rfl) (ck_lc (by assumption) (by first | assumption | exact ck_rev)) (Nat.le_of_ble_eq_true rfl) (by first | exact jl_d0 hd rfl | omega) (by first | exact Nat.le_of_ble_eq_true rfl | omega) (by first | exact Nat.le_of_ble_eq_true rfl | omega) ?_
      refine f_X0_get g (by first | exact jl_d1 hd rfl | omega) (by assumption) L1 (fun z19 e19 v19 => sg_K1 ?_)
      rw [kk] at e19
      rw [kk] at v19
      try rw [fa_tg (by omega) (by omega)] at e19
      rw [gg_in (by omega) (by omega), show (p - 1).toNat = p.toNat - 1 by omega] at e19
      refine sg_cS1 (pc := 22) (d' := d - 1) (mc' := 0) (ms' := 0) g (dc_X4_isCodeBegin_0.2.2.1.1) cb_X4_isHigh ml_X4_15 ms_X4_isHigh (Nat.le_of_ble_eq_true rfl) (by first | exact jl_d0 hd rfl | omega) (by first | exact Nat.le_of_ble_eq_true rfl | omega) (by first | exact Nat.le_of_ble_eq_true rfl | omega) ?_
      refine s_X4_isHigh g (by first | exact jl_d1 hd rfl | omega) (fun z22 h22 b22 => sg_K1 ?_)
      (try simp only [fn_high, fn_low] at h22)
      refine sg_if_ne (pc := 25) (tgt := 32) (dc_X4_isCodeBegin_0.2.2.1.2) (by decide) (fun c25 => ?_) (fun c25 => ?_)
      · refine sg_iconst (pc := 32) (z := 0) (dc_X4_isCodeBegin_32.1) (by decide) ?_
        refine sg_zret (pc := 33) (dc_X4_isCodeBegin_32.2) rfl (by first | exact Or.inl rfl | exact Or.inr rfl | omega | assumption) (by first | exact Nat.le_of_ble_eq_true rfl | omega) (by first | exact Nat.le_of_ble_eq_true rfl | omega) ?_
        first
          | exact hQ _ (Or.inr ⟨rfl, Or.inl (by omega)⟩)
          | exact hQ _ (Or.inr ⟨rfl, Or.inr (fun q => by have q1 := fn_lo.mp q.2.2; rw [show p.toNat - 1 + 1 = p.toNat by omega] at q1; omega)⟩)
          | exact hQ _ (Or.inr ⟨rfl, Or.inr (fun q => by have q1 := fn_hi.mp q.1; omega)⟩)
          | exact hQ _ (Or.inl ⟨rfl, fun q => (q.resolve_left (by omega)) ⟨fn_hi.mpr (by omega), by omega, fn_lo.mpr (by rw [show p.toNat - 1 + 1 = p.toNat by omega]; omega)⟩⟩)
      · refine sg_iconst (pc := 28) (z := 1) (dc_X4_isCodeBegin_0.2.2.2.1) (by decide) ?_
        refine sg_goto (pc := 29) (tgt := 33) (dc_X4_isCodeBegin_0.2.2.2.2) (by decide) ?_
        refine sg_zret (pc := 33) (dc_X4_isCodeBegin_32.2) rfl (by first | exact Or.inl rfl | exact Or.inr rfl | omega | assumption) (by first | exact Nat.le_of_ble_eq_true rfl | omega) (by first | exact Nat.le_of_ble_eq_true rfl | omega) ?_
        first
          | exact hQ _ (Or.inr ⟨rfl, Or.inl (by omega)⟩)
          | exact hQ _ (Or.inr ⟨rfl, Or.inr (fun q => by have q1 := fn_lo.mp q.2.2; rw [show p.toNat - 1 + 1 = p.toNat by omega] at q1; omega)⟩)
          | exact hQ _ (Or.inr ⟨rfl, Or.inr (fun q => by have q1 := fn_hi.mp q.1; omega)⟩)
          | exact hQ _ (Or.inl ⟨rfl, fun q => (q.resolve_left (by omega)) ⟨fn_hi.mpr (by omega), by omega, fn_lo.mpr (by rw [show p.toNat - 1 + 1 = p.toNat by omega]; omega)⟩⟩)

set_option maxRecDepth 100000 in
theorem f_X4_addCode {w : sg_W} {Q : sg_O → sg_H → Prop} {h : sg_H} (g : sg_G w) {d : Nat} (hd : 3 ≤ d) {B a1 : Nat} (hx : ck_X h B) (L1 : ck_L B a1 1) {L : List Int} (kk : cf_l h a1 = L) {c : Int} (hp : 0 ≤ c ∧ c ≤ 1114111) (hr : L.length + (fs_sent c).length ≤ 24) (hQ : ∀ h' : sg_H, ck_X h' B → ck_G B a1 h h' → cf_l h' a1 = L ++ fs_sent c → Q (.inl none) h') : sg_C w mi_X4_addCode d 0 0 [sg_r a1, sg_i c] h Q := by
  refine sg_of pn_X4 (Nat.le_of_ble_eq_true rfl) ?_
  have y0 := ck_Y0 hx
  have l24 := cf_40 hx L1
  rw [kk] at l24
  have hc24 : ck_cap 1 = 24 := rfl
  refine sg_iload_n (pc := 0) (j := 1) (dc_X4_addCode_0.1.1.1.1) rfl rfl ?_
  refine sg_cS1 (pc := 1) (d' := d - 1) (mc' := 0) (ms' := 0) g (dc_X4_addCode_0.1.1.1.2) cb_X4_isWideCode ml_X4_23 ms_X4_isWideCode (Nat.le_of_ble_eq_true rfl) (by first | exact jl_d0 hd rfl | omega) (by first | exact Nat.le_of_ble_eq_true rfl | omega) (by first | exact Nat.le_of_ble_eq_true rfl | omega) ?_
  refine s_X4_isWideCode g (by first | exact jl_d1 hd rfl | omega) (fun z1 h1 b1 => sg_K1 ?_)
  (try simp only [fn_wide] at h1)
  refine sg_if_eq (pc := 4) (tgt := 26) (dc_X4_addCode_0.1.1.2.1) (by decide) (fun c4 => ?_) (fun c4 => ?_)
  · refine sg_aload_n (pc := 26) (j := 0) (dc_X4_addCode_0.2.2.1.1) rfl rfl ?_
    refine sg_iload_n (pc := 27) (j := 1) (dc_X4_addCode_0.2.2.1.2) rfl rfl ?_
    have s1 := fs_sl (c := c)
    rw [if_neg (by omega)] at s1
    have hv28 : ck_v 1 c := ck_v1.mpr (by omega)
    refine sg_cE1 (pc := 28) (d' := d - 1) (mc' := 0) (ms' := 0) 3 g (dc_X4_addCode_0.2.2.2.1) cb_X0_add ml_X4_30 mn_X0_add rfl mv_X0_add (Nat.le_of_ble_eq_true rfl) (ck_lc (by assumption) (by first | assumption | exact ck_rev)) (Nat.le_of_ble_eq_true rfl) (by first | exact jl_d0 hd rfl | omega) (by first | exact Nat.le_of_ble_eq_true rfl | omega) (by first | exact Nat.le_of_ble_eq_true rfl | omega) ?_
    have nn28 := cf_len (by assumption) L1
    rw [kk] at nn28
    try simp only [List.length_append, tt_len, List.length_cons, List.length_nil] at nn28
    have hcap28 : ck_cap 1 = 24 := rfl
    refine f_X0_add g (by first | exact jl_d1 hd rfl | omega) (by assumption) L1 (by first | exact ck_v0 | assumption | (simp only [ck_v1, ck_v2] at * <;> omega)) (by omega) (fun h28 x28 f28 n28 w28 => sg_K0 ?_)
    have l28 := cf_la (by assumption) L1 (by omega) n28 w28
    rw [kk] at l28
    have y28 := ck_Yt (h0 := h) (by assumption) x28 f28.1
    refine sg_vret (pc := 31) (dc_X4_addCode_0.2.2.2.2) rfl (by first | exact Nat.le_of_ble_eq_true rfl | omega) (by first | exact Nat.le_of_ble_eq_true rfl | omega) ?_
    first
      | exact hQ _ x20 (ck_Gt f12 f20) (by rw [l20, List.append_assoc]; unfold fs_sent; rw [if_pos (by omega), ← h9 (by omega), ← h17 (by omega)]; rfl)
      | exact hQ _ x28 f28 (by rw [l28]; unfold fs_sent; rw [if_neg (by omega)])
  · refine sg_aload_n (pc := 7) (j := 0) (dc_X4_addCode_0.1.1.2.2) rfl rfl ?_
    refine sg_iload_n (pc := 8) (j := 1) (dc_X4_addCode_0.1.2.1.1) rfl rfl ?_
    refine sg_cS1 (pc := 9) (d' := d - 1) (mc' := 0) (ms' := 0) g (dc_X4_addCode_0.1.2.1.2) cb_X4_highOf ml_X4_26 ms_X4_highOf (Nat.le_of_ble_eq_true rfl) (by first | exact jl_d0 hd rfl | omega) (by first | exact Nat.le_of_ble_eq_true rfl | omega) (by first | exact Nat.le_of_ble_eq_true rfl | omega) ?_
    refine s_X4_highOf g (by first | exact jl_d1 hd rfl | omega) (fun z9 h9 => sg_K1 ?_)
    have s2 := fs_sl (c := c)
    rw [if_pos (by omega)] at s2
    have hv12 : ck_v 1 z9 := ck_v1.mpr (by have := h9 (by omega); omega)
    refine sg_cE1 (pc := 12) (d' := d - 1) (mc' := 0) (ms' := 0) 3 g (dc_X4_addCode_0.1.2.2.1) cb_X0_add ml_X4_30 mn_X0_add rfl mv_X0_add (Nat.le_of_ble_eq_true rfl) (ck_lc (by assumption) (by first | assumption | exact ck_rev)) (Nat.le_of_ble_eq_true rfl) (by first | exact jl_d0 hd rfl | omega) (by first | exact Nat.le_of_ble_eq_true rfl | omega) (by first | exact Nat.le_of_ble_eq_true rfl | omega) ?_
    have nn12 := cf_len (by assumption) L1
    rw [kk] at nn12
    try simp only [List.length_append, tt_len, List.length_cons, List.length_nil] at nn12
    have hcap12 : ck_cap 1 = 24 := rfl
    refine f_X0_add g (by first | exact jl_d1 hd rfl | omega) (by assumption) L1 (by first | exact ck_v0 | assumption | (simp only [ck_v1, ck_v2] at * <;> omega)) (by omega) (fun h12 x12 f12 n12 w12 => sg_K0 ?_)
    have l12 := cf_la (by assumption) L1 (by omega) n12 w12
    rw [kk] at l12
    have y12 := ck_Yt (h0 := h) (by assumption) x12 f12.1
    refine sg_aload_n (pc := 15) (j := 0) (dc_X4_addCode_0.1.2.2.2) rfl rfl ?_
    refine sg_iload_n (pc := 16) (j := 1) (dc_X4_addCode_0.2.1.1.1) rfl rfl ?_
    refine sg_cS1 (pc := 17) (d' := d - 1) (mc' := 0) (ms' := 0) g (dc_X4_addCode_0.2.1.1.2) cb_X4_lowOf ml_X4_36 ms_X4_lowOf (Nat.le_of_ble_eq_true rfl) (by first | exact jl_d0 hd rfl | omega) (by first | exact Nat.le_of_ble_eq_true rfl | omega) (by first | exact Nat.le_of_ble_eq_true rfl | omega) ?_
    refine s_X4_lowOf g (by first | exact jl_d1 hd rfl | omega) (fun z17 h17 => sg_K1 ?_)
    have hv20 : ck_v 1 z17 := ck_v1.mpr (by have := h17 (by omega); omega)
    refine sg_cE1 (pc := 20) (d' := d - 1) (mc' := 0) (ms' := 0) 3 g (dc_X4_addCode_0.2.1.2.1) cb_X0_add ml_X4_30 mn_X0_add rfl mv_X0_add (Nat.le_of_ble_eq_true rfl) (ck_lc (by assumption) (by first | assumption | exact ck_rev)) (Nat.le_of_ble_eq_true rfl) (by first | exact jl_d0 hd rfl | omega) (by first | exact Nat.le_of_ble_eq_true rfl | omega) (by first | exact Nat.le_of_ble_eq_true rfl | omega) ?_
    have nn20 := cf_len (by assumption) L1
    rw [l12] at nn20
    try simp only [List.length_append, tt_len, List.length_cons, List.length_nil] at nn20
    have hcap20 : ck_cap 1 = 24 := rfl
    refine f_X0_add g (by first | exact jl_d1 hd rfl | omega) (by assumption) L1 (by first | exact ck_v0 | assumption | (simp only [ck_v1, ck_v2] at * <;> omega)) (by omega) (fun h20 x20 f20 n20 w20 => sg_K0 ?_)
    have l20 := cf_la (by assumption) L1 (by omega) n20 w20
    rw [l12] at l20
    have y20 := ck_Yt (h0 := h) (by assumption) x20 f20.1
    refine sg_goto (pc := 23) (tgt := 31) (dc_X4_addCode_0.2.1.2.2) (by decide) ?_
    refine sg_vret (pc := 31) (dc_X4_addCode_0.2.2.2.2) rfl (by first | exact Nat.le_of_ble_eq_true rfl | omega) (by first | exact Nat.le_of_ble_eq_true rfl | omega) ?_
    first
      | exact hQ _ x20 (ck_Gt f12 f20) (by rw [l20, List.append_assoc]; unfold fs_sent; rw [if_pos (by omega), ← h9 (by omega), ← h17 (by omega)]; rfl)
      | exact hQ _ x28 f28 (by rw [l28]; unfold fs_sent; rw [if_neg (by omega)])

set_option maxRecDepth 100000 in
theorem f_X4_listCodes {w : sg_W} {Q : sg_O → sg_H → Prop} {h : sg_H} (g : sg_G w) {d : Nat} (hd : 4 ≤ d) {B a1 : Nat} (hx : ck_X h B) (L1 : ck_L B a1 1) {L : List Int} (kk : cf_l h a1 = L) (hu : ∀ z ∈ L, 0 ≤ z ∧ z ≤ 65535) {a9 : Nat} (L9 : ck_L B a9 2) (hap : cf_ap a9 a1) {M : List Int} (k9 : cf_l h a9 = M) (hQ : ∀ h' : sg_H, ck_X h' B → ck_G B a9 h h' → cf_l h' a9 = fs_codes L → Q (.inl none) h') : sg_C w mi_X4_listCodes d 0 0 [sg_r a1, sg_r a9] h Q := by
  refine sg_of pn_X4 (Nat.le_of_ble_eq_true rfl) ?_
  have y0 := ck_Y0 hx
  have l24 := cf_40 hx L1
  rw [kk] at l24
  have hc24 : ck_cap 1 = 24 := rfl
  refine sg_aload_n (pc := 0) (j := 1) (dc_X4_listCodes_0.1.1.1.1) rfl rfl ?_
  refine sg_cE0 (pc := 1) (d' := d - 1) (mc' := 0) (ms' := 0) 3 g (dc_X4_listCodes_0.1.1.1.2) cb_X0_clear ml_X4_54 mn_X0_clear rfl mv_X0_clear (Nat.le_of_ble_eq_true rfl) (ck_lc (by assumption) (by first | assumption | exact ck_rev)) (Nat.le_of_ble_eq_true rfl) (by first | exact jl_d0 hd rfl | omega) (by first | exact Nat.le_of_ble_eq_true rfl | omega) (by first | exact Nat.le_of_ble_eq_true rfl | omega) ?_
  refine f_X0_clear g (by first | exact jl_d1 hd rfl | omega) (by assumption) L9 (fun h1 x1 f1 n1 w1 l1 => sg_K0 ?_)
  have y1 := ck_Yt (h0 := h) (by assumption) x1 f1.1
  refine sg_iconst (pc := 4) (z := 0) (dc_X4_listCodes_0.1.1.2.1) (by decide) ?_
  refine sg_istore_n (pc := 5) (j := 2) (dc_X4_listCodes_0.1.1.2.2) rfl (by decide) ?_
  have loop6 : ∀ (N : Nat) (h1 : sg_H) (p : Int), (ck_X h1 B) → (ck_G B a9 h h1) → (0 ≤ p ∧ p ≤ (L.length : Int)) → (cf_l h1 a9 = fs_cs L p.toNat) → ((L.length : Int) - p).toNat < N → sg_R w mi_X4_listCodes d 0 0 Q 6 [(2, sg_i p), (0, sg_r a1), (1, sg_r a9)] [] h1 0 0 := by
    intro N
    induction N with
    | zero => intro h1 p x1 G1 p0 l1 hm; exact absurd hm (Nat.not_lt_zero _)
    | succ N ih =>
      intro h1 p x1 G1 p0 l1 hm
      have y1 : ck_Y h h1 B := ⟨x1, G1.1⟩
      have k1 : cf_l h1 a1 = L := (cf_fr G1 hap).1.trans kk
      have cl := fs_csl (L := L) (p := p.toNat)
      have hc24c : ck_cap 2 = 24 := rfl
      refine sg_iload_n (pc := 6) (j := 2) (dc_X4_listCodes_0.1.2.1.1) rfl rfl ?_
      refine sg_aload_n (pc := 7) (j := 0) (dc_X4_listCodes_0.1.2.1.2) rfl rfl ?_
      refine sg_cE0 (pc := 8) (d' := d - 1) (mc' := 0) (ms' := 0) 3 g (dc_X4_listCodes_0.1.2.2.1) cb_X0_size ml_X4_46 mn_X0_size rfl mv_X0_size (Nat.le_of_ble_eq_true rfl) (ck_lc (by assumption) (by first | assumption | exact ck_rev)) (Nat.le_of_ble_eq_true rfl) (by first | exact jl_d0 hd rfl | omega) (by first | exact Nat.le_of_ble_eq_true rfl | omega) (by first | exact Nat.le_of_ble_eq_true rfl | omega) ?_
      refine f_X0_size g (by first | exact jl_d1 hd rfl | omega) (by assumption) L1 (fun z8 e8 l08 u8 => sg_K1 ?_)
      rw [k1] at e8
      try rw [fa_tlen] at e8
      refine sg_icmp_ge (pc := 11) (tgt := 37) (dc_X4_listCodes_0.1.2.2.2) (by decide) (fun c11 => ?_) (fun c11 => ?_)
      · refine sg_vret (pc := 37) (dc_X4_listCodes_28.2.2) rfl (by first | exact Nat.le_of_ble_eq_true rfl | omega) (by first | exact Nat.le_of_ble_eq_true rfl | omega) ?_
        exact hQ _ x1 G1 (by rw [l1, show p.toNat = L.length by omega])
      · refine sg_aload_n (pc := 14) (j := 0) (dc_X4_listCodes_0.2.1.1.1) rfl rfl ?_
        refine sg_iload_n (pc := 15) (j := 2) (dc_X4_listCodes_0.2.1.1.2) rfl rfl ?_
        refine sg_cS2 (pc := 16) (d' := d - 1) (mc' := 0) (ms' := 0) g (dc_X4_listCodes_0.2.1.2.1) cb_X4_isCodeBegin ml_X4_50 ms_X4_isCodeBegin (Nat.le_of_ble_eq_true rfl) (by first | exact jl_d0 hd rfl | omega) (by first | exact Nat.le_of_ble_eq_true rfl | omega) (by first | exact Nat.le_of_ble_eq_true rfl | omega) ?_
        refine f_X4_isCodeBegin g (by first | exact jl_d1 hd rfl | omega) (by assumption) L1 k1 (by omega) (by omega) (fun z16 b16 => sg_K1 ?_)
        refine sg_if_eq (pc := 19) (tgt := 31) (dc_X4_listCodes_0.2.1.2.2) (by decide) (fun c19 => ?_) (fun c19 => ?_)
        · have hb : ¬ fs_bg L p.toNat := by
            rcases b16 with b | b
            · exact b.2
            · exact absurd b.1 (by omega)
          first | refine sg_iincB (pc := 31) (dc_X4_listCodes_28.1.2) rfl (by decide) (by decide) (by omega) (by omega) ?_ | refine sg_iinc (pc := 31) (dc_X4_listCodes_28.1.2) rfl (by decide) (by decide) ?_
          refine sg_goto (pc := 34) (tgt := 6) (dc_X4_listCodes_28.2.1) (by decide) ?_
          refine sg_lsub (lv' := [(2, _), (0, _), (1, _)]) ⟨rfl, rfl, rfl, trivial⟩ ?_
          exact ih _ _ x1 G1 (by omega) (by rw [l1, show (p + 1).toNat = p.toNat + 1 by omega, fs_css, if_neg hb, List.append_nil]) (by first | exact jl_m1 hm (by omega) | exact jl_m2 hm (by omega) | omega)
        · refine sg_aload_n (pc := 22) (j := 1) (dc_X4_listCodes_0.2.2.1.1) rfl rfl ?_
          refine sg_aload_n (pc := 23) (j := 0) (dc_X4_listCodes_0.2.2.1.2) rfl rfl ?_
          refine sg_iload_n (pc := 24) (j := 2) (dc_X4_listCodes_0.2.2.2.1) rfl rfl ?_
          refine sg_cS2 (pc := 25) (d' := d - 1) (mc' := 0) (ms' := 0) g (dc_X4_listCodes_0.2.2.2.2) cb_X4_codeFrom ml_X4_57 ms_X4_codeFrom (Nat.le_of_ble_eq_true rfl) (by first | exact jl_d0 hd rfl | omega) (by first | exact Nat.le_of_ble_eq_true rfl | omega) (by first | exact Nat.le_of_ble_eq_true rfl | omega) ?_
          refine f_X4_codeFrom g (by first | exact jl_d1 hd rfl | omega) (by assumption) L1 k1 hu (by omega) (by omega) (fun z25 e25 => sg_K1 ?_)
          have r25 := fs_cdr hu (p := p.toNat) (by omega)
          rw [← e25] at r25
          have hv28 : ck_v 2 z25 := ck_v2.mpr r25
          refine sg_cE1 (pc := 28) (d' := d - 1) (mc' := 0) (ms' := 0) 3 g (dc_X4_listCodes_28.1.1) cb_X0_add ml_X4_30 mn_X0_add rfl mv_X0_add (Nat.le_of_ble_eq_true rfl) (ck_lc (by assumption) (by first | assumption | exact ck_rev)) (Nat.le_of_ble_eq_true rfl) (by first | exact jl_d0 hd rfl | omega) (by first | exact Nat.le_of_ble_eq_true rfl | omega) (by first | exact Nat.le_of_ble_eq_true rfl | omega) ?_
          have nn28 := cf_len (by assumption) L9
          rw [l1] at nn28
          try simp only [List.length_append, tt_len, List.length_cons, List.length_nil] at nn28
          have hcap28 : ck_cap 2 = 24 := rfl
          refine f_X0_add g (by first | exact jl_d1 hd rfl | omega) (by assumption) L9 (by first | exact ck_v0 | assumption | (simp only [ck_v1, ck_v2] at * <;> omega)) (by omega) (fun h28 x28 f28 n28 w28 => sg_K0 ?_)
          have l28 := cf_la (by assumption) L9 (by omega) n28 w28
          rw [l1] at l28
          have y28 := ck_Yt (h0 := h) (by assumption) x28 f28.1
          have hb : fs_bg L p.toNat := by
            rcases b16 with b | b
            · exact absurd b.1 (by omega)
            · exact b.2
          first | refine sg_iincB (pc := 31) (dc_X4_listCodes_28.1.2) rfl (by decide) (by decide) (by omega) (by omega) ?_ | refine sg_iinc (pc := 31) (dc_X4_listCodes_28.1.2) rfl (by decide) (by decide) ?_
          refine sg_goto (pc := 34) (tgt := 6) (dc_X4_listCodes_28.2.1) (by decide) ?_
          refine sg_lsub (lv' := [(2, _), (0, _), (1, _)]) ⟨rfl, rfl, rfl, trivial⟩ ?_
          exact ih _ _ x28 (ck_Gt G1 f28) (by omega) (by rw [l28, show (p + 1).toNat = p.toNat + 1 by omega, fs_css, if_pos hb, e25]) (by first | exact jl_m1 hm (by omega) | exact jl_m2 hm (by omega) | omega)
  refine sg_lsub (lv' := [(2, _), (0, _), (1, _)]) ⟨rfl, rfl, rfl, trivial⟩ ?_
  exact loop6 _ _ _ x1 f1 (by omega) l1 (Nat.lt_succ_self _)

set_option maxRecDepth 100000 in
theorem f_X4_isCounted {w : sg_W} {Q : sg_O → sg_H → Prop} {h : sg_H} (g : sg_G w) {d : Nat} (hd : 3 ≤ d) {c t : Int} (hQ : ∀ z : Int, ((z = 0 ∧ ¬ fs_ct c t) ∨ (z = 1 ∧ fs_ct c t)) → Q (.inl (some (sg_i z))) h) : sg_C w mi_X4_isCounted d 0 0 [sg_i c, sg_i t] h Q := by
  refine sg_of pn_X4 (Nat.le_of_ble_eq_true rfl) ?_
  refine sg_iload_n (pc := 0) (j := 1) (dc_X4_isCounted_0.1.1.1.1) rfl rfl ?_
  by_cases cs : t < 1 ∨ 3 < t
  · refine sg_tsOut (pc := 1) (tgt := 40) (dc_X4_isCounted_0.1.1.1.2) cs (by decide) ?_
    refine sg_iconst (pc := 40) (z := 0) (dc_X4_isCounted_0.2.1.2.1) (by decide) ?_
    refine sg_zret (pc := 41) (dc_X4_isCounted_0.2.1.2.2) rfl (by first | exact Or.inl rfl | exact Or.inr rfl | omega | assumption) (by first | exact Nat.le_of_ble_eq_true rfl | omega) (by first | exact Nat.le_of_ble_eq_true rfl | omega) ?_
    first
      | exact hQ _ (Or.inr ⟨rfl, Or.inl rfl⟩)
      | exact hQ _ (by rcases b31 with b | b
                       · exact Or.inl ⟨b, fun q => by rcases q with q | ⟨-, q⟩ | ⟨q, -⟩ <;> omega⟩
                       · exact Or.inr ⟨b, Or.inr (Or.inl ⟨rfl, by omega⟩)⟩)
      | exact hQ _ (by rcases b36 with b | b
                       · exact Or.inl ⟨b, fun q => by rcases q with q | ⟨q, -⟩ | ⟨-, q⟩ <;> omega⟩
                       · exact Or.inr ⟨b, Or.inr (Or.inr ⟨rfl, by omega⟩)⟩)
      | exact hQ _ (Or.inl ⟨rfl, fun q => by rcases q with q | ⟨q, -⟩ | ⟨q, -⟩ <;> omega⟩)
  · rcases (show t = 1 ∨ t = 2 ∨ t = 3 by omega) with rfl | rfl | rfl
    · refine sg_tsIn (pc := 1) (tgt := 28) (dc_X4_isCounted_0.1.1.1.2) (by omega) (by omega) rfl (by decide) ?_
      refine sg_iconst (pc := 28) (z := 1) (dc_X4_isCounted_0.1.1.2.1) (by decide) ?_
      refine sg_zret (pc := 29) (dc_X4_isCounted_0.1.1.2.2) rfl (by first | exact Or.inl rfl | exact Or.inr rfl | omega | assumption) (by first | exact Nat.le_of_ble_eq_true rfl | omega) (by first | exact Nat.le_of_ble_eq_true rfl | omega) ?_
      first
        | exact hQ _ (Or.inr ⟨rfl, Or.inl rfl⟩)
        | exact hQ _ (by rcases b31 with b | b
                         · exact Or.inl ⟨b, fun q => by rcases q with q | ⟨-, q⟩ | ⟨q, -⟩ <;> omega⟩
                         · exact Or.inr ⟨b, Or.inr (Or.inl ⟨rfl, by omega⟩)⟩)
        | exact hQ _ (by rcases b36 with b | b
                         · exact Or.inl ⟨b, fun q => by rcases q with q | ⟨q, -⟩ | ⟨-, q⟩ <;> omega⟩
                         · exact Or.inr ⟨b, Or.inr (Or.inr ⟨rfl, by omega⟩)⟩)
        | exact hQ _ (Or.inl ⟨rfl, fun q => by rcases q with q | ⟨q, -⟩ | ⟨q, -⟩ <;> omega⟩)
    · refine sg_tsIn (pc := 1) (tgt := 30) (dc_X4_isCounted_0.1.1.1.2) (by omega) (by omega) rfl (by decide) ?_
      refine sg_iload_n (pc := 30) (j := 0) (dc_X4_isCounted_0.1.2.1.1) rfl rfl ?_
      refine sg_cS1 (pc := 31) (d' := d - 1) (mc' := 0) (ms' := 0) g (dc_X4_isCounted_0.1.2.1.2) cb_X4_isWideCode ml_X4_23 ms_X4_isWideCode (Nat.le_of_ble_eq_true rfl) (by first | exact jl_d0 hd rfl | omega) (by first | exact Nat.le_of_ble_eq_true rfl | omega) (by first | exact Nat.le_of_ble_eq_true rfl | omega) ?_
      refine s_X4_isWideCode g (by first | exact jl_d1 hd rfl | omega) (fun z31 h31 b31 => sg_K1 ?_)
      refine sg_zret (pc := 34) (dc_X4_isCounted_0.1.2.2.1) rfl (by first | exact Or.inl rfl | exact Or.inr rfl | omega | assumption) (by first | exact Nat.le_of_ble_eq_true rfl | omega) (by first | exact Nat.le_of_ble_eq_true rfl | omega) ?_
      first
        | exact hQ _ (Or.inr ⟨rfl, Or.inl rfl⟩)
        | exact hQ _ (by rcases b31 with b | b
                         · exact Or.inl ⟨b, fun q => by rcases q with q | ⟨-, q⟩ | ⟨q, -⟩ <;> omega⟩
                         · exact Or.inr ⟨b, Or.inr (Or.inl ⟨rfl, by omega⟩)⟩)
        | exact hQ _ (by rcases b36 with b | b
                         · exact Or.inl ⟨b, fun q => by rcases q with q | ⟨q, -⟩ | ⟨-, q⟩ <;> omega⟩
                         · exact Or.inr ⟨b, Or.inr (Or.inr ⟨rfl, by omega⟩)⟩)
        | exact hQ _ (Or.inl ⟨rfl, fun q => by rcases q with q | ⟨q, -⟩ | ⟨q, -⟩ <;> omega⟩)
    · refine sg_tsIn (pc := 1) (tgt := 35) (dc_X4_isCounted_0.1.1.1.2) (by omega) (by omega) rfl (by decide) ?_
      refine sg_iload_n (pc := 35) (j := 0) (dc_X4_isCounted_0.1.2.2.2) rfl rfl ?_
      refine sg_cS1 (pc := 36) (d' := d - 1) (mc' := 0) (ms' := 0) g (dc_X4_isCounted_0.2.1.1.1) cb_X4_isHalf ml_X4_65 ms_X4_isHalf (Nat.le_of_ble_eq_true rfl) (by first | exact jl_d0 hd rfl | omega) (by first | exact Nat.le_of_ble_eq_true rfl | omega) (by first | exact Nat.le_of_ble_eq_true rfl | omega) ?_
      refine s_X4_isHalf g (by first | exact jl_d1 hd rfl | omega) (fun z36 h36 b36 => sg_K1 ?_)
      refine sg_zret (pc := 39) (dc_X4_isCounted_0.2.1.1.2) rfl (by first | exact Or.inl rfl | exact Or.inr rfl | omega | assumption) (by first | exact Nat.le_of_ble_eq_true rfl | omega) (by first | exact Nat.le_of_ble_eq_true rfl | omega) ?_
      first
        | exact hQ _ (Or.inr ⟨rfl, Or.inl rfl⟩)
        | exact hQ _ (by rcases b31 with b | b
                         · exact Or.inl ⟨b, fun q => by rcases q with q | ⟨-, q⟩ | ⟨q, -⟩ <;> omega⟩
                         · exact Or.inr ⟨b, Or.inr (Or.inl ⟨rfl, by omega⟩)⟩)
        | exact hQ _ (by rcases b36 with b | b
                         · exact Or.inl ⟨b, fun q => by rcases q with q | ⟨q, -⟩ | ⟨-, q⟩ <;> omega⟩
                         · exact Or.inr ⟨b, Or.inr (Or.inr ⟨rfl, by omega⟩)⟩)
        | exact hQ _ (Or.inl ⟨rfl, fun q => by rcases q with q | ⟨q, -⟩ | ⟨q, -⟩ <;> omega⟩)

set_option maxRecDepth 100000 in
theorem f_X4_howMany {w : sg_W} {Q : sg_O → sg_H → Prop} {h : sg_H} (g : sg_G w) {d : Nat} (hd : 5 ≤ d) {B a1 : Nat} (hx : ck_X h B) (L1 : ck_L B a1 1) {L : List Int} (kk : cf_l h a1 = L) (hu : ∀ z ∈ L, 0 ≤ z ∧ z ≤ 65535) {t : Int} (hQ : ∀ z : Int, z = fs_how L t → Q (.inl (some (sg_i z))) h) : sg_C w mi_X4_howMany d 0 0 [sg_r a1, sg_i t] h Q := by
  refine sg_of pn_X4 (Nat.le_of_ble_eq_true rfl) ?_
  have y0 := ck_Y0 hx
  have l24 := cf_40 hx L1
  rw [kk] at l24
  have hc24 : ck_cap 1 = 24 := rfl
  refine sg_iload_n (pc := 0) (j := 1) (dc_X4_howMany_0.1.1.1.1) rfl rfl ?_
  refine sg_if_ne (pc := 1) (tgt := 9) (dc_X4_howMany_0.1.1.1.2) (by decide) (fun c1 => ?_) (fun c1 => ?_)
  · refine sg_iconst (pc := 9) (z := 0) (dc_X4_howMany_0.1.2.1.2) (by decide) ?_
    refine sg_istore_n (pc := 10) (j := 2) (dc_X4_howMany_0.1.2.2.1) rfl (by decide) ?_
    refine sg_iconst (pc := 11) (z := 0) (dc_X4_howMany_0.1.2.2.2) (by decide) ?_
    refine sg_istore_n (pc := 12) (j := 3) (dc_X4_howMany_0.2.1.1.1) rfl (by decide) ?_
    have loop13 : ∀ (N : Nat) (p s : Int), (0 ≤ p ∧ p ≤ (L.length : Int)) → (s = fs_hm L t p.toNat) → ((L.length : Int) - p).toNat < N → sg_R w mi_X4_howMany d 0 0 Q 13 [(3, sg_i p), (2, sg_i s), (0, sg_r a1), (1, sg_i t)] [] h 0 0 := by
      intro N
      induction N with
      | zero => intro p s p0 s0 hm; exact absurd hm (Nat.not_lt_zero _)
      | succ N ih =>
        intro p s p0 s0 hm
        have hb := fs_hb (L := L) (t := t) (n := p.toNat)
        rw [← s0] at hb
        refine sg_iload_n (pc := 13) (j := 3) (dc_X4_howMany_0.2.1.1.2) rfl rfl ?_
        refine sg_aload_n (pc := 14) (j := 0) (dc_X4_howMany_0.2.1.2.1) rfl rfl ?_
        refine sg_cE0 (pc := 15) (d' := d - 1) (mc' := 0) (ms' := 0) 3 g (dc_X4_howMany_0.2.1.2.2) cb_X0_size ml_X4_46 mn_X0_size rfl mv_X0_size (Nat.le_of_ble_eq_true rfl) (ck_lc (by assumption) (by first | assumption | exact ck_rev)) (Nat.le_of_ble_eq_true rfl) (by first | exact jl_d0 hd rfl | omega) (by first | exact Nat.le_of_ble_eq_true rfl | omega) (by first | exact Nat.le_of_ble_eq_true rfl | omega) ?_
        refine f_X0_size g (by first | exact jl_d1 hd rfl | omega) (by assumption) L1 (fun z15 e15 l015 u15 => sg_K1 ?_)
        rw [kk] at e15
        try rw [fa_tlen] at e15
        refine sg_icmp_ge (pc := 18) (tgt := 50) (dc_X4_howMany_0.2.2.1.1) (by decide) (fun c18 => ?_) (fun c18 => ?_)
        · refine sg_iload_n (pc := 50) (j := 2) (dc_X4_howMany_26.2.1.2.1) rfl rfl ?_
          refine sg_iret (pc := 51) (dc_X4_howMany_26.2.1.2.2) rfl (by first | exact Nat.le_of_ble_eq_true rfl | omega) (by first | exact Nat.le_of_ble_eq_true rfl | omega) ?_
          first
            | exact hQ _ (by unfold fs_how; rw [if_pos (by omega)]; exact e5)
            | exact hQ _ (by unfold fs_how; rw [if_neg (by omega), s0, show p.toNat = L.length by omega])
        · refine sg_aload_n (pc := 21) (j := 0) (dc_X4_howMany_0.2.2.1.2) rfl rfl ?_
          refine sg_iload_n (pc := 22) (j := 3) (dc_X4_howMany_0.2.2.2.1) rfl rfl ?_
          refine sg_cS2 (pc := 23) (d' := d - 1) (mc' := 0) (ms' := 0) g (dc_X4_howMany_0.2.2.2.2) cb_X4_isCodeBegin ml_X4_50 ms_X4_isCodeBegin (Nat.le_of_ble_eq_true rfl) (by first | exact jl_d0 hd rfl | omega) (by first | exact Nat.le_of_ble_eq_true rfl | omega) (by first | exact Nat.le_of_ble_eq_true rfl | omega) ?_
          refine f_X4_isCodeBegin g (by first | exact jl_d1 hd rfl | omega) (by assumption) L1 kk (by omega) (by omega) (fun z23 b23 => sg_K1 ?_)
          refine sg_if_eq (pc := 26) (tgt := 44) (dc_X4_howMany_26.1.1.1.1) (by decide) (fun c26 => ?_) (fun c26 => ?_)
          · have hn : ¬ (fs_bg L p.toNat ∧ fs_ct (fs_cd L p.toNat) t) := fun q => by
              rcases b23 with b | b
              · exact b.2 q.1
              · exact absurd b.1 (by omega)
            have bk : s = fs_hm L t (p + 1).toNat := by unfold fs_hm; rw [fz_s (by omega), if_neg hn, Int.add_zero]; exact s0
            clear hn b23
            first | refine sg_iincB (pc := 44) (dc_X4_howMany_26.2.1.1.1) rfl (by decide) (by decide) (by omega) (by omega) ?_ | refine sg_iinc (pc := 44) (dc_X4_howMany_26.2.1.1.1) rfl (by decide) (by decide) ?_
            refine sg_goto (pc := 47) (tgt := 13) (dc_X4_howMany_26.2.1.1.2) (by decide) ?_
            refine sg_lsub (lv' := [(3, _), (2, _), (0, _), (1, _)]) ⟨rfl, rfl, rfl, rfl, trivial⟩ ?_
            exact ih _ _ (by omega) bk (by first | exact jl_m1 hm (by omega) | exact jl_m2 hm (by omega) | omega)
          · refine sg_aload_n (pc := 29) (j := 0) (dc_X4_howMany_26.1.1.1.2) rfl rfl ?_
            refine sg_iload_n (pc := 30) (j := 3) (dc_X4_howMany_26.1.1.2.1) rfl rfl ?_
            refine sg_cS2 (pc := 31) (d' := d - 1) (mc' := 0) (ms' := 0) g (dc_X4_howMany_26.1.1.2.2) cb_X4_codeFrom ml_X4_57 ms_X4_codeFrom (Nat.le_of_ble_eq_true rfl) (by first | exact jl_d0 hd rfl | omega) (by first | exact Nat.le_of_ble_eq_true rfl | omega) (by first | exact Nat.le_of_ble_eq_true rfl | omega) ?_
            refine f_X4_codeFrom g (by first | exact jl_d1 hd rfl | omega) (by assumption) L1 kk hu (by omega) (by omega) (fun z31 e31 => sg_K1 ?_)
            have r31 := fs_cdr hu (p := p.toNat) (by omega)
            rw [← e31] at r31
            refine sg_iload_n (pc := 34) (j := 1) (dc_X4_howMany_26.1.2.1.1) rfl rfl ?_
            refine sg_cS2 (pc := 35) (d' := d - 1) (mc' := 0) (ms' := 0) g (dc_X4_howMany_26.1.2.1.2) cb_X4_isCounted ml_X4_61 ms_X4_isCounted (Nat.le_of_ble_eq_true rfl) (by first | exact jl_d0 hd rfl | omega) (by first | exact Nat.le_of_ble_eq_true rfl | omega) (by first | exact Nat.le_of_ble_eq_true rfl | omega) ?_
            refine f_X4_isCounted g (by first | exact jl_d1 hd rfl | omega) (fun z35 b35 => sg_K1 ?_)
            refine sg_if_eq (pc := 38) (tgt := 44) (dc_X4_howMany_26.1.2.2.1) (by decide) (fun c38 => ?_) (fun c38 => ?_)
            · have hn : ¬ (fs_bg L p.toNat ∧ fs_ct (fs_cd L p.toNat) t) := fun q => by
                rw [← e31] at q
                rcases b35 with b | b
                · exact b.2 q.2
                · exact absurd b.1 (by omega)
              have bk : s = fs_hm L t (p + 1).toNat := by unfold fs_hm; rw [fz_s (by omega), if_neg hn, Int.add_zero]; exact s0
              clear hn b35 b23
              first | refine sg_iincB (pc := 44) (dc_X4_howMany_26.2.1.1.1) rfl (by decide) (by decide) (by omega) (by omega) ?_ | refine sg_iinc (pc := 44) (dc_X4_howMany_26.2.1.1.1) rfl (by decide) (by decide) ?_
              refine sg_goto (pc := 47) (tgt := 13) (dc_X4_howMany_26.2.1.1.2) (by decide) ?_
              refine sg_lsub (lv' := [(3, _), (2, _), (0, _), (1, _)]) ⟨rfl, rfl, rfl, rfl, trivial⟩ ?_
              exact ih _ _ (by omega) bk (by first | exact jl_m1 hm (by omega) | exact jl_m2 hm (by omega) | omega)
            · first | refine sg_iincB (pc := 41) (dc_X4_howMany_26.1.2.2.2) rfl (by decide) (by decide) (by omega) (by omega) ?_ | refine sg_iinc (pc := 41) (dc_X4_howMany_26.1.2.2.2) rfl (by decide) (by decide) ?_
              have hb : fs_bg L p.toNat := by
                rcases b23 with b | b
                · exact absurd b.1 (by omega)
                · exact b.2
              have hc : fs_ct (fs_cd L p.toNat) t := by
                rw [← e31]
                rcases b35 with b | b
                · exact absurd b.1 (by omega)
                · exact b.2
              have bk : s + 1 = fs_hm L t (p + 1).toNat := by unfold fs_hm; rw [fz_s (by omega), if_pos ⟨hb, hc⟩]; unfold fs_hm at s0; rw [s0]
              clear hc hb b35 b23
              first | refine sg_iincB (pc := 44) (dc_X4_howMany_26.2.1.1.1) rfl (by decide) (by decide) (by omega) (by omega) ?_ | refine sg_iinc (pc := 44) (dc_X4_howMany_26.2.1.1.1) rfl (by decide) (by decide) ?_
              refine sg_goto (pc := 47) (tgt := 13) (dc_X4_howMany_26.2.1.1.2) (by decide) ?_
              refine sg_lsub (lv' := [(3, _), (2, _), (0, _), (1, _)]) ⟨rfl, rfl, rfl, rfl, trivial⟩ ?_
              exact ih _ _ (by omega) bk (by first | exact jl_m1 hm (by omega) | exact jl_m2 hm (by omega) | omega)
    refine sg_lsub (lv' := [(3, _), (2, _), (0, _), (1, _)]) ⟨rfl, rfl, rfl, rfl, trivial⟩ ?_
    exact loop13 _ _ _ (by omega) rfl (Nat.lt_succ_self _)
  · refine sg_aload_n (pc := 4) (j := 0) (dc_X4_howMany_0.1.1.2.1) rfl rfl ?_
    refine sg_cE0 (pc := 5) (d' := d - 1) (mc' := 0) (ms' := 0) 3 g (dc_X4_howMany_0.1.1.2.2) cb_X0_size ml_X4_46 mn_X0_size rfl mv_X0_size (Nat.le_of_ble_eq_true rfl) (ck_lc (by assumption) (by first | assumption | exact ck_rev)) (Nat.le_of_ble_eq_true rfl) (by first | exact jl_d0 hd rfl | omega) (by first | exact Nat.le_of_ble_eq_true rfl | omega) (by first | exact Nat.le_of_ble_eq_true rfl | omega) ?_
    refine f_X0_size g (by first | exact jl_d1 hd rfl | omega) (by assumption) L1 (fun z5 e5 l05 u5 => sg_K1 ?_)
    rw [kk] at e5
    try rw [fa_tlen] at e5
    refine sg_iret (pc := 8) (dc_X4_howMany_0.1.2.1.1) rfl (by first | exact Nat.le_of_ble_eq_true rfl | omega) (by first | exact Nat.le_of_ble_eq_true rfl | omega) ?_
    first
      | exact hQ _ (by unfold fs_how; rw [if_pos (by omega)]; exact e5)
      | exact hQ _ (by unfold fs_how; rw [if_neg (by omega), s0, show p.toNat = L.length by omega])

theorem fn_hb (u : Int) : 0 ≤ fn_half u ∧ fn_half u ≤ 1 := by
  unfold fn_half
  split <;> omega
def fs_hf (L : List Int) (n : Nat) : Int := fz (fun j => fn_half (fn_turn (L.getD j 0))) n
theorem fs_hfb {L : List Int} {n : Nat} : 0 ≤ fs_hf L n ∧ fs_hf L n ≤ (n : Int) := by
  unfold fs_hf
  induction n with
  | zero => exact ⟨Int.le_refl _, Int.le_refl _⟩
  | succ n ih =>
    show 0 ≤ fz _ n + fn_half _ ∧ fz _ n + fn_half _ ≤ _
    have hb := fn_hb (fn_turn (L.getD n 0))
    omega

set_option maxRecDepth 100000 in
theorem f_X5_flip {w : sg_W} {Q : sg_O → sg_H → Prop} {h : sg_H} (g : sg_G w) {d : Nat} (hd : 14 ≤ d) {B : Nat} {A : fa_A} (hx : cf_X h B A) (ok : fa_ok A) {trk : Int} {L : List Int} (hL : fa_L A (4 + trk.toNat) = L) (hQ : ¬ (trk < 0 ∨ 2 ≤ trk) → ∀ (v : Int) (h' : sg_H), v = fs_hf L L.length → cf_X h' B (fa_put A (4 + trk.toNat) (L.map fn_turn)) → ck_F B h h' → Q (.inl (some (sg_i v))) h') (hXI : (trk < 0 ∨ 2 ≤ trk) → ∀ z, h.1 ≤ z → Q (.inr e_I) (z, h.2)) : sg_C w mi_X5_flip d 8 48 [sg_r B, sg_i trk] h Q := by
  refine sg_of pn_X5 (Nat.le_of_ble_eq_true rfl) ?_
  obtain ⟨x0, ho, hS, hP, hK⟩ := id hx
  have y0 := ck_Y0 x0
  refine sg_aload_n (pc := 0) (j := 0) (dc_X5_flip_0.1.1.1.1) rfl rfl ?_
  refine sg_iload_n (pc := 1) (j := 1) (dc_X5_flip_0.1.1.1.2) rfl rfl ?_
  refine sg_cE1 (pc := 2) (d' := d - 1) (mc' := 1) (ms' := 6) 6 g (dc_X5_flip_0.1.1.2.1) cb_X5_trackOf ml_X5_151 mn_X5_trackOf rfl mv_X5_trackOf (Nat.le_of_ble_eq_true rfl) (ck_oc (by assumption)) (Nat.le_of_ble_eq_true rfl) (by first | exact jl_d0 hd rfl | omega) (by first | exact Nat.le_of_ble_eq_true rfl | omega) (by first | exact Nat.le_of_ble_eq_true rfl | omega) ?_
  refine f_X5_trackOf g (by first | exact jl_d1 hd rfl | omega) (by assumption) (fun l2 r2 L2 => sg_K1 ?_) (fun t2 z2 w2 => sg_KX (by first | exact Nat.le_of_ble_eq_true rfl | omega) (by first | exact Nat.le_of_ble_eq_true rfl | omega) (hXI (by omega) z2 w2))
  obtain ⟨a2, ea2⟩ : ∃ a, a = B + 1 + 3 + 2 * (4 + trk.toNat) := ⟨_, rfl⟩
  rw [← ea2] at L2 ⊢
  have k2 : cf_l h a2 = L := by rw [ea2, cf_rl hx (by omega)]; exact hL
  have r42 := fa_trk ok (i := (4 + trk.toNat)) (by omega) (by omega)
  rw [hL] at r42
  refine sg_astore_n (pc := 5) (j := 2) (dc_X5_flip_0.1.1.2.2) rfl (by decide) ?_
  refine sg_aload_n (pc := 6) (j := 0) (dc_X5_flip_0.1.2.1.1) rfl rfl ?_
  refine ck_gob (pc := 7) g (dc_X5_flip_0.1.2.1.2) fk_X5_19 (by assumption) (fun _ => rfl) ?_
  refine sg_aload_n (pc := 10) (j := 0) (dc_X5_flip_0.1.2.2.1) rfl rfl ?_
  refine ck_gob (pc := 11) g (dc_X5_flip_0.1.2.2.2) fk_X5_10 (by assumption) (fun _ => rfl) ?_
  refine sg_cE1 (pc := 14) (d' := d - 1) (mc' := 0) (ms' := 0) 4 g (dc_X5_flip_0.2.1.1.1) cb_X1_keep ml_X5_55 mn_X1_keep rfl mv_X1_keep (Nat.le_of_ble_eq_true rfl) (ck_pc (by assumption)) (Nat.le_of_ble_eq_true rfl) (by first | exact jl_d0 hd rfl | omega) (by first | exact Nat.le_of_ble_eq_true rfl | omega) (by first | exact Nat.le_of_ble_eq_true rfl | omega) ?_
  refine f_X1_keep g (by first | exact jl_d1 hd rfl | omega) x0 ho (fun h14 x14 F14 fr14 ho14 P14 => sg_K0 ?_)
  have y14 : ck_Y h h14 B := ⟨x14, F14⟩
  have q14a2 : cf_l h14 a2 = cf_l h a2 := cf_lq (fr14 _ (by omega)) (fr14 _ (by omega))
  rw [k2] at q14a2
  refine sg_iconst (pc := 17) (z := 0) (dc_X5_flip_0.2.1.1.2) (by decide) ?_
  refine sg_istore_n (pc := 18) (j := 3) (dc_X5_flip_0.2.1.2.1) rfl (by decide) ?_
  refine sg_iconst (pc := 19) (z := 0) (dc_X5_flip_0.2.1.2.2) (by decide) ?_
  refine sg_istore (pc := 20) (dc_X5_flip_0.2.2.1.1) (by decide) ?_
  have loop22 : ∀ (N : Nat) (h1 : sg_H) (p s : Int), (ck_X h1 B) → (ck_G B a2 h14 h1) → (0 ≤ p ∧ p ≤ (L.length : Int)) → (cf_l h1 a2 = fa_tl fn_turn L p) → (s = fs_hf L p.toNat) → ((L.length : Int) - p).toNat < N → sg_R w mi_X5_flip d 8 48 Q 22 [(4, sg_i p), (3, sg_i s), (0, sg_r B), (2, sg_r a2)] [] h1 1 6 := by
    intro N
    induction N with
    | zero => intro h1 p s x1 G1 p0 l1 s1 hm; exact absurd hm (Nat.not_lt_zero _)
    | succ N ih =>
      intro h1 p s x1 G1 p0 l1 s1 hm
      have y1 : ck_Y h h1 B := ⟨x1, ck_Ft F14 G1.1⟩
      have bz := fs_hfb (L := L) (n := p.toNat)
      rw [← s1] at bz
      refine sg_iload (pc := 22) (dc_X5_flip_0.2.2.1.2) rfl ?_
      refine sg_aload_n (pc := 24) (j := 2) (dc_X5_flip_0.2.2.2.1) rfl rfl ?_
      refine sg_cE0 (pc := 25) (d' := d - 1) (mc' := 0) (ms' := 0) 3 g (dc_X5_flip_0.2.2.2.2) cb_X0_size ml_X5_63 mn_X0_size rfl mv_X0_size (Nat.le_of_ble_eq_true rfl) (ck_lc (by assumption) (by first | assumption | exact ck_rev)) (Nat.le_of_ble_eq_true rfl) (by first | exact jl_d0 hd rfl | omega) (by first | exact Nat.le_of_ble_eq_true rfl | omega) (by first | exact Nat.le_of_ble_eq_true rfl | omega) ?_
      refine f_X0_size g (by first | exact jl_d1 hd rfl | omega) (by assumption) L2 (fun z25 e25 l025 u25 => sg_K1 ?_)
      rw [l1] at e25
      try rw [fa_tlen] at e25
      refine sg_icmp_ge (pc := 28) (tgt := 67) (dc_X5_flip_28.1.1.1.1) (by decide) (fun c28 => ?_) (fun c28 => ?_)
      · refine sg_iload_n (pc := 67) (j := 3) (dc_X5_flip_67.1) rfl rfl ?_
        refine sg_iret (pc := 68) (dc_X5_flip_67.2) rfl (by first | exact Nat.le_of_ble_eq_true rfl | omega) (by first | exact Nat.le_of_ble_eq_true rfl | omega) ?_
        exact hQ (by omega) _ _ (by rw [s1, show p.toNat = L.length by omega]) (cf_put (i := (4 + trk.toNat)) hx fr14 ho14 P14 x1 G1 (by omega) (by omega) (by rw [l1, fa_tn (by omega)])) (ck_Ft F14 G1.1)
      · refine sg_aload_n (pc := 31) (j := 2) (dc_X5_flip_28.1.1.1.2) rfl rfl ?_
        refine sg_iload (pc := 32) (dc_X5_flip_28.1.1.2.1) rfl ?_
        refine sg_cE1 (pc := 34) (d' := d - 1) (mc' := 0) (ms' := 0) 3 g (dc_X5_flip_28.1.1.2.2) cb_X0_get ml_X5_75 mn_X0_get rfl mv_X0_get (Nat.le_of_ble_eq_true rfl) (ck_lc (by assumption) (by first | assumption | exact ck_rev)) (Nat.le_of_ble_eq_true rfl) (by first | exact jl_d0 hd rfl | omega) (by first | exact Nat.le_of_ble_eq_true rfl | omega) (by first | exact Nat.le_of_ble_eq_true rfl | omega) ?_
        refine f_X0_get g (by first | exact jl_d1 hd rfl | omega) (by assumption) L2 (fun z34 e34 v34 => sg_K1 ?_)
        rw [l1] at e34
        rw [l1] at v34
        try rw [fa_tg (by omega) (by omega)] at e34
        have u34 := r42.2 _ (gd_mem (L := L) (j := p.toNat) (d := 0) (by omega))
        subst e34
        refine sg_cS1 (pc := 37) (d' := d - 1) (mc' := 0) (ms' := 0) g (dc_X5_flip_28.1.2.1.1) cb_X4_turned ml_X5_170 ms_X4_turned (Nat.le_of_ble_eq_true rfl) (by first | exact jl_d0 hd rfl | omega) (by first | exact Nat.le_of_ble_eq_true rfl | omega) (by first | exact Nat.le_of_ble_eq_true rfl | omega) ?_
        refine s_X4_turned g (by first | exact jl_d1 hd rfl | omega) (fun z37 h37 => sg_K1 ?_)
        have et : z37 = fn_turn (L.getD p.toNat 0) := h37 (by omega)
        have q37 : 0 ≤ z37 ∧ z37 ≤ 65535 := by rw [et]; unfold fn_turn; omega
        have hv47 : ck_v 1 z37 := ck_v1.mpr q37
        refine sg_istore (pc := 40) (dc_X5_flip_28.1.2.1.2) (by decide) ?_
        refine sg_aload_n (pc := 42) (j := 2) (dc_X5_flip_28.1.2.2.1) rfl rfl ?_
        refine sg_iload (pc := 43) (dc_X5_flip_28.1.2.2.2) rfl ?_
        refine sg_iload (pc := 45) (dc_X5_flip_28.2.1.1.1) rfl ?_
        refine sg_cE2 (pc := 47) (d' := d - 1) (mc' := 0) (ms' := 0) 3 g (dc_X5_flip_28.2.1.1.2) cb_X0_set ml_X5_86 mn_X0_set rfl mv_X0_set (Nat.le_of_ble_eq_true rfl) (ck_lc (by assumption) (by first | assumption | exact ck_rev)) (Nat.le_of_ble_eq_true rfl) (by first | exact jl_d0 hd rfl | omega) (by first | exact Nat.le_of_ble_eq_true rfl | omega) (by first | exact Nat.le_of_ble_eq_true rfl | omega) ?_
        refine f_X0_set g (by first | exact jl_d1 hd rfl | omega) (by assumption) L2 (by first | exact ck_v0 | assumption | (simp only [ck_v1, ck_v2] at * <;> omega)) (by omega) (by rw [l1]; first | omega | (rw [fa_tlen]; omega) | (rw [fs_svl (by omega)]; omega)) (fun h47 x47 f47 n47 w47 => sg_K0 ?_)
        have l47 := cf_ls n47 w47
        rw [l1] at l47
        have y47 := ck_Yt (h0 := h) (by assumption) x47 f47.1
        refine sg_iload (pc := 50) (dc_X5_flip_28.2.1.2.1) rfl ?_
        refine sg_cS1 (pc := 52) (d' := d - 1) (mc' := 0) (ms' := 0) g (dc_X5_flip_28.2.1.2.2) cb_X4_isHalf ml_X5_173 ms_X4_isHalf (Nat.le_of_ble_eq_true rfl) (by first | exact jl_d0 hd rfl | omega) (by first | exact Nat.le_of_ble_eq_true rfl | omega) (by first | exact Nat.le_of_ble_eq_true rfl | omega) ?_
        refine s_X4_isHalf g (by first | exact jl_d1 hd rfl | omega) (fun z52 h52 b52 => sg_K1 ?_)
        refine sg_if_eq (pc := 55) (tgt := 61) (dc_X5_flip_28.2.2.1.1) (by decide) (fun c55 => ?_) (fun c55 => ?_)
        · have bk1 := fa_ts (F := fn_turn) (L := L) (p := p) (by omega) (by omega)
          rw [← et] at bk1
          have bk2 : s = fs_hf L (p + 1).toNat := by unfold fs_hf; rw [fz_s (by omega), ← et, ← h52]; unfold fs_hf at s1; omega
          first | refine sg_iincB (pc := 61) (dc_X5_flip_28.2.2.2.1) rfl (by decide) (by decide) (by omega) (by omega) ?_ | refine sg_iinc (pc := 61) (dc_X5_flip_28.2.2.2.1) rfl (by decide) (by decide) ?_
          refine sg_goto (pc := 64) (tgt := 22) (dc_X5_flip_28.2.2.2.2) (by decide) ?_
          refine sg_lsub (lv' := [(4, _), (3, _), (0, _), (2, _)]) ⟨rfl, rfl, rfl, rfl, trivial⟩ ?_
          exact ih _ _ _ x47 (ck_Gt G1 f47) (by omega) (by rw [l47]; exact bk1) bk2 (by first | exact jl_m1 hm (by omega) | exact jl_m2 hm (by omega) | omega)
        · first | refine sg_iincB (pc := 58) (dc_X5_flip_28.2.2.1.2) rfl (by decide) (by decide) (by omega) (by omega) ?_ | refine sg_iinc (pc := 58) (dc_X5_flip_28.2.2.1.2) rfl (by decide) (by decide) ?_
          have bk1 := fa_ts (F := fn_turn) (L := L) (p := p) (by omega) (by omega)
          rw [← et] at bk1
          have bk2 : s + 1 = fs_hf L (p + 1).toNat := by unfold fs_hf; rw [fz_s (by omega), ← et, ← h52]; unfold fs_hf at s1; omega
          first | refine sg_iincB (pc := 61) (dc_X5_flip_28.2.2.2.1) rfl (by decide) (by decide) (by omega) (by omega) ?_ | refine sg_iinc (pc := 61) (dc_X5_flip_28.2.2.2.1) rfl (by decide) (by decide) ?_
          refine sg_goto (pc := 64) (tgt := 22) (dc_X5_flip_28.2.2.2.2) (by decide) ?_
          refine sg_lsub (lv' := [(4, _), (3, _), (0, _), (2, _)]) ⟨rfl, rfl, rfl, rfl, trivial⟩ ?_
          exact ih _ _ _ x47 (ck_Gt G1 f47) (by omega) (by rw [l47]; exact bk1) bk2 (by first | exact jl_m1 hm (by omega) | exact jl_m2 hm (by omega) | omega)
  refine sg_lsub (lv' := [(4, _), (3, _), (0, _), (2, _)]) ⟨rfl, rfl, rfl, rfl, trivial⟩ ?_
  exact loop22 _ _ _ _ x14 ck_G0 (by omega) (q14a2.trans fa_t0) rfl (Nat.lt_succ_self _)

set_option maxRecDepth 100000 in
theorem f_X5_send {w : sg_W} {Q : sg_O → sg_H → Prop} {h : sg_H} (g : sg_G w) {d : Nat} (hd : 14 ≤ d) {B : Nat} {A : fa_A} (hx : cf_X h B A) (ok : fa_ok A) {trk code : Int} {L : List Int} (hL : fa_L A (4 + trk.toNat) = L) (hQ : ¬ (trk < 0 ∨ 2 ≤ trk) → ¬ (code < 0 ∨ 1114111 < code) → ∀ (v : Int) (h' : sg_H), ((24 < L.length + (fs_sent code).length ∧ v = -9 ∧ cf_X h' B A) ∨ (L.length + (fs_sent code).length ≤ 24 ∧ v = (L.length : Int) + ((fs_sent code).length : Int) ∧ cf_X h' B (fa_put A (4 + trk.toNat) (L ++ fs_sent code)))) → ck_F B h h' → Q (.inl (some (sg_i v))) h') (hXI : (trk < 0 ∨ 2 ≤ trk) → ∀ z, h.1 ≤ z → Q (.inr e_I) (z, h.2)) (hXA : ¬ (trk < 0 ∨ 2 ≤ trk) → (code < 0 ∨ 1114111 < code) → ∀ z, h.1 ≤ z → Q (.inr e_A) (z, h.2)) : sg_C w mi_X5_send d 8 48 [sg_r B, sg_i trk, sg_i code] h Q := by
  refine sg_of pn_X5 (Nat.le_of_ble_eq_true rfl) ?_
  obtain ⟨x0, ho, hS, hP, hK⟩ := id hx
  have y0 := ck_Y0 x0
  have hc24 : ck_cap 1 = 24 := rfl
  have sl := fs_sl (c := code)
  refine sg_aload_n (pc := 0) (j := 0) (dc_X5_send_0.1.1.1.1) rfl rfl ?_
  refine sg_iload_n (pc := 1) (j := 1) (dc_X5_send_0.1.1.1.2) rfl rfl ?_
  refine sg_cE1 (pc := 2) (d' := d - 1) (mc' := 1) (ms' := 6) 6 g (dc_X5_send_0.1.1.2.1) cb_X5_trackOf ml_X5_151 mn_X5_trackOf rfl mv_X5_trackOf (Nat.le_of_ble_eq_true rfl) (ck_oc (by assumption)) (Nat.le_of_ble_eq_true rfl) (by first | exact jl_d0 hd rfl | omega) (by first | exact Nat.le_of_ble_eq_true rfl | omega) (by first | exact Nat.le_of_ble_eq_true rfl | omega) ?_
  refine f_X5_trackOf g (by first | exact jl_d1 hd rfl | omega) (by assumption) (fun l2 r2 L2 => sg_K1 ?_) (fun t2 z2 w2 => sg_KX (by first | exact Nat.le_of_ble_eq_true rfl | omega) (by first | exact Nat.le_of_ble_eq_true rfl | omega) (hXI (by omega) z2 w2))
  obtain ⟨a2, ea2⟩ : ∃ a, a = B + 1 + 3 + 2 * (4 + trk.toNat) := ⟨_, rfl⟩
  rw [← ea2] at L2 ⊢
  have k2 : cf_l h a2 = L := by rw [ea2, cf_rl hx (by omega)]; exact hL
  have r42 := fa_trk ok (i := (4 + trk.toNat)) (by omega) (by omega)
  rw [hL] at r42
  refine sg_astore_n (pc := 5) (j := 3) (dc_X5_send_0.1.1.2.2) rfl (by decide) ?_
  refine sg_iload_n (pc := 6) (j := 2) (dc_X5_send_0.1.2.1.1) rfl rfl ?_
  refine sg_cS1 (pc := 7) (d' := d - 1) (mc' := 0) (ms' := 0) g (dc_X5_send_0.1.2.1.2) cb_X4_isAnyCode ml_X5_154 ms_X4_isAnyCode (Nat.le_of_ble_eq_true rfl) (by first | exact jl_d0 hd rfl | omega) (by first | exact Nat.le_of_ble_eq_true rfl | omega) (by first | exact Nat.le_of_ble_eq_true rfl | omega) ?_
  refine s_X4_isAnyCode g (by first | exact jl_d1 hd rfl | omega) (fun z7 h7 b7 => sg_K1 ?_)
  (try simp only [fn_code, fn_units] at h7)
  refine sg_if_ne (pc := 10) (tgt := 23) (dc_X5_send_0.1.2.2.1) (by decide) (fun c10 => ?_) (fun c10 => ?_)
  · refine sg_aload_n (pc := 23) (j := 3) (dc_X5_send_0.2.2.1.1) rfl rfl ?_
    refine sg_iload_n (pc := 24) (j := 2) (dc_X5_send_0.2.2.1.2) rfl rfl ?_
    refine sg_cS1 (pc := 25) (d' := d - 1) (mc' := 0) (ms' := 0) g (dc_X5_send_0.2.2.2.1) cb_X4_unitsOf ml_X5_161 ms_X4_unitsOf (Nat.le_of_ble_eq_true rfl) (by first | exact jl_d0 hd rfl | omega) (by first | exact Nat.le_of_ble_eq_true rfl | omega) (by first | exact Nat.le_of_ble_eq_true rfl | omega) ?_
    refine s_X4_unitsOf g (by first | exact jl_d1 hd rfl | omega) (fun z25 h25 => sg_K1 ?_)
    (try simp only [fn_code, fn_units] at h25)
    refine sg_cE1 (pc := 28) (d' := d - 1) (mc' := 0) (ms' := 0) 3 g (dc_X5_send_0.2.2.2.2) cb_X0_hasRoomFor ml_X5_44 mn_X0_hasRoomFor rfl mv_X0_hasRoomFor (Nat.le_of_ble_eq_true rfl) (ck_lc (by assumption) (by first | assumption | exact ck_rev)) (Nat.le_of_ble_eq_true rfl) (by first | exact jl_d0 hd rfl | omega) (by first | exact Nat.le_of_ble_eq_true rfl | omega) (by first | exact Nat.le_of_ble_eq_true rfl | omega) ?_
    refine f_X0_hasRoomFor g (by first | exact jl_d1 hd rfl | omega) (by assumption) L2 (by omega) (fun z28 b28 i28 j28 => sg_K1 ?_)
    rw [k2] at i28 j28
    refine sg_if_ne (pc := 31) (tgt := 37) (dc_X5_send_31.1.1.1.1) (by decide) (fun c31 => ?_) (fun c31 => ?_)
    · refine sg_aload_n (pc := 37) (j := 0) (dc_X5_send_31.1.1.2.2) rfl rfl ?_
      refine ck_gob (pc := 38) g (dc_X5_send_31.1.2.1.1) fk_X5_19 (by assumption) (fun _ => rfl) ?_
      refine sg_aload_n (pc := 41) (j := 0) (dc_X5_send_31.1.2.1.2) rfl rfl ?_
      refine ck_gob (pc := 42) g (dc_X5_send_31.1.2.2.1) fk_X5_10 (by assumption) (fun _ => rfl) ?_
      refine sg_cE1 (pc := 45) (d' := d - 1) (mc' := 0) (ms' := 0) 4 g (dc_X5_send_31.1.2.2.2) cb_X1_keep ml_X5_55 mn_X1_keep rfl mv_X1_keep (Nat.le_of_ble_eq_true rfl) (ck_pc (by assumption)) (Nat.le_of_ble_eq_true rfl) (by first | exact jl_d0 hd rfl | omega) (by first | exact Nat.le_of_ble_eq_true rfl | omega) (by first | exact Nat.le_of_ble_eq_true rfl | omega) ?_
      refine f_X1_keep g (by first | exact jl_d1 hd rfl | omega) x0 ho (fun h45 x45 F45 fr45 ho45 P45 => sg_K0 ?_)
      have y45 : ck_Y h h45 B := ⟨x45, F45⟩
      have q45a2 : cf_l h45 a2 = cf_l h a2 := cf_lq (fr45 _ (by omega)) (fr45 _ (by omega))
      rw [k2] at q45a2
      refine sg_aload_n (pc := 48) (j := 3) (dc_X5_send_31.2.1.1.1) rfl rfl ?_
      refine sg_iload_n (pc := 49) (j := 2) (dc_X5_send_31.2.1.1.2) rfl rfl ?_
      refine sg_cS2 (pc := 50) (d' := d - 1) (mc' := 0) (ms' := 0) g (dc_X5_send_31.2.1.2.1) cb_X4_addCode ml_X5_164 ms_X4_addCode (Nat.le_of_ble_eq_true rfl) (by first | exact jl_d0 hd rfl | omega) (by first | exact Nat.le_of_ble_eq_true rfl | omega) (by first | exact Nat.le_of_ble_eq_true rfl | omega) ?_
      refine f_X4_addCode g (by first | exact jl_d1 hd rfl | omega) (by assumption) L2 q45a2 (by omega) (by omega) (fun h50 x50 f50 l50 => sg_K0 ?_)
      have y50 := ck_Yt (h0 := h) (by assumption) x50 f50.1
      refine sg_aload_n (pc := 53) (j := 3) (dc_X5_send_31.2.1.2.2) rfl rfl ?_
      refine sg_cE0 (pc := 54) (d' := d - 1) (mc' := 0) (ms' := 0) 3 g (dc_X5_send_31.2.2.1.1) cb_X0_size ml_X5_63 mn_X0_size rfl mv_X0_size (Nat.le_of_ble_eq_true rfl) (ck_lc (by assumption) (by first | assumption | exact ck_rev)) (Nat.le_of_ble_eq_true rfl) (by first | exact jl_d0 hd rfl | omega) (by first | exact Nat.le_of_ble_eq_true rfl | omega) (by first | exact Nat.le_of_ble_eq_true rfl | omega) ?_
      refine f_X0_size g (by first | exact jl_d1 hd rfl | omega) (by assumption) L2 (fun z54 e54 l054 u54 => sg_K1 ?_)
      rw [l50] at e54
      try rw [fa_tlen] at e54
      refine sg_iret (pc := 57) (dc_X5_send_31.2.2.1.2) rfl (by first | exact Nat.le_of_ble_eq_true rfl | omega) (by first | exact Nat.le_of_ble_eq_true rfl | omega) ?_
      first
        | (exact hQ (by omega) (by omega) _ _ (Or.inl ⟨by omega, rfl, hx⟩) ck_F0)
        | (exact hQ (by omega) (by omega) _ _ (Or.inr ⟨by omega, by rw [List.length_append] at e54; omega, cf_put (i := 4 + trk.toNat) hx fr45 ho45 P45 x50 f50 (by omega) (by omega) l50⟩) (ck_Ft F45 f50.1))
    · refine sg_bipush (pc := 34) (z := -9) (dc_X5_send_31.1.1.1.2) (by decide) ?_
      refine sg_iret (pc := 36) (dc_X5_send_31.1.1.2.1) rfl (by first | exact Nat.le_of_ble_eq_true rfl | omega) (by first | exact Nat.le_of_ble_eq_true rfl | omega) ?_
      first
        | (exact hQ (by omega) (by omega) _ _ (Or.inl ⟨by omega, rfl, hx⟩) ck_F0)
        | (exact hQ (by omega) (by omega) _ _ (Or.inr ⟨by omega, by rw [List.length_append] at e54; omega, cf_put (i := 4 + trk.toNat) hx fr45 ho45 P45 x50 f50 (by omega) (by omega) l50⟩) (ck_Ft F45 f50.1))
  · refine sg_throw (pc := 13) g th_X5_110_159 (dc_X5_send_0.1.2.2.2) (dc_X5_send_0.2.1.1.1) (dc_X5_send_0.2.1.1.2) (dc_X5_send_0.2.1.2.1) (dc_X5_send_0.2.1.2.2) (by first | exact Nat.le_trans (Nat.le_of_ble_eq_true rfl) hd | omega) (Nat.le_of_ble_eq_true rfl) (by first | exact Nat.le_of_ble_eq_true rfl | omega) (by first | exact Nat.le_of_ble_eq_true rfl | omega) ?_
    exact fun z hz => hXA (by omega) (by omega) z hz

theorem fm_rs {M : List Int} {p : Int} (p0 : 0 ≤ p) (p1 : p < (M.length : Int)) : (M.drop (p.toNat + 1)).reverse.flatMap fs_sent ++ fs_sent (M.getD p.toNat 0) = (M.drop (p + -1 + 1).toNat).reverse.flatMap fs_sent := by
  rw [show (p + -1 + 1).toNat = p.toNat by omega, List.drop_eq_getElem_cons (i := p.toNat) (by omega), List.reverse_cons, List.flatMap_append, gd_in (by omega), List.flatMap_cons, List.flatMap_nil, List.append_nil]
theorem fm_rm {L : List Int} (hu : ∀ z ∈ L, 0 ≤ z ∧ z ≤ 65535) {k : Nat} (hk : k < (fs_codes L).length) : (((fs_codes L).drop (k + 1)).reverse.flatMap fs_sent).length + (fs_sent ((fs_codes L).getD k 0)).length ≤ L.length := by
  have h := fm_dl (f := fs_sent) (L := fs_codes L) (k := k)
  rw [fs_cul hu, List.drop_eq_getElem_cons hk, List.flatMap_cons, List.length_append] at h
  rw [fm_rl, gd_in hk]
  omega
/-- the same, where the list of CODES has changed between -/
theorem cf_pur {h h1 h2 h3 : sg_H} {B a a9 i : Nat} {A : fa_A} {L : List Int} (hx : cf_X h B A) (fr : ∀ q, (q < B + 16 ∨ B + 108 ≤ q) → h1.2 q = h.2 q) (ho1 : cf_ho h1 B) (P1 : cf_p h1 B = (cf_s h (B + 1) :: cf_p h B).take 6) (G2 : ck_G B a9 h1 h2) (e9 : a9 = B + 108) (x3 : ck_X h3 B) (G : ck_G B a h2 h3) (ea : B + 1 + 3 + 2 * i = a) (hi : i < 6) (e : cf_l h3 a = L) : cf_X h3 B (fa_put A i L) := by
  have f2 : ∀ q, q < B + 108 → h2.2 q = h1.2 q := fun q hq => G2.2 q (by omega) (by omega)
  obtain ⟨q1, q2⟩ := cf_hq (h1 := h2) ho1 (fun q _ hq => f2 q hq)
  obtain ⟨x, ho, s, p, k⟩ := hx
  have f3 : ∀ q, q ≠ a → q ≠ a + 1 → h3.2 q = h2.2 q := fun q q1 q2 => G.2 q q1 q2
  obtain ⟨r1, r2⟩ := cf_hq (h1 := h3) q1 (fun q _ _ => f3 q (by omega) (by omega))
  refine ⟨x3, r1, ?_, ?_, ?_⟩
  · rw [cf_st f3 ea hi, e, cf_sq (h := h1) (fun q _ _ => f2 q (by omega)), cf_sq (h := h) (fun q _ _ => fr q (by omega)), s]
    rfl
  · rw [r2, q2, P1, s, p]
    rfl
  · rw [cf_kq (f3 B (by omega) (by omega)), cf_kq (f2 B (by omega)), cf_kq (fr B (by omega)), k]
    rfl

set_option maxRecDepth 100000 in
theorem f_X5_reverse {w : sg_W} {Q : sg_O → sg_H → Prop} {h : sg_H} (g : sg_G w) {d : Nat} (hd : 14 ≤ d) {B : Nat} {A : fa_A} (hx : cf_X h B A) (ok : fa_ok A) {trk : Int} {L : List Int} (hL : fa_L A (4 + trk.toNat) = L) (hQ : ¬ (trk < 0 ∨ 2 ≤ trk) → ∀ (v : Int) (h' : sg_H), v = ((fs_codes ((fs_codes L).reverse.flatMap fs_sent)).length : Int) → cf_X h' B (fa_put A (4 + trk.toNat) ((fs_codes L).reverse.flatMap fs_sent)) → ck_F B h h' → Q (.inl (some (sg_i v))) h') (hXI : (trk < 0 ∨ 2 ≤ trk) → ∀ z, h.1 ≤ z → Q (.inr e_I) (z, h.2)) : sg_C w mi_X5_reverse d 8 48 [sg_r B, sg_i trk] h Q := by
  refine sg_of pn_X5 (Nat.le_of_ble_eq_true rfl) ?_
  obtain ⟨x0, ho, hS, hP, hK⟩ := id hx
  have y0 := ck_Y0 x0
  refine sg_aload_n (pc := 0) (j := 0) (dc_X5_reverse_0.1.1.1.1) rfl rfl ?_
  refine sg_iload_n (pc := 1) (j := 1) (dc_X5_reverse_0.1.1.1.2) rfl rfl ?_
  refine sg_cE1 (pc := 2) (d' := d - 1) (mc' := 1) (ms' := 6) 6 g (dc_X5_reverse_0.1.1.2.1) cb_X5_trackOf ml_X5_151 mn_X5_trackOf rfl mv_X5_trackOf (Nat.le_of_ble_eq_true rfl) (ck_oc (by assumption)) (Nat.le_of_ble_eq_true rfl) (by first | exact jl_d0 hd rfl | omega) (by first | exact Nat.le_of_ble_eq_true rfl | omega) (by first | exact Nat.le_of_ble_eq_true rfl | omega) ?_
  refine f_X5_trackOf g (by first | exact jl_d1 hd rfl | omega) (by assumption) (fun l2 r2 L2 => sg_K1 ?_) (fun t2 z2 w2 => sg_KX (by first | exact Nat.le_of_ble_eq_true rfl | omega) (by first | exact Nat.le_of_ble_eq_true rfl | omega) (hXI (by omega) z2 w2))
  obtain ⟨a2, ea2⟩ : ∃ a, a = B + 1 + 3 + 2 * (4 + trk.toNat) := ⟨_, rfl⟩
  rw [← ea2] at L2 ⊢
  have k2 : cf_l h a2 = L := by rw [ea2, cf_rl hx (by omega)]; exact hL
  have r42 := fa_trk ok (i := (4 + trk.toNat)) (by omega) (by omega)
  rw [hL] at r42
  refine sg_astore_n (pc := 5) (j := 2) (dc_X5_reverse_0.1.1.2.2) rfl (by decide) ?_
  refine sg_aload_n (pc := 6) (j := 0) (dc_X5_reverse_0.1.2.1.1) rfl rfl ?_
  refine ck_gob (pc := 7) g (dc_X5_reverse_0.1.2.1.2) fk_X5_19 (by assumption) (fun _ => rfl) ?_
  refine sg_aload_n (pc := 10) (j := 0) (dc_X5_reverse_0.1.2.2.1) rfl rfl ?_
  refine ck_gob (pc := 11) g (dc_X5_reverse_0.1.2.2.2) fk_X5_10 (by assumption) (fun _ => rfl) ?_
  refine sg_cE1 (pc := 14) (d' := d - 1) (mc' := 0) (ms' := 0) 4 g (dc_X5_reverse_0.2.1.1.1) cb_X1_keep ml_X5_55 mn_X1_keep rfl mv_X1_keep (Nat.le_of_ble_eq_true rfl) (ck_pc (by assumption)) (Nat.le_of_ble_eq_true rfl) (by first | exact jl_d0 hd rfl | omega) (by first | exact Nat.le_of_ble_eq_true rfl | omega) (by first | exact Nat.le_of_ble_eq_true rfl | omega) ?_
  refine f_X1_keep g (by first | exact jl_d1 hd rfl | omega) x0 ho (fun h14 x14 F14 fr14 ho14 P14 => sg_K0 ?_)
  have y14 : ck_Y h h14 B := ⟨x14, F14⟩
  have q14a2 : cf_l h14 a2 = cf_l h a2 := cf_lq (fr14 _ (by omega)) (fr14 _ (by omega))
  rw [k2] at q14a2
  refine sg_aload_n (pc := 17) (j := 2) (dc_X5_reverse_0.2.1.1.2) rfl rfl ?_
  refine sg_aload_n (pc := 18) (j := 0) (dc_X5_reverse_0.2.1.2.1) rfl rfl ?_
  refine ck_gob (pc := 19) g (dc_X5_reverse_0.2.1.2.2) fk_X5_28 (by assumption) (fun _ => rfl) ?_
  refine sg_cS2 (pc := 22) (d' := d - 1) (mc' := 0) (ms' := 0) g (dc_X5_reverse_0.2.2.1.1) cb_X4_listCodes ml_X5_176 ms_X4_listCodes (Nat.le_of_ble_eq_true rfl) (by first | exact jl_d0 hd rfl | omega) (by first | exact Nat.le_of_ble_eq_true rfl | omega) (by first | exact Nat.le_of_ble_eq_true rfl | omega) ?_
  obtain ⟨a9, ea9⟩ : ∃ a, a = B + 108 := ⟨_, rfl⟩
  rw [← ea9]
  have L9 : ck_L B a9 2 := by rw [ea9]; exact ck_rev
  refine f_X4_listCodes g (by first | exact jl_d1 hd rfl | omega) (by assumption) L2 q14a2 r42.2 L9 (by unfold cf_ap; omega) rfl (fun h22 x22 f22 l22 => sg_K0 ?_)
  have y22 := ck_Yt (h0 := h) (by assumption) x22 f22.1
  have m22 : cf_l h22 a2 = L := (cf_fr f22 (by unfold cf_ap; omega)).1.trans q14a2
  refine sg_aload_n (pc := 25) (j := 2) (dc_X5_reverse_0.2.2.1.2) rfl rfl ?_
  refine sg_cE0 (pc := 26) (d' := d - 1) (mc' := 0) (ms' := 0) 3 g (dc_X5_reverse_0.2.2.2.1) cb_X0_clear ml_X5_135 mn_X0_clear rfl mv_X0_clear (Nat.le_of_ble_eq_true rfl) (ck_lc (by assumption) (by first | assumption | exact ck_rev)) (Nat.le_of_ble_eq_true rfl) (by first | exact jl_d0 hd rfl | omega) (by first | exact Nat.le_of_ble_eq_true rfl | omega) (by first | exact Nat.le_of_ble_eq_true rfl | omega) ?_
  refine f_X0_clear g (by first | exact jl_d1 hd rfl | omega) (by assumption) L2 (fun h26 x26 f26 n26 w26 l26 => sg_K0 ?_)
  have y26 := ck_Yt (h0 := h) (by assumption) x26 f26.1
  have c24 : (fs_codes L).length ≤ L.length := fs_csl
  have n26x : cf_l h26 a9 = fs_codes L := ((cf_fr f26 (by unfold cf_ap; omega)).1).trans l22
  refine sg_aload_n (pc := 29) (j := 0) (dc_X5_reverse_0.2.2.2.2) rfl rfl ?_
  refine ck_gob (pc := 30) g (dc_X5_reverse_30.1.1.1.1) fk_X5_28 (by assumption) (fun _ => rfl) ?_
  rw [← ea9]
  refine sg_cE0 (pc := 33) (d' := d - 1) (mc' := 0) (ms' := 0) 3 g (dc_X5_reverse_30.1.1.1.2) cb_X0_size ml_X5_63 mn_X0_size rfl mv_X0_size (Nat.le_of_ble_eq_true rfl) (ck_lc (by assumption) (by first | assumption | exact ck_rev)) (Nat.le_of_ble_eq_true rfl) (by first | exact jl_d0 hd rfl | omega) (by first | exact Nat.le_of_ble_eq_true rfl | omega) (by first | exact Nat.le_of_ble_eq_true rfl | omega) ?_
  refine f_X0_size g (by first | exact jl_d1 hd rfl | omega) (by assumption) L9 (fun z33 e33 l033 u33 => sg_K1 ?_)
  rw [n26x] at e33
  try rw [fa_tlen] at e33
  refine sg_iconst (pc := 36) (z := 1) (dc_X5_reverse_30.1.1.2.1) (by decide) ?_
  first | refine sg_isubB (pc := 37) (dc_X5_reverse_30.1.1.2.2) (by omega) (by omega) ?_ | refine sg_isub (pc := 37) (dc_X5_reverse_30.1.1.2.2) ?_
  refine sg_istore_n (pc := 38) (j := 3) (dc_X5_reverse_30.1.2.1.1) rfl (by decide) ?_
  have loop39 : ∀ (N : Nat) (h1 : sg_H) (p : Int), (ck_X h1 B) → (ck_G B a2 h22 h1) → (-1 ≤ p ∧ p < ((fs_codes L).length : Int)) → (cf_l h1 a2 = ((fs_codes L).drop (p + 1).toNat).reverse.flatMap fs_sent) → (p + 1).toNat < N → sg_R w mi_X5_reverse d 8 48 Q 39 [(3, sg_i p), (0, sg_r B), (2, sg_r a2)] [] h1 1 6 := by
    intro N
    induction N with
    | zero => intro h1 p x1 G1 p0 l1 hm; exact absurd hm (Nat.not_lt_zero _)
    | succ N ih =>
      intro h1 p x1 G1 p0 l1 hm
      have y1 : ck_Y h h1 B := ⟨x1, ck_Ft F14 (ck_Ft f22.1 G1.1)⟩
      have n1 : cf_l h1 a9 = fs_codes L := ((cf_fr G1 (by unfold cf_ap; omega)).1).trans l22
      refine sg_iload_n (pc := 39) (j := 3) (dc_X5_reverse_30.1.2.1.2) rfl rfl ?_
      refine sg_if_lt (pc := 40) (tgt := 61) (dc_X5_reverse_30.1.2.2.1) (by decide) (fun c40 => ?_) (fun c40 => ?_)
      · refine sg_aload_n (pc := 61) (j := 2) (dc_X5_reverse_30.2.2.2.2) rfl rfl ?_
        have hul : ∀ z ∈ ((fs_codes L).drop (p + 1).toNat).reverse.flatMap fs_sent, 0 ≤ z ∧ z ≤ 65535 := fun z hz => by
          obtain ⟨q, hq, hz⟩ := List.mem_flatMap.mp hz
          have := fs_csr r42.2 (Nat.le_refl _) q (List.mem_of_mem_drop (List.mem_reverse.mp hq))
          exact fs_sr this.1 this.2 z hz
        refine sg_iconst (pc := 62) (z := 1) (dc_X5_reverse_62.1.1) (by decide) ?_
        refine sg_cS2 (pc := 63) (d' := d - 1) (mc' := 0) (ms' := 0) g (dc_X5_reverse_62.1.2) cb_X4_howMany ml_X5_180 ms_X4_howMany (Nat.le_of_ble_eq_true rfl) (by first | exact jl_d0 hd rfl | omega) (by first | exact Nat.le_of_ble_eq_true rfl | omega) (by first | exact Nat.le_of_ble_eq_true rfl | omega) ?_
        refine f_X4_howMany g (by first | exact jl_d1 hd rfl | omega) (by assumption) L2 l1 hul (fun z63 e63 => sg_K1 ?_)
        refine sg_iret (pc := 66) (dc_X5_reverse_62.2.1) rfl (by first | exact Nat.le_of_ble_eq_true rfl | omega) (by first | exact Nat.le_of_ble_eq_true rfl | omega) ?_
        exact hQ (by omega) _ _ (by rw [e63, show (p + 1).toNat = 0 by omega]; unfold fs_how; rw [if_neg (by decide), fs_hc]; rfl) (cf_pur (i := 4 + trk.toNat) hx fr14 ho14 P14 f22 ea9 x1 G1 (by omega) (by omega) (by rw [l1, show (p + 1).toNat = 0 by omega]; rfl)) (ck_Ft F14 (ck_Ft f22.1 G1.1))
      · refine sg_aload_n (pc := 43) (j := 2) (dc_X5_reverse_30.1.2.2.2) rfl rfl ?_
        refine sg_aload_n (pc := 44) (j := 0) (dc_X5_reverse_30.2.1.1.1) rfl rfl ?_
        refine ck_gob (pc := 45) g (dc_X5_reverse_30.2.1.1.2) fk_X5_28 (by assumption) (fun _ => rfl) ?_
        rw [← ea9]
        refine sg_iload_n (pc := 48) (j := 3) (dc_X5_reverse_30.2.1.2.1) rfl rfl ?_
        refine sg_cE1 (pc := 49) (d' := d - 1) (mc' := 0) (ms' := 0) 3 g (dc_X5_reverse_30.2.1.2.2) cb_X0_get ml_X5_75 mn_X0_get rfl mv_X0_get (Nat.le_of_ble_eq_true rfl) (ck_lc (by assumption) (by first | assumption | exact ck_rev)) (Nat.le_of_ble_eq_true rfl) (by first | exact jl_d0 hd rfl | omega) (by first | exact Nat.le_of_ble_eq_true rfl | omega) (by first | exact Nat.le_of_ble_eq_true rfl | omega) ?_
        refine f_X0_get g (by first | exact jl_d1 hd rfl | omega) (by assumption) L9 (fun z49 e49 v49 => sg_K1 ?_)
        rw [n1] at e49
        rw [n1] at v49
        try rw [fa_tg (by omega) (by omega)] at e49
        rw [gg_in (by omega) (by omega)] at e49
        have q49 := fs_csr r42.2 (Nat.le_refl _) _ (gd_mem (L := fs_codes L) (j := p.toNat) (d := 0) (by omega))
        subst e49
        have rm := fm_rm (L := L) r42.2 (k := p.toNat) (by omega)
        have lsv := l1
        rw [show (p + 1).toNat = p.toNat + 1 by omega] at lsv
        refine sg_cS2 (pc := 52) (d' := d - 1) (mc' := 0) (ms' := 0) g (dc_X5_reverse_30.2.2.1.1) cb_X4_addCode ml_X5_164 ms_X4_addCode (Nat.le_of_ble_eq_true rfl) (by first | exact jl_d0 hd rfl | omega) (by first | exact Nat.le_of_ble_eq_true rfl | omega) (by first | exact Nat.le_of_ble_eq_true rfl | omega) ?_
        refine f_X4_addCode g (by first | exact jl_d1 hd rfl | omega) (by assumption) L2 lsv (by omega) (by omega) (fun h52 x52 f52 l52 => sg_K0 ?_)
        have y52 := ck_Yt (h0 := h) (by assumption) x52 f52.1
        first | refine sg_iincB (pc := 55) (dc_X5_reverse_30.2.2.1.2) rfl (by decide) (by decide) (by omega) (by omega) ?_ | refine sg_iinc (pc := 55) (dc_X5_reverse_30.2.2.1.2) rfl (by decide) (by decide) ?_
        refine sg_goto (pc := 58) (tgt := 39) (dc_X5_reverse_30.2.2.2.1) (by decide) ?_
        refine sg_lsub (lv' := [(3, _), (0, _), (2, _)]) ⟨rfl, rfl, rfl, trivial⟩ ?_
        exact ih _ _ x52 (ck_Gt G1 f52) (by omega) (by rw [l52, fm_rs (by omega) (by omega)]) (by first | exact jl_m1 hm (by omega) | exact jl_m2 hm (by omega) | omega)
  refine sg_lsub (lv' := [(3, _), (0, _), (2, _)]) ⟨rfl, rfl, rfl, trivial⟩ ?_
  exact loop39 _ _ _ x26 f26 (by omega) (by rw [l26, List.drop_eq_nil_of_le (by omega)]; rfl) (Nat.lt_succ_self _)

