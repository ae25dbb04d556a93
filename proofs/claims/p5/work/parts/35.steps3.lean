/-! sieved rows -/
def fs_F (P : Int → Bool) (L : List Int) (p : Int) : List Int := (L.take p.toNat).filter P
def fs_sv (P : Int → Bool) (L : List Int) (p : Int) : List Int := fs_F P L p ++ L.drop (fs_F P L p).length
theorem fs_Fl {P : Int → Bool} {L : List Int} {p : Int} : (fs_F P L p).length ≤ p.toNat := by
  unfold fs_F
  refine Nat.le_trans (List.length_filter_le _ _) ?_
  rw [List.length_take]
  omega
theorem fs_svl {P : Int → Bool} {L : List Int} {p : Int} (p1 : p ≤ (L.length : Int)) : (fs_sv P L p).length = L.length := by
  have := fs_Fl (P := P) (L := L) (p := p)
  unfold fs_sv
  rw [List.length_append, List.length_drop]
  omega
theorem fs_svg {P : Int → Bool} {L : List Int} {p : Int} (p0 : 0 ≤ p) (p1 : p < (L.length : Int)) : gg_l (fs_sv P L p) p = L.getD p.toNat 0 := by
  have := fs_Fl (P := P) (L := L) (p := p)
  rw [gg_in p0 (by rw [fs_svl (by omega)]; exact p1)]
  unfold fs_sv
  rw [gd_app, if_neg (by omega), gd_drop]
  congr 1
  omega
theorem fs_Fs {P : Int → Bool} {L : List Int} {p : Int} (p0 : 0 ≤ p) (p1 : p < (L.length : Int)) : fs_F P L (p + 1) = fs_F P L p ++ (if P (L.getD p.toNat 0) then [L.getD p.toNat 0] else []) := by
  unfold fs_F
  rw [show (p + 1).toNat = p.toNat + 1 by omega, List.take_add_one, List.getElem?_eq_getElem (by omega), List.filter_append, gd_in (by omega)]
  congr 1
  simp only [Option.toList, List.filter_cons, List.filter_nil]
theorem fs_sv1 {P : Int → Bool} {L : List Int} {p : Int} (p0 : 0 ≤ p) (p1 : p < (L.length : Int)) (h : P (L.getD p.toNat 0) = true) : (fs_sv P L p).set (fs_F P L p).length (L.getD p.toNat 0) = fs_sv P L (p + 1) ∧ (fs_F P L (p + 1)).length = (fs_F P L p).length + 1 := by
  have hl := fs_Fl (P := P) (L := L) (p := p)
  have e : fs_F P L (p + 1) = fs_F P L p ++ [L.getD p.toNat 0] := by rw [fs_Fs p0 p1, if_pos h]
  have e2 : (fs_F P L (p + 1)).length = (fs_F P L p).length + 1 := by rw [e, List.length_append]; rfl
  refine ⟨?_, e2⟩
  unfold fs_sv
  rw [e2, e, List.set_append_right _ _ (Nat.le_refl _), Nat.sub_self, List.append_assoc]
  congr 1
  rw [List.drop_eq_getElem_cons (i := (fs_F P L p).length) (by omega)]
  rfl
theorem fs_sv0 {P : Int → Bool} {L : List Int} {p : Int} (p0 : 0 ≤ p) (p1 : p < (L.length : Int)) (h : P (L.getD p.toNat 0) = false) : fs_sv P L p = fs_sv P L (p + 1) ∧ (fs_F P L (p + 1)).length = (fs_F P L p).length := by
  have e : fs_F P L (p + 1) = fs_F P L p := by rw [fs_Fs p0 p1, h]; simp
  exact ⟨by unfold fs_sv; rw [e], by rw [e]⟩
theorem fs_Fn {P : Int → Bool} {L : List Int} {p : Int} (h : (L.length : Int) ≤ p) : fs_F P L p = L.filter P := by
  unfold fs_F
  rw [List.take_of_length_le (by omega)]
theorem fs_svt {P : Int → Bool} {L : List Int} {p : Int} : (fs_sv P L p).take (fs_F P L p).length = fs_F P L p := by
  unfold fs_sv
  exact List.take_left
abbrev fs_is (kind isx : Int) : Int → Bool := fun u => decide (fn_isOf u kind = isx)
/-! stripped rows -/
abbrev fs_W (L : List Int) (j : Nat) : Prop := fn_isOf (L.getD j 0) 3 ≠ 0
def fs_R (L : List Int) (b e : Nat) : Prop := b ≤ e ∧ e ≤ L.length ∧ (∀ j, j < b → fs_W L j) ∧ (b = L.length ∨ ¬ fs_W L b) ∧ (∀ j, e ≤ j → j < L.length → fs_W L j) ∧ (e = b ∨ ¬ fs_W L (e - 1))
theorem fs_Ru {L : List Int} {b e b' e' : Nat} (x : fs_R L b e) (y : fs_R L b' e') : b = b' ∧ e = e' := by
  obtain ⟨x1, x2, x3, x4, x5, x6⟩ := x
  obtain ⟨y1, y2, y3, y4, y5, y6⟩ := y
  have hb : b = b' := by
    rcases Nat.lt_trichotomy b b' with c | c | c
    · rcases x4 with q | q
      · omega
      · exact absurd (y3 b c) q
    · exact c
    · rcases y4 with q | q
      · omega
      · exact absurd (x3 b' c) q
  subst hb
  refine ⟨rfl, ?_⟩
  rcases Nat.lt_trichotomy e e' with c | c | c
  · rcases y6 with q | q
    · omega
    · exact absurd (x5 (e' - 1) (by omega) (by omega)) q
  · exact c
  · rcases x6 with q | q
    · omega
    · exact absurd (y5 (e - 1) (by omega) (by omega)) q
noncomputable def fs_strip (L : List Int) : List Int := @dite _ (∃ q : Nat × Nat, fs_R L q.1 q.2) (Classical.propDecidable _) (fun h => (L.take h.choose.2).drop h.choose.1) (fun _ => L)
theorem fs_stripE {L : List Int} {b e : Nat} (x : fs_R L b e) : fs_strip L = (L.take e).drop b := by
  have hh : ∃ q : Nat × Nat, fs_R L q.1 q.2 := ⟨(b, e), x⟩
  unfold fs_strip
  rw [dif_pos hh]
  obtain ⟨e1, e2⟩ := fs_Ru hh.choose_spec x
  rw [e1, e2]
theorem fs_stripl {L : List Int} {b e : Nat} (x : fs_R L b e) : ((fs_strip L).length : Int) = (e : Int) - (b : Int) := by
  rw [fs_stripE x, List.length_drop, List.length_take]
  have := x.1
  have := x.2.1
  omega
/-! numbers in digits -/
def fs_dn (x r : Int) (m : Nat) : Prop := 1 ≤ m ∧ x / r ^ m = 0 ∧ ∀ k : Nat, 1 ≤ k → k < m → x / r ^ k ≠ 0
theorem fs_du {x r : Int} {m n : Nat} (a : fs_dn x r m) (b : fs_dn x r n) : m = n := by
  obtain ⟨a1, a2, a3⟩ := a
  obtain ⟨b1, b2, b3⟩ := b
  rcases Nat.lt_trichotomy m n with c | c | c
  · exact absurd a2 (b3 m a1 c)
  · exact c
  · exact absurd b2 (a3 n b1 c)
def fs_dg (x r : Int) (k : Nat) : Int := fn_digit (x / r ^ k % r) r
noncomputable def fs_digs (x r : Int) : List Int := @dite _ (∃ m, fs_dn x r m) (Classical.propDecidable _) (fun h => tt_b h.choose (fun j => fs_dg x r (h.choose - 1 - j))) (fun _ => [])
theorem fs_digsE {x r : Int} {m : Nat} (a : fs_dn x r m) : fs_digs x r = tt_b m (fun j => fs_dg x r (m - 1 - j)) := by
  have hh : ∃ m, fs_dn x r m := ⟨m, a⟩
  unfold fs_digs
  rw [dif_pos hh, fs_du hh.choose_spec a]
theorem fs_dv {x r : Int} {k : Nat} (x0 : 0 ≤ x) (r0 : 0 < r) : x / r ^ k / r = x / r ^ (k + 1) := by
  rw [Int.pow_succ, Int.ediv_ediv_of_nonneg (Int.le_of_lt (Int.pow_pos r0))]
theorem fs_dp {x r : Int} {k : Nat} (x0 : 0 ≤ x) (r0 : 0 < r) : 0 ≤ x / r ^ k ∧ x / r ^ k ≤ x := by
  have h1 : 0 < r ^ k := Int.pow_pos r0
  exact ⟨Int.ediv_nonneg x0 (Int.le_of_lt h1), Int.ediv_le_self _ x0⟩
theorem fs_pw {r : Int} (h : 2 ≤ r) : ∀ k : Nat, (2 : Int) ^ k ≤ r ^ k ∧ 0 < (2 : Int) ^ k
  | 0 => ⟨by rw [Int.pow_zero, Int.pow_zero]; exact Int.le_refl _, by decide⟩
  | k + 1 => by
    obtain ⟨i1, i2⟩ := fs_pw h k
    rw [Int.pow_succ, Int.pow_succ]
    exact ⟨Int.le_trans (Int.mul_le_mul_of_nonneg_right i1 (by decide)) (Int.mul_le_mul_of_nonneg_left h (by omega)), by omega⟩
theorem fs_d20 {x r : Int} (x0 : 0 ≤ x) (x1 : x ≤ 999999) (r2 : 2 ≤ r) : x / r ^ 20 = 0 := by
  have h := (fs_pw r2 20).1
  have e : (2 : Int) ^ 20 = 1048576 := by decide
  rw [e] at h
  exact Int.ediv_eq_zero_of_lt x0 (by omega)
theorem tt_succ {α : Type} {n : Nat} {f : Nat → α} : tt_b (n + 1) f = tt_b n f ++ [f n] := by
  unfold tt_b
  rw [List.range_succ, List.map_append]
  rfl
/-! rows spelled and read -/
def fs_sp (L : List Int) (k : Nat) : Int := fn_digit (if k % 2 = 0 then L.getD (k / 2) 0 / 16 else L.getD (k / 2) 0 % 16) 16
def fs_spell (L : List Int) : List Int := tt_b (2 * L.length) (fs_sp L)
def fs_rd (L : List Int) (k : Nat) : Int := 16 * fn_num (L.getD (2 * k) 0) 16 + fn_num (L.getD (2 * k + 1) 0) 16
def fs_read (L : List Int) : List Int := tt_b (L.length / 2) (fs_rd L)
def fs_can (L : List Int) : Prop := L.length % 2 = 0 ∧ ∀ j, j < L.length → fn_num (L.getD j 0) 16 ≠ -1
set_option maxRecDepth 100000 in
theorem f_X5_sieve {w : sg_W} {Q : sg_O → sg_H → Prop} {h : sg_H} (g : sg_G w) {d : Nat} (hd : 14 ≤ d) {B : Nat} {A : fa_A} (hx : cf_X h B A) (ok : fa_ok A) {row kind isx : Int} {L : List Int} (hL : fa_L A row.toNat = L) (hQ : ¬ (row < 0 ∨ 4 ≤ row) → ¬ (kind < 0 ∨ 4 < kind) → ∀ (v : Int) (h' : sg_H), v = (L.length : Int) - ((L.filter (fs_is kind isx)).length : Int) → cf_X h' B (fa_put A row.toNat (L.filter (fs_is kind isx))) → ck_F B h h' → Q (.inl (some (sg_i v))) h') (hXI : (row < 0 ∨ 4 ≤ row) → ∀ z, h.1 ≤ z → Q (.inr e_I) (z, h.2)) (hXA : ¬ (row < 0 ∨ 4 ≤ row) → (kind < 0 ∨ 4 < kind) → ∀ z, h.1 ≤ z → Q (.inr e_A) (z, h.2)) : sg_C w mi_X5_sieve d 8 48 [sg_r B, sg_i row, sg_i kind, sg_i isx] h Q := by
  refine sg_of pn_X5 (Nat.le_of_ble_eq_true rfl) ?_
  obtain ⟨x0, ho, hS, hP, hK⟩ := id hx
  have y0 := ck_Y0 x0
  refine sg_aload_n (pc := 0) (j := 0) (dc_X5_sieve_0.1.1.1.1) rfl rfl ?_
  refine sg_iload_n (pc := 1) (j := 1) (dc_X5_sieve_0.1.1.1.2) rfl rfl ?_
  refine sg_cE1 (pc := 2) (d' := d - 1) (mc' := 1) (ms' := 6) 6 g (dc_X5_sieve_0.1.1.2.1) cb_X5_rowOf ml_X5_36 mn_X5_rowOf rfl mv_X5_rowOf (Nat.le_of_ble_eq_true rfl) (ck_oc (by assumption)) (Nat.le_of_ble_eq_true rfl) (by first | exact jl_d0 hd rfl | omega) (by first | exact Nat.le_of_ble_eq_true rfl | omega) (by first | exact Nat.le_of_ble_eq_true rfl | omega) ?_
  refine f_X5_rowOf g (by first | exact jl_d1 hd rfl | omega) (by assumption) (fun l2 r2 L2 => sg_K1 ?_) (fun t2 z2 w2 => sg_KX (by first | exact Nat.le_of_ble_eq_true rfl | omega) (by first | exact Nat.le_of_ble_eq_true rfl | omega) (hXI (by omega) z2 w2))
  obtain ⟨a2, ea2⟩ : ∃ a, a = B + 1 + 3 + 2 * row.toNat := ⟨_, rfl⟩
  rw [← ea2] at L2 ⊢
  have k2 : cf_l h a2 = L := by rw [ea2, cf_rl hx (by omega)]; exact hL
  have r42 := fa_row ok (i := row.toNat) (by omega)
  rw [hL] at r42
  refine sg_astore (pc := 5) (dc_X5_sieve_0.1.1.2.2) (by decide) ?_
  refine sg_iload_n (pc := 7) (j := 2) (dc_X5_sieve_0.1.2.1.1) rfl rfl ?_
  refine sg_cS1 (pc := 8) (d' := d - 1) (mc' := 1) (ms' := 6) g (dc_X5_sieve_0.1.2.1.2) cb_X5_checkKind ml_X5_93 ms_X5_checkKind (Nat.le_of_ble_eq_true rfl) (by first | exact jl_d0 hd rfl | omega) (by first | exact Nat.le_of_ble_eq_true rfl | omega) (by first | exact Nat.le_of_ble_eq_true rfl | omega) ?_
  refine s_X5_checkKind g (by first | exact jl_d1 hd rfl | omega) (fun v8 => sg_K0 ?_) (fun t8 z8 w8 => sg_KX (by first | exact Nat.le_of_ble_eq_true rfl | omega) (by first | exact Nat.le_of_ble_eq_true rfl | omega) (hXA (by omega) (by omega) z8 w8))
  refine sg_aload_n (pc := 11) (j := 0) (dc_X5_sieve_0.1.2.2.1) rfl rfl ?_
  refine ck_gob (pc := 12) g (dc_X5_sieve_0.1.2.2.2) fk_X5_19 (by assumption) (fun _ => rfl) ?_
  refine sg_aload_n (pc := 15) (j := 0) (dc_X5_sieve_0.2.1.1.1) rfl rfl ?_
  refine ck_gob (pc := 16) g (dc_X5_sieve_0.2.1.1.2) fk_X5_10 (by assumption) (fun _ => rfl) ?_
  refine sg_cE1 (pc := 19) (d' := d - 1) (mc' := 0) (ms' := 0) 4 g (dc_X5_sieve_0.2.1.2.1) cb_X1_keep ml_X5_55 mn_X1_keep rfl mv_X1_keep (Nat.le_of_ble_eq_true rfl) (ck_pc (by assumption)) (Nat.le_of_ble_eq_true rfl) (by first | exact jl_d0 hd rfl | omega) (by first | exact Nat.le_of_ble_eq_true rfl | omega) (by first | exact Nat.le_of_ble_eq_true rfl | omega) ?_
  refine f_X1_keep g (by first | exact jl_d1 hd rfl | omega) x0 ho (fun h19 x19 F19 fr19 ho19 P19 => sg_K0 ?_)
  have y19 : ck_Y h h19 B := ⟨x19, F19⟩
  have q19a2 : cf_l h19 a2 = cf_l h a2 := cf_lq (fr19 _ (by omega)) (fr19 _ (by omega))
  rw [k2] at q19a2
  refine sg_iconst (pc := 22) (z := 0) (dc_X5_sieve_0.2.1.2.2) (by decide) ?_
  refine sg_istore (pc := 23) (dc_X5_sieve_0.2.2.1.1) (by decide) ?_
  refine sg_iconst (pc := 25) (z := 0) (dc_X5_sieve_0.2.2.1.2) (by decide) ?_
  refine sg_istore (pc := 26) (dc_X5_sieve_0.2.2.2.1) (by decide) ?_
  have loop28 : ∀ (N : Nat) (h1 : sg_H) (p s : Int), (ck_X h1 B) → (ck_G B a2 h19 h1) → (0 ≤ p ∧ p ≤ (L.length : Int)) → (cf_l h1 a2 = fs_sv (fs_is kind isx) L p) → (s = ((fs_F (fs_is kind isx) L p).length : Int)) → ((L.length : Int) - p).toNat < N → sg_R w mi_X5_sieve d 8 48 Q 28 [(6, sg_i p), (5, sg_i s), (0, sg_r B), (2, sg_i kind), (3, sg_i isx), (4, sg_r a2)] [] h1 2 12 := by
    intro N
    induction N with
    | zero => intro h1 p s x1 G1 p0 l1 s0 hm; exact absurd hm (Nat.not_lt_zero _)
    | succ N ih =>
      intro h1 p s x1 G1 p0 l1 s0 hm
      have y1 : ck_Y h h1 B := ⟨x1, ck_Ft F19 G1.1⟩
      have fl := fs_Fl (P := fs_is kind isx) (L := L) (p := p)
      refine sg_iload (pc := 28) (dc_X5_sieve_0.2.2.2.2) rfl ?_
      refine sg_aload (pc := 30) (dc_X5_sieve_30.1.1.1.1) rfl ?_
      refine sg_cE0 (pc := 32) (d' := d - 1) (mc' := 0) (ms' := 0) 3 g (dc_X5_sieve_30.1.1.1.2) cb_X0_size ml_X5_63 mn_X0_size rfl mv_X0_size (Nat.le_of_ble_eq_true rfl) (ck_lc (by assumption) (by first | assumption | exact ck_rev)) (Nat.le_of_ble_eq_true rfl) (by first | exact jl_d0 hd rfl | omega) (by first | exact Nat.le_of_ble_eq_true rfl | omega) (by first | exact Nat.le_of_ble_eq_true rfl | omega) ?_
      refine f_X0_size g (by first | exact jl_d1 hd rfl | omega) (by assumption) L2 (fun z32 e32 l032 u32 => sg_K1 ?_)
      rw [l1] at e32
      try rw [fa_tlen] at e32
      rw [fs_svl (by omega)] at e32
      refine sg_icmp_ge (pc := 35) (tgt := 75) (dc_X5_sieve_30.1.1.2.1) (by decide) (fun c35 => ?_) (fun c35 => ?_)
      · refine sg_aload (pc := 75) (dc_X5_sieve_66.1.1.2.2) rfl ?_
        refine sg_cE0 (pc := 77) (d' := d - 1) (mc' := 0) (ms' := 0) 3 g (dc_X5_sieve_66.1.2.1.1) cb_X0_size ml_X5_63 mn_X0_size rfl mv_X0_size (Nat.le_of_ble_eq_true rfl) (ck_lc (by assumption) (by first | assumption | exact ck_rev)) (Nat.le_of_ble_eq_true rfl) (by first | exact jl_d0 hd rfl | omega) (by first | exact Nat.le_of_ble_eq_true rfl | omega) (by first | exact Nat.le_of_ble_eq_true rfl | omega) ?_
        refine f_X0_size g (by first | exact jl_d1 hd rfl | omega) (by assumption) L2 (fun z77 e77 l077 u77 => sg_K1 ?_)
        rw [l1] at e77
        try rw [fa_tlen] at e77
        rw [fs_svl (by omega)] at e77
        refine sg_iload (pc := 80) (dc_X5_sieve_66.1.2.1.2) rfl ?_
        first | refine sg_isubB (pc := 82) (dc_X5_sieve_66.1.2.2.1) (by omega) (by omega) ?_ | refine sg_isub (pc := 82) (dc_X5_sieve_66.1.2.2.1) ?_
        refine sg_istore (pc := 83) (dc_X5_sieve_66.1.2.2.2) (by decide) ?_
        refine sg_aload (pc := 85) (dc_X5_sieve_66.2.1.1.1) rfl ?_
        refine sg_iload (pc := 87) (dc_X5_sieve_66.2.1.1.2) rfl ?_
        have ls := fs_svl (P := fs_is kind isx) (L := L) (p := p) (by omega)
        refine sg_cE1 (pc := 89) (d' := d - 1) (mc' := 0) (ms' := 0) 3 g (dc_X5_sieve_66.2.1.2.1) cb_X0_takeAway ml_X5_100 mn_X0_takeAway rfl mv_X0_takeAway (Nat.le_of_ble_eq_true rfl) (ck_lc (by assumption) (by first | assumption | exact ck_rev)) (Nat.le_of_ble_eq_true rfl) (by first | exact jl_d0 hd rfl | omega) (by first | exact Nat.le_of_ble_eq_true rfl | omega) (by first | exact Nat.le_of_ble_eq_true rfl | omega) ?_
        refine f_X0_takeAway g (by first | exact jl_d1 hd rfl | omega) (by assumption) L2 (by first | omega | (rw [l1]; omega)) (by first | omega | (rw [l1]; omega)) (fun h89 x89 f89 l89 => sg_K0 ?_)
        rw [l1] at l89
        have y89 := ck_Yt (h0 := h) (by assumption) x89 f89.1
        refine sg_iload (pc := 92) (dc_X5_sieve_66.2.1.2.2) rfl ?_
        refine sg_iret (pc := 94) (dc_X5_sieve_66.2.2.1.1) rfl (by first | exact Nat.le_of_ble_eq_true rfl | omega) (by first | exact Nat.le_of_ble_eq_true rfl | omega) ?_
        exact hQ (by omega) (by omega) _ _ (by rw [← fs_Fn (P := fs_is kind isx) (L := L) (p := p) (by omega)]; omega) (cf_put (i := row.toNat) hx fr19 ho19 P19 x89 (ck_Gt G1 f89) (by omega) (by omega) (by rw [l89, fs_svl (by omega), show L.length - (z77 - s).toNat = (fs_F (fs_is kind isx) L p).length by omega, fs_svt, fs_Fn (by omega)])) (ck_Ft F19 (ck_Ft G1.1 f89.1))
      · refine sg_aload (pc := 38) (dc_X5_sieve_30.1.1.2.2) rfl ?_
        refine sg_iload (pc := 40) (dc_X5_sieve_30.1.2.1.1) rfl ?_
        refine sg_cE1 (pc := 42) (d' := d - 1) (mc' := 0) (ms' := 0) 3 g (dc_X5_sieve_30.1.2.1.2) cb_X0_get ml_X5_75 mn_X0_get rfl mv_X0_get (Nat.le_of_ble_eq_true rfl) (ck_lc (by assumption) (by first | assumption | exact ck_rev)) (Nat.le_of_ble_eq_true rfl) (by first | exact jl_d0 hd rfl | omega) (by first | exact Nat.le_of_ble_eq_true rfl | omega) (by first | exact Nat.le_of_ble_eq_true rfl | omega) ?_
        refine f_X0_get g (by first | exact jl_d1 hd rfl | omega) (by assumption) L2 (fun z42 e42 v42 => sg_K1 ?_)
        rw [l1] at e42
        rw [l1] at v42
        try rw [fa_tg (by omega) (by omega)] at e42
        rw [fs_svg (by omega) (by omega)] at e42
        subst e42
        refine sg_istore (pc := 45) (dc_X5_sieve_30.1.2.2.1) (by decide) ?_
        refine sg_iload (pc := 47) (dc_X5_sieve_30.1.2.2.2) rfl ?_
        refine sg_iload_n (pc := 49) (j := 2) (dc_X5_sieve_30.2.1.1.1) rfl rfl ?_
        refine sg_cS2 (pc := 50) (d' := d - 1) (mc' := 0) (ms' := 0) g (dc_X5_sieve_30.2.1.1.2) cb_X2_isOf ml_X5_96 ms_X2_isOf (Nat.le_of_ble_eq_true rfl) (by first | exact jl_d0 hd rfl | omega) (by first | exact Nat.le_of_ble_eq_true rfl | omega) (by first | exact Nat.le_of_ble_eq_true rfl | omega) ?_
        refine s_X2_isOf g (by first | exact jl_d1 hd rfl | omega) (fun z50 h50 b50 => sg_K1 ?_)
        refine sg_iload_n (pc := 53) (j := 3) (dc_X5_sieve_30.2.1.2.1) rfl rfl ?_
        refine sg_icmp_ne (pc := 54) (tgt := 69) (dc_X5_sieve_30.2.1.2.2) (by decide) (fun c54 => ?_) (fun c54 => ?_)
        · have bk := fs_sv0 (P := fs_is kind isx) (L := L) (p := p) (by omega) (by omega) (decide_eq_false (by omega))
          first | refine sg_iincB (pc := 69) (dc_X5_sieve_66.1.1.1.2) rfl (by decide) (by decide) (by omega) (by omega) ?_ | refine sg_iinc (pc := 69) (dc_X5_sieve_66.1.1.1.2) rfl (by decide) (by decide) ?_
          refine sg_goto (pc := 72) (tgt := 28) (dc_X5_sieve_66.1.1.2.1) (by decide) ?_
          refine sg_lsub (lv' := [(6, _), (5, _), (0, _), (2, _), (3, _), (4, _)]) ⟨rfl, rfl, rfl, rfl, rfl, rfl, trivial⟩ ?_
          exact ih _ _ _ x1 G1 (by omega) (l1.trans bk.1) (by omega) (by first | exact jl_m1 hm (by omega) | exact jl_m2 hm (by omega) | omega)
        · refine sg_aload (pc := 57) (dc_X5_sieve_30.2.2.1.1) rfl ?_
          refine sg_iload (pc := 59) (dc_X5_sieve_30.2.2.1.2) rfl ?_
          refine sg_iload (pc := 61) (dc_X5_sieve_30.2.2.2.1) rfl ?_
          refine sg_cE2 (pc := 63) (d' := d - 1) (mc' := 0) (ms' := 0) 3 g (dc_X5_sieve_30.2.2.2.2) cb_X0_set ml_X5_86 mn_X0_set rfl mv_X0_set (Nat.le_of_ble_eq_true rfl) (ck_lc (by assumption) (by first | assumption | exact ck_rev)) (Nat.le_of_ble_eq_true rfl) (by first | exact jl_d0 hd rfl | omega) (by first | exact Nat.le_of_ble_eq_true rfl | omega) (by first | exact Nat.le_of_ble_eq_true rfl | omega) ?_
          refine f_X0_set g (by first | exact jl_d1 hd rfl | omega) (by assumption) L2 (by first | exact ck_v0 | assumption | (simp only [ck_v1, ck_v2] at * <;> omega)) (by omega) (by rw [l1]; first | omega | (rw [fa_tlen]; omega) | (rw [fs_svl (by omega)]; omega)) (fun h63 x63 f63 n63 w63 => sg_K0 ?_)
          have l63 := cf_ls n63 w63
          rw [l1] at l63
          have y63 := ck_Yt (h0 := h) (by assumption) x63 f63.1
          first | refine sg_iincB (pc := 66) (dc_X5_sieve_66.1.1.1.1) rfl (by decide) (by decide) (by omega) (by omega) ?_ | refine sg_iinc (pc := 66) (dc_X5_sieve_66.1.1.1.1) rfl (by decide) (by decide) ?_
          have bk := fs_sv1 (P := fs_is kind isx) (L := L) (p := p) (by omega) (by omega) (decide_eq_true (by omega))
          rw [show s.toNat = (fs_F (fs_is kind isx) L p).length by omega] at l63
          first | refine sg_iincB (pc := 69) (dc_X5_sieve_66.1.1.1.2) rfl (by decide) (by decide) (by omega) (by omega) ?_ | refine sg_iinc (pc := 69) (dc_X5_sieve_66.1.1.1.2) rfl (by decide) (by decide) ?_
          refine sg_goto (pc := 72) (tgt := 28) (dc_X5_sieve_66.1.1.2.1) (by decide) ?_
          refine sg_lsub (lv' := [(6, _), (5, _), (0, _), (2, _), (3, _), (4, _)]) ⟨rfl, rfl, rfl, rfl, rfl, rfl, trivial⟩ ?_
          exact ih _ _ _ x63 (ck_Gt G1 f63) (by omega) (l63.trans bk.1) (by omega) (by first | exact jl_m1 hm (by omega) | exact jl_m2 hm (by omega) | omega)
  refine sg_lsub (lv' := [(6, _), (5, _), (0, _), (2, _), (3, _), (4, _)]) ⟨rfl, rfl, rfl, rfl, rfl, rfl, trivial⟩ ?_
  exact loop28 _ _ _ _ x19 ck_G0 (by omega) (by rw [q19a2]; unfold fs_sv fs_F; simp) (by unfold fs_F; simp) (Nat.lt_succ_self _)

set_option maxRecDepth 100000 in
theorem f_X5_strip {w : sg_W} {Q : sg_O → sg_H → Prop} {h : sg_H} (g : sg_G w) {d : Nat} (hd : 14 ≤ d) {B : Nat} {A : fa_A} (hx : cf_X h B A) (ok : fa_ok A) {row : Int} {L : List Int} (hL : fa_L A row.toNat = L) (hQ : ¬ (row < 0 ∨ 4 ≤ row) → ∀ (v : Int) (h' : sg_H), v = (L.length : Int) - ((fs_strip L).length : Int) → cf_X h' B (fa_put A row.toNat (fs_strip L)) → ck_F B h h' → Q (.inl (some (sg_i v))) h') (hXI : (row < 0 ∨ 4 ≤ row) → ∀ z, h.1 ≤ z → Q (.inr e_I) (z, h.2)) : sg_C w mi_X5_strip d 8 48 [sg_r B, sg_i row] h Q := by
  refine sg_of pn_X5 (Nat.le_of_ble_eq_true rfl) ?_
  obtain ⟨x0, ho, hS, hP, hK⟩ := id hx
  have y0 := ck_Y0 x0
  refine sg_aload_n (pc := 0) (j := 0) (dc_X5_strip_0.1.1.1.1) rfl rfl ?_
  refine sg_iload_n (pc := 1) (j := 1) (dc_X5_strip_0.1.1.1.2) rfl rfl ?_
  refine sg_cE1 (pc := 2) (d' := d - 1) (mc' := 1) (ms' := 6) 6 g (dc_X5_strip_0.1.1.2.1) cb_X5_rowOf ml_X5_36 mn_X5_rowOf rfl mv_X5_rowOf (Nat.le_of_ble_eq_true rfl) (ck_oc (by assumption)) (Nat.le_of_ble_eq_true rfl) (by first | exact jl_d0 hd rfl | omega) (by first | exact Nat.le_of_ble_eq_true rfl | omega) (by first | exact Nat.le_of_ble_eq_true rfl | omega) ?_
  refine f_X5_rowOf g (by first | exact jl_d1 hd rfl | omega) (by assumption) (fun l2 r2 L2 => sg_K1 ?_) (fun t2 z2 w2 => sg_KX (by first | exact Nat.le_of_ble_eq_true rfl | omega) (by first | exact Nat.le_of_ble_eq_true rfl | omega) (hXI (by omega) z2 w2))
  obtain ⟨a2, ea2⟩ : ∃ a, a = B + 1 + 3 + 2 * row.toNat := ⟨_, rfl⟩
  rw [← ea2] at L2 ⊢
  have k2 : cf_l h a2 = L := by rw [ea2, cf_rl hx (by omega)]; exact hL
  have r42 := fa_row ok (i := row.toNat) (by omega)
  rw [hL] at r42
  refine sg_astore_n (pc := 5) (j := 2) (dc_X5_strip_0.1.1.2.2) rfl (by decide) ?_
  refine sg_aload_n (pc := 6) (j := 0) (dc_X5_strip_0.1.2.1.1) rfl rfl ?_
  refine ck_gob (pc := 7) g (dc_X5_strip_0.1.2.1.2) fk_X5_19 (by assumption) (fun _ => rfl) ?_
  refine sg_aload_n (pc := 10) (j := 0) (dc_X5_strip_0.1.2.2.1) rfl rfl ?_
  refine ck_gob (pc := 11) g (dc_X5_strip_0.1.2.2.2) fk_X5_10 (by assumption) (fun _ => rfl) ?_
  refine sg_cE1 (pc := 14) (d' := d - 1) (mc' := 0) (ms' := 0) 4 g (dc_X5_strip_0.2.1.1.1) cb_X1_keep ml_X5_55 mn_X1_keep rfl mv_X1_keep (Nat.le_of_ble_eq_true rfl) (ck_pc (by assumption)) (Nat.le_of_ble_eq_true rfl) (by first | exact jl_d0 hd rfl | omega) (by first | exact Nat.le_of_ble_eq_true rfl | omega) (by first | exact Nat.le_of_ble_eq_true rfl | omega) ?_
  refine f_X1_keep g (by first | exact jl_d1 hd rfl | omega) x0 ho (fun h14 x14 F14 fr14 ho14 P14 => sg_K0 ?_)
  have y14 : ck_Y h h14 B := ⟨x14, F14⟩
  have q14a2 : cf_l h14 a2 = cf_l h a2 := cf_lq (fr14 _ (by omega)) (fr14 _ (by omega))
  rw [k2] at q14a2
  refine sg_aload_n (pc := 17) (j := 2) (dc_X5_strip_0.2.1.1.2) rfl rfl ?_
  refine sg_cE0 (pc := 18) (d' := d - 1) (mc' := 0) (ms' := 0) 3 g (dc_X5_strip_0.2.1.2.1) cb_X0_size ml_X5_63 mn_X0_size rfl mv_X0_size (Nat.le_of_ble_eq_true rfl) (ck_lc (by assumption) (by first | assumption | exact ck_rev)) (Nat.le_of_ble_eq_true rfl) (by first | exact jl_d0 hd rfl | omega) (by first | exact Nat.le_of_ble_eq_true rfl | omega) (by first | exact Nat.le_of_ble_eq_true rfl | omega) ?_
  refine f_X0_size g (by first | exact jl_d1 hd rfl | omega) (by assumption) L2 (fun z18 e18 l018 u18 => sg_K1 ?_)
  rw [q14a2] at e18
  try rw [fa_tlen] at e18
  refine sg_istore_n (pc := 21) (j := 3) (dc_X5_strip_0.2.1.2.2) rfl (by decide) ?_
  refine sg_iconst (pc := 22) (z := 0) (dc_X5_strip_0.2.2.1.1) (by decide) ?_
  refine sg_istore (pc := 23) (dc_X5_strip_0.2.2.1.2) (by decide) ?_
  have loop25 : ∀ (N : Nat) (b : Int), (0 ≤ b ∧ b ≤ (L.length : Int)) → (∀ j : Nat, (j : Int) < b → fs_W L j) → ((L.length : Int) - b).toNat < N → sg_R w mi_X5_strip d 8 48 Q 25 [(4, sg_i b), (3, sg_i z18), (0, sg_r B), (2, sg_r a2)] [] h14 1 6 := by
    intro N
    induction N with
    | zero => intro b b0 b1 hm; exact absurd hm (Nat.not_lt_zero _)
    | succ N ih =>
      intro b b0 b1 hm
      refine sg_iload (pc := 25) (dc_X5_strip_0.2.2.2.1) rfl ?_
      refine sg_iload_n (pc := 27) (j := 3) (dc_X5_strip_0.2.2.2.2) rfl rfl ?_
      refine sg_icmp_ge (pc := 28) (tgt := 50) (dc_X5_strip_28.1.1.1.1) (by decide) (fun c28 => ?_) (fun c28 => ?_)
      · have b2 : b.toNat = L.length ∨ ¬ fs_W L b.toNat := Or.inl (by omega)
        refine sg_iload_n (pc := 50) (j := 3) (dc_X5_strip_28.2.1.1.2) rfl rfl ?_
        refine sg_istore (pc := 51) (dc_X5_strip_28.2.1.2.1) (by decide) ?_
        have loop53 : ∀ (N : Nat) (e : Int), (b ≤ e ∧ e ≤ (L.length : Int)) → (∀ j : Nat, e ≤ (j : Int) → j < L.length → fs_W L j) → e.toNat < N → sg_R w mi_X5_strip d 8 48 Q 53 [(5, sg_i e), (4, sg_i b), (3, sg_i z18), (0, sg_r B), (2, sg_r a2)] [] h14 1 6 := by
          intro N
          induction N with
          | zero => intro e e0 e1 hm; exact absurd hm (Nat.not_lt_zero _)
          | succ N ihb =>
            intro e e0 e1 hm
            refine sg_iload (pc := 53) (dc_X5_strip_28.2.1.2.2) rfl ?_
            refine sg_iload (pc := 55) (dc_X5_strip_28.2.2.1.1) rfl ?_
            refine sg_icmp_le (pc := 57) (tgt := 81) (dc_X5_strip_28.2.2.1.2) (by decide) (fun c57 => ?_) (fun c57 => ?_)
            · have rr : fs_R L b.toNat e.toNat := ⟨by omega, by omega, fun j hj => b1 j (by omega), b2, fun j j0 j1 => e1 j (by omega) j1, by first | exact Or.inl (by omega) | (refine Or.inr ?_; rw [show e.toNat - 1 = (e - 1).toNat by omega]; unfold fs_W; omega)⟩
              have sl := fs_stripl rr
              refine sg_aload_n (pc := 81) (j := 2) (dc_X5_strip_63.2.1.1.1) rfl rfl ?_
              refine sg_iload (pc := 82) (dc_X5_strip_63.2.1.1.2) rfl ?_
              refine sg_iload (pc := 84) (dc_X5_strip_63.2.1.2.1) rfl ?_
              refine sg_cE2 (pc := 86) (d' := d - 1) (mc' := 0) (ms' := 0) 3 g (dc_X5_strip_63.2.1.2.2) cb_X0_narrow ml_X5_103 mn_X0_narrow rfl mv_X0_narrow (Nat.le_of_ble_eq_true rfl) (ck_lc (by assumption) (by first | assumption | exact ck_rev)) (Nat.le_of_ble_eq_true rfl) (by first | exact jl_d0 hd rfl | omega) (by first | exact Nat.le_of_ble_eq_true rfl | omega) (by first | exact Nat.le_of_ble_eq_true rfl | omega) ?_
              refine f_X0_narrow g (by first | exact jl_d1 hd rfl | omega) (by assumption) L2 (by first | omega | (rw [q14a2]; omega)) (by first | omega | (rw [q14a2]; omega)) (by first | omega | (rw [q14a2]; omega)) (fun h86 x86 f86 l86 => sg_K0 ?_)
              rw [q14a2] at l86
              have y86 := ck_Yt (h0 := h) (by assumption) x86 f86.1
              refine sg_iload_n (pc := 89) (j := 3) (dc_X5_strip_63.2.2.1.1) rfl rfl ?_
              refine sg_aload_n (pc := 90) (j := 2) (dc_X5_strip_63.2.2.1.2) rfl rfl ?_
              refine sg_cE0 (pc := 91) (d' := d - 1) (mc' := 0) (ms' := 0) 3 g (dc_X5_strip_63.2.2.2.1) cb_X0_size ml_X5_63 mn_X0_size rfl mv_X0_size (Nat.le_of_ble_eq_true rfl) (ck_lc (by assumption) (by first | assumption | exact ck_rev)) (Nat.le_of_ble_eq_true rfl) (by first | exact jl_d0 hd rfl | omega) (by first | exact Nat.le_of_ble_eq_true rfl | omega) (by first | exact Nat.le_of_ble_eq_true rfl | omega) ?_
              refine f_X0_size g (by first | exact jl_d1 hd rfl | omega) (by assumption) L2 (fun z91 e91 l091 u91 => sg_K1 ?_)
              rw [l86] at e91
              try rw [fa_tlen] at e91
              have e91' : z91 = ((fs_strip L).length : Int) := by rw [e91, fs_stripE rr]
              first | refine sg_isubB (pc := 94) (dc_X5_strip_63.2.2.2.2) (by omega) (by omega) ?_ | refine sg_isub (pc := 94) (dc_X5_strip_63.2.2.2.2) ?_
              refine sg_iret (pc := 95) dc_X5_strip_95 rfl (by first | exact Nat.le_of_ble_eq_true rfl | omega) (by first | exact Nat.le_of_ble_eq_true rfl | omega) ?_
              exact hQ (by omega) _ _ (by rw [e91', e18]) (cf_put (i := row.toNat) hx fr14 ho14 P14 x86 f86 (by omega) (by omega) (by rw [l86, fs_stripE rr])) (ck_Ft F14 f86.1)
            · refine sg_aload_n (pc := 60) (j := 2) (dc_X5_strip_28.2.2.2.1) rfl rfl ?_
              refine sg_iload (pc := 61) (dc_X5_strip_28.2.2.2.2) rfl ?_
              refine sg_iconst (pc := 63) (z := 1) (dc_X5_strip_63.1.1.1.1) (by decide) ?_
              first | refine sg_isubB (pc := 64) (dc_X5_strip_63.1.1.1.2) (by omega) (by omega) ?_ | refine sg_isub (pc := 64) (dc_X5_strip_63.1.1.1.2) ?_
              refine sg_cE1 (pc := 65) (d' := d - 1) (mc' := 0) (ms' := 0) 3 g (dc_X5_strip_63.1.1.2.1) cb_X0_get ml_X5_75 mn_X0_get rfl mv_X0_get (Nat.le_of_ble_eq_true rfl) (ck_lc (by assumption) (by first | assumption | exact ck_rev)) (Nat.le_of_ble_eq_true rfl) (by first | exact jl_d0 hd rfl | omega) (by first | exact Nat.le_of_ble_eq_true rfl | omega) (by first | exact Nat.le_of_ble_eq_true rfl | omega) ?_
              refine f_X0_get g (by first | exact jl_d1 hd rfl | omega) (by assumption) L2 (fun z65 e65 v65 => sg_K1 ?_)
              rw [q14a2] at e65
              rw [q14a2] at v65
              try rw [fa_tg (by omega) (by omega)] at e65
              rw [gg_in (by omega) (by omega)] at e65
              subst e65
              refine sg_iconst (pc := 68) (z := 3) (dc_X5_strip_63.1.1.2.2) (by decide) ?_
              refine sg_cS2 (pc := 69) (d' := d - 1) (mc' := 0) (ms' := 0) g (dc_X5_strip_63.1.2.1.1) cb_X2_isOf ml_X5_96 ms_X2_isOf (Nat.le_of_ble_eq_true rfl) (by first | exact jl_d0 hd rfl | omega) (by first | exact Nat.le_of_ble_eq_true rfl | omega) (by first | exact Nat.le_of_ble_eq_true rfl | omega) ?_
              refine s_X2_isOf g (by first | exact jl_d1 hd rfl | omega) (fun z69 h69 b69 => sg_K1 ?_)
              refine sg_if_eq (pc := 72) (tgt := 81) (dc_X5_strip_63.1.2.1.2) (by decide) (fun c72 => ?_) (fun c72 => ?_)
              · have rr : fs_R L b.toNat e.toNat := ⟨by omega, by omega, fun j hj => b1 j (by omega), b2, fun j j0 j1 => e1 j (by omega) j1, by first | exact Or.inl (by omega) | (refine Or.inr ?_; rw [show e.toNat - 1 = (e - 1).toNat by omega]; unfold fs_W; omega)⟩
                have sl := fs_stripl rr
                refine sg_aload_n (pc := 81) (j := 2) (dc_X5_strip_63.2.1.1.1) rfl rfl ?_
                refine sg_iload (pc := 82) (dc_X5_strip_63.2.1.1.2) rfl ?_
                refine sg_iload (pc := 84) (dc_X5_strip_63.2.1.2.1) rfl ?_
                refine sg_cE2 (pc := 86) (d' := d - 1) (mc' := 0) (ms' := 0) 3 g (dc_X5_strip_63.2.1.2.2) cb_X0_narrow ml_X5_103 mn_X0_narrow rfl mv_X0_narrow (Nat.le_of_ble_eq_true rfl) (ck_lc (by assumption) (by first | assumption | exact ck_rev)) (Nat.le_of_ble_eq_true rfl) (by first | exact jl_d0 hd rfl | omega) (by first | exact Nat.le_of_ble_eq_true rfl | omega) (by first | exact Nat.le_of_ble_eq_true rfl | omega) ?_
                refine f_X0_narrow g (by first | exact jl_d1 hd rfl | omega) (by assumption) L2 (by first | omega | (rw [q14a2]; omega)) (by first | omega | (rw [q14a2]; omega)) (by first | omega | (rw [q14a2]; omega)) (fun h86 x86 f86 l86 => sg_K0 ?_)
                rw [q14a2] at l86
                have y86 := ck_Yt (h0 := h) (by assumption) x86 f86.1
                refine sg_iload_n (pc := 89) (j := 3) (dc_X5_strip_63.2.2.1.1) rfl rfl ?_
                refine sg_aload_n (pc := 90) (j := 2) (dc_X5_strip_63.2.2.1.2) rfl rfl ?_
                refine sg_cE0 (pc := 91) (d' := d - 1) (mc' := 0) (ms' := 0) 3 g (dc_X5_strip_63.2.2.2.1) cb_X0_size ml_X5_63 mn_X0_size rfl mv_X0_size (Nat.le_of_ble_eq_true rfl) (ck_lc (by assumption) (by first | assumption | exact ck_rev)) (Nat.le_of_ble_eq_true rfl) (by first | exact jl_d0 hd rfl | omega) (by first | exact Nat.le_of_ble_eq_true rfl | omega) (by first | exact Nat.le_of_ble_eq_true rfl | omega) ?_
                refine f_X0_size g (by first | exact jl_d1 hd rfl | omega) (by assumption) L2 (fun z91 e91 l091 u91 => sg_K1 ?_)
                rw [l86] at e91
                try rw [fa_tlen] at e91
                have e91' : z91 = ((fs_strip L).length : Int) := by rw [e91, fs_stripE rr]
                first | refine sg_isubB (pc := 94) (dc_X5_strip_63.2.2.2.2) (by omega) (by omega) ?_ | refine sg_isub (pc := 94) (dc_X5_strip_63.2.2.2.2) ?_
                refine sg_iret (pc := 95) dc_X5_strip_95 rfl (by first | exact Nat.le_of_ble_eq_true rfl | omega) (by first | exact Nat.le_of_ble_eq_true rfl | omega) ?_
                exact hQ (by omega) _ _ (by rw [e91', e18]) (cf_put (i := row.toNat) hx fr14 ho14 P14 x86 f86 (by omega) (by omega) (by rw [l86, fs_stripE rr])) (ck_Ft F14 f86.1)
              · first | refine sg_iincB (pc := 75) (dc_X5_strip_63.1.2.2.1) rfl (by decide) (by decide) (by omega) (by omega) ?_ | refine sg_iinc (pc := 75) (dc_X5_strip_63.1.2.2.1) rfl (by decide) (by decide) ?_
                refine sg_goto (pc := 78) (tgt := 53) (dc_X5_strip_63.1.2.2.2) (by decide) ?_
                refine sg_lsub (lv' := [(5, _), (4, _), (3, _), (0, _), (2, _)]) ⟨rfl, rfl, rfl, rfl, rfl, trivial⟩ ?_
                exact ihb _ (by omega) (fun j j0 j1 => by
                  by_cases q : j = (e - 1).toNat
                  · subst q; unfold fs_W; omega
                  · exact e1 j (by omega) j1) (by first | exact jl_m1 hm (by omega) | exact jl_m2 hm (by omega) | omega)
        refine sg_lsub (lv' := [(5, _), (4, _), (3, _), (0, _), (2, _)]) ⟨rfl, rfl, rfl, rfl, rfl, trivial⟩ ?_
        exact loop53 _ _ (by omega) (fun j j0 j1 => absurd j1 (by omega)) (Nat.lt_succ_self _)
      · refine sg_aload_n (pc := 31) (j := 2) (dc_X5_strip_28.1.1.1.2) rfl rfl ?_
        refine sg_iload (pc := 32) (dc_X5_strip_28.1.1.2.1) rfl ?_
        refine sg_cE1 (pc := 34) (d' := d - 1) (mc' := 0) (ms' := 0) 3 g (dc_X5_strip_28.1.1.2.2) cb_X0_get ml_X5_75 mn_X0_get rfl mv_X0_get (Nat.le_of_ble_eq_true rfl) (ck_lc (by assumption) (by first | assumption | exact ck_rev)) (Nat.le_of_ble_eq_true rfl) (by first | exact jl_d0 hd rfl | omega) (by first | exact Nat.le_of_ble_eq_true rfl | omega) (by first | exact Nat.le_of_ble_eq_true rfl | omega) ?_
        refine f_X0_get g (by first | exact jl_d1 hd rfl | omega) (by assumption) L2 (fun z34 e34 v34 => sg_K1 ?_)
        rw [q14a2] at e34
        rw [q14a2] at v34
        try rw [fa_tg (by omega) (by omega)] at e34
        rw [gg_in (by omega) (by omega)] at e34
        subst e34
        refine sg_iconst (pc := 37) (z := 3) (dc_X5_strip_28.1.2.1.1) (by decide) ?_
        refine sg_cS2 (pc := 38) (d' := d - 1) (mc' := 0) (ms' := 0) g (dc_X5_strip_28.1.2.1.2) cb_X2_isOf ml_X5_96 ms_X2_isOf (Nat.le_of_ble_eq_true rfl) (by first | exact jl_d0 hd rfl | omega) (by first | exact Nat.le_of_ble_eq_true rfl | omega) (by first | exact Nat.le_of_ble_eq_true rfl | omega) ?_
        refine s_X2_isOf g (by first | exact jl_d1 hd rfl | omega) (fun z38 h38 b38 => sg_K1 ?_)
        refine sg_if_eq (pc := 41) (tgt := 50) (dc_X5_strip_28.1.2.2.1) (by decide) (fun c41 => ?_) (fun c41 => ?_)
        · have b2 : b.toNat = L.length ∨ ¬ fs_W L b.toNat := Or.inr (by unfold fs_W; omega)
          refine sg_iload_n (pc := 50) (j := 3) (dc_X5_strip_28.2.1.1.2) rfl rfl ?_
          refine sg_istore (pc := 51) (dc_X5_strip_28.2.1.2.1) (by decide) ?_
          have loop53 : ∀ (N : Nat) (e : Int), (b ≤ e ∧ e ≤ (L.length : Int)) → (∀ j : Nat, e ≤ (j : Int) → j < L.length → fs_W L j) → e.toNat < N → sg_R w mi_X5_strip d 8 48 Q 53 [(5, sg_i e), (4, sg_i b), (3, sg_i z18), (0, sg_r B), (2, sg_r a2)] [] h14 1 6 := by
            intro N
            induction N with
            | zero => intro e e0 e1 hm; exact absurd hm (Nat.not_lt_zero _)
            | succ N ihb =>
              intro e e0 e1 hm
              refine sg_iload (pc := 53) (dc_X5_strip_28.2.1.2.2) rfl ?_
              refine sg_iload (pc := 55) (dc_X5_strip_28.2.2.1.1) rfl ?_
              refine sg_icmp_le (pc := 57) (tgt := 81) (dc_X5_strip_28.2.2.1.2) (by decide) (fun c57 => ?_) (fun c57 => ?_)
              · have rr : fs_R L b.toNat e.toNat := ⟨by omega, by omega, fun j hj => b1 j (by omega), b2, fun j j0 j1 => e1 j (by omega) j1, by first | exact Or.inl (by omega) | (refine Or.inr ?_; rw [show e.toNat - 1 = (e - 1).toNat by omega]; unfold fs_W; omega)⟩
                have sl := fs_stripl rr
                refine sg_aload_n (pc := 81) (j := 2) (dc_X5_strip_63.2.1.1.1) rfl rfl ?_
                refine sg_iload (pc := 82) (dc_X5_strip_63.2.1.1.2) rfl ?_
                refine sg_iload (pc := 84) (dc_X5_strip_63.2.1.2.1) rfl ?_
                refine sg_cE2 (pc := 86) (d' := d - 1) (mc' := 0) (ms' := 0) 3 g (dc_X5_strip_63.2.1.2.2) cb_X0_narrow ml_X5_103 mn_X0_narrow rfl mv_X0_narrow (Nat.le_of_ble_eq_true rfl) (ck_lc (by assumption) (by first | assumption | exact ck_rev)) (Nat.le_of_ble_eq_true rfl) (by first | exact jl_d0 hd rfl | omega) (by first | exact Nat.le_of_ble_eq_true rfl | omega) (by first | exact Nat.le_of_ble_eq_true rfl | omega) ?_
                refine f_X0_narrow g (by first | exact jl_d1 hd rfl | omega) (by assumption) L2 (by first | omega | (rw [q14a2]; omega)) (by first | omega | (rw [q14a2]; omega)) (by first | omega | (rw [q14a2]; omega)) (fun h86 x86 f86 l86 => sg_K0 ?_)
                rw [q14a2] at l86
                have y86 := ck_Yt (h0 := h) (by assumption) x86 f86.1
                refine sg_iload_n (pc := 89) (j := 3) (dc_X5_strip_63.2.2.1.1) rfl rfl ?_
                refine sg_aload_n (pc := 90) (j := 2) (dc_X5_strip_63.2.2.1.2) rfl rfl ?_
                refine sg_cE0 (pc := 91) (d' := d - 1) (mc' := 0) (ms' := 0) 3 g (dc_X5_strip_63.2.2.2.1) cb_X0_size ml_X5_63 mn_X0_size rfl mv_X0_size (Nat.le_of_ble_eq_true rfl) (ck_lc (by assumption) (by first | assumption | exact ck_rev)) (Nat.le_of_ble_eq_true rfl) (by first | exact jl_d0 hd rfl | omega) (by first | exact Nat.le_of_ble_eq_true rfl | omega) (by first | exact Nat.le_of_ble_eq_true rfl | omega) ?_
                refine f_X0_size g (by first | exact jl_d1 hd rfl | omega) (by assumption) L2 (fun z91 e91 l091 u91 => sg_K1 ?_)
                rw [l86] at e91
                try rw [fa_tlen] at e91
                have e91' : z91 = ((fs_strip L).length : Int) := by rw [e91, fs_stripE rr]
                first | refine sg_isubB (pc := 94) (dc_X5_strip_63.2.2.2.2) (by omega) (by omega) ?_ | refine sg_isub (pc := 94) (dc_X5_strip_63.2.2.2.2) ?_
                refine sg_iret (pc := 95) dc_X5_strip_95 rfl (by first | exact Nat.le_of_ble_eq_true rfl | omega) (by first | exact Nat.le_of_ble_eq_true rfl | omega) ?_
                exact hQ (by omega) _ _ (by rw [e91', e18]) (cf_put (i := row.toNat) hx fr14 ho14 P14 x86 f86 (by omega) (by omega) (by rw [l86, fs_stripE rr])) (ck_Ft F14 f86.1)
              · refine sg_aload_n (pc := 60) (j := 2) (dc_X5_strip_28.2.2.2.1) rfl rfl ?_
                refine sg_iload (pc := 61) (dc_X5_strip_28.2.2.2.2) rfl ?_
                refine sg_iconst (pc := 63) (z := 1) (dc_X5_strip_63.1.1.1.1) (by decide) ?_
                first | refine sg_isubB (pc := 64) (dc_X5_strip_63.1.1.1.2) (by omega) (by omega) ?_ | refine sg_isub (pc := 64) (dc_X5_strip_63.1.1.1.2) ?_
                refine sg_cE1 (pc := 65) (d' := d - 1) (mc' := 0) (ms' := 0) 3 g (dc_X5_strip_63.1.1.2.1) cb_X0_get ml_X5_75 mn_X0_get rfl mv_X0_get (Nat.le_of_ble_eq_true rfl) (ck_lc (by assumption) (by first | assumption | exact ck_rev)) (Nat.le_of_ble_eq_true rfl) (by first | exact jl_d0 hd rfl | omega) (by first | exact Nat.le_of_ble_eq_true rfl | omega) (by first | exact Nat.le_of_ble_eq_true rfl | omega) ?_
                refine f_X0_get g (by first | exact jl_d1 hd rfl | omega) (by assumption) L2 (fun z65 e65 v65 => sg_K1 ?_)
                rw [q14a2] at e65
                rw [q14a2] at v65
                try rw [fa_tg (by omega) (by omega)] at e65
                rw [gg_in (by omega) (by omega)] at e65
                subst e65
                refine sg_iconst (pc := 68) (z := 3) (dc_X5_strip_63.1.1.2.2) (by decide) ?_
                refine sg_cS2 (pc := 69) (d' := d - 1) (mc' := 0) (ms' := 0) g (dc_X5_strip_63.1.2.1.1) cb_X2_isOf ml_X5_96 ms_X2_isOf (Nat.le_of_ble_eq_true rfl) (by first | exact jl_d0 hd rfl | omega) (by first | exact Nat.le_of_ble_eq_true rfl | omega) (by first | exact Nat.le_of_ble_eq_true rfl | omega) ?_
                refine s_X2_isOf g (by first | exact jl_d1 hd rfl | omega) (fun z69 h69 b69 => sg_K1 ?_)
                refine sg_if_eq (pc := 72) (tgt := 81) (dc_X5_strip_63.1.2.1.2) (by decide) (fun c72 => ?_) (fun c72 => ?_)
                · have rr : fs_R L b.toNat e.toNat := ⟨by omega, by omega, fun j hj => b1 j (by omega), b2, fun j j0 j1 => e1 j (by omega) j1, by first | exact Or.inl (by omega) | (refine Or.inr ?_; rw [show e.toNat - 1 = (e - 1).toNat by omega]; unfold fs_W; omega)⟩
                  have sl := fs_stripl rr
                  refine sg_aload_n (pc := 81) (j := 2) (dc_X5_strip_63.2.1.1.1) rfl rfl ?_
                  refine sg_iload (pc := 82) (dc_X5_strip_63.2.1.1.2) rfl ?_
                  refine sg_iload (pc := 84) (dc_X5_strip_63.2.1.2.1) rfl ?_
                  refine sg_cE2 (pc := 86) (d' := d - 1) (mc' := 0) (ms' := 0) 3 g (dc_X5_strip_63.2.1.2.2) cb_X0_narrow ml_X5_103 mn_X0_narrow rfl mv_X0_narrow (Nat.le_of_ble_eq_true rfl) (ck_lc (by assumption) (by first | assumption | exact ck_rev)) (Nat.le_of_ble_eq_true rfl) (by first | exact jl_d0 hd rfl | omega) (by first | exact Nat.le_of_ble_eq_true rfl | omega) (by first | exact Nat.le_of_ble_eq_true rfl | omega) ?_
                  refine f_X0_narrow g (by first | exact jl_d1 hd rfl | omega) (by assumption) L2 (by first | omega | (rw [q14a2]; omega)) (by first | omega | (rw [q14a2]; omega)) (by first | omega | (rw [q14a2]; omega)) (fun h86 x86 f86 l86 => sg_K0 ?_)
                  rw [q14a2] at l86
                  have y86 := ck_Yt (h0 := h) (by assumption) x86 f86.1
                  refine sg_iload_n (pc := 89) (j := 3) (dc_X5_strip_63.2.2.1.1) rfl rfl ?_
                  refine sg_aload_n (pc := 90) (j := 2) (dc_X5_strip_63.2.2.1.2) rfl rfl ?_
                  refine sg_cE0 (pc := 91) (d' := d - 1) (mc' := 0) (ms' := 0) 3 g (dc_X5_strip_63.2.2.2.1) cb_X0_size ml_X5_63 mn_X0_size rfl mv_X0_size (Nat.le_of_ble_eq_true rfl) (ck_lc (by assumption) (by first | assumption | exact ck_rev)) (Nat.le_of_ble_eq_true rfl) (by first | exact jl_d0 hd rfl | omega) (by first | exact Nat.le_of_ble_eq_true rfl | omega) (by first | exact Nat.le_of_ble_eq_true rfl | omega) ?_
                  refine f_X0_size g (by first | exact jl_d1 hd rfl | omega) (by assumption) L2 (fun z91 e91 l091 u91 => sg_K1 ?_)
                  rw [l86] at e91
                  try rw [fa_tlen] at e91
                  have e91' : z91 = ((fs_strip L).length : Int) := by rw [e91, fs_stripE rr]
                  first | refine sg_isubB (pc := 94) (dc_X5_strip_63.2.2.2.2) (by omega) (by omega) ?_ | refine sg_isub (pc := 94) (dc_X5_strip_63.2.2.2.2) ?_
                  refine sg_iret (pc := 95) dc_X5_strip_95 rfl (by first | exact Nat.le_of_ble_eq_true rfl | omega) (by first | exact Nat.le_of_ble_eq_true rfl | omega) ?_
                  exact hQ (by omega) _ _ (by rw [e91', e18]) (cf_put (i := row.toNat) hx fr14 ho14 P14 x86 f86 (by omega) (by omega) (by rw [l86, fs_stripE rr])) (ck_Ft F14 f86.1)
                · first | refine sg_iincB (pc := 75) (dc_X5_strip_63.1.2.2.1) rfl (by decide) (by decide) (by omega) (by omega) ?_ | refine sg_iinc (pc := 75) (dc_X5_strip_63.1.2.2.1) rfl (by decide) (by decide) ?_
                  refine sg_goto (pc := 78) (tgt := 53) (dc_X5_strip_63.1.2.2.2) (by decide) ?_
                  refine sg_lsub (lv' := [(5, _), (4, _), (3, _), (0, _), (2, _)]) ⟨rfl, rfl, rfl, rfl, rfl, trivial⟩ ?_
                  exact ihb _ (by omega) (fun j j0 j1 => by
                    by_cases q : j = (e - 1).toNat
                    · subst q; unfold fs_W; omega
                    · exact e1 j (by omega) j1) (by first | exact jl_m1 hm (by omega) | exact jl_m2 hm (by omega) | omega)
          refine sg_lsub (lv' := [(5, _), (4, _), (3, _), (0, _), (2, _)]) ⟨rfl, rfl, rfl, rfl, rfl, trivial⟩ ?_
          exact loop53 _ _ (by omega) (fun j j0 j1 => absurd j1 (by omega)) (Nat.lt_succ_self _)
        · first | refine sg_iincB (pc := 44) (dc_X5_strip_28.1.2.2.2) rfl (by decide) (by decide) (by omega) (by omega) ?_ | refine sg_iinc (pc := 44) (dc_X5_strip_28.1.2.2.2) rfl (by decide) (by decide) ?_
          refine sg_goto (pc := 47) (tgt := 25) (dc_X5_strip_28.2.1.1.1) (by decide) ?_
          refine sg_lsub (lv' := [(4, _), (3, _), (0, _), (2, _)]) ⟨rfl, rfl, rfl, rfl, trivial⟩ ?_
          exact ih _ (by omega) (fun j j0 => by
            by_cases q : j = b.toNat
            · subst q; unfold fs_W; omega
            · exact b1 j (by omega)) (by first | exact jl_m1 hm (by omega) | exact jl_m2 hm (by omega) | omega)
  refine sg_lsub (lv' := [(4, _), (3, _), (0, _), (2, _)]) ⟨rfl, rfl, rfl, rfl, trivial⟩ ?_
  exact loop25 _ _ (by omega) (fun j j0 => absurd j0 (by omega)) (Nat.lt_succ_self _)

set_option maxRecDepth 100000 in
theorem f_X2_shifted {w : sg_W} {Q : sg_O → sg_H → Prop} {h : sg_H} (g : sg_G w) {d : Nat} (hd : 3 ≤ d) {x r m : Int} (x0 : 0 ≤ x) (x1 : x ≤ 999999) (r0 : 2 ≤ r ∧ r ≤ 36) (m0 : 0 ≤ m ∧ m ≤ 100) (hQ : ∀ z : Int, z = x / r ^ m.toNat → Q (.inl (some (sg_i z))) h) : sg_C w mi_X2_shifted d 0 0 [sg_i x, sg_i r, sg_i m] h Q := by
  refine sg_of pn_X2 (Nat.le_of_ble_eq_true rfl) ?_
  refine sg_iload_n (pc := 0) (j := 1) (dc_X2_shifted_0.1.1.1.1) rfl rfl ?_
  refine sg_cS1 (pc := 1) (d' := d - 1) (mc' := 0) (ms' := 0) g (dc_X2_shifted_0.1.1.1.2) cb_X2_isRadix ml_X2_36 ms_X2_isRadix (Nat.le_of_ble_eq_true rfl) (by first | exact jl_d0 hd rfl | omega) (by first | exact Nat.le_of_ble_eq_true rfl | omega) (by first | exact Nat.le_of_ble_eq_true rfl | omega) ?_
  refine s_X2_isRadix g (by first | exact jl_d1 hd rfl | omega) (fun z1 h1 b1 => sg_K1 ?_)
  (try simp only [fn_radix] at h1)
  refine sg_if_ne (pc := 4) (tgt := 9) (dc_X2_shifted_0.1.1.2.1) (by decide) (fun c4 => ?_) (fun c4 => ?_)
  · refine sg_iload_n (pc := 9) (j := 0) (dc_X2_shifted_0.1.2.1.2) rfl rfl ?_
    refine sg_istore_n (pc := 10) (j := 3) (dc_X2_shifted_0.1.2.2.1) rfl (by decide) ?_
    refine sg_iconst (pc := 11) (z := 0) (dc_X2_shifted_0.1.2.2.2) (by decide) ?_
    refine sg_istore (pc := 12) (dc_X2_shifted_0.2.1.1.1) (by decide) ?_
    have loop14 : ∀ (N : Nat) (k s : Int), (0 ≤ k ∧ k ≤ m) → (s = x / r ^ k.toNat) → (m - k).toNat < N → sg_R w mi_X2_shifted d 0 0 Q 14 [(4, sg_i k), (3, sg_i s), (0, sg_i x), (1, sg_i r), (2, sg_i m)] [] h 0 0 := by
      intro N
      induction N with
      | zero => intro k s k0 s0 hm; exact absurd hm (Nat.not_lt_zero _)
      | succ N ih =>
        intro k s k0 s0 hm
        have pd := fs_dp (k := k.toNat) (r := r) x0 (by omega)
        rw [← s0] at pd
        refine sg_iload (pc := 14) (dc_X2_shifted_0.2.1.1.2) rfl ?_
        refine sg_iload_n (pc := 16) (j := 2) (dc_X2_shifted_0.2.1.2.1) rfl rfl ?_
        refine sg_icmp_ge (pc := 17) (tgt := 30) (dc_X2_shifted_0.2.1.2.2) (by decide) (fun c17 => ?_) (fun c17 => ?_)
        · refine sg_iload_n (pc := 30) (j := 3) (dc_X2_shifted_24.2.1) rfl rfl ?_
          refine sg_iret (pc := 31) (dc_X2_shifted_24.2.2) rfl (by first | exact Nat.le_of_ble_eq_true rfl | omega) (by first | exact Nat.le_of_ble_eq_true rfl | omega) ?_
          first | exact hQ _ (by rw [s0, show k = m by omega]) | (exfalso; omega)
        · refine sg_iload_n (pc := 20) (j := 3) (dc_X2_shifted_0.2.2.1.1) rfl rfl ?_
          refine sg_iload_n (pc := 21) (j := 1) (dc_X2_shifted_0.2.2.1.2) rfl rfl ?_
          first | refine sg_idivP (pc := 22) (dc_X2_shifted_0.2.2.2.1) (by omega) (by omega) (by omega) ?_ | refine sg_idiv (pc := 22) (dc_X2_shifted_0.2.2.2.1) (by first | omega | assumption) ?_
          refine sg_istore_n (pc := 23) (j := 3) (dc_X2_shifted_0.2.2.2.2) rfl (by decide) ?_
          first | refine sg_iincB (pc := 24) (dc_X2_shifted_24.1.1) rfl (by decide) (by decide) (by omega) (by omega) ?_ | refine sg_iinc (pc := 24) (dc_X2_shifted_24.1.1) rfl (by decide) (by decide) ?_
          refine sg_goto (pc := 27) (tgt := 14) (dc_X2_shifted_24.1.2) (by decide) ?_
          refine sg_lsub (lv' := [(4, _), (3, _), (0, _), (1, _), (2, _)]) ⟨rfl, rfl, rfl, rfl, rfl, trivial⟩ ?_
          exact ih _ _ (by omega) (by rw [show (k + 1).toNat = k.toNat + 1 by omega, ← fs_dv x0 (by omega), s0]) (by first | exact jl_m1 hm (by omega) | exact jl_m2 hm (by omega) | omega)
    refine sg_lsub (lv' := [(4, _), (3, _), (0, _), (1, _), (2, _)]) ⟨rfl, rfl, rfl, rfl, rfl, trivial⟩ ?_
    exact loop14 _ _ _ (by omega) (by simp) (Nat.lt_succ_self _)
  · refine sg_iconst (pc := 7) (z := 0) (dc_X2_shifted_0.1.1.2.2) (by decide) ?_
    refine sg_iret (pc := 8) (dc_X2_shifted_0.1.2.1.1) rfl (by first | exact Nat.le_of_ble_eq_true rfl | omega) (by first | exact Nat.le_of_ble_eq_true rfl | omega) ?_
    first | exact hQ _ (by rw [s0, show k = m by omega]) | (exfalso; omega)

set_option maxRecDepth 100000 in
theorem f_X2_digitsOf {w : sg_W} {Q : sg_O → sg_H → Prop} {h : sg_H} (g : sg_G w) {d : Nat} (hd : 4 ≤ d) {x r : Int} (x0 : 0 ≤ x) (x1 : x ≤ 999999) (r0 : 2 ≤ r ∧ r ≤ 36) (hQ : ∀ z : Int, 1 ≤ z → z ≤ 20 → fs_dn x r z.toNat → Q (.inl (some (sg_i z))) h) : sg_C w mi_X2_digitsOf d 0 0 [sg_i x, sg_i r] h Q := by
  refine sg_of pn_X2 (Nat.le_of_ble_eq_true rfl) ?_
  refine sg_iconst (pc := 0) (z := 1) (dc_X2_digitsOf_0.1.1.1.1) (by decide) ?_
  refine sg_istore_n (pc := 1) (j := 2) (dc_X2_digitsOf_0.1.1.1.2) rfl (by decide) ?_
  have loop2 : ∀ (N : Nat) (k : Int), (1 ≤ k ∧ k ≤ 20) → (∀ j : Nat, 1 ≤ j → (j : Int) < k → x / r ^ j ≠ 0) → (20 - k).toNat < N → sg_R w mi_X2_digitsOf d 0 0 Q 2 [(2, sg_i k), (0, sg_i x), (1, sg_i r)] [] h 0 0 := by
    intro N
    induction N with
    | zero => intro k k0 k1 hm; exact absurd hm (Nat.not_lt_zero _)
    | succ N ih =>
      intro k k0 k1 hm
      refine sg_iload_n (pc := 2) (j := 2) (dc_X2_digitsOf_0.1.1.2.1) rfl rfl ?_
      refine sg_bipush (pc := 3) (z := 20) (dc_X2_digitsOf_0.1.1.2.2) (by decide) ?_
      refine sg_icmp_ge (pc := 5) (tgt := 23) (dc_X2_digitsOf_0.1.2.1.1) (by decide) (fun c5 => ?_) (fun c5 => ?_)
      · refine sg_iload_n (pc := 23) (j := 2) (dc_X2_digitsOf_0.2.2.1.1) rfl rfl ?_
        refine sg_iret (pc := 24) (dc_X2_digitsOf_0.2.2.1.2) rfl (by first | exact Nat.le_of_ble_eq_true rfl | omega) (by first | exact Nat.le_of_ble_eq_true rfl | omega) ?_
        first | exact hQ _ (by omega) (by omega) ⟨by omega, by rw [show k.toNat = 20 by omega]; exact fs_d20 x0 x1 (by omega), fun j j0 j1 => k1 j j0 (by omega)⟩ | exact hQ _ (by omega) (by omega) ⟨by omega, by have := fs_dp (k := k.toNat) (r := r) x0 (by omega); omega, fun j j0 j1 => k1 j j0 (by omega)⟩
      · refine sg_iload_n (pc := 8) (j := 0) (dc_X2_digitsOf_0.1.2.1.2) rfl rfl ?_
        refine sg_iload_n (pc := 9) (j := 1) (dc_X2_digitsOf_0.1.2.2.1) rfl rfl ?_
        refine sg_iload_n (pc := 10) (j := 2) (dc_X2_digitsOf_0.1.2.2.2) rfl rfl ?_
        refine sg_cS3 (pc := 11) (d' := d - 1) (mc' := 0) (ms' := 0) g (dc_X2_digitsOf_0.2.1.1.1) cb_X2_shifted ml_X2_39 ms_X2_shifted (Nat.le_of_ble_eq_true rfl) (by first | exact jl_d0 hd rfl | omega) (by first | exact Nat.le_of_ble_eq_true rfl | omega) (by first | exact Nat.le_of_ble_eq_true rfl | omega) ?_
        refine f_X2_shifted g (by first | exact jl_d1 hd rfl | omega) (by omega) (by omega) (by omega) (by omega) (fun z11 h11 => sg_K1 ?_)
        refine sg_if_le (pc := 14) (tgt := 23) (dc_X2_digitsOf_0.2.1.1.2) (by decide) (fun c14 => ?_) (fun c14 => ?_)
        · refine sg_iload_n (pc := 23) (j := 2) (dc_X2_digitsOf_0.2.2.1.1) rfl rfl ?_
          refine sg_iret (pc := 24) (dc_X2_digitsOf_0.2.2.1.2) rfl (by first | exact Nat.le_of_ble_eq_true rfl | omega) (by first | exact Nat.le_of_ble_eq_true rfl | omega) ?_
          first | exact hQ _ (by omega) (by omega) ⟨by omega, by rw [show k.toNat = 20 by omega]; exact fs_d20 x0 x1 (by omega), fun j j0 j1 => k1 j j0 (by omega)⟩ | exact hQ _ (by omega) (by omega) ⟨by omega, by have := fs_dp (k := k.toNat) (r := r) x0 (by omega); omega, fun j j0 j1 => k1 j j0 (by omega)⟩
        · first | refine sg_iincB (pc := 17) (dc_X2_digitsOf_0.2.1.2.1) rfl (by decide) (by decide) (by omega) (by omega) ?_ | refine sg_iinc (pc := 17) (dc_X2_digitsOf_0.2.1.2.1) rfl (by decide) (by decide) ?_
          refine sg_goto (pc := 20) (tgt := 2) (dc_X2_digitsOf_0.2.1.2.2) (by decide) ?_
          refine sg_lsub (lv' := [(2, _), (0, _), (1, _)]) ⟨rfl, rfl, rfl, trivial⟩ ?_
          exact ih _ (by omega) (fun j j0 j1 => by
            by_cases q : j = k.toNat
            · subst q; omega
            · exact k1 j j0 (by omega)) (by first | exact jl_m1 hm (by omega) | exact jl_m2 hm (by omega) | omega)
  refine sg_lsub (lv' := [(2, _), (0, _), (1, _)]) ⟨rfl, rfl, rfl, trivial⟩ ?_
  exact loop2 _ _ (by omega) (fun j j0 j1 => absurd j1 (by omega)) (Nat.lt_succ_self _)

set_option maxRecDepth 100000 in
theorem f_X2_digitNumber {w : sg_W} {Q : sg_O → sg_H → Prop} {h : sg_H} (g : sg_G w) {d : Nat} (hd : 4 ≤ d) {x r m : Int} (x0 : 0 ≤ x) (x1 : x ≤ 999999) (r0 : 2 ≤ r ∧ r ≤ 36) (m0 : 0 ≤ m ∧ m ≤ 100) (hQ : ∀ z : Int, z = x / r ^ m.toNat % r → Q (.inl (some (sg_i z))) h) : sg_C w mi_X2_digitNumber d 0 0 [sg_i x, sg_i r, sg_i m] h Q := by
  refine sg_of pn_X2 (Nat.le_of_ble_eq_true rfl) ?_
  refine sg_iload_n (pc := 0) (j := 1) (dc_X2_digitNumber_0.1.1.1.1) rfl rfl ?_
  refine sg_cS1 (pc := 1) (d' := d - 1) (mc' := 0) (ms' := 0) g (dc_X2_digitNumber_0.1.1.1.2) cb_X2_isRadix ml_X2_36 ms_X2_isRadix (Nat.le_of_ble_eq_true rfl) (by first | exact jl_d0 hd rfl | omega) (by first | exact Nat.le_of_ble_eq_true rfl | omega) (by first | exact Nat.le_of_ble_eq_true rfl | omega) ?_
  refine s_X2_isRadix g (by first | exact jl_d1 hd rfl | omega) (fun z1 h1 b1 => sg_K1 ?_)
  (try simp only [fn_radix] at h1)
  refine sg_if_eq (pc := 4) (tgt := 18) (dc_X2_digitNumber_0.1.1.2.1) (by decide) (fun c4 => ?_) (fun c4 => ?_)
  · refine sg_iconst (pc := 18) (z := 0) (dc_X2_digitNumber_0.2.1.2.1) (by decide) ?_
    refine sg_iret (pc := 19) (dc_X2_digitNumber_0.2.1.2.2) rfl (by first | exact Nat.le_of_ble_eq_true rfl | omega) (by first | exact Nat.le_of_ble_eq_true rfl | omega) ?_
    first | exact hQ _ rfl | (exfalso; omega)
  · refine sg_iload_n (pc := 7) (j := 0) (dc_X2_digitNumber_0.1.1.2.2) rfl rfl ?_
    refine sg_iload_n (pc := 8) (j := 1) (dc_X2_digitNumber_0.1.2.1.1) rfl rfl ?_
    refine sg_iload_n (pc := 9) (j := 2) (dc_X2_digitNumber_0.1.2.1.2) rfl rfl ?_
    refine sg_cS3 (pc := 10) (d' := d - 1) (mc' := 0) (ms' := 0) g (dc_X2_digitNumber_0.1.2.2.1) cb_X2_shifted ml_X2_39 ms_X2_shifted (Nat.le_of_ble_eq_true rfl) (by first | exact jl_d0 hd rfl | omega) (by first | exact Nat.le_of_ble_eq_true rfl | omega) (by first | exact Nat.le_of_ble_eq_true rfl | omega) ?_
    refine f_X2_shifted g (by first | exact jl_d1 hd rfl | omega) (by omega) (by omega) (by omega) (by omega) (fun z10 h10 => sg_K1 ?_)
    refine sg_iload_n (pc := 13) (j := 1) (dc_X2_digitNumber_0.1.2.2.2) rfl rfl ?_
    have pd := fs_dp (k := m.toNat) (r := r) x0 (by omega)
    rw [h10]
    refine sg_iremP (pc := 14) (dc_X2_digitNumber_0.2.1.1.1) (by omega) (by omega) ?_
    refine sg_goto (pc := 15) (tgt := 19) (dc_X2_digitNumber_0.2.1.1.2) (by decide) ?_
    refine sg_iret (pc := 19) (dc_X2_digitNumber_0.2.1.2.2) rfl (by first | exact Nat.le_of_ble_eq_true rfl | omega) (by first | exact Nat.le_of_ble_eq_true rfl | omega) ?_
    first | exact hQ _ rfl | (exfalso; omega)

set_option maxRecDepth 100000 in
theorem f_X2_firstSpelled {w : sg_W} {Q : sg_O → sg_H → Prop} {h : sg_H} (g : sg_G w) {d : Nat} (hd : 4 ≤ d) {x : Int} (x0 : 0 ≤ x ∧ x ≤ 255) (hQ : ∀ z : Int, z = fn_digit (x / 16) 16 → Q (.inl (some (sg_i z))) h) : sg_C w mi_X2_firstSpelled d 0 0 [sg_i x] h Q := by
  refine sg_of pn_X2 (Nat.le_of_ble_eq_true rfl) ?_
  refine sg_iload_n (pc := 0) (j := 0) (dc_X2_firstSpelled_0.1.1.1) rfl rfl ?_
  refine sg_bipush (pc := 1) (z := 16) (dc_X2_firstSpelled_0.1.1.2) (by decide) ?_
  first | refine sg_idivP (pc := 3) (dc_X2_firstSpelled_0.1.2.1) (by omega) (by omega) (by omega) ?_ | refine sg_idiv (pc := 3) (dc_X2_firstSpelled_0.1.2.1) (by first | omega | assumption) ?_
  refine sg_bipush (pc := 4) (z := 16) (dc_X2_firstSpelled_0.1.2.2) (by decide) ?_
  refine sg_cS2 (pc := 6) (d' := d - 1) (mc' := 0) (ms' := 0) g (dc_X2_firstSpelled_0.2.1.1) cb_X2_digitOf ml_X2_43 ms_X2_digitOf (Nat.le_of_ble_eq_true rfl) (by first | exact jl_d0 hd rfl | omega) (by first | exact Nat.le_of_ble_eq_true rfl | omega) (by first | exact Nat.le_of_ble_eq_true rfl | omega) ?_
  refine s_X2_digitOf g (by first | exact jl_d1 hd rfl | omega) (fun z6 h6 => sg_K1 ?_)
  refine sg_iret (pc := 9) (dc_X2_firstSpelled_0.2.1.2) rfl (by first | exact Nat.le_of_ble_eq_true rfl | omega) (by first | exact Nat.le_of_ble_eq_true rfl | omega) ?_
  exact hQ _ (by assumption)

set_option maxRecDepth 100000 in
theorem f_X2_secondSpelled {w : sg_W} {Q : sg_O → sg_H → Prop} {h : sg_H} (g : sg_G w) {d : Nat} (hd : 4 ≤ d) {x : Int} (x0 : 0 ≤ x ∧ x ≤ 255) (hQ : ∀ z : Int, z = fn_digit (x % 16) 16 → Q (.inl (some (sg_i z))) h) : sg_C w mi_X2_secondSpelled d 0 0 [sg_i x] h Q := by
  refine sg_of pn_X2 (Nat.le_of_ble_eq_true rfl) ?_
  refine sg_iload_n (pc := 0) (j := 0) (dc_X2_secondSpelled_0.1.1.1) rfl rfl ?_
  refine sg_bipush (pc := 1) (z := 16) (dc_X2_secondSpelled_0.1.1.2) (by decide) ?_
  first | refine sg_iremP (pc := 3) (dc_X2_secondSpelled_0.1.2.1) (by omega) (by omega) ?_ | refine sg_irem (pc := 3) (dc_X2_secondSpelled_0.1.2.1) (by first | omega | assumption) ?_
  refine sg_bipush (pc := 4) (z := 16) (dc_X2_secondSpelled_0.1.2.2) (by decide) ?_
  refine sg_cS2 (pc := 6) (d' := d - 1) (mc' := 0) (ms' := 0) g (dc_X2_secondSpelled_0.2.1.1) cb_X2_digitOf ml_X2_43 ms_X2_digitOf (Nat.le_of_ble_eq_true rfl) (by first | exact jl_d0 hd rfl | omega) (by first | exact Nat.le_of_ble_eq_true rfl | omega) (by first | exact Nat.le_of_ble_eq_true rfl | omega) ?_
  refine s_X2_digitOf g (by first | exact jl_d1 hd rfl | omega) (fun z6 h6 => sg_K1 ?_)
  refine sg_iret (pc := 9) (dc_X2_secondSpelled_0.2.1.2) rfl (by first | exact Nat.le_of_ble_eq_true rfl | omega) (by first | exact Nat.le_of_ble_eq_true rfl | omega) ?_
  exact hQ _ (by assumption)

set_option maxRecDepth 100000 in
theorem f_X5_write {w : sg_W} {Q : sg_O → sg_H → Prop} {h : sg_H} (g : sg_G w) {d : Nat} (hd : 14 ≤ d) {B : Nat} {A : fa_A} (hx : cf_X h B A) (ok : fa_ok A) {row number radix : Int} {L : List Int} (hL : fa_L A row.toNat = L) (hQ : ¬ (row < 0 ∨ 4 ≤ row) → ¬ (number < 0 ∨ 999999 < number ∨ radix < 2 ∨ 36 < radix) → ∀ (v : Int) (h' : sg_H), ((40 < L.length + (fs_digs number radix).length ∧ v = -9 ∧ cf_X h' B A) ∨ (L.length + (fs_digs number radix).length ≤ 40 ∧ v = ((fs_digs number radix).length : Int) ∧ cf_X h' B (fa_put A row.toNat (L ++ fs_digs number radix)))) → ck_F B h h' → Q (.inl (some (sg_i v))) h') (hXI : (row < 0 ∨ 4 ≤ row) → ∀ z, h.1 ≤ z → Q (.inr e_I) (z, h.2)) (hXA : ¬ (row < 0 ∨ 4 ≤ row) → (number < 0 ∨ 999999 < number ∨ radix < 2 ∨ 36 < radix) → ∀ z, h.1 ≤ z → Q (.inr e_A) (z, h.2)) : sg_C w mi_X5_write d 8 48 [sg_r B, sg_i row, sg_i number, sg_i radix] h Q := by
  refine sg_of pn_X5 (Nat.le_of_ble_eq_true rfl) ?_
  obtain ⟨x0, ho, hS, hP, hK⟩ := id hx
  have y0 := ck_Y0 x0
  refine sg_aload_n (pc := 0) (j := 0) (dc_X5_write_0.1.1.1.1) rfl rfl ?_
  refine sg_iload_n (pc := 1) (j := 1) (dc_X5_write_0.1.1.1.2) rfl rfl ?_
  refine sg_cE1 (pc := 2) (d' := d - 1) (mc' := 1) (ms' := 6) 6 g (dc_X5_write_0.1.1.2.1) cb_X5_rowOf ml_X5_36 mn_X5_rowOf rfl mv_X5_rowOf (Nat.le_of_ble_eq_true rfl) (ck_oc (by assumption)) (Nat.le_of_ble_eq_true rfl) (by first | exact jl_d0 hd rfl | omega) (by first | exact Nat.le_of_ble_eq_true rfl | omega) (by first | exact Nat.le_of_ble_eq_true rfl | omega) ?_
  refine f_X5_rowOf g (by first | exact jl_d1 hd rfl | omega) (by assumption) (fun l2 r2 L2 => sg_K1 ?_) (fun t2 z2 w2 => sg_KX (by first | exact Nat.le_of_ble_eq_true rfl | omega) (by first | exact Nat.le_of_ble_eq_true rfl | omega) (hXI (by omega) z2 w2))
  obtain ⟨a2, ea2⟩ : ∃ a, a = B + 1 + 3 + 2 * row.toNat := ⟨_, rfl⟩
  rw [← ea2] at L2 ⊢
  have k2 : cf_l h a2 = L := by rw [ea2, cf_rl hx (by omega)]; exact hL
  have r42 := fa_row ok (i := row.toNat) (by omega)
  rw [hL] at r42
  refine sg_astore (pc := 5) (dc_X5_write_0.1.1.2.2) (by decide) ?_
  refine sg_iload_n (pc := 7) (j := 2) (dc_X5_write_0.1.2.1.1) rfl rfl ?_
  refine sg_if_lt (pc := 8) (tgt := 17) (dc_X5_write_0.1.2.1.2) (by decide) (fun c8 => ?_) (fun c8 => ?_)
  · refine sg_throw (pc := 17) g th_X5_110_112 (dc_X5_write_0.2.1.1.2) (dc_X5_write_0.2.1.2.1) (dc_X5_write_0.2.1.2.2) (dc_X5_write_0.2.2.1.1) (dc_X5_write_0.2.2.1.2) (by first | exact Nat.le_trans (Nat.le_of_ble_eq_true rfl) hd | omega) (Nat.le_of_ble_eq_true rfl) (by first | exact Nat.le_of_ble_eq_true rfl | omega) (by first | exact Nat.le_of_ble_eq_true rfl | omega) ?_
    exact fun z hz => hXA (by omega) (by omega) z hz
  · refine sg_iload_n (pc := 11) (j := 2) (dc_X5_write_0.1.2.2.1) rfl rfl ?_
    refine sg_ldc (pc := 12) (z := 999999) g (dc_X5_write_0.1.2.2.2) cn_X5_109 (by decide) ?_
    refine sg_icmp_le (pc := 14) (tgt := 27) (dc_X5_write_0.2.1.1.1) (by decide) (fun c14 => ?_) (fun c14 => ?_)
    · refine sg_iload_n (pc := 27) (j := 3) (dc_X5_write_0.2.2.2.1) rfl rfl ?_
      refine sg_cS1 (pc := 28) (d' := d - 1) (mc' := 1) (ms' := 6) g (dc_X5_write_0.2.2.2.2) cb_X5_checkRadix ml_X5_115 ms_X5_checkRadix (Nat.le_of_ble_eq_true rfl) (by first | exact jl_d0 hd rfl | omega) (by first | exact Nat.le_of_ble_eq_true rfl | omega) (by first | exact Nat.le_of_ble_eq_true rfl | omega) ?_
      refine s_X5_checkRadix g (by first | exact jl_d1 hd rfl | omega) (fun v28 => sg_K0 ?_) (fun t28 z28 w28 => sg_KX (by first | exact Nat.le_of_ble_eq_true rfl | omega) (by first | exact Nat.le_of_ble_eq_true rfl | omega) (hXA (by omega) (by omega) z28 w28))
      refine sg_iload_n (pc := 31) (j := 2) (dc_X5_write_31.1.1.1.1) rfl rfl ?_
      refine sg_iload_n (pc := 32) (j := 3) (dc_X5_write_31.1.1.1.2) rfl rfl ?_
      refine sg_cS2 (pc := 33) (d' := d - 1) (mc' := 0) (ms' := 0) g (dc_X5_write_31.1.1.2.1) cb_X2_digitsOf ml_X5_118 ms_X2_digitsOf (Nat.le_of_ble_eq_true rfl) (by first | exact jl_d0 hd rfl | omega) (by first | exact Nat.le_of_ble_eq_true rfl | omega) (by first | exact Nat.le_of_ble_eq_true rfl | omega) ?_
      refine f_X2_digitsOf g (by first | exact jl_d1 hd rfl | omega) (by omega) (by omega) (by omega) (fun z33 l33 u33 n33 => sg_K1 ?_)
      have dl : ((fs_digs number radix).length : Int) = z33 := by rw [fs_digsE n33, tt_len]; omega
      have hc40 : ck_cap 0 = 40 := rfl
      refine sg_istore (pc := 36) (dc_X5_write_31.1.1.2.2) (by decide) ?_
      refine sg_aload (pc := 38) (dc_X5_write_31.1.2.1.1) rfl ?_
      refine sg_iload (pc := 40) (dc_X5_write_31.1.2.1.2) rfl ?_
      refine sg_cE1 (pc := 42) (d' := d - 1) (mc' := 0) (ms' := 0) 3 g (dc_X5_write_31.1.2.2.1) cb_X0_hasRoomFor ml_X5_44 mn_X0_hasRoomFor rfl mv_X0_hasRoomFor (Nat.le_of_ble_eq_true rfl) (ck_lc (by assumption) (by first | assumption | exact ck_rev)) (Nat.le_of_ble_eq_true rfl) (by first | exact jl_d0 hd rfl | omega) (by first | exact Nat.le_of_ble_eq_true rfl | omega) (by first | exact Nat.le_of_ble_eq_true rfl | omega) ?_
      refine f_X0_hasRoomFor g (by first | exact jl_d1 hd rfl | omega) (by assumption) L2 (by omega) (fun z42 b42 i42 j42 => sg_K1 ?_)
      rw [k2] at i42 j42
      refine sg_if_ne (pc := 45) (tgt := 51) (dc_X5_write_31.1.2.2.2) (by decide) (fun c45 => ?_) (fun c45 => ?_)
      · refine sg_aload_n (pc := 51) (j := 0) (dc_X5_write_31.2.1.2.1) rfl rfl ?_
        refine ck_gob (pc := 52) g (dc_X5_write_31.2.1.2.2) fk_X5_19 (by assumption) (fun _ => rfl) ?_
        refine sg_aload_n (pc := 55) (j := 0) (dc_X5_write_31.2.2.1.1) rfl rfl ?_
        refine ck_gob (pc := 56) g (dc_X5_write_31.2.2.1.2) fk_X5_10 (by assumption) (fun _ => rfl) ?_
        refine sg_cE1 (pc := 59) (d' := d - 1) (mc' := 0) (ms' := 0) 4 g (dc_X5_write_31.2.2.2.1) cb_X1_keep ml_X5_55 mn_X1_keep rfl mv_X1_keep (Nat.le_of_ble_eq_true rfl) (ck_pc (by assumption)) (Nat.le_of_ble_eq_true rfl) (by first | exact jl_d0 hd rfl | omega) (by first | exact Nat.le_of_ble_eq_true rfl | omega) (by first | exact Nat.le_of_ble_eq_true rfl | omega) ?_
        refine f_X1_keep g (by first | exact jl_d1 hd rfl | omega) x0 ho (fun h59 x59 F59 fr59 ho59 P59 => sg_K0 ?_)
        have y59 : ck_Y h h59 B := ⟨x59, F59⟩
        have q59a2 : cf_l h59 a2 = cf_l h a2 := cf_lq (fr59 _ (by omega)) (fr59 _ (by omega))
        rw [k2] at q59a2
        refine sg_iload (pc := 62) (dc_X5_write_31.2.2.2.2) rfl ?_
        refine sg_iconst (pc := 64) (z := 1) (dc_X5_write_64.1.1.1.1) (by decide) ?_
        first | refine sg_isubB (pc := 65) (dc_X5_write_64.1.1.1.2) (by omega) (by omega) ?_ | refine sg_isub (pc := 65) (dc_X5_write_64.1.1.1.2) ?_
        refine sg_istore (pc := 66) (dc_X5_write_64.1.1.2.1) (by decide) ?_
        have loop68 : ∀ (N : Nat) (h1 : sg_H) (p : Int), (ck_X h1 B) → (ck_G B a2 h59 h1) → (-1 ≤ p ∧ p < z33) → (cf_l h1 a2 = L ++ tt_b (z33 - 1 - p).toNat (fun j => fs_dg number radix (z33.toNat - 1 - j))) → (p + 1).toNat < N → sg_R w mi_X5_write d 8 48 Q 68 [(6, sg_i p), (5, sg_i z33), (0, sg_r B), (2, sg_i number), (3, sg_i radix), (4, sg_r a2)] [] h1 2 12 := by
          intro N
          induction N with
          | zero => intro h1 p x1 G1 p0 l1 hm; exact absurd hm (Nat.not_lt_zero _)
          | succ N ih =>
            intro h1 p x1 G1 p0 l1 hm
            have y1 : ck_Y h h1 B := ⟨x1, ck_Ft F59 G1.1⟩
            refine sg_iload (pc := 68) (dc_X5_write_64.1.1.2.2) rfl ?_
            refine sg_if_lt (pc := 70) (tgt := 95) (dc_X5_write_64.1.2.1.1) (by decide) (fun c70 => ?_) (fun c70 => ?_)
            · refine sg_iload (pc := 95) (dc_X5_write_64.2.2.2.2) rfl ?_
              refine sg_iret (pc := 97) dc_X5_write_97 rfl (by first | exact Nat.le_of_ble_eq_true rfl | omega) (by first | exact Nat.le_of_ble_eq_true rfl | omega) ?_
              first
                | (exact hQ (by omega) (by omega) _ _ (Or.inl ⟨by omega, rfl, hx⟩) ck_F0)
                | (exact hQ (by omega) (by omega) _ _ (Or.inr ⟨by omega, by omega, cf_put (i := row.toNat) hx fr59 ho59 P59 x1 G1 (by omega) (by omega) (by rw [l1, show (z33 - 1 - p).toNat = z33.toNat by omega, ← fs_digsE n33])⟩) (ck_Ft F59 G1.1))
            · refine sg_aload (pc := 73) (dc_X5_write_64.1.2.1.2) rfl ?_
              refine sg_iload_n (pc := 75) (j := 2) (dc_X5_write_64.1.2.2.1) rfl rfl ?_
              refine sg_iload_n (pc := 76) (j := 3) (dc_X5_write_64.1.2.2.2) rfl rfl ?_
              refine sg_iload (pc := 77) (dc_X5_write_64.2.1.1.1) rfl ?_
              refine sg_cS3 (pc := 79) (d' := d - 1) (mc' := 0) (ms' := 0) g (dc_X5_write_64.2.1.1.2) cb_X2_digitNumber ml_X5_122 ms_X2_digitNumber (Nat.le_of_ble_eq_true rfl) (by first | exact jl_d0 hd rfl | omega) (by first | exact Nat.le_of_ble_eq_true rfl | omega) (by first | exact Nat.le_of_ble_eq_true rfl | omega) ?_
              refine f_X2_digitNumber g (by first | exact jl_d1 hd rfl | omega) (by omega) (by omega) (by omega) (by omega) (fun z79 h79 => sg_K1 ?_)
              refine sg_iload_n (pc := 82) (j := 3) (dc_X5_write_64.2.1.2.1) rfl rfl ?_
              refine sg_cS2 (pc := 83) (d' := d - 1) (mc' := 0) (ms' := 0) g (dc_X5_write_64.2.1.2.2) cb_X2_digitOf ml_X5_126 ms_X2_digitOf (Nat.le_of_ble_eq_true rfl) (by first | exact jl_d0 hd rfl | omega) (by first | exact Nat.le_of_ble_eq_true rfl | omega) (by first | exact Nat.le_of_ble_eq_true rfl | omega) ?_
              refine s_X2_digitOf g (by first | exact jl_d1 hd rfl | omega) (fun z83 h83 => sg_K1 ?_)
              (try simp only [fn_radix] at h83)
              refine sg_cE1 (pc := 86) (d' := d - 1) (mc' := 0) (ms' := 0) 3 g (dc_X5_write_64.2.2.1.1) cb_X0_add ml_X5_129 mn_X0_add rfl mv_X0_add (Nat.le_of_ble_eq_true rfl) (ck_lc (by assumption) (by first | assumption | exact ck_rev)) (Nat.le_of_ble_eq_true rfl) (by first | exact jl_d0 hd rfl | omega) (by first | exact Nat.le_of_ble_eq_true rfl | omega) (by first | exact Nat.le_of_ble_eq_true rfl | omega) ?_
              have nn86 := cf_len (by assumption) L2
              rw [l1] at nn86
              try simp only [List.length_append, tt_len, List.length_cons, List.length_nil] at nn86
              have hcap86 : ck_cap 0 = 40 := rfl
              refine f_X0_add g (by first | exact jl_d1 hd rfl | omega) (by assumption) L2 (by first | exact ck_v0 | assumption | (simp only [ck_v1, ck_v2] at * <;> omega)) (by omega) (fun h86 x86 f86 n86 w86 => sg_K0 ?_)
              have l86 := cf_la (by assumption) L2 (by omega) n86 w86
              rw [l1] at l86
              have y86 := ck_Yt (h0 := h) (by assumption) x86 f86.1
              first | refine sg_iincB (pc := 89) (dc_X5_write_64.2.2.1.2) rfl (by decide) (by decide) (by omega) (by omega) ?_ | refine sg_iinc (pc := 89) (dc_X5_write_64.2.2.1.2) rfl (by decide) (by decide) ?_
              refine sg_goto (pc := 92) (tgt := 68) (dc_X5_write_64.2.2.2.1) (by decide) ?_
              refine sg_lsub (lv' := [(6, _), (5, _), (0, _), (2, _), (3, _), (4, _)]) ⟨rfl, rfl, rfl, rfl, rfl, rfl, trivial⟩ ?_
              exact ih _ _ x86 (ck_Gt G1 f86) (by omega) (by rw [l86, List.append_assoc, show (z33 - 1 - (p + -1)).toNat = (z33 - 1 - p).toNat + 1 by omega, tt_succ, show z33.toNat - 1 - (z33 - 1 - p).toNat = p.toNat by omega]; unfold fs_dg; rw [← h79, ← h83]) (by first | exact jl_m1 hm (by omega) | exact jl_m2 hm (by omega) | omega)
        refine sg_lsub (lv' := [(6, _), (5, _), (0, _), (2, _), (3, _), (4, _)]) ⟨rfl, rfl, rfl, rfl, rfl, rfl, trivial⟩ ?_
        exact loop68 _ _ _ x59 ck_G0 (by omega) (by rw [q59a2, show (z33 - 1 - (z33 - 1)).toNat = 0 by omega]; unfold tt_b; simp) (Nat.lt_succ_self _)
      · refine sg_bipush (pc := 48) (z := -9) (dc_X5_write_31.2.1.1.1) (by decide) ?_
        refine sg_iret (pc := 50) (dc_X5_write_31.2.1.1.2) rfl (by first | exact Nat.le_of_ble_eq_true rfl | omega) (by first | exact Nat.le_of_ble_eq_true rfl | omega) ?_
        first
          | (exact hQ (by omega) (by omega) _ _ (Or.inl ⟨by omega, rfl, hx⟩) ck_F0)
          | (exact hQ (by omega) (by omega) _ _ (Or.inr ⟨by omega, by omega, cf_put (i := row.toNat) hx fr59 ho59 P59 x1 G1 (by omega) (by omega) (by rw [l1, show (z33 - 1 - p).toNat = z33.toNat by omega, ← fs_digsE n33])⟩) (ck_Ft F59 G1.1))
    · refine sg_throw (pc := 17) g th_X5_110_112 (dc_X5_write_0.2.1.1.2) (dc_X5_write_0.2.1.2.1) (dc_X5_write_0.2.1.2.2) (dc_X5_write_0.2.2.1.1) (dc_X5_write_0.2.2.1.2) (by first | exact Nat.le_trans (Nat.le_of_ble_eq_true rfl) hd | omega) (Nat.le_of_ble_eq_true rfl) (by first | exact Nat.le_of_ble_eq_true rfl | omega) (by first | exact Nat.le_of_ble_eq_true rfl | omega) ?_
      exact fun z hz => hXA (by omega) (by omega) z hz

theorem fn_numb (x : Int) : -1 ≤ fn_num x 16 ∧ fn_num x 16 ≤ 15 := by
  unfold fn_num fn_plain fn_radix
  (repeat' split) <;> omega

set_option maxRecDepth 100000 in
theorem f_X5_spell {w : sg_W} {Q : sg_O → sg_H → Prop} {h : sg_H} (g : sg_G w) {d : Nat} (hd : 14 ≤ d) {B : Nat} {A : fa_A} (hx : cf_X h B A) (ok : fa_ok A) {fr to : Int} {L : List Int} (hL : fa_L A fr.toNat = L) {M : List Int} (hM : fa_L A to.toNat = M) (hQ : ¬ (fr < 0 ∨ 4 ≤ fr ∨ to < 0 ∨ 4 ≤ to) → ¬ (fr = to) → ∀ (v : Int) (h' : sg_H), ((40 < 2 * L.length ∧ v = -9 ∧ cf_X h' B A) ∨ (2 * L.length ≤ 40 ∧ v = 2 * (L.length : Int) ∧ cf_X h' B (fa_put A to.toNat (fs_spell L)))) → ck_F B h h' → Q (.inl (some (sg_i v))) h') (hXI : (fr < 0 ∨ 4 ≤ fr ∨ to < 0 ∨ 4 ≤ to) → ∀ z, h.1 ≤ z → Q (.inr e_I) (z, h.2)) (hXA : ¬ (fr < 0 ∨ 4 ≤ fr ∨ to < 0 ∨ 4 ≤ to) → (fr = to) → ∀ z, h.1 ≤ z → Q (.inr e_A) (z, h.2)) : sg_C w mi_X5_spell d 8 48 [sg_r B, sg_i fr, sg_i to] h Q := by
  refine sg_of pn_X5 (Nat.le_of_ble_eq_true rfl) ?_
  obtain ⟨x0, ho, hS, hP, hK⟩ := id hx
  have y0 := ck_Y0 x0
  refine sg_aload_n (pc := 0) (j := 0) (dc_X5_spell_0.1.1.1.1) rfl rfl ?_
  refine sg_iload_n (pc := 1) (j := 1) (dc_X5_spell_0.1.1.1.2) rfl rfl ?_
  refine sg_cE1 (pc := 2) (d' := d - 1) (mc' := 1) (ms' := 6) 6 g (dc_X5_spell_0.1.1.2.1) cb_X5_rowOf ml_X5_36 mn_X5_rowOf rfl mv_X5_rowOf (Nat.le_of_ble_eq_true rfl) (ck_oc (by assumption)) (Nat.le_of_ble_eq_true rfl) (by first | exact jl_d0 hd rfl | omega) (by first | exact Nat.le_of_ble_eq_true rfl | omega) (by first | exact Nat.le_of_ble_eq_true rfl | omega) ?_
  refine f_X5_rowOf g (by first | exact jl_d1 hd rfl | omega) (by assumption) (fun l2 r2 L2 => sg_K1 ?_) (fun t2 z2 w2 => sg_KX (by first | exact Nat.le_of_ble_eq_true rfl | omega) (by first | exact Nat.le_of_ble_eq_true rfl | omega) (hXI (by omega) z2 w2))
  obtain ⟨a2, ea2⟩ : ∃ a, a = B + 1 + 3 + 2 * fr.toNat := ⟨_, rfl⟩
  rw [← ea2] at L2 ⊢
  have k2 : cf_l h a2 = L := by rw [ea2, cf_rl hx (by omega)]; exact hL
  have r42 := fa_row ok (i := fr.toNat) (by omega)
  rw [hL] at r42
  refine sg_astore_n (pc := 5) (j := 3) (dc_X5_spell_0.1.1.2.2) rfl (by decide) ?_
  refine sg_aload_n (pc := 6) (j := 0) (dc_X5_spell_0.1.2.1.1) rfl rfl ?_
  refine sg_iload_n (pc := 7) (j := 2) (dc_X5_spell_0.1.2.1.2) rfl rfl ?_
  refine sg_cE1 (pc := 8) (d' := d - 1) (mc' := 1) (ms' := 6) 6 g (dc_X5_spell_0.1.2.2.1) cb_X5_rowOf ml_X5_36 mn_X5_rowOf rfl mv_X5_rowOf (Nat.le_of_ble_eq_true rfl) (ck_oc (by assumption)) (Nat.le_of_ble_eq_true rfl) (by first | exact jl_d0 hd rfl | omega) (by first | exact Nat.le_of_ble_eq_true rfl | omega) (by first | exact Nat.le_of_ble_eq_true rfl | omega) ?_
  refine f_X5_rowOf g (by first | exact jl_d1 hd rfl | omega) (by assumption) (fun l8 r8 L8 => sg_K1 ?_) (fun t8 z8 w8 => sg_KX (by first | exact Nat.le_of_ble_eq_true rfl | omega) (by first | exact Nat.le_of_ble_eq_true rfl | omega) (hXI (by omega) z8 w8))
  obtain ⟨a8, ea8⟩ : ∃ a, a = B + 1 + 3 + 2 * to.toNat := ⟨_, rfl⟩
  rw [← ea8] at L8 ⊢
  have k8 : cf_l h a8 = M := by rw [ea8, cf_rl hx (by omega)]; exact hM
  have r48 := fa_row ok (i := to.toNat) (by omega)
  rw [hM] at r48
  refine sg_astore (pc := 11) (dc_X5_spell_0.1.2.2.2) (by decide) ?_
  refine sg_iload_n (pc := 13) (j := 1) (dc_X5_spell_0.2.1.1.1) rfl rfl ?_
  refine sg_iload_n (pc := 14) (j := 2) (dc_X5_spell_0.2.1.1.2) rfl rfl ?_
  refine sg_cS2 (pc := 15) (d' := d - 1) (mc' := 1) (ms' := 6) g (dc_X5_spell_0.2.1.2.1) cb_X5_checkAreTwo ml_X5_132 ms_X5_checkAreTwo (Nat.le_of_ble_eq_true rfl) (by first | exact jl_d0 hd rfl | omega) (by first | exact Nat.le_of_ble_eq_true rfl | omega) (by first | exact Nat.le_of_ble_eq_true rfl | omega) ?_
  refine s_X5_checkAreTwo g (by first | exact jl_d1 hd rfl | omega) (fun v15 => sg_K0 ?_) (fun t15 z15 w15 => sg_KX (by first | exact Nat.le_of_ble_eq_true rfl | omega) (by first | exact Nat.le_of_ble_eq_true rfl | omega) (hXA (by omega) (by omega) z15 w15))
  refine sg_aload_n (pc := 18) (j := 3) (dc_X5_spell_0.2.1.2.2) rfl rfl ?_
  refine sg_cE0 (pc := 19) (d' := d - 1) (mc' := 0) (ms' := 0) 3 g (dc_X5_spell_0.2.2.1.1) cb_X0_size ml_X5_63 mn_X0_size rfl mv_X0_size (Nat.le_of_ble_eq_true rfl) (ck_lc (by assumption) (by first | assumption | exact ck_rev)) (Nat.le_of_ble_eq_true rfl) (by first | exact jl_d0 hd rfl | omega) (by first | exact Nat.le_of_ble_eq_true rfl | omega) (by first | exact Nat.le_of_ble_eq_true rfl | omega) ?_
  refine f_X0_size g (by first | exact jl_d1 hd rfl | omega) (by assumption) L2 (fun z19 e19 l019 u19 => sg_K1 ?_)
  rw [k2] at e19
  try rw [fa_tlen] at e19
  refine sg_iconst (pc := 22) (z := 2) (dc_X5_spell_0.2.2.1.2) (by decide) ?_
  first | refine sg_imulB (pc := 23) (dc_X5_spell_0.2.2.2.1) (by omega) (by omega) ?_ | refine sg_imul (pc := 23) (dc_X5_spell_0.2.2.2.1) ?_
  refine sg_bipush (pc := 24) (z := 40) (dc_X5_spell_0.2.2.2.2) (by decide) ?_
  refine sg_icmp_le (pc := 26) (tgt := 32) (dc_X5_spell_26.1.1.1.1) (by decide) (fun c26 => ?_) (fun c26 => ?_)
  · refine sg_aload_n (pc := 32) (j := 0) (dc_X5_spell_26.1.1.2.2) rfl rfl ?_
    refine ck_gob (pc := 33) g (dc_X5_spell_26.1.2.1.1) fk_X5_19 (by assumption) (fun _ => rfl) ?_
    refine sg_aload_n (pc := 36) (j := 0) (dc_X5_spell_26.1.2.1.2) rfl rfl ?_
    refine ck_gob (pc := 37) g (dc_X5_spell_26.1.2.2.1) fk_X5_10 (by assumption) (fun _ => rfl) ?_
    refine sg_cE1 (pc := 40) (d' := d - 1) (mc' := 0) (ms' := 0) 4 g (dc_X5_spell_26.1.2.2.2) cb_X1_keep ml_X5_55 mn_X1_keep rfl mv_X1_keep (Nat.le_of_ble_eq_true rfl) (ck_pc (by assumption)) (Nat.le_of_ble_eq_true rfl) (by first | exact jl_d0 hd rfl | omega) (by first | exact Nat.le_of_ble_eq_true rfl | omega) (by first | exact Nat.le_of_ble_eq_true rfl | omega) ?_
    refine f_X1_keep g (by first | exact jl_d1 hd rfl | omega) x0 ho (fun h40 x40 F40 fr40 ho40 P40 => sg_K0 ?_)
    have y40 : ck_Y h h40 B := ⟨x40, F40⟩
    have q40a2 : cf_l h40 a2 = cf_l h a2 := cf_lq (fr40 _ (by omega)) (fr40 _ (by omega))
    rw [k2] at q40a2
    have q40a8 : cf_l h40 a8 = cf_l h a8 := cf_lq (fr40 _ (by omega)) (fr40 _ (by omega))
    rw [k8] at q40a8
    refine sg_aload (pc := 43) (dc_X5_spell_26.2.1.1.1) rfl ?_
    refine sg_cE0 (pc := 45) (d' := d - 1) (mc' := 0) (ms' := 0) 3 g (dc_X5_spell_26.2.1.1.2) cb_X0_clear ml_X5_135 mn_X0_clear rfl mv_X0_clear (Nat.le_of_ble_eq_true rfl) (ck_lc (by assumption) (by first | assumption | exact ck_rev)) (Nat.le_of_ble_eq_true rfl) (by first | exact jl_d0 hd rfl | omega) (by first | exact Nat.le_of_ble_eq_true rfl | omega) (by first | exact Nat.le_of_ble_eq_true rfl | omega) ?_
    refine f_X0_clear g (by first | exact jl_d1 hd rfl | omega) (by assumption) L8 (fun h45 x45 f45 n45 w45 l45 => sg_K0 ?_)
    have y45 := ck_Yt (h0 := h) (by assumption) x45 f45.1
    refine sg_iconst (pc := 48) (z := 0) (dc_X5_spell_26.2.1.2.1) (by decide) ?_
    refine sg_istore (pc := 49) (dc_X5_spell_26.2.1.2.2) (by decide) ?_
    have loop51 : ∀ (N : Nat) (h1 : sg_H) (p : Int), (ck_X h1 B) → (ck_G B a8 h40 h1) → (0 ≤ p ∧ p ≤ (L.length : Int)) → (cf_l h1 a8 = tt_b (2 * p.toNat) (fs_sp L)) → ((L.length : Int) - p).toNat < N → sg_R w mi_X5_spell d 8 48 Q 51 [(5, sg_i p), (0, sg_r B), (3, sg_r a2), (4, sg_r a8)] [] h1 3 18 := by
      intro N
      induction N with
      | zero => intro h1 p x1 G1 p0 l1 hm; exact absurd hm (Nat.not_lt_zero _)
      | succ N ih =>
        intro h1 p x1 G1 p0 l1 hm
        have y1 : ck_Y h h1 B := ⟨x1, ck_Ft F40 G1.1⟩
        have m1 : cf_l h1 a2 = L := (cf_fr G1 (by unfold cf_ap; omega)).1.trans q40a2
        refine sg_iload (pc := 51) (dc_X5_spell_26.2.2.1.1) rfl ?_
        refine sg_aload_n (pc := 53) (j := 3) (dc_X5_spell_26.2.2.1.2) rfl rfl ?_
        refine sg_cE0 (pc := 54) (d' := d - 1) (mc' := 0) (ms' := 0) 3 g (dc_X5_spell_26.2.2.2.1) cb_X0_size ml_X5_63 mn_X0_size rfl mv_X0_size (Nat.le_of_ble_eq_true rfl) (ck_lc (by assumption) (by first | assumption | exact ck_rev)) (Nat.le_of_ble_eq_true rfl) (by first | exact jl_d0 hd rfl | omega) (by first | exact Nat.le_of_ble_eq_true rfl | omega) (by first | exact Nat.le_of_ble_eq_true rfl | omega) ?_
        refine f_X0_size g (by first | exact jl_d1 hd rfl | omega) (by assumption) L2 (fun z54 e54 l054 u54 => sg_K1 ?_)
        rw [m1] at e54
        try rw [fa_tlen] at e54
        refine sg_icmp_ge (pc := 57) (tgt := 94) (dc_X5_spell_26.2.2.2.2) (by decide) (fun c57 => ?_) (fun c57 => ?_)
        · refine sg_aload (pc := 94) (dc_X5_spell_60.2.2.2.1) rfl ?_
          refine sg_cE0 (pc := 96) (d' := d - 1) (mc' := 0) (ms' := 0) 3 g (dc_X5_spell_60.2.2.2.2) cb_X0_size ml_X5_63 mn_X0_size rfl mv_X0_size (Nat.le_of_ble_eq_true rfl) (ck_lc (by assumption) (by first | assumption | exact ck_rev)) (Nat.le_of_ble_eq_true rfl) (by first | exact jl_d0 hd rfl | omega) (by first | exact Nat.le_of_ble_eq_true rfl | omega) (by first | exact Nat.le_of_ble_eq_true rfl | omega) ?_
          refine f_X0_size g (by first | exact jl_d1 hd rfl | omega) (by assumption) L8 (fun z96 e96 l096 u96 => sg_K1 ?_)
          rw [l1] at e96
          try rw [fa_tlen] at e96
          refine sg_iret (pc := 99) dc_X5_spell_99 rfl (by first | exact Nat.le_of_ble_eq_true rfl | omega) (by first | exact Nat.le_of_ble_eq_true rfl | omega) ?_
          first
            | (exact hQ (by omega) (by omega) _ _ (Or.inl ⟨by omega, rfl, hx⟩) ck_F0)
            | (exact hQ (by omega) (by omega) _ _ (Or.inr ⟨by omega, by rw [tt_len] at e96; omega, cf_put (i := to.toNat) hx fr40 ho40 P40 x1 G1 (by omega) (by omega) (by rw [l1, show p.toNat = L.length by omega]; rfl)⟩) (ck_Ft F40 G1.1))
        · refine sg_aload (pc := 60) (dc_X5_spell_60.1.1.1.1) rfl ?_
          refine sg_aload_n (pc := 62) (j := 3) (dc_X5_spell_60.1.1.1.2) rfl rfl ?_
          refine sg_iload (pc := 63) (dc_X5_spell_60.1.1.2.1) rfl ?_
          refine sg_cE1 (pc := 65) (d' := d - 1) (mc' := 0) (ms' := 0) 3 g (dc_X5_spell_60.1.1.2.2) cb_X0_get ml_X5_75 mn_X0_get rfl mv_X0_get (Nat.le_of_ble_eq_true rfl) (ck_lc (by assumption) (by first | assumption | exact ck_rev)) (Nat.le_of_ble_eq_true rfl) (by first | exact jl_d0 hd rfl | omega) (by first | exact Nat.le_of_ble_eq_true rfl | omega) (by first | exact Nat.le_of_ble_eq_true rfl | omega) ?_
          refine f_X0_get g (by first | exact jl_d1 hd rfl | omega) (by assumption) L2 (fun z65 e65 v65 => sg_K1 ?_)
          rw [m1] at e65
          rw [m1] at v65
          try rw [fa_tg (by omega) (by omega)] at e65
          rw [gg_in (by omega) (by omega)] at e65
          have g65 := r42.2 _ (gd_mem (L := L) (j := p.toNat) (d := 0) (by omega))
          subst e65
          refine sg_cS1 (pc := 68) (d' := d - 1) (mc' := 0) (ms' := 0) g (dc_X5_spell_60.1.2.1.1) cb_X2_firstSpelled ml_X5_138 ms_X2_firstSpelled (Nat.le_of_ble_eq_true rfl) (by first | exact jl_d0 hd rfl | omega) (by first | exact Nat.le_of_ble_eq_true rfl | omega) (by first | exact Nat.le_of_ble_eq_true rfl | omega) ?_
          refine f_X2_firstSpelled g (by first | exact jl_d1 hd rfl | omega) (by omega) (fun z68 h68 => sg_K1 ?_)
          refine sg_cE1 (pc := 71) (d' := d - 1) (mc' := 0) (ms' := 0) 3 g (dc_X5_spell_60.1.2.1.2) cb_X0_add ml_X5_129 mn_X0_add rfl mv_X0_add (Nat.le_of_ble_eq_true rfl) (ck_lc (by assumption) (by first | assumption | exact ck_rev)) (Nat.le_of_ble_eq_true rfl) (by first | exact jl_d0 hd rfl | omega) (by first | exact Nat.le_of_ble_eq_true rfl | omega) (by first | exact Nat.le_of_ble_eq_true rfl | omega) ?_
          have nn71 := cf_len (by assumption) L8
          rw [l1] at nn71
          try simp only [List.length_append, tt_len, List.length_cons, List.length_nil] at nn71
          have hcap71 : ck_cap 0 = 40 := rfl
          refine f_X0_add g (by first | exact jl_d1 hd rfl | omega) (by assumption) L8 (by first | exact ck_v0 | assumption | (simp only [ck_v1, ck_v2] at * <;> omega)) (by omega) (fun h71 x71 f71 n71 w71 => sg_K0 ?_)
          have l71 := cf_la (by assumption) L8 (by omega) n71 w71
          rw [l1] at l71
          have y71 := ck_Yt (h0 := h) (by assumption) x71 f71.1
          have m71 : cf_l h71 a2 = L := (cf_fr f71 (by unfold cf_ap; omega)).1.trans m1
          skip
          refine sg_aload (pc := 74) (dc_X5_spell_60.1.2.2.1) rfl ?_
          refine sg_aload_n (pc := 76) (j := 3) (dc_X5_spell_60.1.2.2.2) rfl rfl ?_
          refine sg_iload (pc := 77) (dc_X5_spell_60.2.1.1.1) rfl ?_
          refine sg_cE1 (pc := 79) (d' := d - 1) (mc' := 0) (ms' := 0) 3 g (dc_X5_spell_60.2.1.1.2) cb_X0_get ml_X5_75 mn_X0_get rfl mv_X0_get (Nat.le_of_ble_eq_true rfl) (ck_lc (by assumption) (by first | assumption | exact ck_rev)) (Nat.le_of_ble_eq_true rfl) (by first | exact jl_d0 hd rfl | omega) (by first | exact Nat.le_of_ble_eq_true rfl | omega) (by first | exact Nat.le_of_ble_eq_true rfl | omega) ?_
          refine f_X0_get g (by first | exact jl_d1 hd rfl | omega) (by assumption) L2 (fun z79 e79 v79 => sg_K1 ?_)
          rw [m71] at e79
          rw [m71] at v79
          try rw [fa_tg (by omega) (by omega)] at e79
          rw [gg_in (by omega) (by omega)] at e79
          subst e79
          refine sg_cS1 (pc := 82) (d' := d - 1) (mc' := 0) (ms' := 0) g (dc_X5_spell_60.2.1.2.1) cb_X2_secondSpelled ml_X5_141 ms_X2_secondSpelled (Nat.le_of_ble_eq_true rfl) (by first | exact jl_d0 hd rfl | omega) (by first | exact Nat.le_of_ble_eq_true rfl | omega) (by first | exact Nat.le_of_ble_eq_true rfl | omega) ?_
          refine f_X2_secondSpelled g (by first | exact jl_d1 hd rfl | omega) (by omega) (fun z82 h82 => sg_K1 ?_)
          refine sg_cE1 (pc := 85) (d' := d - 1) (mc' := 0) (ms' := 0) 3 g (dc_X5_spell_60.2.1.2.2) cb_X0_add ml_X5_129 mn_X0_add rfl mv_X0_add (Nat.le_of_ble_eq_true rfl) (ck_lc (by assumption) (by first | assumption | exact ck_rev)) (Nat.le_of_ble_eq_true rfl) (by first | exact jl_d0 hd rfl | omega) (by first | exact Nat.le_of_ble_eq_true rfl | omega) (by first | exact Nat.le_of_ble_eq_true rfl | omega) ?_
          have nn85 := cf_len (by assumption) L8
          rw [l71] at nn85
          try simp only [List.length_append, tt_len, List.length_cons, List.length_nil] at nn85
          have hcap85 : ck_cap 0 = 40 := rfl
          refine f_X0_add g (by first | exact jl_d1 hd rfl | omega) (by assumption) L8 (by first | exact ck_v0 | assumption | (simp only [ck_v1, ck_v2] at * <;> omega)) (by omega) (fun h85 x85 f85 n85 w85 => sg_K0 ?_)
          have l85 := cf_la (by assumption) L8 (by omega) n85 w85
          rw [l71] at l85
          have y85 := ck_Yt (h0 := h) (by assumption) x85 f85.1
          first | refine sg_iincB (pc := 88) (dc_X5_spell_60.2.2.1.1) rfl (by decide) (by decide) (by omega) (by omega) ?_ | refine sg_iinc (pc := 88) (dc_X5_spell_60.2.2.1.1) rfl (by decide) (by decide) ?_
          refine sg_goto (pc := 91) (tgt := 51) (dc_X5_spell_60.2.2.1.2) (by decide) ?_
          refine sg_lsub (lv' := [(5, _), (0, _), (3, _), (4, _)]) ⟨rfl, rfl, rfl, rfl, trivial⟩ ?_
          exact ih _ _ x85 (ck_Gt G1 (ck_Gt f71 f85)) (by omega) (by rw [l85, show 2 * (p + 1).toNat = 2 * p.toNat + 1 + 1 by omega, tt_succ, tt_succ]; unfold fs_sp; rw [show (2 * p.toNat) % 2 = 0 by omega, show (2 * p.toNat + 1) % 2 = 1 by omega, show 2 * p.toNat / 2 = p.toNat by omega, show (2 * p.toNat + 1) / 2 = p.toNat by omega, if_pos rfl, if_neg (by decide), h68, h82]) (by first | exact jl_m1 hm (by omega) | exact jl_m2 hm (by omega) | omega)
    refine sg_lsub (lv' := [(5, _), (0, _), (3, _), (4, _)]) ⟨rfl, rfl, rfl, rfl, trivial⟩ ?_
    exact loop51 _ _ _ x45 f45 (by omega) (by rw [l45]; rfl) (Nat.lt_succ_self _)
  · refine sg_bipush (pc := 29) (z := -9) (dc_X5_spell_26.1.1.1.2) (by decide) ?_
    refine sg_iret (pc := 31) (dc_X5_spell_26.1.1.2.1) rfl (by first | exact Nat.le_of_ble_eq_true rfl | omega) (by first | exact Nat.le_of_ble_eq_true rfl | omega) ?_
    first
      | (exact hQ (by omega) (by omega) _ _ (Or.inl ⟨by omega, rfl, hx⟩) ck_F0)
      | (exact hQ (by omega) (by omega) _ _ (Or.inr ⟨by omega, by rw [tt_len] at e96; omega, cf_put (i := to.toNat) hx fr40 ho40 P40 x1 G1 (by omega) (by omega) (by rw [l1, show p.toNat = L.length by omega]; rfl)⟩) (ck_Ft F40 G1.1))

set_option maxRecDepth 100000 in
theorem f_X5_canBeRead {w : sg_W} {Q : sg_O → sg_H → Prop} {h : sg_H} (g : sg_G w) {d : Nat} (hd : 11 ≤ d) {B a1 : Nat} (hx : ck_X h B) (L1 : ck_L B a1 0) {L : List Int} (kk : cf_l h a1 = L) (hQ : ∀ z : Int, ((z = 0 ∧ ¬ fs_can L) ∨ (z = 1 ∧ fs_can L)) → Q (.inl (some (sg_i z))) h) : sg_C w mi_X5_canBeRead d 0 0 [sg_r a1] h Q := by
  refine sg_of pn_X5 (Nat.le_of_ble_eq_true rfl) ?_
  have y0 := ck_Y0 hx
  have l40 := cf_40 hx L1
  rw [kk] at l40
  have hc40 : ck_cap 0 = 40 := rfl
  refine sg_aload_n (pc := 0) (j := 0) (dc_X5_canBeRead_0.1.1.1.1) rfl rfl ?_
  refine sg_cE0 (pc := 1) (d' := d - 1) (mc' := 0) (ms' := 0) 3 g (dc_X5_canBeRead_0.1.1.1.2) cb_X0_size ml_X5_63 mn_X0_size rfl mv_X0_size (Nat.le_of_ble_eq_true rfl) (ck_lc (by assumption) (by first | assumption | exact ck_rev)) (Nat.le_of_ble_eq_true rfl) (by first | exact jl_d0 hd rfl | omega) (by first | exact Nat.le_of_ble_eq_true rfl | omega) (by first | exact Nat.le_of_ble_eq_true rfl | omega) ?_
  refine f_X0_size g (by first | exact jl_d1 hd rfl | omega) (by assumption) L1 (fun z1 e1 l01 u1 => sg_K1 ?_)
  rw [kk] at e1
  try rw [fa_tlen] at e1
  refine sg_iconst (pc := 4) (z := 2) (dc_X5_canBeRead_0.1.1.2.1) (by decide) ?_
  first | refine sg_iremP (pc := 5) (dc_X5_canBeRead_0.1.1.2.2) (by omega) (by omega) ?_ | refine sg_irem (pc := 5) (dc_X5_canBeRead_0.1.1.2.2) (by first | omega | assumption) ?_
  refine sg_if_eq (pc := 6) (tgt := 11) (dc_X5_canBeRead_0.1.2.1.1) (by decide) (fun c6 => ?_) (fun c6 => ?_)
  · refine sg_iconst (pc := 11) (z := 0) (dc_X5_canBeRead_0.1.2.2.2) (by decide) ?_
    refine sg_istore_n (pc := 12) (j := 1) (dc_X5_canBeRead_0.2.1.1.1) rfl (by decide) ?_
    have loop13 : ∀ (N : Nat) (p : Int), (0 ≤ p ∧ p ≤ (L.length : Int)) → (∀ j : Nat, (j : Int) < p → fn_num (L.getD j 0) 16 ≠ -1) → ((L.length : Int) - p).toNat < N → sg_R w mi_X5_canBeRead d 0 0 Q 13 [(1, sg_i p), (0, sg_r a1)] [] h 0 0 := by
      intro N
      induction N with
      | zero => intro p p0 p1 hm; exact absurd hm (Nat.not_lt_zero _)
      | succ N ih =>
        intro p p0 p1 hm
        refine sg_iload_n (pc := 13) (j := 1) (dc_X5_canBeRead_0.2.1.1.2) rfl rfl ?_
        refine sg_aload_n (pc := 14) (j := 0) (dc_X5_canBeRead_0.2.1.2.1) rfl rfl ?_
        refine sg_cE0 (pc := 15) (d' := d - 1) (mc' := 0) (ms' := 0) 3 g (dc_X5_canBeRead_0.2.1.2.2) cb_X0_size ml_X5_63 mn_X0_size rfl mv_X0_size (Nat.le_of_ble_eq_true rfl) (ck_lc (by assumption) (by first | assumption | exact ck_rev)) (Nat.le_of_ble_eq_true rfl) (by first | exact jl_d0 hd rfl | omega) (by first | exact Nat.le_of_ble_eq_true rfl | omega) (by first | exact Nat.le_of_ble_eq_true rfl | omega) ?_
        refine f_X0_size g (by first | exact jl_d1 hd rfl | omega) (by assumption) L1 (fun z15 e15 l015 u15 => sg_K1 ?_)
        rw [kk] at e15
        try rw [fa_tlen] at e15
        refine sg_icmp_ge (pc := 18) (tgt := 43) (dc_X5_canBeRead_0.2.2.1.1) (by decide) (fun c18 => ?_) (fun c18 => ?_)
        · refine sg_iconst (pc := 43) (z := 1) (dc_X5_canBeRead_26.2.1.1.1) (by decide) ?_
          refine sg_zret (pc := 44) (dc_X5_canBeRead_26.2.1.1.2) rfl (by first | exact Or.inl rfl | exact Or.inr rfl | omega | assumption) (by first | exact Nat.le_of_ble_eq_true rfl | omega) (by first | exact Nat.le_of_ble_eq_true rfl | omega) ?_
          first | exact hQ _ (Or.inl ⟨rfl, fun q => absurd q.1 (by omega)⟩) | exact hQ _ (Or.inl ⟨rfl, fun q => absurd (by rw [← h28]; omega) (q.2 p.toNat (by omega))⟩) | exact hQ _ (Or.inr ⟨rfl, by omega, fun j hj => p1 j (by omega)⟩)
        · refine sg_aload_n (pc := 21) (j := 0) (dc_X5_canBeRead_0.2.2.1.2) rfl rfl ?_
          refine sg_iload_n (pc := 22) (j := 1) (dc_X5_canBeRead_0.2.2.2.1) rfl rfl ?_
          refine sg_cE1 (pc := 23) (d' := d - 1) (mc' := 0) (ms' := 0) 3 g (dc_X5_canBeRead_0.2.2.2.2) cb_X0_get ml_X5_75 mn_X0_get rfl mv_X0_get (Nat.le_of_ble_eq_true rfl) (ck_lc (by assumption) (by first | assumption | exact ck_rev)) (Nat.le_of_ble_eq_true rfl) (by first | exact jl_d0 hd rfl | omega) (by first | exact Nat.le_of_ble_eq_true rfl | omega) (by first | exact Nat.le_of_ble_eq_true rfl | omega) ?_
          refine f_X0_get g (by first | exact jl_d1 hd rfl | omega) (by assumption) L1 (fun z23 e23 v23 => sg_K1 ?_)
          rw [kk] at e23
          rw [kk] at v23
          try rw [fa_tg (by omega) (by omega)] at e23
          rw [gg_in (by omega) (by omega)] at e23
          subst e23
          refine sg_bipush (pc := 26) (z := 16) (dc_X5_canBeRead_26.1.1.1.1) (by decide) ?_
          refine sg_cS2 (pc := 28) (d' := d - 1) (mc' := 0) (ms' := 0) g (dc_X5_canBeRead_26.1.1.1.2) cb_X2_numberOf ml_X5_148 ms_X2_numberOf (Nat.le_of_ble_eq_true rfl) (by first | exact jl_d0 hd rfl | omega) (by first | exact Nat.le_of_ble_eq_true rfl | omega) (by first | exact Nat.le_of_ble_eq_true rfl | omega) ?_
          refine s_X2_numberOf g (by first | exact jl_d1 hd rfl | omega) (fun z28 h28 => sg_K1 ?_)
          refine sg_iconst (pc := 31) (z := -1) (dc_X5_canBeRead_26.1.1.2.1) (by decide) ?_
          refine sg_icmp_ne (pc := 32) (tgt := 37) (dc_X5_canBeRead_26.1.1.2.2) (by decide) (fun c32 => ?_) (fun c32 => ?_)
          · first | refine sg_iincB (pc := 37) (dc_X5_canBeRead_26.1.2.2.1) rfl (by decide) (by decide) (by omega) (by omega) ?_ | refine sg_iinc (pc := 37) (dc_X5_canBeRead_26.1.2.2.1) rfl (by decide) (by decide) ?_
            refine sg_goto (pc := 40) (tgt := 13) (dc_X5_canBeRead_26.1.2.2.2) (by decide) ?_
            refine sg_lsub (lv' := [(1, _), (0, _)]) ⟨rfl, rfl, trivial⟩ ?_
            exact ih _ (by omega) (fun j j0 => by
              by_cases q : j = p.toNat
              · subst q; omega
              · exact p1 j (by omega)) (by first | exact jl_m1 hm (by omega) | exact jl_m2 hm (by omega) | omega)
          · refine sg_iconst (pc := 35) (z := 0) (dc_X5_canBeRead_26.1.2.1.1) (by decide) ?_
            refine sg_zret (pc := 36) (dc_X5_canBeRead_26.1.2.1.2) rfl (by first | exact Or.inl rfl | exact Or.inr rfl | omega | assumption) (by first | exact Nat.le_of_ble_eq_true rfl | omega) (by first | exact Nat.le_of_ble_eq_true rfl | omega) ?_
            first | exact hQ _ (Or.inl ⟨rfl, fun q => absurd q.1 (by omega)⟩) | exact hQ _ (Or.inl ⟨rfl, fun q => absurd (by rw [← h28]; omega) (q.2 p.toNat (by omega))⟩) | exact hQ _ (Or.inr ⟨rfl, by omega, fun j hj => p1 j (by omega)⟩)
    refine sg_lsub (lv' := [(1, _), (0, _)]) ⟨rfl, rfl, trivial⟩ ?_
    exact loop13 _ _ (by omega) (fun j j0 => absurd j0 (by omega)) (Nat.lt_succ_self _)
  · refine sg_iconst (pc := 9) (z := 0) (dc_X5_canBeRead_0.1.2.1.2) (by decide) ?_
    refine sg_zret (pc := 10) (dc_X5_canBeRead_0.1.2.2.1) rfl (by first | exact Or.inl rfl | exact Or.inr rfl | omega | assumption) (by first | exact Nat.le_of_ble_eq_true rfl | omega) (by first | exact Nat.le_of_ble_eq_true rfl | omega) ?_
    first | exact hQ _ (Or.inl ⟨rfl, fun q => absurd q.1 (by omega)⟩) | exact hQ _ (Or.inl ⟨rfl, fun q => absurd (by rw [← h28]; omega) (q.2 p.toNat (by omega))⟩) | exact hQ _ (Or.inr ⟨rfl, by omega, fun j hj => p1 j (by omega)⟩)

set_option maxRecDepth 100000 in
theorem f_X5_read {w : sg_W} {Q : sg_O → sg_H → Prop} {h : sg_H} (g : sg_G w) {d : Nat} (hd : 14 ≤ d) {B : Nat} {A : fa_A} (hx : cf_X h B A) (ok : fa_ok A) {fr to : Int} {L : List Int} (hL : fa_L A fr.toNat = L) {M : List Int} (hM : fa_L A to.toNat = M) (hQ : ¬ (fr < 0 ∨ 4 ≤ fr ∨ to < 0 ∨ 4 ≤ to) → ¬ (fr = to) → ∀ (v : Int) (h' : sg_H), ((¬ fs_can L ∧ v = -9 ∧ cf_X h' B A) ∨ (fs_can L ∧ v = ((fs_read L).length : Int) ∧ cf_X h' B (fa_put A to.toNat (fs_read L)))) → ck_F B h h' → Q (.inl (some (sg_i v))) h') (hXI : (fr < 0 ∨ 4 ≤ fr ∨ to < 0 ∨ 4 ≤ to) → ∀ z, h.1 ≤ z → Q (.inr e_I) (z, h.2)) (hXA : ¬ (fr < 0 ∨ 4 ≤ fr ∨ to < 0 ∨ 4 ≤ to) → (fr = to) → ∀ z, h.1 ≤ z → Q (.inr e_A) (z, h.2)) : sg_C w mi_X5_read d 8 48 [sg_r B, sg_i fr, sg_i to] h Q := by
  refine sg_of pn_X5 (Nat.le_of_ble_eq_true rfl) ?_
  obtain ⟨x0, ho, hS, hP, hK⟩ := id hx
  have y0 := ck_Y0 x0
  refine sg_aload_n (pc := 0) (j := 0) (dc_X5_read_0.1.1.1.1) rfl rfl ?_
  refine sg_iload_n (pc := 1) (j := 1) (dc_X5_read_0.1.1.1.2) rfl rfl ?_
  refine sg_cE1 (pc := 2) (d' := d - 1) (mc' := 1) (ms' := 6) 6 g (dc_X5_read_0.1.1.2.1) cb_X5_rowOf ml_X5_36 mn_X5_rowOf rfl mv_X5_rowOf (Nat.le_of_ble_eq_true rfl) (ck_oc (by assumption)) (Nat.le_of_ble_eq_true rfl) (by first | exact jl_d0 hd rfl | omega) (by first | exact Nat.le_of_ble_eq_true rfl | omega) (by first | exact Nat.le_of_ble_eq_true rfl | omega) ?_
  refine f_X5_rowOf g (by first | exact jl_d1 hd rfl | omega) (by assumption) (fun l2 r2 L2 => sg_K1 ?_) (fun t2 z2 w2 => sg_KX (by first | exact Nat.le_of_ble_eq_true rfl | omega) (by first | exact Nat.le_of_ble_eq_true rfl | omega) (hXI (by omega) z2 w2))
  obtain ⟨a2, ea2⟩ : ∃ a, a = B + 1 + 3 + 2 * fr.toNat := ⟨_, rfl⟩
  rw [← ea2] at L2 ⊢
  have k2 : cf_l h a2 = L := by rw [ea2, cf_rl hx (by omega)]; exact hL
  have r42 := fa_row ok (i := fr.toNat) (by omega)
  rw [hL] at r42
  refine sg_astore_n (pc := 5) (j := 3) (dc_X5_read_0.1.1.2.2) rfl (by decide) ?_
  refine sg_aload_n (pc := 6) (j := 0) (dc_X5_read_0.1.2.1.1) rfl rfl ?_
  refine sg_iload_n (pc := 7) (j := 2) (dc_X5_read_0.1.2.1.2) rfl rfl ?_
  refine sg_cE1 (pc := 8) (d' := d - 1) (mc' := 1) (ms' := 6) 6 g (dc_X5_read_0.1.2.2.1) cb_X5_rowOf ml_X5_36 mn_X5_rowOf rfl mv_X5_rowOf (Nat.le_of_ble_eq_true rfl) (ck_oc (by assumption)) (Nat.le_of_ble_eq_true rfl) (by first | exact jl_d0 hd rfl | omega) (by first | exact Nat.le_of_ble_eq_true rfl | omega) (by first | exact Nat.le_of_ble_eq_true rfl | omega) ?_
  refine f_X5_rowOf g (by first | exact jl_d1 hd rfl | omega) (by assumption) (fun l8 r8 L8 => sg_K1 ?_) (fun t8 z8 w8 => sg_KX (by first | exact Nat.le_of_ble_eq_true rfl | omega) (by first | exact Nat.le_of_ble_eq_true rfl | omega) (hXI (by omega) z8 w8))
  obtain ⟨a8, ea8⟩ : ∃ a, a = B + 1 + 3 + 2 * to.toNat := ⟨_, rfl⟩
  rw [← ea8] at L8 ⊢
  have k8 : cf_l h a8 = M := by rw [ea8, cf_rl hx (by omega)]; exact hM
  have r48 := fa_row ok (i := to.toNat) (by omega)
  rw [hM] at r48
  refine sg_astore (pc := 11) (dc_X5_read_0.1.2.2.2) (by decide) ?_
  refine sg_iload_n (pc := 13) (j := 1) (dc_X5_read_0.2.1.1.1) rfl rfl ?_
  refine sg_iload_n (pc := 14) (j := 2) (dc_X5_read_0.2.1.1.2) rfl rfl ?_
  refine sg_cS2 (pc := 15) (d' := d - 1) (mc' := 1) (ms' := 6) g (dc_X5_read_0.2.1.2.1) cb_X5_checkAreTwo ml_X5_132 ms_X5_checkAreTwo (Nat.le_of_ble_eq_true rfl) (by first | exact jl_d0 hd rfl | omega) (by first | exact Nat.le_of_ble_eq_true rfl | omega) (by first | exact Nat.le_of_ble_eq_true rfl | omega) ?_
  refine s_X5_checkAreTwo g (by first | exact jl_d1 hd rfl | omega) (fun v15 => sg_K0 ?_) (fun t15 z15 w15 => sg_KX (by first | exact Nat.le_of_ble_eq_true rfl | omega) (by first | exact Nat.le_of_ble_eq_true rfl | omega) (hXA (by omega) (by omega) z15 w15))
  refine sg_aload_n (pc := 18) (j := 3) (dc_X5_read_0.2.1.2.2) rfl rfl ?_
  refine sg_cS1 (pc := 19) (d' := d - 1) (mc' := 0) (ms' := 0) g (dc_X5_read_0.2.2.1.1) cb_X5_canBeRead ml_X5_144 ms_X5_canBeRead (Nat.le_of_ble_eq_true rfl) (by first | exact jl_d0 hd rfl | omega) (by first | exact Nat.le_of_ble_eq_true rfl | omega) (by first | exact Nat.le_of_ble_eq_true rfl | omega) ?_
  refine f_X5_canBeRead g (by first | exact jl_d1 hd rfl | omega) x0 L2 k2 (fun z19 b19 => sg_K1 ?_)
  refine sg_if_ne (pc := 22) (tgt := 28) (dc_X5_read_0.2.2.1.2) (by decide) (fun c22 => ?_) (fun c22 => ?_)
  · have hcan : fs_can L := by
      rcases b19 with b | b
      · exact absurd b.1 (by omega)
      · exact b.2
    have hev := hcan.1
    refine sg_aload_n (pc := 28) (j := 0) (dc_X5_read_28.1.1.1.1) rfl rfl ?_
    refine ck_gob (pc := 29) g (dc_X5_read_28.1.1.1.2) fk_X5_19 (by assumption) (fun _ => rfl) ?_
    refine sg_aload_n (pc := 32) (j := 0) (dc_X5_read_28.1.1.2.1) rfl rfl ?_
    refine ck_gob (pc := 33) g (dc_X5_read_28.1.1.2.2) fk_X5_10 (by assumption) (fun _ => rfl) ?_
    refine sg_cE1 (pc := 36) (d' := d - 1) (mc' := 0) (ms' := 0) 4 g (dc_X5_read_28.1.2.1.1) cb_X1_keep ml_X5_55 mn_X1_keep rfl mv_X1_keep (Nat.le_of_ble_eq_true rfl) (ck_pc (by assumption)) (Nat.le_of_ble_eq_true rfl) (by first | exact jl_d0 hd rfl | omega) (by first | exact Nat.le_of_ble_eq_true rfl | omega) (by first | exact Nat.le_of_ble_eq_true rfl | omega) ?_
    refine f_X1_keep g (by first | exact jl_d1 hd rfl | omega) x0 ho (fun h36 x36 F36 fr36 ho36 P36 => sg_K0 ?_)
    have y36 : ck_Y h h36 B := ⟨x36, F36⟩
    have q36a2 : cf_l h36 a2 = cf_l h a2 := cf_lq (fr36 _ (by omega)) (fr36 _ (by omega))
    rw [k2] at q36a2
    have q36a8 : cf_l h36 a8 = cf_l h a8 := cf_lq (fr36 _ (by omega)) (fr36 _ (by omega))
    rw [k8] at q36a8
    refine sg_aload (pc := 39) (dc_X5_read_28.1.2.1.2) rfl ?_
    refine sg_cE0 (pc := 41) (d' := d - 1) (mc' := 0) (ms' := 0) 3 g (dc_X5_read_28.1.2.2.1) cb_X0_clear ml_X5_135 mn_X0_clear rfl mv_X0_clear (Nat.le_of_ble_eq_true rfl) (ck_lc (by assumption) (by first | assumption | exact ck_rev)) (Nat.le_of_ble_eq_true rfl) (by first | exact jl_d0 hd rfl | omega) (by first | exact Nat.le_of_ble_eq_true rfl | omega) (by first | exact Nat.le_of_ble_eq_true rfl | omega) ?_
    refine f_X0_clear g (by first | exact jl_d1 hd rfl | omega) (by assumption) L8 (fun h41 x41 f41 n41 w41 l41 => sg_K0 ?_)
    have y41 := ck_Yt (h0 := h) (by assumption) x41 f41.1
    refine sg_iconst (pc := 44) (z := 0) (dc_X5_read_28.1.2.2.2) (by decide) ?_
    refine sg_istore (pc := 45) (dc_X5_read_28.2.1.1.1) (by decide) ?_
    have loop47 : ∀ (N : Nat) (h1 : sg_H) (p : Int), (ck_X h1 B) → (ck_G B a8 h36 h1) → (0 ≤ p ∧ p ≤ (L.length : Int) ∧ p % 2 = 0) → (cf_l h1 a8 = tt_b (p.toNat / 2) (fs_rd L)) → ((L.length : Int) - p).toNat < N → sg_R w mi_X5_read d 8 48 Q 47 [(5, sg_i p), (0, sg_r B), (3, sg_r a2), (4, sg_r a8)] [] h1 3 18 := by
      intro N
      induction N with
      | zero => intro h1 p x1 G1 p0 l1 hm; exact absurd hm (Nat.not_lt_zero _)
      | succ N ih =>
        intro h1 p x1 G1 p0 l1 hm
        have y1 : ck_Y h h1 B := ⟨x1, ck_Ft F36 G1.1⟩
        have m1 : cf_l h1 a2 = L := (cf_fr G1 (by unfold cf_ap; omega)).1.trans q36a2
        refine sg_iload (pc := 47) (dc_X5_read_28.2.1.1.2) rfl ?_
        refine sg_iconst (pc := 49) (z := 1) (dc_X5_read_28.2.1.2.1) (by decide) ?_
        first | refine sg_iaddB (pc := 50) (dc_X5_read_28.2.1.2.2) (by omega) (by omega) ?_ | refine sg_iadd (pc := 50) (dc_X5_read_28.2.1.2.2) ?_
        refine sg_aload_n (pc := 51) (j := 3) (dc_X5_read_28.2.2.1.1) rfl rfl ?_
        refine sg_cE0 (pc := 52) (d' := d - 1) (mc' := 0) (ms' := 0) 3 g (dc_X5_read_28.2.2.1.2) cb_X0_size ml_X5_63 mn_X0_size rfl mv_X0_size (Nat.le_of_ble_eq_true rfl) (ck_lc (by assumption) (by first | assumption | exact ck_rev)) (Nat.le_of_ble_eq_true rfl) (by first | exact jl_d0 hd rfl | omega) (by first | exact Nat.le_of_ble_eq_true rfl | omega) (by first | exact Nat.le_of_ble_eq_true rfl | omega) ?_
        refine f_X0_size g (by first | exact jl_d1 hd rfl | omega) (by assumption) L2 (fun z52 e52 l052 u52 => sg_K1 ?_)
        rw [m1] at e52
        try rw [fa_tlen] at e52
        refine sg_icmp_ge (pc := 55) (tgt := 105) (dc_X5_read_28.2.2.2.1) (by decide) (fun c55 => ?_) (fun c55 => ?_)
        · refine sg_aload (pc := 105) (dc_X5_read_92.1.2.2.1) rfl ?_
          refine sg_cE0 (pc := 107) (d' := d - 1) (mc' := 0) (ms' := 0) 3 g (dc_X5_read_92.1.2.2.2) cb_X0_size ml_X5_63 mn_X0_size rfl mv_X0_size (Nat.le_of_ble_eq_true rfl) (ck_lc (by assumption) (by first | assumption | exact ck_rev)) (Nat.le_of_ble_eq_true rfl) (by first | exact jl_d0 hd rfl | omega) (by first | exact Nat.le_of_ble_eq_true rfl | omega) (by first | exact Nat.le_of_ble_eq_true rfl | omega) ?_
          refine f_X0_size g (by first | exact jl_d1 hd rfl | omega) (by assumption) L8 (fun z107 e107 l0107 u107 => sg_K1 ?_)
          rw [l1] at e107
          try rw [fa_tlen] at e107
          refine sg_iret (pc := 110) (dc_X5_read_92.2.1.1.1) rfl (by first | exact Nat.le_of_ble_eq_true rfl | omega) (by first | exact Nat.le_of_ble_eq_true rfl | omega) ?_
          first
            | (rcases b19 with b | b
               · exact hQ (by omega) (by omega) _ _ (Or.inl ⟨b.2, rfl, hx⟩) ck_F0
               · exact absurd b.1 (by omega))
            | (exact hQ (by omega) (by omega) _ _ (Or.inr ⟨hcan, by rw [e107, fs_read, tt_len, tt_len]; omega, cf_put (i := to.toNat) hx fr36 ho36 P36 x1 G1 (by omega) (by omega) (by rw [l1, show p.toNat / 2 = L.length / 2 by omega]; rfl)⟩) (ck_Ft F36 G1.1))
        · refine sg_aload_n (pc := 58) (j := 3) (dc_X5_read_28.2.2.2.2) rfl rfl ?_
          refine sg_iload (pc := 59) (dc_X5_read_59.1.1.1.1) rfl ?_
          refine sg_cE1 (pc := 61) (d' := d - 1) (mc' := 0) (ms' := 0) 3 g (dc_X5_read_59.1.1.1.2) cb_X0_get ml_X5_75 mn_X0_get rfl mv_X0_get (Nat.le_of_ble_eq_true rfl) (ck_lc (by assumption) (by first | assumption | exact ck_rev)) (Nat.le_of_ble_eq_true rfl) (by first | exact jl_d0 hd rfl | omega) (by first | exact Nat.le_of_ble_eq_true rfl | omega) (by first | exact Nat.le_of_ble_eq_true rfl | omega) ?_
          refine f_X0_get g (by first | exact jl_d1 hd rfl | omega) (by assumption) L2 (fun z61 e61 v61 => sg_K1 ?_)
          rw [m1] at e61
          rw [m1] at v61
          try rw [fa_tg (by omega) (by omega)] at e61
          refine sg_bipush (pc := 64) (z := 16) (dc_X5_read_59.1.1.2.1) (by decide) ?_
          rw [gg_in (by omega) (by omega)] at e61
          subst e61
          refine sg_cS2 (pc := 66) (d' := d - 1) (mc' := 0) (ms' := 0) g (dc_X5_read_59.1.1.2.2) cb_X2_numberOf ml_X5_148 ms_X2_numberOf (Nat.le_of_ble_eq_true rfl) (by first | exact jl_d0 hd rfl | omega) (by first | exact Nat.le_of_ble_eq_true rfl | omega) (by first | exact Nat.le_of_ble_eq_true rfl | omega) ?_
          refine s_X2_numberOf g (by first | exact jl_d1 hd rfl | omega) (fun z66 h66 => sg_K1 ?_)
          refine sg_istore (pc := 69) (dc_X5_read_59.1.2.1.1) (by decide) ?_
          refine sg_aload_n (pc := 71) (j := 3) (dc_X5_read_59.1.2.1.2) rfl rfl ?_
          refine sg_iload (pc := 72) (dc_X5_read_59.1.2.2.1) rfl ?_
          refine sg_iconst (pc := 74) (z := 1) (dc_X5_read_59.1.2.2.2) (by decide) ?_
          first | refine sg_iaddB (pc := 75) (dc_X5_read_59.2.1.1.1) (by omega) (by omega) ?_ | refine sg_iadd (pc := 75) (dc_X5_read_59.2.1.1.1) ?_
          refine sg_cE1 (pc := 76) (d' := d - 1) (mc' := 0) (ms' := 0) 3 g (dc_X5_read_59.2.1.1.2) cb_X0_get ml_X5_75 mn_X0_get rfl mv_X0_get (Nat.le_of_ble_eq_true rfl) (ck_lc (by assumption) (by first | assumption | exact ck_rev)) (Nat.le_of_ble_eq_true rfl) (by first | exact jl_d0 hd rfl | omega) (by first | exact Nat.le_of_ble_eq_true rfl | omega) (by first | exact Nat.le_of_ble_eq_true rfl | omega) ?_
          refine f_X0_get g (by first | exact jl_d1 hd rfl | omega) (by assumption) L2 (fun z76 e76 v76 => sg_K1 ?_)
          rw [m1] at e76
          rw [m1] at v76
          try rw [fa_tg (by omega) (by omega)] at e76
          refine sg_bipush (pc := 79) (z := 16) (dc_X5_read_59.2.1.2.1) (by decide) ?_
          rw [gg_in (by omega) (by omega)] at e76
          subst e76
          refine sg_cS2 (pc := 81) (d' := d - 1) (mc' := 0) (ms' := 0) g (dc_X5_read_59.2.1.2.2) cb_X2_numberOf ml_X5_148 ms_X2_numberOf (Nat.le_of_ble_eq_true rfl) (by first | exact jl_d0 hd rfl | omega) (by first | exact Nat.le_of_ble_eq_true rfl | omega) (by first | exact Nat.le_of_ble_eq_true rfl | omega) ?_
          refine s_X2_numberOf g (by first | exact jl_d1 hd rfl | omega) (fun z81 h81 => sg_K1 ?_)
          refine sg_istore (pc := 84) (dc_X5_read_59.2.2.1.1) (by decide) ?_
          refine sg_aload (pc := 86) (dc_X5_read_59.2.2.1.2) rfl ?_
          refine sg_iload (pc := 88) (dc_X5_read_59.2.2.2.1) rfl ?_
          refine sg_bipush (pc := 90) (z := 16) (dc_X5_read_59.2.2.2.2) (by decide) ?_
          have nb1 := fn_numb (L.getD p.toNat 0)
          have nb2 := fn_numb (L.getD (p + 1).toNat 0)
          rw [← h66] at nb1
          rw [← h81] at nb2
          first | refine sg_imulB (pc := 92) (dc_X5_read_92.1.1.1.1) (by omega) (by omega) ?_ | refine sg_imul (pc := 92) (dc_X5_read_92.1.1.1.1) ?_
          refine sg_iload (pc := 93) (dc_X5_read_92.1.1.1.2) rfl ?_
          first | refine sg_iaddB (pc := 95) (dc_X5_read_92.1.1.2.1) (by omega) (by omega) ?_ | refine sg_iadd (pc := 95) (dc_X5_read_92.1.1.2.1) ?_
          refine sg_cE1 (pc := 96) (d' := d - 1) (mc' := 0) (ms' := 0) 3 g (dc_X5_read_92.1.1.2.2) cb_X0_add ml_X5_129 mn_X0_add rfl mv_X0_add (Nat.le_of_ble_eq_true rfl) (ck_lc (by assumption) (by first | assumption | exact ck_rev)) (Nat.le_of_ble_eq_true rfl) (by first | exact jl_d0 hd rfl | omega) (by first | exact Nat.le_of_ble_eq_true rfl | omega) (by first | exact Nat.le_of_ble_eq_true rfl | omega) ?_
          have nn96 := cf_len (by assumption) L8
          rw [l1] at nn96
          try simp only [List.length_append, tt_len, List.length_cons, List.length_nil] at nn96
          have hcap96 : ck_cap 0 = 40 := rfl
          refine f_X0_add g (by first | exact jl_d1 hd rfl | omega) (by assumption) L8 (by first | exact ck_v0 | assumption | (simp only [ck_v1, ck_v2] at * <;> omega)) (by omega) (fun h96 x96 f96 n96 w96 => sg_K0 ?_)
          have l96 := cf_la (by assumption) L8 (by omega) n96 w96
          rw [l1] at l96
          have y96 := ck_Yt (h0 := h) (by assumption) x96 f96.1
          first | refine sg_iincB (pc := 99) (dc_X5_read_92.1.2.1.1) rfl (by decide) (by decide) (by omega) (by omega) ?_ | refine sg_iinc (pc := 99) (dc_X5_read_92.1.2.1.1) rfl (by decide) (by decide) ?_
          refine sg_goto (pc := 102) (tgt := 47) (dc_X5_read_92.1.2.1.2) (by decide) ?_
          refine sg_lsub (lv' := [(5, _), (0, _), (3, _), (4, _)]) ⟨rfl, rfl, rfl, rfl, trivial⟩ ?_
          exact ih _ _ x96 (ck_Gt G1 f96) (by omega) (by rw [l96, show (p + 2).toNat / 2 = p.toNat / 2 + 1 by omega, tt_succ]; unfold fs_rd; rw [show 2 * (p.toNat / 2) = p.toNat by omega, ← h66, show p.toNat + 1 = (p + 1).toNat by omega, ← h81, Int.mul_comm 16 z66]) (by first | exact jl_m1 hm (by omega) | exact jl_m2 hm (by omega) | omega)
    refine sg_lsub (lv' := [(5, _), (0, _), (3, _), (4, _)]) ⟨rfl, rfl, rfl, rfl, trivial⟩ ?_
    exact loop47 _ _ _ x41 f41 (by omega) (by rw [l41]; rfl) (Nat.lt_succ_self _)
  · refine sg_bipush (pc := 25) (z := -9) (dc_X5_read_0.2.2.2.1) (by decide) ?_
    refine sg_iret (pc := 27) (dc_X5_read_0.2.2.2.2) rfl (by first | exact Nat.le_of_ble_eq_true rfl | omega) (by first | exact Nat.le_of_ble_eq_true rfl | omega) ?_
    first
      | (rcases b19 with b | b
         · exact hQ (by omega) (by omega) _ _ (Or.inl ⟨b.2, rfl, hx⟩) ck_F0
         · exact absurd b.1 (by omega))
      | (exact hQ (by omega) (by omega) _ _ (Or.inr ⟨hcan, by rw [e107, fs_read, tt_len, tt_len]; omega, cf_put (i := to.toNat) hx fr36 ho36 P36 x1 G1 (by omega) (by omega) (by rw [l1, show p.toNat / 2 = L.length / 2 by omega]; rfl)⟩) (ck_Ft F36 G1.1))

