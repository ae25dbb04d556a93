/-! what the asks answer -/
noncomputable def fs_the (P : Int → Prop) : Int := @dite _ (∃ v, P v) (Classical.propDecidable _) (fun h => h.choose) (fun _ => 0)
theorem fs_theE {P : Int → Prop} (hu : ∀ a b, P a → P b → a = b) {v : Int} (h : P v) : v = fs_the P := by
  have hh : ∃ v, P v := ⟨v, h⟩
  unfold fs_the
  rw [dif_pos hh]
  exact hu _ _ h hh.choose_spec
def fs_cnt (L : List Int) (kind : Int) (n : Nat) : Int := fz (fun j => fn_isOf (L.getD j 0) kind) n
theorem fs_cnts {L : List Int} {kind p : Int} (p0 : 0 ≤ p) : fs_cnt L kind (p + 1).toNat = fs_cnt L kind p.toNat + fn_isOf (L.getD p.toNat 0) kind := fz_s p0
theorem fs_cntb {L : List Int} {kind : Int} {n : Nat} : 0 ≤ fs_cnt L kind n ∧ fs_cnt L kind n ≤ (n : Int) := by
  unfold fs_cnt
  induction n with
  | zero => exact ⟨Int.le_refl _, Int.le_refl _⟩
  | succ n ih =>
    have hb := fk_b (L.getD n 0) kind
    show 0 ≤ fz _ n + fn_isOf (L.getD n 0) kind ∧ fz _ n + fn_isOf (L.getD n 0) kind ≤ _
    omega
/-- the first place from f on -/
def fs_fR (L : List Int) (kind f v : Int) : Prop := (v = -1 ∧ ∀ j : Nat, f ≤ (j : Int) → j < L.length → fn_isOf (L.getD j 0) kind = 0) ∨ (f ≤ v ∧ 0 ≤ v ∧ v < (L.length : Int) ∧ fn_isOf (L.getD v.toNat 0) kind ≠ 0 ∧ ∀ j : Nat, f ≤ (j : Int) → (j : Int) < v → fn_isOf (L.getD j 0) kind = 0)
theorem fs_fU {L : List Int} {kind f : Int} (a b : Int) (x : fs_fR L kind f a) (y : fs_fR L kind f b) : a = b := by
  rcases x with ⟨x1, x2⟩ | ⟨x1, x2, x3, x4, x5⟩ <;> rcases y with ⟨y1, y2⟩ | ⟨y1, y2, y3, y4, y5⟩
  · omega
  · exact absurd (x2 b.toNat (by omega) (by omega)) y4
  · exact absurd (y2 a.toNat (by omega) (by omega)) x4
  · rcases Int.lt_trichotomy a b with c | c | c
    · exact absurd (y5 a.toNat (by omega) (by omega)) x4
    · exact c
    · exact absurd (x5 b.toNat (by omega) (by omega)) y4
noncomputable def fs_first (L : List Int) (kind f : Int) : Int := fs_the (fs_fR L kind f)
/-- the last place -/
def fs_lR (L : List Int) (kind v : Int) : Prop := (v = -1 ∧ ∀ j : Nat, j < L.length → fn_isOf (L.getD j 0) kind = 0) ∨ (0 ≤ v ∧ v < (L.length : Int) ∧ fn_isOf (L.getD v.toNat 0) kind ≠ 0 ∧ ∀ j : Nat, v < (j : Int) → j < L.length → fn_isOf (L.getD j 0) kind = 0)
theorem fs_lU {L : List Int} {kind : Int} (a b : Int) (x : fs_lR L kind a) (y : fs_lR L kind b) : a = b := by
  rcases x with ⟨x1, x2⟩ | ⟨x1, x2, x3, x4⟩ <;> rcases y with ⟨y1, y2⟩ | ⟨y1, y2, y3, y4⟩
  · omega
  · exact absurd (x2 b.toNat (by omega)) y3
  · exact absurd (y2 a.toNat (by omega)) x3
  · rcases Int.lt_trichotomy a b with c | c | c
    · exact absurd (x4 b.toNat (by omega) (by omega)) y3
    · exact c
    · exact absurd (y4 a.toNat (by omega) (by omega)) x3
noncomputable def fs_last (L : List Int) (kind : Int) : Int := fs_the (fs_lR L kind)
/-- a row told as a number -/
def fs_tf (L : List Int) (r : Int) : Nat → Int
  | 0 => 0
  | n + 1 => (fs_tf L r n * r + fn_num (L.getD n 0) r) % 1000003
theorem fs_tfs {L : List Int} {r p : Int} (p0 : 0 ≤ p) : fs_tf L r (p + 1).toNat = (fs_tf L r p.toNat * r + fn_num (L.getD p.toNat 0) r) % 1000003 := by
  rw [show (p + 1).toNat = p.toNat + 1 by omega]
  rfl
theorem fs_tfb {L : List Int} {r : Int} : ∀ n : Nat, 0 ≤ fs_tf L r n ∧ fs_tf L r n < 1000003
  | 0 => ⟨Int.le_refl _, show (0 : Int) < 1000003 by decide⟩
  | n + 1 => by
    show 0 ≤ (_ : Int) % 1000003 ∧ (_ : Int) % 1000003 < 1000003
    omega
def fs_tR (L : List Int) (r v : Int) : Prop := (v = -9 ∧ (L.length = 0 ∨ ∃ j : Nat, j < L.length ∧ fn_num (L.getD j 0) r = -1)) ∨ (v = fs_tf L r L.length ∧ L.length ≠ 0 ∧ ∀ j : Nat, j < L.length → fn_num (L.getD j 0) r ≠ -1)
theorem fs_tU {L : List Int} {r : Int} (a b : Int) (x : fs_tR L r a) (y : fs_tR L r b) : a = b := by
  rcases x with ⟨x1, x2⟩ | ⟨x1, x2, x3⟩ <;> rcases y with ⟨y1, y2⟩ | ⟨y1, y2, y3⟩
  · omega
  · rcases x2 with q | ⟨j, q1, q2⟩
    · exact absurd q y2
    · exact absurd q2 (y3 j q1)
  · rcases y2 with q | ⟨j, q1, q2⟩
    · exact absurd q x2
    · exact absurd q2 (x3 j q1)
  · omega
noncomputable def fs_told (L : List Int) (r : Int) : Int := fs_the (fs_tR L r)
/-- sums -/
def fs_sm (L : List Int) (r : Int) (n : Nat) : Int := fz (fun j => if fn_num (L.getD j 0) r = -1 then 0 else fn_num (L.getD j 0) r) n
theorem fs_sms {L : List Int} {r p : Int} (p0 : 0 ≤ p) : fs_sm L r (p + 1).toNat = fs_sm L r p.toNat + (if fn_num (L.getD p.toNat 0) r = -1 then 0 else fn_num (L.getD p.toNat 0) r) := fz_s p0
theorem fn_nb (x r : Int) : -1 ≤ fn_num x r ∧ fn_num x r ≤ 35 := by
  unfold fn_num fn_plain
  (repeat' split) <;> omega
theorem fs_smb {L : List Int} {r : Int} {n : Nat} : 0 ≤ fs_sm L r n ∧ fs_sm L r n ≤ 35 * (n : Int) := by
  unfold fs_sm
  induction n with
  | zero => exact ⟨Int.le_refl _, Int.le_refl _⟩
  | succ n ih =>
    have hb := fn_nb (L.getD n 0) r
    show 0 ≤ fz _ n + (if _ then 0 else _) ∧ fz _ n + (if _ then 0 else _) ≤ _
    split <;> omega
def fs_vs (L : List Int) (n : Nat) : Int := fz (fun j => if 0 ≤ fn_val (L.getD j 0) then fn_val (L.getD j 0) else 0) n
theorem fs_vss {L : List Int} {p : Int} (p0 : 0 ≤ p) : fs_vs L (p + 1).toNat = fs_vs L p.toNat + (if 0 ≤ fn_val (L.getD p.toNat 0) then fn_val (L.getD p.toNat 0) else 0) := fz_s p0
theorem fn_vb (x : Int) : -2 ≤ fn_val x ∧ fn_val x ≤ 35 := by
  unfold fn_val fn_plain
  (repeat' split) <;> omega
theorem fs_vsb {L : List Int} {n : Nat} : 0 ≤ fs_vs L n ∧ fs_vs L n ≤ 35 * (n : Int) := by
  unfold fs_vs
  induction n with
  | zero => exact ⟨Int.le_refl _, Int.le_refl _⟩
  | succ n ih =>
    have hb := fn_vb (L.getD n 0)
    show 0 ≤ fz _ n + (if _ then _ else 0) ∧ fz _ n + (if _ then _ else 0) ≤ _
    split <;> omega
/-- words -/
abbrev fs_wb (L : List Int) (j : Nat) : Prop := fn_isOf (L.getD j 0) 2 ≠ 0 ∧ (j = 0 ∨ fn_isOf (L.getD (j - 1) 0) 2 = 0)
def fs_wn (L : List Int) (n : Nat) : Int := fz (fun j => if fs_wb L j then 1 else 0) n
theorem fs_wns {L : List Int} {p : Int} (p0 : 0 ≤ p) : fs_wn L (p + 1).toNat = fs_wn L p.toNat + (if fs_wb L p.toNat then 1 else 0) := fz_s p0
theorem fs_wnb {L : List Int} {n : Nat} : 0 ≤ fs_wn L n ∧ fs_wn L n ≤ (n : Int) := by
  unfold fs_wn
  induction n with
  | zero => exact ⟨Int.le_refl _, Int.le_refl _⟩
  | succ n ih =>
    show 0 ≤ fz _ n + (if _ then 1 else 0) ∧ fz _ n + (if _ then 1 else 0) ≤ _
    split <;> omega
theorem fs_wnm {L : List Int} {m : Nat} : ∀ k : Nat, fs_wn L m ≤ fs_wn L (m + k)
  | 0 => Int.le_refl _
  | k + 1 => by
    have h := fs_wnm (L := L) (m := m) k
    have e : fs_wn L (m + (k + 1)) = fs_wn L (m + k) + (if fs_wb L (m + k) then 1 else 0) := rfl
    rw [e]
    split <;> omega
/-- the k-th word's first place -/
def fs_wR (L : List Int) (k v : Int) : Prop := (v = -1 ∧ ∀ j : Nat, j < L.length → fs_wb L j → fs_wn L j ≠ k) ∨ (0 ≤ v ∧ v < (L.length : Int) ∧ fs_wb L v.toNat ∧ fs_wn L v.toNat = k)
theorem fs_wlt {L : List Int} {a b : Nat} (h : a < b) (w : fs_wb L a) : fs_wn L a < fs_wn L b := by
  have h1 := fs_wnm (L := L) (m := a + 1) (b - (a + 1))
  rw [show a + 1 + (b - (a + 1)) = b by omega] at h1
  have e : fs_wn L (a + 1) = fs_wn L a + (if fs_wb L a then 1 else 0) := rfl
  rw [if_pos w] at e
  omega
theorem fs_wU {L : List Int} {k : Int} (a b : Int) (x : fs_wR L k a) (y : fs_wR L k b) : a = b := by
  rcases x with ⟨x1, x2⟩ | ⟨x1, x2, x3, x4⟩ <;> rcases y with ⟨y1, y2⟩ | ⟨y1, y2, y3, y4⟩
  · omega
  · exact absurd y4 (x2 b.toNat (by omega) y3)
  · exact absurd x4 (y2 a.toNat (by omega) x3)
  · rcases Int.lt_trichotomy a b with c | c | c
    · have := fs_wlt (L := L) (a := a.toNat) (b := b.toNat) (by omega) x3
      omega
    · exact c
    · have := fs_wlt (L := L) (a := b.toNat) (b := a.toNat) (by omega) y3
      omega
noncomputable def fs_wat (L : List Int) (k : Int) : Int := fs_the (fs_wR L k)
/-- where the word that begins at b ends -/
def fs_eR (L : List Int) (b e : Int) : Prop := b ≤ e ∧ e ≤ (L.length : Int) ∧ (∀ j : Nat, b ≤ (j : Int) → (j : Int) < e → fn_isOf (L.getD j 0) 2 ≠ 0) ∧ (e = (L.length : Int) ∨ fn_isOf (L.getD e.toNat 0) 2 = 0)
theorem fs_eU {L : List Int} {k : Int} (k0 : 0 ≤ k) (a b : Int) (x : fs_eR L k a) (y : fs_eR L k b) : a = b := by
  obtain ⟨x1, x2, x3, x4⟩ := x
  obtain ⟨y1, y2, y3, y4⟩ := y
  rcases Int.lt_trichotomy a b with c | c | c
  · rcases x4 with q | q
    · omega
    · exact absurd q (y3 a.toNat (by omega) (by omega))
  · exact c
  · rcases y4 with q | q
    · omega
    · exact absurd q (x3 b.toNat (by omega) (by omega))
noncomputable def fs_end (L : List Int) (b : Int) : Int := fs_the (fs_eR L b)
/-- rows beside each other -/
def fs_al (L M : List Int) : Prop := L.length = M.length ∧ ∀ j : Nat, j < L.length → fn_upper (L.getD j 0) = fn_upper (M.getD j 0)
def fs_cmp (x y : Int) : Int := if x = y then 0 else if x < y then -1 else 1
def fs_oR (L M : List Int) (v : Int) : Prop := (∃ j : Nat, j < L.length ∧ j < M.length ∧ (∀ i : Nat, i < j → L.getD i 0 = M.getD i 0) ∧ L.getD j 0 ≠ M.getD j 0 ∧ v = fs_cmp (L.getD j 0) (M.getD j 0)) ∨ ((∀ i : Nat, i < L.length → i < M.length → L.getD i 0 = M.getD i 0) ∧ v = fs_cmp (L.length : Int) (M.length : Int))
theorem fs_oU {L M : List Int} (a b : Int) (x : fs_oR L M a) (y : fs_oR L M b) : a = b := by
  rcases x with ⟨j, x1, x2, x3, x4, x5⟩ | ⟨x1, x2⟩ <;> rcases y with ⟨i, y1, y2, y3, y4, y5⟩ | ⟨y1, y2⟩
  · rcases Nat.lt_trichotomy j i with c | c | c
    · exact absurd (y3 j c) x4
    · subst c
      rw [x5, y5]
    · exact absurd (x3 i c) y4
  · exact absurd (y1 j x1 x2) x4
  · exact absurd (x1 i y1 y2) y4
  · rw [x2, y2]
noncomputable def fs_ord (L M : List Int) : Int := fs_the (fs_oR L M)
/-- the CODES ahead of a place stand first in the list of CODES -/
theorem fs_cpre {L : List Int} {p : Nat} : ∀ k : Nat, ∃ X, fs_cs L (p + k) = fs_cs L p ++ X
  | 0 => ⟨[], (List.append_nil _).symm⟩
  | k + 1 => by
    obtain ⟨X, hX⟩ := fs_cpre (L := L) (p := p) k
    refine ⟨X ++ (if fs_bg L (p + k) then [fs_cd L (p + k)] else []), ?_⟩
    rw [show p + (k + 1) = (p + k) + 1 by omega, fs_css, hX, List.append_assoc]
theorem fs_cat {L : List Int} {p : Nat} (hp : p < L.length) (hb : fs_bg L p) : (fs_codes L).getD (fs_cs L p).length 0 = fs_cd L p ∧ (fs_cs L p).length < (fs_codes L).length := by
  obtain ⟨X, hX⟩ := fs_cpre (L := L) (p := p + 1) (L.length - (p + 1))
  rw [show p + 1 + (L.length - (p + 1)) = L.length by omega, fs_css, if_pos hb, List.append_assoc] at hX
  show (fs_cs L L.length).getD _ 0 = _ ∧ _ < (fs_cs L L.length).length
  rw [hX, gd_app, if_neg (by omega), Nat.sub_self]
  refine ⟨rfl, ?_⟩
  simp only [List.length_append, List.length_cons, List.length_nil]
  omega
/-- the whole -/
def fs_hs (A : fa_A) : Int := ((fa_L A 0).length : Int) + ((fa_L A 1).length : Int) + ((fa_L A 2).length : Int) + ((fa_L A 3).length : Int)
def fs_hu (A : fa_A) : Int := ((fa_L A 4).length : Int) + ((fa_L A 5).length : Int)
def fs_house (A : fa_A) (what : Int) : Int := if what = 0 then fs_hs A else if what = 1 then fs_hu A else if what = 2 then (A.2.1.length : Int) else A.2.2
theorem cf_h0 {h : sg_H} {B : Nat} {A : fa_A} (hx : cf_X h B A) : cf_hm h (B + 1) 4 = fs_hs A := by
  have e0 := cf_rl hx (i := 0) (by decide)
  have e1 := cf_rl hx (i := 1) (by decide)
  have e2 := cf_rl hx (i := 2) (by decide)
  have e3 := cf_rl hx (i := 3) (by decide)
  unfold fs_hs
  rw [← e0, ← e1, ← e2, ← e3]
  show 0 + _ + _ + _ + _ = _
  rw [Int.zero_add]
theorem cf_h1 {h : sg_H} {B : Nat} {A : fa_A} (hx : cf_X h B A) : cf_ht h (B + 1) 2 = fs_hu A := by
  have e0 := cf_rl hx (i := 4) (by decide)
  have e1 := cf_rl hx (i := 5) (by decide)
  unfold fs_hu
  rw [← e0, ← e1]
  show 0 + _ + _ = _
  rw [Int.zero_add]

set_option maxRecDepth 100000 in
theorem f_X5_numberAt {w : sg_W} {Q : sg_O → sg_H → Prop} {h : sg_H} (g : sg_G w) {d : Nat} (hd : 11 ≤ d) {B a1 c : Nat} (hx : ck_X h B) (L1 : ck_L B a1 c) {L : List Int} (kk : cf_l h a1 = L) {p : Int} (hQ : 0 ≤ p → p < (L.length : Int) → ∀ v : Int, v = L.getD p.toNat 0 → Q (.inl (some (sg_i v))) h) (hX : (p < 0 ∨ (L.length : Int) ≤ p) → ∀ z, h.1 ≤ z → Q (.inr e_I) (z, h.2)) : sg_C w mi_X5_numberAt d 1 6 [sg_r a1, sg_i p] h Q := by
  refine sg_of pn_X5 (Nat.le_of_ble_eq_true rfl) ?_
  have y0 := ck_Y0 hx
  have l40 := cf_40 hx L1
  rw [kk] at l40
  have hc40 : ck_cap c ≤ 40 := ck_capl
  refine sg_aload_n (pc := 0) (j := 0) (dc_X5_numberAt_0.1.1.1.1) rfl rfl ?_
  refine sg_iload_n (pc := 1) (j := 1) (dc_X5_numberAt_0.1.1.1.2) rfl rfl ?_
  refine sg_cE1 (pc := 2) (d' := d - 1) (mc' := 0) (ms' := 0) 3 g (dc_X5_numberAt_0.1.1.2.1) cb_X0_hasPlace ml_X5_261 mn_X0_hasPlace rfl mv_X0_hasPlace (Nat.le_of_ble_eq_true rfl) (ck_lc (by assumption) (by first | assumption | exact ck_rev)) (Nat.le_of_ble_eq_true rfl) (by first | exact jl_d0 hd rfl | omega) (by first | exact Nat.le_of_ble_eq_true rfl | omega) (by first | exact Nat.le_of_ble_eq_true rfl | omega) ?_
  refine f_X0_hasPlace g (by first | exact jl_d1 hd rfl | omega) (by assumption) L1 (fun z2 b2 i2 j2 => sg_K1 ?_)
  rw [kk] at i2
  rw [kk] at j2
  refine sg_if_ne (pc := 5) (tgt := 19) (dc_X5_numberAt_0.1.1.2.2) (by decide) (fun c5 => ?_) (fun c5 => ?_)
  · refine sg_aload_n (pc := 19) (j := 0) (dc_X5_numberAt_0.2.1.1.2) rfl rfl ?_
    refine sg_iload_n (pc := 20) (j := 1) (dc_X5_numberAt_0.2.1.2.1) rfl rfl ?_
    refine sg_cE1 (pc := 21) (d' := d - 1) (mc' := 0) (ms' := 0) 3 g (dc_X5_numberAt_0.2.1.2.2) cb_X0_get ml_X5_75 mn_X0_get rfl mv_X0_get (Nat.le_of_ble_eq_true rfl) (ck_lc (by assumption) (by first | assumption | exact ck_rev)) (Nat.le_of_ble_eq_true rfl) (by first | exact jl_d0 hd rfl | omega) (by first | exact Nat.le_of_ble_eq_true rfl | omega) (by first | exact Nat.le_of_ble_eq_true rfl | omega) ?_
    refine f_X0_get g (by first | exact jl_d1 hd rfl | omega) (by assumption) L1 (fun z21 e21 v21 => sg_K1 ?_)
    rw [kk] at e21
    rw [kk] at v21
    try rw [fa_tg (by omega) (by omega)] at e21
    refine sg_iret (pc := 24) (dc_X5_numberAt_0.2.2.1.1) rfl (by first | exact Nat.le_of_ble_eq_true rfl | omega) (by first | exact Nat.le_of_ble_eq_true rfl | omega) ?_
    exact hQ (by omega) (by omega) _ (by rw [e21, gg_in (by omega) (by omega)])
  · refine sg_throwW (pc := 8) g th_X5_226_264 (dc_X5_numberAt_0.1.2.1.1) (dc_X5_numberAt_0.1.2.1.2) (dc_X5_numberAt_0.1.2.2.1) (dc_X5_numberAt_0.1.2.2.2) (dc_X5_numberAt_0.2.1.1.1) (by first | exact Nat.le_trans (Nat.le_of_ble_eq_true rfl) hd | omega) (Nat.le_of_ble_eq_true rfl) (by first | exact Nat.le_of_ble_eq_true rfl | omega) (by first | exact Nat.le_of_ble_eq_true rfl | omega) ?_
    exact fun z hz => hX (by omega) z hz

set_option maxRecDepth 100000 in
theorem f_X5_length {w : sg_W} {Q : sg_O → sg_H → Prop} {h : sg_H} (g : sg_G w) {d : Nat} (hd : 14 ≤ d) {B : Nat} {A : fa_A} (hx : cf_X h B A) (ok : fa_ok A) {row : Int} {L : List Int} (hL : fa_L A row.toNat = L) (hQ : ¬ (row < 0 ∨ 4 ≤ row) → ∀ v : Int, v = (L.length : Int) → Q (.inl (some (sg_i v))) h) (hXI : (row < 0 ∨ 4 ≤ row) → ∀ z, h.1 ≤ z → Q (.inr e_I) (z, h.2)) : sg_C w mi_X5_length d 8 48 [sg_r B, sg_i row] h Q := by
  refine sg_of pn_X5 (Nat.le_of_ble_eq_true rfl) ?_
  obtain ⟨x0, ho, hS, hP, hK⟩ := id hx
  have y0 := ck_Y0 x0
  refine sg_aload_n (pc := 0) (j := 0) (dc_X5_length_0.1.1.1) rfl rfl ?_
  refine sg_iload_n (pc := 1) (j := 1) (dc_X5_length_0.1.1.2) rfl rfl ?_
  refine sg_cE1 (pc := 2) (d' := d - 1) (mc' := 1) (ms' := 6) 6 g (dc_X5_length_0.1.2.1) cb_X5_rowOf ml_X5_36 mn_X5_rowOf rfl mv_X5_rowOf (Nat.le_of_ble_eq_true rfl) (ck_oc (by assumption)) (Nat.le_of_ble_eq_true rfl) (by first | exact jl_d0 hd rfl | omega) (by first | exact Nat.le_of_ble_eq_true rfl | omega) (by first | exact Nat.le_of_ble_eq_true rfl | omega) ?_
  refine f_X5_rowOf g (by first | exact jl_d1 hd rfl | omega) (by assumption) (fun l2 r2 L2 => sg_K1 ?_) (fun t2 z2 w2 => sg_KX (by first | exact Nat.le_of_ble_eq_true rfl | omega) (by first | exact Nat.le_of_ble_eq_true rfl | omega) (hXI (by omega) z2 w2))
  obtain ⟨a2, ea2⟩ : ∃ a, a = B + 1 + 3 + 2 * row.toNat := ⟨_, rfl⟩
  rw [← ea2] at L2 ⊢
  have k2 : cf_l h a2 = L := by rw [ea2, cf_rl hx (by omega)]; exact hL
  have r42 := fa_row ok (i := row.toNat) (by omega)
  rw [hL] at r42
  refine sg_cE0 (pc := 5) (d' := d - 1) (mc' := 0) (ms' := 0) 3 g (dc_X5_length_0.1.2.2) cb_X0_size ml_X5_63 mn_X0_size rfl mv_X0_size (Nat.le_of_ble_eq_true rfl) (ck_lc (by assumption) (by first | assumption | exact ck_rev)) (Nat.le_of_ble_eq_true rfl) (by first | exact jl_d0 hd rfl | omega) (by first | exact Nat.le_of_ble_eq_true rfl | omega) (by first | exact Nat.le_of_ble_eq_true rfl | omega) ?_
  refine f_X0_size g (by first | exact jl_d1 hd rfl | omega) (by assumption) L2 (fun z5 e5 l05 u5 => sg_K1 ?_)
  rw [k2] at e5
  try rw [fa_tlen] at e5
  refine sg_iret (pc := 8) (dc_X5_length_0.2.1.1) rfl (by first | exact Nat.le_of_ble_eq_true rfl | omega) (by first | exact Nat.le_of_ble_eq_true rfl | omega) ?_
  exact hQ (by omega) _ e5

set_option maxRecDepth 100000 in
theorem f_X5_at {w : sg_W} {Q : sg_O → sg_H → Prop} {h : sg_H} (g : sg_G w) {d : Nat} (hd : 14 ≤ d) {B : Nat} {A : fa_A} (hx : cf_X h B A) (ok : fa_ok A) {row p : Int} {L : List Int} (hL : fa_L A row.toNat = L) (hQ : ¬ (row < 0 ∨ 4 ≤ row ∨ p < 0 ∨ (L.length : Int) ≤ p) → ∀ v : Int, v = L.getD p.toNat 0 → Q (.inl (some (sg_i v))) h) (hXI : (row < 0 ∨ 4 ≤ row ∨ p < 0 ∨ (L.length : Int) ≤ p) → ∀ z, h.1 ≤ z → Q (.inr e_I) (z, h.2)) : sg_C w mi_X5_at d 8 48 [sg_r B, sg_i row, sg_i p] h Q := by
  refine sg_of pn_X5 (Nat.le_of_ble_eq_true rfl) ?_
  obtain ⟨x0, ho, hS, hP, hK⟩ := id hx
  have y0 := ck_Y0 x0
  refine sg_aload_n (pc := 0) (j := 0) (dc_X5_at_0.1.1.1) rfl rfl ?_
  refine sg_iload_n (pc := 1) (j := 1) (dc_X5_at_0.1.1.2) rfl rfl ?_
  refine sg_cE1 (pc := 2) (d' := d - 1) (mc' := 1) (ms' := 6) 6 g (dc_X5_at_0.1.2.1) cb_X5_rowOf ml_X5_36 mn_X5_rowOf rfl mv_X5_rowOf (Nat.le_of_ble_eq_true rfl) (ck_oc (by assumption)) (Nat.le_of_ble_eq_true rfl) (by first | exact jl_d0 hd rfl | omega) (by first | exact Nat.le_of_ble_eq_true rfl | omega) (by first | exact Nat.le_of_ble_eq_true rfl | omega) ?_
  refine f_X5_rowOf g (by first | exact jl_d1 hd rfl | omega) (by assumption) (fun l2 r2 L2 => sg_K1 ?_) (fun t2 z2 w2 => sg_KX (by first | exact Nat.le_of_ble_eq_true rfl | omega) (by first | exact Nat.le_of_ble_eq_true rfl | omega) (hXI (by omega) z2 w2))
  obtain ⟨a2, ea2⟩ : ∃ a, a = B + 1 + 3 + 2 * row.toNat := ⟨_, rfl⟩
  rw [← ea2] at L2 ⊢
  have k2 : cf_l h a2 = L := by rw [ea2, cf_rl hx (by omega)]; exact hL
  have r42 := fa_row ok (i := row.toNat) (by omega)
  rw [hL] at r42
  refine sg_iload_n (pc := 5) (j := 2) (dc_X5_at_0.1.2.2) rfl rfl ?_
  refine sg_cS2 (pc := 6) (d' := d - 1) (mc' := 1) (ms' := 6) g (dc_X5_at_0.2.1.1) cb_X5_numberAt ml_X5_198 ms_X5_numberAt (Nat.le_of_ble_eq_true rfl) (by first | exact jl_d0 hd rfl | omega) (by first | exact Nat.le_of_ble_eq_true rfl | omega) (by first | exact Nat.le_of_ble_eq_true rfl | omega) ?_
  refine f_X5_numberAt g (by first | exact jl_d1 hd rfl | omega) x0 L2 k2 (fun r6 R6 z6 e6 => sg_K1 ?_) (fun t6 z6 w6 => sg_KX (by first | exact Nat.le_of_ble_eq_true rfl | omega) (by first | exact Nat.le_of_ble_eq_true rfl | omega) (hXI (by omega) z6 w6))
  refine sg_iret (pc := 9) (dc_X5_at_0.2.1.2) rfl (by first | exact Nat.le_of_ble_eq_true rfl | omega) (by first | exact Nat.le_of_ble_eq_true rfl | omega) ?_
  exact hQ (by omega) _ e6

set_option maxRecDepth 100000 in
theorem f_X5_unit {w : sg_W} {Q : sg_O → sg_H → Prop} {h : sg_H} (g : sg_G w) {d : Nat} (hd : 14 ≤ d) {B : Nat} {A : fa_A} (hx : cf_X h B A) (ok : fa_ok A) {trk p : Int} {L : List Int} (hL : fa_L A (4 + trk.toNat) = L) (hQ : ¬ (trk < 0 ∨ 2 ≤ trk ∨ p < 0 ∨ (L.length : Int) ≤ p) → ∀ v : Int, v = L.getD p.toNat 0 → Q (.inl (some (sg_i v))) h) (hXI : (trk < 0 ∨ 2 ≤ trk ∨ p < 0 ∨ (L.length : Int) ≤ p) → ∀ z, h.1 ≤ z → Q (.inr e_I) (z, h.2)) : sg_C w mi_X5_unit d 8 48 [sg_r B, sg_i trk, sg_i p] h Q := by
  refine sg_of pn_X5 (Nat.le_of_ble_eq_true rfl) ?_
  obtain ⟨x0, ho, hS, hP, hK⟩ := id hx
  have y0 := ck_Y0 x0
  refine sg_aload_n (pc := 0) (j := 0) (dc_X5_unit_0.1.1.1) rfl rfl ?_
  refine sg_iload_n (pc := 1) (j := 1) (dc_X5_unit_0.1.1.2) rfl rfl ?_
  refine sg_cE1 (pc := 2) (d' := d - 1) (mc' := 1) (ms' := 6) 6 g (dc_X5_unit_0.1.2.1) cb_X5_trackOf ml_X5_151 mn_X5_trackOf rfl mv_X5_trackOf (Nat.le_of_ble_eq_true rfl) (ck_oc (by assumption)) (Nat.le_of_ble_eq_true rfl) (by first | exact jl_d0 hd rfl | omega) (by first | exact Nat.le_of_ble_eq_true rfl | omega) (by first | exact Nat.le_of_ble_eq_true rfl | omega) ?_
  refine f_X5_trackOf g (by first | exact jl_d1 hd rfl | omega) (by assumption) (fun l2 r2 L2 => sg_K1 ?_) (fun t2 z2 w2 => sg_KX (by first | exact Nat.le_of_ble_eq_true rfl | omega) (by first | exact Nat.le_of_ble_eq_true rfl | omega) (hXI (by omega) z2 w2))
  obtain ⟨a2, ea2⟩ : ∃ a, a = B + 1 + 3 + 2 * (4 + trk.toNat) := ⟨_, rfl⟩
  rw [← ea2] at L2 ⊢
  have k2 : cf_l h a2 = L := by rw [ea2, cf_rl hx (by omega)]; exact hL
  have r42 := fa_trk ok (i := (4 + trk.toNat)) (by omega) (by omega)
  rw [hL] at r42
  refine sg_iload_n (pc := 5) (j := 2) (dc_X5_unit_0.1.2.2) rfl rfl ?_
  refine sg_cS2 (pc := 6) (d' := d - 1) (mc' := 1) (ms' := 6) g (dc_X5_unit_0.2.1.1) cb_X5_numberAt ml_X5_198 ms_X5_numberAt (Nat.le_of_ble_eq_true rfl) (by first | exact jl_d0 hd rfl | omega) (by first | exact Nat.le_of_ble_eq_true rfl | omega) (by first | exact Nat.le_of_ble_eq_true rfl | omega) ?_
  refine f_X5_numberAt g (by first | exact jl_d1 hd rfl | omega) x0 L2 k2 (fun r6 R6 z6 e6 => sg_K1 ?_) (fun t6 z6 w6 => sg_KX (by first | exact Nat.le_of_ble_eq_true rfl | omega) (by first | exact Nat.le_of_ble_eq_true rfl | omega) (hXI (by omega) z6 w6))
  refine sg_iret (pc := 9) (dc_X5_unit_0.2.1.2) rfl (by first | exact Nat.le_of_ble_eq_true rfl | omega) (by first | exact Nat.le_of_ble_eq_true rfl | omega) ?_
  exact hQ (by omega) _ e6

set_option maxRecDepth 100000 in
theorem f_X5_count {w : sg_W} {Q : sg_O → sg_H → Prop} {h : sg_H} (g : sg_G w) {d : Nat} (hd : 14 ≤ d) {B : Nat} {A : fa_A} (hx : cf_X h B A) (ok : fa_ok A) {row kind : Int} {L : List Int} (hL : fa_L A row.toNat = L) (hQ : ¬ (row < 0 ∨ 4 ≤ row) → ¬ (kind < 0 ∨ 4 < kind) → ∀ v : Int, v = fs_cnt L kind L.length → Q (.inl (some (sg_i v))) h) (hXI : (row < 0 ∨ 4 ≤ row) → ∀ z, h.1 ≤ z → Q (.inr e_I) (z, h.2)) (hXA : ¬ (row < 0 ∨ 4 ≤ row) → (kind < 0 ∨ 4 < kind) → ∀ z, h.1 ≤ z → Q (.inr e_A) (z, h.2)) : sg_C w mi_X5_count d 8 48 [sg_r B, sg_i row, sg_i kind] h Q := by
  refine sg_of pn_X5 (Nat.le_of_ble_eq_true rfl) ?_
  obtain ⟨x0, ho, hS, hP, hK⟩ := id hx
  have y0 := ck_Y0 x0
  have hc40 : ck_cap 0 = 40 := rfl
  refine sg_aload_n (pc := 0) (j := 0) (dc_X5_count_0.1.1.1.1) rfl rfl ?_
  refine sg_iload_n (pc := 1) (j := 1) (dc_X5_count_0.1.1.1.2) rfl rfl ?_
  refine sg_cE1 (pc := 2) (d' := d - 1) (mc' := 1) (ms' := 6) 6 g (dc_X5_count_0.1.1.2.1) cb_X5_rowOf ml_X5_36 mn_X5_rowOf rfl mv_X5_rowOf (Nat.le_of_ble_eq_true rfl) (ck_oc (by assumption)) (Nat.le_of_ble_eq_true rfl) (by first | exact jl_d0 hd rfl | omega) (by first | exact Nat.le_of_ble_eq_true rfl | omega) (by first | exact Nat.le_of_ble_eq_true rfl | omega) ?_
  refine f_X5_rowOf g (by first | exact jl_d1 hd rfl | omega) (by assumption) (fun l2 r2 L2 => sg_K1 ?_) (fun t2 z2 w2 => sg_KX (by first | exact Nat.le_of_ble_eq_true rfl | omega) (by first | exact Nat.le_of_ble_eq_true rfl | omega) (hXI (by omega) z2 w2))
  obtain ⟨a2, ea2⟩ : ∃ a, a = B + 1 + 3 + 2 * row.toNat := ⟨_, rfl⟩
  rw [← ea2] at L2 ⊢
  have k2 : cf_l h a2 = L := by rw [ea2, cf_rl hx (by omega)]; exact hL
  have r42 := fa_row ok (i := row.toNat) (by omega)
  rw [hL] at r42
  refine sg_astore_n (pc := 5) (j := 3) (dc_X5_count_0.1.1.2.2) rfl (by decide) ?_
  refine sg_iload_n (pc := 6) (j := 2) (dc_X5_count_0.1.2.1.1) rfl rfl ?_
  refine sg_cS1 (pc := 7) (d' := d - 1) (mc' := 1) (ms' := 6) g (dc_X5_count_0.1.2.1.2) cb_X5_checkKind ml_X5_93 ms_X5_checkKind (Nat.le_of_ble_eq_true rfl) (by first | exact jl_d0 hd rfl | omega) (by first | exact Nat.le_of_ble_eq_true rfl | omega) (by first | exact Nat.le_of_ble_eq_true rfl | omega) ?_
  refine s_X5_checkKind g (by first | exact jl_d1 hd rfl | omega) (fun v7 => sg_K0 ?_) (fun t7 z7 w7 => sg_KX (by first | exact Nat.le_of_ble_eq_true rfl | omega) (by first | exact Nat.le_of_ble_eq_true rfl | omega) (hXA (by omega) (by omega) z7 w7))
  refine sg_iconst (pc := 10) (z := 0) (dc_X5_count_0.1.2.2.1) (by decide) ?_
  refine sg_istore (pc := 11) (dc_X5_count_0.1.2.2.2) (by decide) ?_
  refine sg_iconst (pc := 13) (z := 0) (dc_X5_count_0.2.1.1.1) (by decide) ?_
  refine sg_istore (pc := 14) (dc_X5_count_0.2.1.1.2) (by decide) ?_
  have loop16 : ∀ (N : Nat) (p s : Int), (0 ≤ p ∧ p ≤ (L.length : Int)) → (s = fs_cnt L kind p.toNat) → ((L.length : Int) - p).toNat < N → sg_R w mi_X5_count d 8 48 Q 16 [(5, sg_i p), (4, sg_i s), (0, sg_r B), (2, sg_i kind), (3, sg_r a2)] [] h 2 12 := by
    intro N
    induction N with
    | zero => intro p s p0 s0 hm; exact absurd hm (Nat.not_lt_zero _)
    | succ N ih =>
      intro p s p0 s0 hm
      have sb := fs_cntb (L := L) (kind := kind) (n := p.toNat)
      rw [← s0] at sb
      refine sg_iload (pc := 16) (dc_X5_count_0.2.1.2.1) rfl ?_
      refine sg_aload_n (pc := 18) (j := 3) (dc_X5_count_0.2.1.2.2) rfl rfl ?_
      refine sg_cE0 (pc := 19) (d' := d - 1) (mc' := 0) (ms' := 0) 3 g (dc_X5_count_0.2.2.1.1) cb_X0_size ml_X5_63 mn_X0_size rfl mv_X0_size (Nat.le_of_ble_eq_true rfl) (ck_lc (by assumption) (by first | assumption | exact ck_rev)) (Nat.le_of_ble_eq_true rfl) (by first | exact jl_d0 hd rfl | omega) (by first | exact Nat.le_of_ble_eq_true rfl | omega) (by first | exact Nat.le_of_ble_eq_true rfl | omega) ?_
      refine f_X0_size g (by first | exact jl_d1 hd rfl | omega) (by assumption) L2 (fun z19 e19 l019 u19 => sg_K1 ?_)
      rw [k2] at e19
      try rw [fa_tlen] at e19
      refine sg_icmp_ge (pc := 22) (tgt := 47) (dc_X5_count_0.2.2.1.2) (by decide) (fun c22 => ?_) (fun c22 => ?_)
      · refine sg_iload (pc := 47) (dc_X5_count_28.1.2.2.2) rfl ?_
        refine sg_iret (pc := 49) (dc_X5_count_28.2.1.1.1) rfl (by first | exact Nat.le_of_ble_eq_true rfl | omega) (by first | exact Nat.le_of_ble_eq_true rfl | omega) ?_
        exact hQ (by omega) (by omega) _ (by rw [s0, show p.toNat = L.length by omega])
      · refine sg_aload_n (pc := 25) (j := 3) (dc_X5_count_0.2.2.2.1) rfl rfl ?_
        refine sg_iload (pc := 26) (dc_X5_count_0.2.2.2.2) rfl ?_
        refine sg_cE1 (pc := 28) (d' := d - 1) (mc' := 0) (ms' := 0) 3 g (dc_X5_count_28.1.1.1.1) cb_X0_get ml_X5_75 mn_X0_get rfl mv_X0_get (Nat.le_of_ble_eq_true rfl) (ck_lc (by assumption) (by first | assumption | exact ck_rev)) (Nat.le_of_ble_eq_true rfl) (by first | exact jl_d0 hd rfl | omega) (by first | exact Nat.le_of_ble_eq_true rfl | omega) (by first | exact Nat.le_of_ble_eq_true rfl | omega) ?_
        refine f_X0_get g (by first | exact jl_d1 hd rfl | omega) (by assumption) L2 (fun z28 e28 v28 => sg_K1 ?_)
        rw [k2] at e28
        rw [k2] at v28
        try rw [fa_tg (by omega) (by omega)] at e28
        rw [gg_in (by omega) (by omega)] at e28
        subst e28
        refine sg_iload_n (pc := 31) (j := 2) (dc_X5_count_28.1.1.1.2) rfl rfl ?_
        refine sg_cS2 (pc := 32) (d' := d - 1) (mc' := 0) (ms' := 0) g (dc_X5_count_28.1.1.2.1) cb_X2_isOf ml_X5_96 ms_X2_isOf (Nat.le_of_ble_eq_true rfl) (by first | exact jl_d0 hd rfl | omega) (by first | exact Nat.le_of_ble_eq_true rfl | omega) (by first | exact Nat.le_of_ble_eq_true rfl | omega) ?_
        refine s_X2_isOf g (by first | exact jl_d1 hd rfl | omega) (fun z32 h32 b32 => sg_K1 ?_)
        have bk := fs_cnts (L := L) (kind := kind) (p := p) (by omega)
        refine sg_if_eq (pc := 35) (tgt := 41) (dc_X5_count_28.1.1.2.2) (by decide) (fun c35 => ?_) (fun c35 => ?_)
        · first | refine sg_iincB (pc := 41) (dc_X5_count_28.1.2.1.2) rfl (by decide) (by decide) (by omega) (by omega) ?_ | refine sg_iinc (pc := 41) (dc_X5_count_28.1.2.1.2) rfl (by decide) (by decide) ?_
          refine sg_goto (pc := 44) (tgt := 16) (dc_X5_count_28.1.2.2.1) (by decide) ?_
          refine sg_lsub (lv' := [(5, _), (4, _), (0, _), (2, _), (3, _)]) ⟨rfl, rfl, rfl, rfl, rfl, trivial⟩ ?_
          exact ih _ _ (by omega) (by omega) (by first | exact jl_m1 hm (by omega) | exact jl_m2 hm (by omega) | omega)
        · first | refine sg_iincB (pc := 38) (dc_X5_count_28.1.2.1.1) rfl (by decide) (by decide) (by omega) (by omega) ?_ | refine sg_iinc (pc := 38) (dc_X5_count_28.1.2.1.1) rfl (by decide) (by decide) ?_
          first | refine sg_iincB (pc := 41) (dc_X5_count_28.1.2.1.2) rfl (by decide) (by decide) (by omega) (by omega) ?_ | refine sg_iinc (pc := 41) (dc_X5_count_28.1.2.1.2) rfl (by decide) (by decide) ?_
          refine sg_goto (pc := 44) (tgt := 16) (dc_X5_count_28.1.2.2.1) (by decide) ?_
          refine sg_lsub (lv' := [(5, _), (4, _), (0, _), (2, _), (3, _)]) ⟨rfl, rfl, rfl, rfl, rfl, trivial⟩ ?_
          exact ih _ _ (by omega) (by omega) (by first | exact jl_m1 hm (by omega) | exact jl_m2 hm (by omega) | omega)
  refine sg_lsub (lv' := [(5, _), (4, _), (0, _), (2, _), (3, _)]) ⟨rfl, rfl, rfl, rfl, rfl, trivial⟩ ?_
  exact loop16 _ _ _ (by omega) rfl (Nat.lt_succ_self _)

set_option maxRecDepth 100000 in
theorem f_X5_first {w : sg_W} {Q : sg_O → sg_H → Prop} {h : sg_H} (g : sg_G w) {d : Nat} (hd : 14 ≤ d) {B : Nat} {A : fa_A} (hx : cf_X h B A) (ok : fa_ok A) {row kind fr : Int} {L : List Int} (hL : fa_L A row.toNat = L) (hQ : ¬ (row < 0 ∨ 4 ≤ row) → ¬ (kind < 0 ∨ 4 < kind ∨ fr < 0) → ∀ v : Int, v = fs_first L kind fr → Q (.inl (some (sg_i v))) h) (hXI : (row < 0 ∨ 4 ≤ row) → ∀ z, h.1 ≤ z → Q (.inr e_I) (z, h.2)) (hXA : ¬ (row < 0 ∨ 4 ≤ row) → (kind < 0 ∨ 4 < kind ∨ fr < 0) → ∀ z, h.1 ≤ z → Q (.inr e_A) (z, h.2)) : sg_C w mi_X5_first d 8 48 [sg_r B, sg_i row, sg_i kind, sg_i fr] h Q := by
  refine sg_of pn_X5 (Nat.le_of_ble_eq_true rfl) ?_
  obtain ⟨x0, ho, hS, hP, hK⟩ := id hx
  have y0 := ck_Y0 x0
  have hc40 : ck_cap 0 = 40 := rfl
  refine sg_aload_n (pc := 0) (j := 0) (dc_X5_first_0.1.1.1.1) rfl rfl ?_
  refine sg_iload_n (pc := 1) (j := 1) (dc_X5_first_0.1.1.1.2) rfl rfl ?_
  refine sg_cE1 (pc := 2) (d' := d - 1) (mc' := 1) (ms' := 6) 6 g (dc_X5_first_0.1.1.2.1) cb_X5_rowOf ml_X5_36 mn_X5_rowOf rfl mv_X5_rowOf (Nat.le_of_ble_eq_true rfl) (ck_oc (by assumption)) (Nat.le_of_ble_eq_true rfl) (by first | exact jl_d0 hd rfl | omega) (by first | exact Nat.le_of_ble_eq_true rfl | omega) (by first | exact Nat.le_of_ble_eq_true rfl | omega) ?_
  refine f_X5_rowOf g (by first | exact jl_d1 hd rfl | omega) (by assumption) (fun l2 r2 L2 => sg_K1 ?_) (fun t2 z2 w2 => sg_KX (by first | exact Nat.le_of_ble_eq_true rfl | omega) (by first | exact Nat.le_of_ble_eq_true rfl | omega) (hXI (by omega) z2 w2))
  obtain ⟨a2, ea2⟩ : ∃ a, a = B + 1 + 3 + 2 * row.toNat := ⟨_, rfl⟩
  rw [← ea2] at L2 ⊢
  have k2 : cf_l h a2 = L := by rw [ea2, cf_rl hx (by omega)]; exact hL
  have r42 := fa_row ok (i := row.toNat) (by omega)
  rw [hL] at r42
  refine sg_astore (pc := 5) (dc_X5_first_0.1.1.2.2) (by decide) ?_
  refine sg_iload_n (pc := 7) (j := 2) (dc_X5_first_0.1.2.1.1) rfl rfl ?_
  refine sg_cS1 (pc := 8) (d' := d - 1) (mc' := 1) (ms' := 6) g (dc_X5_first_0.1.2.1.2) cb_X5_checkKind ml_X5_93 ms_X5_checkKind (Nat.le_of_ble_eq_true rfl) (by first | exact jl_d0 hd rfl | omega) (by first | exact Nat.le_of_ble_eq_true rfl | omega) (by first | exact Nat.le_of_ble_eq_true rfl | omega) ?_
  refine s_X5_checkKind g (by first | exact jl_d1 hd rfl | omega) (fun v8 => sg_K0 ?_) (fun t8 z8 w8 => sg_KX (by first | exact Nat.le_of_ble_eq_true rfl | omega) (by first | exact Nat.le_of_ble_eq_true rfl | omega) (hXA (by omega) (by omega) z8 w8))
  refine sg_iload_n (pc := 11) (j := 3) (dc_X5_first_0.1.2.2.1) rfl rfl ?_
  refine sg_if_ge (pc := 12) (tgt := 25) (dc_X5_first_0.1.2.2.2) (by decide) (fun c12 => ?_) (fun c12 => ?_)
  · refine sg_iload_n (pc := 25) (j := 3) (dc_X5_first_0.2.2.1.2) rfl rfl ?_
    refine sg_istore (pc := 26) (dc_X5_first_0.2.2.2.1) (by decide) ?_
    have loop28 : ∀ (N : Nat) (p : Int), (fr ≤ p) → (∀ j : Nat, fr ≤ (j : Int) → (j : Int) < p → fn_isOf (L.getD j 0) kind = 0) → (40 - p).toNat < N → sg_R w mi_X5_first d 8 48 Q 28 [(5, sg_i p), (0, sg_r B), (2, sg_i kind), (4, sg_r a2)] [] h 2 12 := by
      intro N
      induction N with
      | zero => intro p p0 p1 hm; exact absurd hm (Nat.not_lt_zero _)
      | succ N ih =>
        intro p p0 p1 hm
        refine sg_iload (pc := 28) (dc_X5_first_0.2.2.2.2) rfl ?_
        refine sg_aload (pc := 30) (dc_X5_first_30.1.1.1.1) rfl ?_
        refine sg_cE0 (pc := 32) (d' := d - 1) (mc' := 0) (ms' := 0) 3 g (dc_X5_first_30.1.1.1.2) cb_X0_size ml_X5_63 mn_X0_size rfl mv_X0_size (Nat.le_of_ble_eq_true rfl) (ck_lc (by assumption) (by first | assumption | exact ck_rev)) (Nat.le_of_ble_eq_true rfl) (by first | exact jl_d0 hd rfl | omega) (by first | exact Nat.le_of_ble_eq_true rfl | omega) (by first | exact Nat.le_of_ble_eq_true rfl | omega) ?_
        refine f_X0_size g (by first | exact jl_d1 hd rfl | omega) (by assumption) L2 (fun z32 e32 l032 u32 => sg_K1 ?_)
        rw [k2] at e32
        try rw [fa_tlen] at e32
        refine sg_icmp_ge (pc := 35) (tgt := 61) (dc_X5_first_30.1.1.2.1) (by decide) (fun c35 => ?_) (fun c35 => ?_)
        · refine sg_iconst (pc := 61) (z := -1) (dc_X5_first_30.2.2.1.2) (by decide) ?_
          refine sg_iret (pc := 62) (dc_X5_first_30.2.2.2.1) rfl (by first | exact Nat.le_of_ble_eq_true rfl | omega) (by first | exact Nat.le_of_ble_eq_true rfl | omega) ?_
          exact hQ (by omega) (by omega) _ (fs_theE fs_fU (Or.inl ⟨rfl, fun j j0 j1 => p1 j j0 (by omega)⟩))
        · refine sg_aload (pc := 38) (dc_X5_first_30.1.1.2.2) rfl ?_
          refine sg_iload (pc := 40) (dc_X5_first_30.1.2.1.1) rfl ?_
          refine sg_cE1 (pc := 42) (d' := d - 1) (mc' := 0) (ms' := 0) 3 g (dc_X5_first_30.1.2.1.2) cb_X0_get ml_X5_75 mn_X0_get rfl mv_X0_get (Nat.le_of_ble_eq_true rfl) (ck_lc (by assumption) (by first | assumption | exact ck_rev)) (Nat.le_of_ble_eq_true rfl) (by first | exact jl_d0 hd rfl | omega) (by first | exact Nat.le_of_ble_eq_true rfl | omega) (by first | exact Nat.le_of_ble_eq_true rfl | omega) ?_
          refine f_X0_get g (by first | exact jl_d1 hd rfl | omega) (by assumption) L2 (fun z42 e42 v42 => sg_K1 ?_)
          rw [k2] at e42
          rw [k2] at v42
          try rw [fa_tg (by omega) (by omega)] at e42
          rw [gg_in (by omega) (by omega)] at e42
          subst e42
          refine sg_iload_n (pc := 45) (j := 2) (dc_X5_first_30.1.2.2.1) rfl rfl ?_
          refine sg_cS2 (pc := 46) (d' := d - 1) (mc' := 0) (ms' := 0) g (dc_X5_first_30.1.2.2.2) cb_X2_isOf ml_X5_96 ms_X2_isOf (Nat.le_of_ble_eq_true rfl) (by first | exact jl_d0 hd rfl | omega) (by first | exact Nat.le_of_ble_eq_true rfl | omega) (by first | exact Nat.le_of_ble_eq_true rfl | omega) ?_
          refine s_X2_isOf g (by first | exact jl_d1 hd rfl | omega) (fun z46 h46 b46 => sg_K1 ?_)
          refine sg_if_eq (pc := 49) (tgt := 55) (dc_X5_first_30.2.1.1.1) (by decide) (fun c49 => ?_) (fun c49 => ?_)
          · first | refine sg_iincB (pc := 55) (dc_X5_first_30.2.1.2.2) rfl (by decide) (by decide) (by omega) (by omega) ?_ | refine sg_iinc (pc := 55) (dc_X5_first_30.2.1.2.2) rfl (by decide) (by decide) ?_
            refine sg_goto (pc := 58) (tgt := 28) (dc_X5_first_30.2.2.1.1) (by decide) ?_
            refine sg_lsub (lv' := [(5, _), (0, _), (2, _), (4, _)]) ⟨rfl, rfl, rfl, rfl, trivial⟩ ?_
            exact ih _ (by omega) (fun j j0 j1 => by
              by_cases q : j = p.toNat
              · subst q; omega
              · exact p1 j j0 (by omega)) (by first | exact jl_m1 hm (by omega) | exact jl_m2 hm (by omega) | omega)
          · refine sg_iload (pc := 52) (dc_X5_first_30.2.1.1.2) rfl ?_
            refine sg_iret (pc := 54) (dc_X5_first_30.2.1.2.1) rfl (by first | exact Nat.le_of_ble_eq_true rfl | omega) (by first | exact Nat.le_of_ble_eq_true rfl | omega) ?_
            exact hQ (by omega) (by omega) _ (fs_theE fs_fU (Or.inr ⟨by omega, by omega, by omega, by omega, p1⟩))
    refine sg_lsub (lv' := [(5, _), (0, _), (2, _), (4, _)]) ⟨rfl, rfl, rfl, rfl, trivial⟩ ?_
    exact loop28 _ _ (by omega) (fun j j0 j1 => absurd j1 (by omega)) (Nat.lt_succ_self _)
  · refine sg_throw (pc := 15) g th_X5_110_201 (dc_X5_first_0.2.1.1.1) (dc_X5_first_0.2.1.1.2) (dc_X5_first_0.2.1.2.1) (dc_X5_first_0.2.1.2.2) (dc_X5_first_0.2.2.1.1) (by first | exact Nat.le_trans (Nat.le_of_ble_eq_true rfl) hd | omega) (Nat.le_of_ble_eq_true rfl) (by first | exact Nat.le_of_ble_eq_true rfl | omega) (by first | exact Nat.le_of_ble_eq_true rfl | omega) ?_
    exact fun z hz => hXA (by omega) (by omega) z hz

set_option maxRecDepth 100000 in
theorem f_X5_last {w : sg_W} {Q : sg_O → sg_H → Prop} {h : sg_H} (g : sg_G w) {d : Nat} (hd : 14 ≤ d) {B : Nat} {A : fa_A} (hx : cf_X h B A) (ok : fa_ok A) {row kind : Int} {L : List Int} (hL : fa_L A row.toNat = L) (hQ : ¬ (row < 0 ∨ 4 ≤ row) → ¬ (kind < 0 ∨ 4 < kind) → ∀ v : Int, v = fs_last L kind → Q (.inl (some (sg_i v))) h) (hXI : (row < 0 ∨ 4 ≤ row) → ∀ z, h.1 ≤ z → Q (.inr e_I) (z, h.2)) (hXA : ¬ (row < 0 ∨ 4 ≤ row) → (kind < 0 ∨ 4 < kind) → ∀ z, h.1 ≤ z → Q (.inr e_A) (z, h.2)) : sg_C w mi_X5_last d 8 48 [sg_r B, sg_i row, sg_i kind] h Q := by
  refine sg_of pn_X5 (Nat.le_of_ble_eq_true rfl) ?_
  obtain ⟨x0, ho, hS, hP, hK⟩ := id hx
  have y0 := ck_Y0 x0
  have hc40 : ck_cap 0 = 40 := rfl
  refine sg_aload_n (pc := 0) (j := 0) (dc_X5_last_0.1.1.1.1) rfl rfl ?_
  refine sg_iload_n (pc := 1) (j := 1) (dc_X5_last_0.1.1.1.2) rfl rfl ?_
  refine sg_cE1 (pc := 2) (d' := d - 1) (mc' := 1) (ms' := 6) 6 g (dc_X5_last_0.1.1.2.1) cb_X5_rowOf ml_X5_36 mn_X5_rowOf rfl mv_X5_rowOf (Nat.le_of_ble_eq_true rfl) (ck_oc (by assumption)) (Nat.le_of_ble_eq_true rfl) (by first | exact jl_d0 hd rfl | omega) (by first | exact Nat.le_of_ble_eq_true rfl | omega) (by first | exact Nat.le_of_ble_eq_true rfl | omega) ?_
  refine f_X5_rowOf g (by first | exact jl_d1 hd rfl | omega) (by assumption) (fun l2 r2 L2 => sg_K1 ?_) (fun t2 z2 w2 => sg_KX (by first | exact Nat.le_of_ble_eq_true rfl | omega) (by first | exact Nat.le_of_ble_eq_true rfl | omega) (hXI (by omega) z2 w2))
  obtain ⟨a2, ea2⟩ : ∃ a, a = B + 1 + 3 + 2 * row.toNat := ⟨_, rfl⟩
  rw [← ea2] at L2 ⊢
  have k2 : cf_l h a2 = L := by rw [ea2, cf_rl hx (by omega)]; exact hL
  have r42 := fa_row ok (i := row.toNat) (by omega)
  rw [hL] at r42
  refine sg_astore_n (pc := 5) (j := 3) (dc_X5_last_0.1.1.2.2) rfl (by decide) ?_
  refine sg_iload_n (pc := 6) (j := 2) (dc_X5_last_0.1.2.1.1) rfl rfl ?_
  refine sg_cS1 (pc := 7) (d' := d - 1) (mc' := 1) (ms' := 6) g (dc_X5_last_0.1.2.1.2) cb_X5_checkKind ml_X5_93 ms_X5_checkKind (Nat.le_of_ble_eq_true rfl) (by first | exact jl_d0 hd rfl | omega) (by first | exact Nat.le_of_ble_eq_true rfl | omega) (by first | exact Nat.le_of_ble_eq_true rfl | omega) ?_
  refine s_X5_checkKind g (by first | exact jl_d1 hd rfl | omega) (fun v7 => sg_K0 ?_) (fun t7 z7 w7 => sg_KX (by first | exact Nat.le_of_ble_eq_true rfl | omega) (by first | exact Nat.le_of_ble_eq_true rfl | omega) (hXA (by omega) (by omega) z7 w7))
  refine sg_aload_n (pc := 10) (j := 3) (dc_X5_last_0.1.2.2.1) rfl rfl ?_
  refine sg_cE0 (pc := 11) (d' := d - 1) (mc' := 0) (ms' := 0) 3 g (dc_X5_last_0.1.2.2.2) cb_X0_size ml_X5_63 mn_X0_size rfl mv_X0_size (Nat.le_of_ble_eq_true rfl) (ck_lc (by assumption) (by first | assumption | exact ck_rev)) (Nat.le_of_ble_eq_true rfl) (by first | exact jl_d0 hd rfl | omega) (by first | exact Nat.le_of_ble_eq_true rfl | omega) (by first | exact Nat.le_of_ble_eq_true rfl | omega) ?_
  refine f_X0_size g (by first | exact jl_d1 hd rfl | omega) (by assumption) L2 (fun z11 e11 l011 u11 => sg_K1 ?_)
  rw [k2] at e11
  try rw [fa_tlen] at e11
  refine sg_iconst (pc := 14) (z := 1) (dc_X5_last_0.2.1.1.1) (by decide) ?_
  first | refine sg_isubB (pc := 15) (dc_X5_last_0.2.1.1.2) (by omega) (by omega) ?_ | refine sg_isub (pc := 15) (dc_X5_last_0.2.1.1.2) ?_
  refine sg_istore (pc := 16) (dc_X5_last_0.2.1.2.1) (by decide) ?_
  have loop18 : ∀ (N : Nat) (p : Int), (-1 ≤ p ∧ p < (L.length : Int)) → (∀ j : Nat, p < (j : Int) → j < L.length → fn_isOf (L.getD j 0) kind = 0) → (p + 1).toNat < N → sg_R w mi_X5_last d 8 48 Q 18 [(4, sg_i p), (0, sg_r B), (2, sg_i kind), (3, sg_r a2)] [] h 2 12 := by
    intro N
    induction N with
    | zero => intro p p0 p1 hm; exact absurd hm (Nat.not_lt_zero _)
    | succ N ih =>
      intro p p0 p1 hm
      refine sg_iload (pc := 18) (dc_X5_last_0.2.1.2.2) rfl ?_
      refine sg_if_lt (pc := 20) (tgt := 45) (dc_X5_last_0.2.2.1.1) (by decide) (fun c20 => ?_) (fun c20 => ?_)
      · refine sg_iconst (pc := 45) (z := -1) (dc_X5_last_29.1.2.2.2) (by decide) ?_
        refine sg_iret (pc := 46) (dc_X5_last_29.2.1.1.1) rfl (by first | exact Nat.le_of_ble_eq_true rfl | omega) (by first | exact Nat.le_of_ble_eq_true rfl | omega) ?_
        exact hQ (by omega) (by omega) _ (fs_theE fs_lU (Or.inl ⟨rfl, fun j j1 => p1 j (by omega) j1⟩))
      · refine sg_aload_n (pc := 23) (j := 3) (dc_X5_last_0.2.2.1.2) rfl rfl ?_
        refine sg_iload (pc := 24) (dc_X5_last_0.2.2.2.1) rfl ?_
        refine sg_cE1 (pc := 26) (d' := d - 1) (mc' := 0) (ms' := 0) 3 g (dc_X5_last_0.2.2.2.2) cb_X0_get ml_X5_75 mn_X0_get rfl mv_X0_get (Nat.le_of_ble_eq_true rfl) (ck_lc (by assumption) (by first | assumption | exact ck_rev)) (Nat.le_of_ble_eq_true rfl) (by first | exact jl_d0 hd rfl | omega) (by first | exact Nat.le_of_ble_eq_true rfl | omega) (by first | exact Nat.le_of_ble_eq_true rfl | omega) ?_
        refine f_X0_get g (by first | exact jl_d1 hd rfl | omega) (by assumption) L2 (fun z26 e26 v26 => sg_K1 ?_)
        rw [k2] at e26
        rw [k2] at v26
        try rw [fa_tg (by omega) (by omega)] at e26
        rw [gg_in (by omega) (by omega)] at e26
        subst e26
        refine sg_iload_n (pc := 29) (j := 2) (dc_X5_last_29.1.1.1.1) rfl rfl ?_
        refine sg_cS2 (pc := 30) (d' := d - 1) (mc' := 0) (ms' := 0) g (dc_X5_last_29.1.1.1.2) cb_X2_isOf ml_X5_96 ms_X2_isOf (Nat.le_of_ble_eq_true rfl) (by first | exact jl_d0 hd rfl | omega) (by first | exact Nat.le_of_ble_eq_true rfl | omega) (by first | exact Nat.le_of_ble_eq_true rfl | omega) ?_
        refine s_X2_isOf g (by first | exact jl_d1 hd rfl | omega) (fun z30 h30 b30 => sg_K1 ?_)
        refine sg_if_eq (pc := 33) (tgt := 39) (dc_X5_last_29.1.1.2.1) (by decide) (fun c33 => ?_) (fun c33 => ?_)
        · first | refine sg_iincB (pc := 39) (dc_X5_last_29.1.2.1.2) rfl (by decide) (by decide) (by omega) (by omega) ?_ | refine sg_iinc (pc := 39) (dc_X5_last_29.1.2.1.2) rfl (by decide) (by decide) ?_
          refine sg_goto (pc := 42) (tgt := 18) (dc_X5_last_29.1.2.2.1) (by decide) ?_
          refine sg_lsub (lv' := [(4, _), (0, _), (2, _), (3, _)]) ⟨rfl, rfl, rfl, rfl, trivial⟩ ?_
          exact ih _ (by omega) (fun j j0 j1 => by
            by_cases q : j = p.toNat
            · subst q; omega
            · exact p1 j (by omega) j1) (by first | exact jl_m1 hm (by omega) | exact jl_m2 hm (by omega) | omega)
        · refine sg_iload (pc := 36) (dc_X5_last_29.1.1.2.2) rfl ?_
          refine sg_iret (pc := 38) (dc_X5_last_29.1.2.1.1) rfl (by first | exact Nat.le_of_ble_eq_true rfl | omega) (by first | exact Nat.le_of_ble_eq_true rfl | omega) ?_
          exact hQ (by omega) (by omega) _ (fs_theE fs_lU (Or.inr ⟨by omega, by omega, by omega, p1⟩))
  refine sg_lsub (lv' := [(4, _), (0, _), (2, _), (3, _)]) ⟨rfl, rfl, rfl, rfl, trivial⟩ ?_
  exact loop18 _ _ (by omega) (fun j j0 j1 => absurd j1 (by omega)) (Nat.lt_succ_self _)

set_option maxRecDepth 100000 in
theorem f_X5_told {w : sg_W} {Q : sg_O → sg_H → Prop} {h : sg_H} (g : sg_G w) {d : Nat} (hd : 14 ≤ d) {B : Nat} {A : fa_A} (hx : cf_X h B A) (ok : fa_ok A) {row radix : Int} {L : List Int} (hL : fa_L A row.toNat = L) (hQ : ¬ (row < 0 ∨ 4 ≤ row) → ¬ (radix < 2 ∨ 36 < radix) → ∀ v : Int, v = fs_told L radix → Q (.inl (some (sg_i v))) h) (hXI : (row < 0 ∨ 4 ≤ row) → ∀ z, h.1 ≤ z → Q (.inr e_I) (z, h.2)) (hXA : ¬ (row < 0 ∨ 4 ≤ row) → (radix < 2 ∨ 36 < radix) → ∀ z, h.1 ≤ z → Q (.inr e_A) (z, h.2)) : sg_C w mi_X5_told d 8 48 [sg_r B, sg_i row, sg_i radix] h Q := by
  refine sg_of pn_X5 (Nat.le_of_ble_eq_true rfl) ?_
  obtain ⟨x0, ho, hS, hP, hK⟩ := id hx
  have y0 := ck_Y0 x0
  have hc40 : ck_cap 0 = 40 := rfl
  refine sg_aload_n (pc := 0) (j := 0) (dc_X5_told_0.1.1.1.1) rfl rfl ?_
  refine sg_iload_n (pc := 1) (j := 1) (dc_X5_told_0.1.1.1.2) rfl rfl ?_
  refine sg_cE1 (pc := 2) (d' := d - 1) (mc' := 1) (ms' := 6) 6 g (dc_X5_told_0.1.1.2.1) cb_X5_rowOf ml_X5_36 mn_X5_rowOf rfl mv_X5_rowOf (Nat.le_of_ble_eq_true rfl) (ck_oc (by assumption)) (Nat.le_of_ble_eq_true rfl) (by first | exact jl_d0 hd rfl | omega) (by first | exact Nat.le_of_ble_eq_true rfl | omega) (by first | exact Nat.le_of_ble_eq_true rfl | omega) ?_
  refine f_X5_rowOf g (by first | exact jl_d1 hd rfl | omega) (by assumption) (fun l2 r2 L2 => sg_K1 ?_) (fun t2 z2 w2 => sg_KX (by first | exact Nat.le_of_ble_eq_true rfl | omega) (by first | exact Nat.le_of_ble_eq_true rfl | omega) (hXI (by omega) z2 w2))
  obtain ⟨a2, ea2⟩ : ∃ a, a = B + 1 + 3 + 2 * row.toNat := ⟨_, rfl⟩
  rw [← ea2] at L2 ⊢
  have k2 : cf_l h a2 = L := by rw [ea2, cf_rl hx (by omega)]; exact hL
  have r42 := fa_row ok (i := row.toNat) (by omega)
  rw [hL] at r42
  refine sg_astore_n (pc := 5) (j := 3) (dc_X5_told_0.1.1.2.2) rfl (by decide) ?_
  refine sg_iload_n (pc := 6) (j := 2) (dc_X5_told_0.1.2.1.1) rfl rfl ?_
  refine sg_cS1 (pc := 7) (d' := d - 1) (mc' := 1) (ms' := 6) g (dc_X5_told_0.1.2.1.2) cb_X5_checkRadix ml_X5_115 ms_X5_checkRadix (Nat.le_of_ble_eq_true rfl) (by first | exact jl_d0 hd rfl | omega) (by first | exact Nat.le_of_ble_eq_true rfl | omega) (by first | exact Nat.le_of_ble_eq_true rfl | omega) ?_
  refine s_X5_checkRadix g (by first | exact jl_d1 hd rfl | omega) (fun v7 => sg_K0 ?_) (fun t7 z7 w7 => sg_KX (by first | exact Nat.le_of_ble_eq_true rfl | omega) (by first | exact Nat.le_of_ble_eq_true rfl | omega) (hXA (by omega) (by omega) z7 w7))
  refine sg_aload_n (pc := 10) (j := 3) (dc_X5_told_0.1.2.2.1) rfl rfl ?_
  refine sg_cE0 (pc := 11) (d' := d - 1) (mc' := 0) (ms' := 0) 3 g (dc_X5_told_0.1.2.2.2) cb_X0_size ml_X5_63 mn_X0_size rfl mv_X0_size (Nat.le_of_ble_eq_true rfl) (ck_lc (by assumption) (by first | assumption | exact ck_rev)) (Nat.le_of_ble_eq_true rfl) (by first | exact jl_d0 hd rfl | omega) (by first | exact Nat.le_of_ble_eq_true rfl | omega) (by first | exact Nat.le_of_ble_eq_true rfl | omega) ?_
  refine f_X0_size g (by first | exact jl_d1 hd rfl | omega) (by assumption) L2 (fun z11 e11 l011 u11 => sg_K1 ?_)
  rw [k2] at e11
  try rw [fa_tlen] at e11
  refine sg_if_ne (pc := 14) (tgt := 20) (dc_X5_told_0.2.1.1.1) (by decide) (fun c14 => ?_) (fun c14 => ?_)
  · refine sg_iconst (pc := 20) (z := 0) (dc_X5_told_0.2.1.2.2) (by decide) ?_
    refine sg_istore (pc := 21) (dc_X5_told_0.2.2.1.1) (by decide) ?_
    refine sg_iconst (pc := 23) (z := 0) (dc_X5_told_0.2.2.1.2) (by decide) ?_
    refine sg_istore (pc := 24) (dc_X5_told_0.2.2.2.1) (by decide) ?_
    have loop26 : ∀ (N : Nat) (p s : Int), (0 ≤ p ∧ p ≤ (L.length : Int)) → (s = fs_tf L radix p.toNat) → (∀ j : Nat, (j : Int) < p → fn_num (L.getD j 0) radix ≠ -1) → ((L.length : Int) - p).toNat < N → sg_R w mi_X5_told d 8 48 Q 26 [(5, sg_i p), (4, sg_i s), (0, sg_r B), (2, sg_i radix), (3, sg_r a2)] [] h 2 12 := by
      intro N
      induction N with
      | zero => intro p s p0 s0 p1 hm; exact absurd hm (Nat.not_lt_zero _)
      | succ N ih =>
        intro p s p0 s0 p1 hm
        have sb := fs_tfb (L := L) (r := radix) p.toNat
        rw [← s0] at sb
        refine sg_iload (pc := 26) (dc_X5_told_0.2.2.2.2) rfl ?_
        refine sg_aload_n (pc := 28) (j := 3) (dc_X5_told_28.1.1.1.1) rfl rfl ?_
        refine sg_cE0 (pc := 29) (d' := d - 1) (mc' := 0) (ms' := 0) 3 g (dc_X5_told_28.1.1.1.2) cb_X0_size ml_X5_63 mn_X0_size rfl mv_X0_size (Nat.le_of_ble_eq_true rfl) (ck_lc (by assumption) (by first | assumption | exact ck_rev)) (Nat.le_of_ble_eq_true rfl) (by first | exact jl_d0 hd rfl | omega) (by first | exact Nat.le_of_ble_eq_true rfl | omega) (by first | exact Nat.le_of_ble_eq_true rfl | omega) ?_
        refine f_X0_size g (by first | exact jl_d1 hd rfl | omega) (by assumption) L2 (fun z29 e29 l029 u29 => sg_K1 ?_)
        rw [k2] at e29
        try rw [fa_tlen] at e29
        refine sg_icmp_ge (pc := 32) (tgt := 74) (dc_X5_told_28.1.1.2.1) (by decide) (fun c32 => ?_) (fun c32 => ?_)
        · refine sg_iload (pc := 74) (dc_X5_told_59.2.1.1.1) rfl ?_
          refine sg_iret (pc := 76) (dc_X5_told_59.2.1.1.2) rfl (by first | exact Nat.le_of_ble_eq_true rfl | omega) (by first | exact Nat.le_of_ble_eq_true rfl | omega) ?_
          exact hQ (by omega) (by omega) _ (fs_theE fs_tU (Or.inr ⟨by rw [s0, show p.toNat = L.length by omega], by omega, fun j j1 => p1 j (by omega)⟩))
        · refine sg_aload_n (pc := 35) (j := 3) (dc_X5_told_28.1.1.2.2) rfl rfl ?_
          refine sg_iload (pc := 36) (dc_X5_told_28.1.2.1.1) rfl ?_
          refine sg_cE1 (pc := 38) (d' := d - 1) (mc' := 0) (ms' := 0) 3 g (dc_X5_told_28.1.2.1.2) cb_X0_get ml_X5_75 mn_X0_get rfl mv_X0_get (Nat.le_of_ble_eq_true rfl) (ck_lc (by assumption) (by first | assumption | exact ck_rev)) (Nat.le_of_ble_eq_true rfl) (by first | exact jl_d0 hd rfl | omega) (by first | exact Nat.le_of_ble_eq_true rfl | omega) (by first | exact Nat.le_of_ble_eq_true rfl | omega) ?_
          refine f_X0_get g (by first | exact jl_d1 hd rfl | omega) (by assumption) L2 (fun z38 e38 v38 => sg_K1 ?_)
          rw [k2] at e38
          rw [k2] at v38
          try rw [fa_tg (by omega) (by omega)] at e38
          rw [gg_in (by omega) (by omega)] at e38
          subst e38
          refine sg_iload_n (pc := 41) (j := 2) (dc_X5_told_28.1.2.2.1) rfl rfl ?_
          refine sg_cS2 (pc := 42) (d' := d - 1) (mc' := 0) (ms' := 0) g (dc_X5_told_28.1.2.2.2) cb_X2_numberOf ml_X5_148 ms_X2_numberOf (Nat.le_of_ble_eq_true rfl) (by first | exact jl_d0 hd rfl | omega) (by first | exact Nat.le_of_ble_eq_true rfl | omega) (by first | exact Nat.le_of_ble_eq_true rfl | omega) ?_
          refine s_X2_numberOf g (by first | exact jl_d1 hd rfl | omega) (fun z42 h42 => sg_K1 ?_)
          refine sg_istore (pc := 45) (dc_X5_told_28.2.1.1.1) (by decide) ?_
          refine sg_iload (pc := 47) (dc_X5_told_28.2.1.1.2) rfl ?_
          refine sg_iconst (pc := 49) (z := -1) (dc_X5_told_28.2.1.2.1) (by decide) ?_
          refine sg_icmp_ne (pc := 50) (tgt := 56) (dc_X5_told_28.2.1.2.2) (by decide) (fun c50 => ?_) (fun c50 => ?_)
          · have nb := fn_nb (L.getD p.toNat 0) radix
            rw [← h42] at nb
            have mb0 : 0 ≤ s * radix := Int.mul_nonneg sb.1 (by omega)
            have mb1 : s * radix ≤ 1000003 * 36 := Int.le_trans (Int.mul_le_mul_of_nonneg_left (show radix ≤ 36 by omega) sb.1) (Int.mul_le_mul_of_nonneg_right (Int.le_of_lt sb.2) (by decide))
            refine sg_iload (pc := 56) (dc_X5_told_28.2.2.2.1) rfl ?_
            refine sg_iload_n (pc := 58) (j := 2) (dc_X5_told_28.2.2.2.2) rfl rfl ?_
            first | refine sg_imulB (pc := 59) (dc_X5_told_59.1.1.1.1) (by omega) (by omega) ?_ | refine sg_imul (pc := 59) (dc_X5_told_59.1.1.1.1) ?_
            refine sg_iload (pc := 60) (dc_X5_told_59.1.1.1.2) rfl ?_
            first | refine sg_iaddB (pc := 62) (dc_X5_told_59.1.1.2.1) (by omega) (by omega) ?_ | refine sg_iadd (pc := 62) (dc_X5_told_59.1.1.2.1) ?_
            refine sg_ldc (pc := 63) (z := 1000003) g (dc_X5_told_59.1.1.2.2) cn_X5_218 (by decide) ?_
            first | refine sg_iremP (pc := 65) (dc_X5_told_59.1.2.1.1) (by omega) (by omega) ?_ | refine sg_irem (pc := 65) (dc_X5_told_59.1.2.1.1) (by first | omega | assumption) ?_
            refine sg_istore (pc := 66) (dc_X5_told_59.1.2.1.2) (by decide) ?_
            first | refine sg_iincB (pc := 68) (dc_X5_told_59.1.2.2.1) rfl (by decide) (by decide) (by omega) (by omega) ?_ | refine sg_iinc (pc := 68) (dc_X5_told_59.1.2.2.1) rfl (by decide) (by decide) ?_
            refine sg_goto (pc := 71) (tgt := 26) (dc_X5_told_59.1.2.2.2) (by decide) ?_
            refine sg_lsub (lv' := [(5, _), (4, _), (0, _), (2, _), (3, _)]) ⟨rfl, rfl, rfl, rfl, rfl, trivial⟩ ?_
            exact ih _ _ (by omega) (by rw [fs_tfs (by omega), ← s0, ← h42]) (fun j j0 => by
              by_cases q : j = p.toNat
              · subst q; omega
              · exact p1 j (by omega)) (by first | exact jl_m1 hm (by omega) | exact jl_m2 hm (by omega) | omega)
          · refine sg_bipush (pc := 53) (z := -9) (dc_X5_told_28.2.2.1.1) (by decide) ?_
            refine sg_iret (pc := 55) (dc_X5_told_28.2.2.1.2) rfl (by first | exact Nat.le_of_ble_eq_true rfl | omega) (by first | exact Nat.le_of_ble_eq_true rfl | omega) ?_
            exact hQ (by omega) (by omega) _ (fs_theE fs_tU (Or.inl ⟨rfl, Or.inr ⟨p.toNat, by omega, by omega⟩⟩))
    refine sg_lsub (lv' := [(5, _), (4, _), (0, _), (2, _), (3, _)]) ⟨rfl, rfl, rfl, rfl, rfl, trivial⟩ ?_
    exact loop26 _ _ _ (by omega) rfl (fun j j0 => absurd j0 (by omega)) (Nat.lt_succ_self _)
  · refine sg_bipush (pc := 17) (z := -9) (dc_X5_told_0.2.1.1.2) (by decide) ?_
    refine sg_iret (pc := 19) (dc_X5_told_0.2.1.2.1) rfl (by first | exact Nat.le_of_ble_eq_true rfl | omega) (by first | exact Nat.le_of_ble_eq_true rfl | omega) ?_
    exact hQ (by omega) (by omega) _ (fs_theE fs_tU (Or.inl ⟨rfl, Or.inl (by omega)⟩))

set_option maxRecDepth 100000 in
theorem f_X5_sum {w : sg_W} {Q : sg_O → sg_H → Prop} {h : sg_H} (g : sg_G w) {d : Nat} (hd : 14 ≤ d) {B : Nat} {A : fa_A} (hx : cf_X h B A) (ok : fa_ok A) {row radix : Int} {L : List Int} (hL : fa_L A row.toNat = L) (hQ : ¬ (row < 0 ∨ 4 ≤ row) → ∀ v : Int, v = fs_sm L radix L.length → Q (.inl (some (sg_i v))) h) (hXI : (row < 0 ∨ 4 ≤ row) → ∀ z, h.1 ≤ z → Q (.inr e_I) (z, h.2)) : sg_C w mi_X5_sum d 8 48 [sg_r B, sg_i row, sg_i radix] h Q := by
  refine sg_of pn_X5 (Nat.le_of_ble_eq_true rfl) ?_
  obtain ⟨x0, ho, hS, hP, hK⟩ := id hx
  have y0 := ck_Y0 x0
  have hc40 : ck_cap 0 = 40 := rfl
  refine sg_aload_n (pc := 0) (j := 0) (dc_X5_sum_0.1.1.1.1) rfl rfl ?_
  refine sg_iload_n (pc := 1) (j := 1) (dc_X5_sum_0.1.1.1.2) rfl rfl ?_
  refine sg_cE1 (pc := 2) (d' := d - 1) (mc' := 1) (ms' := 6) 6 g (dc_X5_sum_0.1.1.2.1) cb_X5_rowOf ml_X5_36 mn_X5_rowOf rfl mv_X5_rowOf (Nat.le_of_ble_eq_true rfl) (ck_oc (by assumption)) (Nat.le_of_ble_eq_true rfl) (by first | exact jl_d0 hd rfl | omega) (by first | exact Nat.le_of_ble_eq_true rfl | omega) (by first | exact Nat.le_of_ble_eq_true rfl | omega) ?_
  refine f_X5_rowOf g (by first | exact jl_d1 hd rfl | omega) (by assumption) (fun l2 r2 L2 => sg_K1 ?_) (fun t2 z2 w2 => sg_KX (by first | exact Nat.le_of_ble_eq_true rfl | omega) (by first | exact Nat.le_of_ble_eq_true rfl | omega) (hXI (by omega) z2 w2))
  obtain ⟨a2, ea2⟩ : ∃ a, a = B + 1 + 3 + 2 * row.toNat := ⟨_, rfl⟩
  rw [← ea2] at L2 ⊢
  have k2 : cf_l h a2 = L := by rw [ea2, cf_rl hx (by omega)]; exact hL
  have r42 := fa_row ok (i := row.toNat) (by omega)
  rw [hL] at r42
  refine sg_astore_n (pc := 5) (j := 3) (dc_X5_sum_0.1.1.2.2) rfl (by decide) ?_
  refine sg_iconst (pc := 6) (z := 0) (dc_X5_sum_0.1.2.1.1) (by decide) ?_
  refine sg_istore (pc := 7) (dc_X5_sum_0.1.2.1.2) (by decide) ?_
  refine sg_iconst (pc := 9) (z := 0) (dc_X5_sum_0.1.2.2.1) (by decide) ?_
  refine sg_istore (pc := 10) (dc_X5_sum_0.1.2.2.2) (by decide) ?_
  have loop12 : ∀ (N : Nat) (p s : Int), (0 ≤ p ∧ p ≤ (L.length : Int)) → (s = fs_sm L radix p.toNat) → ((L.length : Int) - p).toNat < N → sg_R w mi_X5_sum d 8 48 Q 12 [(5, sg_i p), (4, sg_i s), (0, sg_r B), (2, sg_i radix), (3, sg_r a2)] [] h 1 6 := by
    intro N
    induction N with
    | zero => intro p s p0 s0 hm; exact absurd hm (Nat.not_lt_zero _)
    | succ N ih =>
      intro p s p0 s0 hm
      have sb := fs_smb (L := L) (r := radix) (n := p.toNat)
      rw [← s0] at sb
      refine sg_iload (pc := 12) (dc_X5_sum_0.2.1.1.1) rfl ?_
      refine sg_aload_n (pc := 14) (j := 3) (dc_X5_sum_0.2.1.1.2) rfl rfl ?_
      refine sg_cE0 (pc := 15) (d' := d - 1) (mc' := 0) (ms' := 0) 3 g (dc_X5_sum_0.2.1.2.1) cb_X0_size ml_X5_63 mn_X0_size rfl mv_X0_size (Nat.le_of_ble_eq_true rfl) (ck_lc (by assumption) (by first | assumption | exact ck_rev)) (Nat.le_of_ble_eq_true rfl) (by first | exact jl_d0 hd rfl | omega) (by first | exact Nat.le_of_ble_eq_true rfl | omega) (by first | exact Nat.le_of_ble_eq_true rfl | omega) ?_
      refine f_X0_size g (by first | exact jl_d1 hd rfl | omega) (by assumption) L2 (fun z15 e15 l015 u15 => sg_K1 ?_)
      rw [k2] at e15
      try rw [fa_tlen] at e15
      refine sg_icmp_ge (pc := 18) (tgt := 52) (dc_X5_sum_0.2.1.2.2) (by decide) (fun c18 => ?_) (fun c18 => ?_)
      · refine sg_iload (pc := 52) (dc_X5_sum_28.2.1.2.2) rfl ?_
        refine sg_iret (pc := 54) (dc_X5_sum_28.2.2.1.1) rfl (by first | exact Nat.le_of_ble_eq_true rfl | omega) (by first | exact Nat.le_of_ble_eq_true rfl | omega) ?_
        exact hQ (by omega) _ (by rw [s0, show p.toNat = L.length by omega])
      · refine sg_aload_n (pc := 21) (j := 3) (dc_X5_sum_0.2.2.1.1) rfl rfl ?_
        refine sg_iload (pc := 22) (dc_X5_sum_0.2.2.1.2) rfl ?_
        refine sg_cE1 (pc := 24) (d' := d - 1) (mc' := 0) (ms' := 0) 3 g (dc_X5_sum_0.2.2.2.1) cb_X0_get ml_X5_75 mn_X0_get rfl mv_X0_get (Nat.le_of_ble_eq_true rfl) (ck_lc (by assumption) (by first | assumption | exact ck_rev)) (Nat.le_of_ble_eq_true rfl) (by first | exact jl_d0 hd rfl | omega) (by first | exact Nat.le_of_ble_eq_true rfl | omega) (by first | exact Nat.le_of_ble_eq_true rfl | omega) ?_
        refine f_X0_get g (by first | exact jl_d1 hd rfl | omega) (by assumption) L2 (fun z24 e24 v24 => sg_K1 ?_)
        rw [k2] at e24
        rw [k2] at v24
        try rw [fa_tg (by omega) (by omega)] at e24
        rw [gg_in (by omega) (by omega)] at e24
        subst e24
        refine sg_iload_n (pc := 27) (j := 2) (dc_X5_sum_0.2.2.2.2) rfl rfl ?_
        refine sg_cS2 (pc := 28) (d' := d - 1) (mc' := 0) (ms' := 0) g (dc_X5_sum_28.1.1.1.1) cb_X2_numberOf ml_X5_148 ms_X2_numberOf (Nat.le_of_ble_eq_true rfl) (by first | exact jl_d0 hd rfl | omega) (by first | exact Nat.le_of_ble_eq_true rfl | omega) (by first | exact Nat.le_of_ble_eq_true rfl | omega) ?_
        refine s_X2_numberOf g (by first | exact jl_d1 hd rfl | omega) (fun z28 h28 => sg_K1 ?_)
        refine sg_istore (pc := 31) (dc_X5_sum_28.1.1.1.2) (by decide) ?_
        have bk := fs_sms (L := L) (r := radix) (p := p) (by omega)
        rw [← h28] at bk
        have nb := fn_nb (L.getD p.toNat 0) radix
        rw [← h28] at nb
        refine sg_iload (pc := 33) (dc_X5_sum_28.1.1.2.1) rfl ?_
        refine sg_iconst (pc := 35) (z := -1) (dc_X5_sum_28.1.1.2.2) (by decide) ?_
        refine sg_icmp_eq (pc := 36) (tgt := 46) (dc_X5_sum_28.1.2.1.1) (by decide) (fun c36 => ?_) (fun c36 => ?_)
        · first | refine sg_iincB (pc := 46) (dc_X5_sum_28.2.1.1.2) rfl (by decide) (by decide) (by omega) (by omega) ?_ | refine sg_iinc (pc := 46) (dc_X5_sum_28.2.1.1.2) rfl (by decide) (by decide) ?_
          refine sg_goto (pc := 49) (tgt := 12) (dc_X5_sum_28.2.1.2.1) (by decide) ?_
          refine sg_lsub (lv' := [(5, _), (4, _), (0, _), (2, _), (3, _)]) ⟨rfl, rfl, rfl, rfl, rfl, trivial⟩ ?_
          exact ih _ _ (by omega) (by omega) (by first | exact jl_m1 hm (by omega) | exact jl_m2 hm (by omega) | omega)
        · refine sg_iload (pc := 39) (dc_X5_sum_28.1.2.1.2) rfl ?_
          refine sg_iload (pc := 41) (dc_X5_sum_28.1.2.2.1) rfl ?_
          first | refine sg_iaddB (pc := 43) (dc_X5_sum_28.1.2.2.2) (by omega) (by omega) ?_ | refine sg_iadd (pc := 43) (dc_X5_sum_28.1.2.2.2) ?_
          refine sg_istore (pc := 44) (dc_X5_sum_28.2.1.1.1) (by decide) ?_
          first | refine sg_iincB (pc := 46) (dc_X5_sum_28.2.1.1.2) rfl (by decide) (by decide) (by omega) (by omega) ?_ | refine sg_iinc (pc := 46) (dc_X5_sum_28.2.1.1.2) rfl (by decide) (by decide) ?_
          refine sg_goto (pc := 49) (tgt := 12) (dc_X5_sum_28.2.1.2.1) (by decide) ?_
          refine sg_lsub (lv' := [(5, _), (4, _), (0, _), (2, _), (3, _)]) ⟨rfl, rfl, rfl, rfl, rfl, trivial⟩ ?_
          exact ih _ _ (by omega) (by omega) (by first | exact jl_m1 hm (by omega) | exact jl_m2 hm (by omega) | omega)
  refine sg_lsub (lv' := [(5, _), (4, _), (0, _), (2, _), (3, _)]) ⟨rfl, rfl, rfl, rfl, rfl, trivial⟩ ?_
  exact loop12 _ _ _ (by omega) rfl (Nat.lt_succ_self _)

set_option maxRecDepth 100000 in
theorem f_X5_values {w : sg_W} {Q : sg_O → sg_H → Prop} {h : sg_H} (g : sg_G w) {d : Nat} (hd : 14 ≤ d) {B : Nat} {A : fa_A} (hx : cf_X h B A) (ok : fa_ok A) {row : Int} {L : List Int} (hL : fa_L A row.toNat = L) (hQ : ¬ (row < 0 ∨ 4 ≤ row) → ∀ v : Int, v = fs_vs L L.length → Q (.inl (some (sg_i v))) h) (hXI : (row < 0 ∨ 4 ≤ row) → ∀ z, h.1 ≤ z → Q (.inr e_I) (z, h.2)) : sg_C w mi_X5_values d 8 48 [sg_r B, sg_i row] h Q := by
  refine sg_of pn_X5 (Nat.le_of_ble_eq_true rfl) ?_
  obtain ⟨x0, ho, hS, hP, hK⟩ := id hx
  have y0 := ck_Y0 x0
  have hc40 : ck_cap 0 = 40 := rfl
  refine sg_aload_n (pc := 0) (j := 0) (dc_X5_values_0.1.1.1.1) rfl rfl ?_
  refine sg_iload_n (pc := 1) (j := 1) (dc_X5_values_0.1.1.1.2) rfl rfl ?_
  refine sg_cE1 (pc := 2) (d' := d - 1) (mc' := 1) (ms' := 6) 6 g (dc_X5_values_0.1.1.2.1) cb_X5_rowOf ml_X5_36 mn_X5_rowOf rfl mv_X5_rowOf (Nat.le_of_ble_eq_true rfl) (ck_oc (by assumption)) (Nat.le_of_ble_eq_true rfl) (by first | exact jl_d0 hd rfl | omega) (by first | exact Nat.le_of_ble_eq_true rfl | omega) (by first | exact Nat.le_of_ble_eq_true rfl | omega) ?_
  refine f_X5_rowOf g (by first | exact jl_d1 hd rfl | omega) (by assumption) (fun l2 r2 L2 => sg_K1 ?_) (fun t2 z2 w2 => sg_KX (by first | exact Nat.le_of_ble_eq_true rfl | omega) (by first | exact Nat.le_of_ble_eq_true rfl | omega) (hXI (by omega) z2 w2))
  obtain ⟨a2, ea2⟩ : ∃ a, a = B + 1 + 3 + 2 * row.toNat := ⟨_, rfl⟩
  rw [← ea2] at L2 ⊢
  have k2 : cf_l h a2 = L := by rw [ea2, cf_rl hx (by omega)]; exact hL
  have r42 := fa_row ok (i := row.toNat) (by omega)
  rw [hL] at r42
  refine sg_astore_n (pc := 5) (j := 2) (dc_X5_values_0.1.1.2.2) rfl (by decide) ?_
  refine sg_iconst (pc := 6) (z := 0) (dc_X5_values_0.1.2.1.1) (by decide) ?_
  refine sg_istore_n (pc := 7) (j := 3) (dc_X5_values_0.1.2.1.2) rfl (by decide) ?_
  refine sg_iconst (pc := 8) (z := 0) (dc_X5_values_0.1.2.2.1) (by decide) ?_
  refine sg_istore (pc := 9) (dc_X5_values_0.1.2.2.2) (by decide) ?_
  have loop11 : ∀ (N : Nat) (p s : Int), (0 ≤ p ∧ p ≤ (L.length : Int)) → (s = fs_vs L p.toNat) → ((L.length : Int) - p).toNat < N → sg_R w mi_X5_values d 8 48 Q 11 [(4, sg_i p), (3, sg_i s), (0, sg_r B), (2, sg_r a2)] [] h 1 6 := by
    intro N
    induction N with
    | zero => intro p s p0 s0 hm; exact absurd hm (Nat.not_lt_zero _)
    | succ N ih =>
      intro p s p0 s0 hm
      have sb := fs_vsb (L := L) (n := p.toNat)
      rw [← s0] at sb
      refine sg_iload (pc := 11) (dc_X5_values_0.2.1.1.1) rfl ?_
      refine sg_aload_n (pc := 13) (j := 2) (dc_X5_values_0.2.1.1.2) rfl rfl ?_
      refine sg_cE0 (pc := 14) (d' := d - 1) (mc' := 0) (ms' := 0) 3 g (dc_X5_values_0.2.1.2.1) cb_X0_size ml_X5_63 mn_X0_size rfl mv_X0_size (Nat.le_of_ble_eq_true rfl) (ck_lc (by assumption) (by first | assumption | exact ck_rev)) (Nat.le_of_ble_eq_true rfl) (by first | exact jl_d0 hd rfl | omega) (by first | exact Nat.le_of_ble_eq_true rfl | omega) (by first | exact Nat.le_of_ble_eq_true rfl | omega) ?_
      refine f_X0_size g (by first | exact jl_d1 hd rfl | omega) (by assumption) L2 (fun z14 e14 l014 u14 => sg_K1 ?_)
      rw [k2] at e14
      try rw [fa_tlen] at e14
      refine sg_icmp_ge (pc := 17) (tgt := 47) (dc_X5_values_0.2.1.2.2) (by decide) (fun c17 => ?_) (fun c17 => ?_)
      · refine sg_iload_n (pc := 47) (j := 3) (dc_X5_values_29.2.1.1.2) rfl rfl ?_
        refine sg_iret (pc := 48) (dc_X5_values_29.2.1.2.1) rfl (by first | exact Nat.le_of_ble_eq_true rfl | omega) (by first | exact Nat.le_of_ble_eq_true rfl | omega) ?_
        exact hQ (by omega) _ (by rw [s0, show p.toNat = L.length by omega])
      · refine sg_aload_n (pc := 20) (j := 2) (dc_X5_values_0.2.2.1.1) rfl rfl ?_
        refine sg_iload (pc := 21) (dc_X5_values_0.2.2.1.2) rfl ?_
        refine sg_cE1 (pc := 23) (d' := d - 1) (mc' := 0) (ms' := 0) 3 g (dc_X5_values_0.2.2.2.1) cb_X0_get ml_X5_75 mn_X0_get rfl mv_X0_get (Nat.le_of_ble_eq_true rfl) (ck_lc (by assumption) (by first | assumption | exact ck_rev)) (Nat.le_of_ble_eq_true rfl) (by first | exact jl_d0 hd rfl | omega) (by first | exact Nat.le_of_ble_eq_true rfl | omega) (by first | exact Nat.le_of_ble_eq_true rfl | omega) ?_
        refine f_X0_get g (by first | exact jl_d1 hd rfl | omega) (by assumption) L2 (fun z23 e23 v23 => sg_K1 ?_)
        rw [k2] at e23
        rw [k2] at v23
        try rw [fa_tg (by omega) (by omega)] at e23
        rw [gg_in (by omega) (by omega)] at e23
        subst e23
        refine sg_cS1 (pc := 26) (d' := d - 1) (mc' := 0) (ms' := 0) g (dc_X5_values_0.2.2.2.2) cb_X2_signValue ml_X5_195 ms_X2_signValue (Nat.le_of_ble_eq_true rfl) (by first | exact jl_d0 hd rfl | omega) (by first | exact Nat.le_of_ble_eq_true rfl | omega) (by first | exact Nat.le_of_ble_eq_true rfl | omega) ?_
        refine s_X2_signValue g (by first | exact jl_d1 hd rfl | omega) (fun z26 h26 => sg_K1 ?_)
        refine sg_istore (pc := 29) (dc_X5_values_29.1.1.1.1) (by decide) ?_
        have bk := fs_vss (L := L) (p := p) (by omega)
        rw [← h26] at bk
        have nb := fn_vb (L.getD p.toNat 0)
        rw [← h26] at nb
        refine sg_iload (pc := 31) (dc_X5_values_29.1.1.1.2) rfl ?_
        refine sg_if_lt (pc := 33) (tgt := 41) (dc_X5_values_29.1.1.2.1) (by decide) (fun c33 => ?_) (fun c33 => ?_)
        · first | refine sg_iincB (pc := 41) (dc_X5_values_29.1.2.2.2) rfl (by decide) (by decide) (by omega) (by omega) ?_ | refine sg_iinc (pc := 41) (dc_X5_values_29.1.2.2.2) rfl (by decide) (by decide) ?_
          refine sg_goto (pc := 44) (tgt := 11) (dc_X5_values_29.2.1.1.1) (by decide) ?_
          refine sg_lsub (lv' := [(4, _), (3, _), (0, _), (2, _)]) ⟨rfl, rfl, rfl, rfl, trivial⟩ ?_
          exact ih _ _ (by omega) (by omega) (by first | exact jl_m1 hm (by omega) | exact jl_m2 hm (by omega) | omega)
        · refine sg_iload_n (pc := 36) (j := 3) (dc_X5_values_29.1.1.2.2) rfl rfl ?_
          refine sg_iload (pc := 37) (dc_X5_values_29.1.2.1.1) rfl ?_
          first | refine sg_iaddB (pc := 39) (dc_X5_values_29.1.2.1.2) (by omega) (by omega) ?_ | refine sg_iadd (pc := 39) (dc_X5_values_29.1.2.1.2) ?_
          refine sg_istore_n (pc := 40) (j := 3) (dc_X5_values_29.1.2.2.1) rfl (by decide) ?_
          first | refine sg_iincB (pc := 41) (dc_X5_values_29.1.2.2.2) rfl (by decide) (by decide) (by omega) (by omega) ?_ | refine sg_iinc (pc := 41) (dc_X5_values_29.1.2.2.2) rfl (by decide) (by decide) ?_
          refine sg_goto (pc := 44) (tgt := 11) (dc_X5_values_29.2.1.1.1) (by decide) ?_
          refine sg_lsub (lv' := [(4, _), (3, _), (0, _), (2, _)]) ⟨rfl, rfl, rfl, rfl, trivial⟩ ?_
          exact ih _ _ (by omega) (by omega) (by first | exact jl_m1 hm (by omega) | exact jl_m2 hm (by omega) | omega)
  refine sg_lsub (lv' := [(4, _), (3, _), (0, _), (2, _)]) ⟨rfl, rfl, rfl, rfl, trivial⟩ ?_
  exact loop11 _ _ _ (by omega) rfl (Nat.lt_succ_self _)

set_option maxRecDepth 100000 in
theorem f_X5_isWordBegin {w : sg_W} {Q : sg_O → sg_H → Prop} {h : sg_H} (g : sg_G w) {d : Nat} (hd : 11 ≤ d) {B a1 : Nat} (hx : ck_X h B) (L1 : ck_L B a1 0) {L : List Int} (kk : cf_l h a1 = L) {p : Int} (p0 : 0 ≤ p) (p1 : p < (L.length : Int)) (hQ : ∀ z : Int, ((z = 0 ∧ ¬ fs_wb L p.toNat) ∨ (z = 1 ∧ fs_wb L p.toNat)) → Q (.inl (some (sg_i z))) h) : sg_C w mi_X5_isWordBegin d 0 0 [sg_r a1, sg_i p] h Q := by
  refine sg_of pn_X5 (Nat.le_of_ble_eq_true rfl) ?_
  have y0 := ck_Y0 hx
  have l40 := cf_40 hx L1
  rw [kk] at l40
  have hc40 : ck_cap 0 = 40 := rfl
  refine sg_aload_n (pc := 0) (j := 0) (dc_X5_isWordBegin_0.1.1.1.1) rfl rfl ?_
  refine sg_iload_n (pc := 1) (j := 1) (dc_X5_isWordBegin_0.1.1.1.2) rfl rfl ?_
  refine sg_cE1 (pc := 2) (d' := d - 1) (mc' := 0) (ms' := 0) 3 g (dc_X5_isWordBegin_0.1.1.2.1) cb_X0_get ml_X5_75 mn_X0_get rfl mv_X0_get (Nat.le_of_ble_eq_true rfl) (ck_lc (by assumption) (by first | assumption | exact ck_rev)) (Nat.le_of_ble_eq_true rfl) (by first | exact jl_d0 hd rfl | omega) (by first | exact Nat.le_of_ble_eq_true rfl | omega) (by first | exact Nat.le_of_ble_eq_true rfl | omega) ?_
  refine f_X0_get g (by first | exact jl_d1 hd rfl | omega) (by assumption) L1 (fun z2 e2 v2 => sg_K1 ?_)
  rw [kk] at e2
  rw [kk] at v2
  try rw [fa_tg (by omega) (by omega)] at e2
  rw [gg_in (by omega) (by omega)] at e2
  subst e2
  refine sg_iconst (pc := 5) (z := 2) (dc_X5_isWordBegin_0.1.1.2.2) (by decide) ?_
  refine sg_cS2 (pc := 6) (d' := d - 1) (mc' := 0) (ms' := 0) g (dc_X5_isWordBegin_0.1.2.1.1) cb_X2_isOf ml_X5_96 ms_X2_isOf (Nat.le_of_ble_eq_true rfl) (by first | exact jl_d0 hd rfl | omega) (by first | exact Nat.le_of_ble_eq_true rfl | omega) (by first | exact Nat.le_of_ble_eq_true rfl | omega) ?_
  refine s_X2_isOf g (by first | exact jl_d1 hd rfl | omega) (fun z6 h6 b6 => sg_K1 ?_)
  refine sg_if_ne (pc := 9) (tgt := 14) (dc_X5_isWordBegin_0.1.2.1.2) (by decide) (fun c9 => ?_) (fun c9 => ?_)
  · refine sg_iload_n (pc := 14) (j := 1) (dc_X5_isWordBegin_0.2.1.1.1) rfl rfl ?_
    refine sg_if_eq (pc := 15) (tgt := 32) (dc_X5_isWordBegin_0.2.1.1.2) (by decide) (fun c15 => ?_) (fun c15 => ?_)
    · refine sg_iconst (pc := 32) (z := 1) (dc_X5_isWordBegin_26.1.2.1) (by decide) ?_
      refine sg_goto (pc := 33) (tgt := 37) (dc_X5_isWordBegin_26.1.2.2) (by decide) ?_
      refine sg_zret (pc := 37) (dc_X5_isWordBegin_26.2.1.2) rfl (by first | exact Or.inl rfl | exact Or.inr rfl | omega | assumption) (by first | exact Nat.le_of_ble_eq_true rfl | omega) (by first | exact Nat.le_of_ble_eq_true rfl | omega) ?_
      first
        | exact hQ _ (Or.inr ⟨rfl, by omega, Or.inl (by omega)⟩)
        | exact hQ _ (Or.inr ⟨rfl, by omega, Or.inr (by rw [show p.toNat - 1 = (p - 1).toNat by omega]; omega)⟩)
        | exact hQ _ (Or.inl ⟨rfl, fun q => by
            rcases q.2 with q2 | q2
            · omega
            · rw [show p.toNat - 1 = (p - 1).toNat by omega] at q2; omega⟩)
    · refine sg_aload_n (pc := 18) (j := 0) (dc_X5_isWordBegin_0.2.1.2.1) rfl rfl ?_
      refine sg_iload_n (pc := 19) (j := 1) (dc_X5_isWordBegin_0.2.1.2.2) rfl rfl ?_
      refine sg_iconst (pc := 20) (z := 1) (dc_X5_isWordBegin_0.2.2.1.1) (by decide) ?_
      first | refine sg_isubB (pc := 21) (dc_X5_isWordBegin_0.2.2.1.2) (by omega) (by omega) ?_ | refine sg_isub (pc := 21) (dc_X5_isWordBegin_0.2.2.1.2) ?_
      refine sg_cE1 (pc := 22) (d' := d - 1) (mc' := 0) (ms' := 0) 3 g (dc_X5_isWordBegin_0.2.2.2.1) cb_X0_get ml_X5_75 mn_X0_get rfl mv_X0_get (Nat.le_of_ble_eq_true rfl) (ck_lc (by assumption) (by first | assumption | exact ck_rev)) (Nat.le_of_ble_eq_true rfl) (by first | exact jl_d0 hd rfl | omega) (by first | exact Nat.le_of_ble_eq_true rfl | omega) (by first | exact Nat.le_of_ble_eq_true rfl | omega) ?_
      refine f_X0_get g (by first | exact jl_d1 hd rfl | omega) (by assumption) L1 (fun z22 e22 v22 => sg_K1 ?_)
      rw [kk] at e22
      rw [kk] at v22
      try rw [fa_tg (by omega) (by omega)] at e22
      rw [gg_in (by omega) (by omega)] at e22
      subst e22
      refine sg_iconst (pc := 25) (z := 2) (dc_X5_isWordBegin_0.2.2.2.2) (by decide) ?_
      refine sg_cS2 (pc := 26) (d' := d - 1) (mc' := 0) (ms' := 0) g (dc_X5_isWordBegin_26.1.1.1) cb_X2_isOf ml_X5_96 ms_X2_isOf (Nat.le_of_ble_eq_true rfl) (by first | exact jl_d0 hd rfl | omega) (by first | exact Nat.le_of_ble_eq_true rfl | omega) (by first | exact Nat.le_of_ble_eq_true rfl | omega) ?_
      refine s_X2_isOf g (by first | exact jl_d1 hd rfl | omega) (fun z26 h26 b26 => sg_K1 ?_)
      refine sg_if_ne (pc := 29) (tgt := 36) (dc_X5_isWordBegin_26.1.1.2) (by decide) (fun c29 => ?_) (fun c29 => ?_)
      · refine sg_iconst (pc := 36) (z := 0) (dc_X5_isWordBegin_26.2.1.1) (by decide) ?_
        refine sg_zret (pc := 37) (dc_X5_isWordBegin_26.2.1.2) rfl (by first | exact Or.inl rfl | exact Or.inr rfl | omega | assumption) (by first | exact Nat.le_of_ble_eq_true rfl | omega) (by first | exact Nat.le_of_ble_eq_true rfl | omega) ?_
        first
          | exact hQ _ (Or.inr ⟨rfl, by omega, Or.inl (by omega)⟩)
          | exact hQ _ (Or.inr ⟨rfl, by omega, Or.inr (by rw [show p.toNat - 1 = (p - 1).toNat by omega]; omega)⟩)
          | exact hQ _ (Or.inl ⟨rfl, fun q => by
              rcases q.2 with q2 | q2
              · omega
              · rw [show p.toNat - 1 = (p - 1).toNat by omega] at q2; omega⟩)
      · refine sg_iconst (pc := 32) (z := 1) (dc_X5_isWordBegin_26.1.2.1) (by decide) ?_
        refine sg_goto (pc := 33) (tgt := 37) (dc_X5_isWordBegin_26.1.2.2) (by decide) ?_
        refine sg_zret (pc := 37) (dc_X5_isWordBegin_26.2.1.2) rfl (by first | exact Or.inl rfl | exact Or.inr rfl | omega | assumption) (by first | exact Nat.le_of_ble_eq_true rfl | omega) (by first | exact Nat.le_of_ble_eq_true rfl | omega) ?_
        first
          | exact hQ _ (Or.inr ⟨rfl, by omega, Or.inl (by omega)⟩)
          | exact hQ _ (Or.inr ⟨rfl, by omega, Or.inr (by rw [show p.toNat - 1 = (p - 1).toNat by omega]; omega)⟩)
          | exact hQ _ (Or.inl ⟨rfl, fun q => by
              rcases q.2 with q2 | q2
              · omega
              · rw [show p.toNat - 1 = (p - 1).toNat by omega] at q2; omega⟩)
  · refine sg_iconst (pc := 12) (z := 0) (dc_X5_isWordBegin_0.1.2.2.1) (by decide) ?_
    refine sg_zret (pc := 13) (dc_X5_isWordBegin_0.1.2.2.2) rfl (by first | exact Or.inl rfl | exact Or.inr rfl | omega | assumption) (by first | exact Nat.le_of_ble_eq_true rfl | omega) (by first | exact Nat.le_of_ble_eq_true rfl | omega) ?_
    exact hQ _ (Or.inl ⟨rfl, fun q => q.1 (by omega)⟩)

set_option maxRecDepth 100000 in
theorem f_X5_words {w : sg_W} {Q : sg_O → sg_H → Prop} {h : sg_H} (g : sg_G w) {d : Nat} (hd : 14 ≤ d) {B : Nat} {A : fa_A} (hx : cf_X h B A) (ok : fa_ok A) {row : Int} {L : List Int} (hL : fa_L A row.toNat = L) (hQ : ¬ (row < 0 ∨ 4 ≤ row) → ∀ v : Int, v = fs_wn L L.length → Q (.inl (some (sg_i v))) h) (hXI : (row < 0 ∨ 4 ≤ row) → ∀ z, h.1 ≤ z → Q (.inr e_I) (z, h.2)) : sg_C w mi_X5_words d 8 48 [sg_r B, sg_i row] h Q := by
  refine sg_of pn_X5 (Nat.le_of_ble_eq_true rfl) ?_
  obtain ⟨x0, ho, hS, hP, hK⟩ := id hx
  have y0 := ck_Y0 x0
  have hc40 : ck_cap 0 = 40 := rfl
  refine sg_aload_n (pc := 0) (j := 0) (dc_X5_words_0.1.1.1.1) rfl rfl ?_
  refine sg_iload_n (pc := 1) (j := 1) (dc_X5_words_0.1.1.1.2) rfl rfl ?_
  refine sg_cE1 (pc := 2) (d' := d - 1) (mc' := 1) (ms' := 6) 6 g (dc_X5_words_0.1.1.2.1) cb_X5_rowOf ml_X5_36 mn_X5_rowOf rfl mv_X5_rowOf (Nat.le_of_ble_eq_true rfl) (ck_oc (by assumption)) (Nat.le_of_ble_eq_true rfl) (by first | exact jl_d0 hd rfl | omega) (by first | exact Nat.le_of_ble_eq_true rfl | omega) (by first | exact Nat.le_of_ble_eq_true rfl | omega) ?_
  refine f_X5_rowOf g (by first | exact jl_d1 hd rfl | omega) (by assumption) (fun l2 r2 L2 => sg_K1 ?_) (fun t2 z2 w2 => sg_KX (by first | exact Nat.le_of_ble_eq_true rfl | omega) (by first | exact Nat.le_of_ble_eq_true rfl | omega) (hXI (by omega) z2 w2))
  obtain ⟨a2, ea2⟩ : ∃ a, a = B + 1 + 3 + 2 * row.toNat := ⟨_, rfl⟩
  rw [← ea2] at L2 ⊢
  have k2 : cf_l h a2 = L := by rw [ea2, cf_rl hx (by omega)]; exact hL
  have r42 := fa_row ok (i := row.toNat) (by omega)
  rw [hL] at r42
  refine sg_astore_n (pc := 5) (j := 2) (dc_X5_words_0.1.1.2.2) rfl (by decide) ?_
  refine sg_iconst (pc := 6) (z := 0) (dc_X5_words_0.1.2.1.1) (by decide) ?_
  refine sg_istore_n (pc := 7) (j := 3) (dc_X5_words_0.1.2.1.2) rfl (by decide) ?_
  refine sg_iconst (pc := 8) (z := 0) (dc_X5_words_0.1.2.2.1) (by decide) ?_
  refine sg_istore (pc := 9) (dc_X5_words_0.1.2.2.2) (by decide) ?_
  have loop11 : ∀ (N : Nat) (p s : Int), (0 ≤ p ∧ p ≤ (L.length : Int)) → (s = fs_wn L p.toNat) → ((L.length : Int) - p).toNat < N → sg_R w mi_X5_words d 8 48 Q 11 [(4, sg_i p), (3, sg_i s), (0, sg_r B), (2, sg_r a2)] [] h 1 6 := by
    intro N
    induction N with
    | zero => intro p s p0 s0 hm; exact absurd hm (Nat.not_lt_zero _)
    | succ N ih =>
      intro p s p0 s0 hm
      have sb := fs_wnb (L := L) (n := p.toNat)
      rw [← s0] at sb
      refine sg_iload (pc := 11) (dc_X5_words_0.2.1.1.1) rfl ?_
      refine sg_aload_n (pc := 13) (j := 2) (dc_X5_words_0.2.1.1.2) rfl rfl ?_
      refine sg_cE0 (pc := 14) (d' := d - 1) (mc' := 0) (ms' := 0) 3 g (dc_X5_words_0.2.1.2.1) cb_X0_size ml_X5_63 mn_X0_size rfl mv_X0_size (Nat.le_of_ble_eq_true rfl) (ck_lc (by assumption) (by first | assumption | exact ck_rev)) (Nat.le_of_ble_eq_true rfl) (by first | exact jl_d0 hd rfl | omega) (by first | exact Nat.le_of_ble_eq_true rfl | omega) (by first | exact Nat.le_of_ble_eq_true rfl | omega) ?_
      refine f_X0_size g (by first | exact jl_d1 hd rfl | omega) (by assumption) L2 (fun z14 e14 l014 u14 => sg_K1 ?_)
      rw [k2] at e14
      try rw [fa_tlen] at e14
      refine sg_icmp_ge (pc := 17) (tgt := 38) (dc_X5_words_0.2.1.2.2) (by decide) (fun c17 => ?_) (fun c17 => ?_)
      · refine sg_iload_n (pc := 38) (j := 3) (dc_X5_words_29.1.2.2) rfl rfl ?_
        refine sg_iret (pc := 39) (dc_X5_words_29.2.1.1) rfl (by first | exact Nat.le_of_ble_eq_true rfl | omega) (by first | exact Nat.le_of_ble_eq_true rfl | omega) ?_
        exact hQ (by omega) _ (by rw [s0, show p.toNat = L.length by omega])
      · refine sg_aload_n (pc := 20) (j := 2) (dc_X5_words_0.2.2.1.1) rfl rfl ?_
        refine sg_iload (pc := 21) (dc_X5_words_0.2.2.1.2) rfl ?_
        refine sg_cS2 (pc := 23) (d' := d - 1) (mc' := 0) (ms' := 0) g (dc_X5_words_0.2.2.2.1) cb_X5_isWordBegin ml_X5_219 ms_X5_isWordBegin (Nat.le_of_ble_eq_true rfl) (by first | exact jl_d0 hd rfl | omega) (by first | exact Nat.le_of_ble_eq_true rfl | omega) (by first | exact Nat.le_of_ble_eq_true rfl | omega) ?_
        refine f_X5_isWordBegin g (by first | exact jl_d1 hd rfl | omega) (by assumption) L2 k2 (by omega) (by omega) (fun z23 b23 => sg_K1 ?_)
        refine sg_if_eq (pc := 26) (tgt := 32) (dc_X5_words_0.2.2.2.2) (by decide) (fun c26 => ?_) (fun c26 => ?_)
        · have hb : ¬ fs_wb L p.toNat := by
            rcases b23 with b | b
            · exact b.2
            · exact absurd b.1 (by omega)
          have bk := fs_wns (L := L) (p := p) (by omega)
          rw [if_neg hb] at bk
          first | refine sg_iincB (pc := 32) (dc_X5_words_29.1.1.2) rfl (by decide) (by decide) (by omega) (by omega) ?_ | refine sg_iinc (pc := 32) (dc_X5_words_29.1.1.2) rfl (by decide) (by decide) ?_
          refine sg_goto (pc := 35) (tgt := 11) (dc_X5_words_29.1.2.1) (by decide) ?_
          refine sg_lsub (lv' := [(4, _), (3, _), (0, _), (2, _)]) ⟨rfl, rfl, rfl, rfl, trivial⟩ ?_
          exact ih _ _ (by omega) (by omega) (by first | exact jl_m1 hm (by omega) | exact jl_m2 hm (by omega) | omega)
        · first | refine sg_iincB (pc := 29) (dc_X5_words_29.1.1.1) rfl (by decide) (by decide) (by omega) (by omega) ?_ | refine sg_iinc (pc := 29) (dc_X5_words_29.1.1.1) rfl (by decide) (by decide) ?_
          have hb : fs_wb L p.toNat := by
            rcases b23 with b | b
            · exact absurd b.1 (by omega)
            · exact b.2
          have bk := fs_wns (L := L) (p := p) (by omega)
          rw [if_pos hb] at bk
          first | refine sg_iincB (pc := 32) (dc_X5_words_29.1.1.2) rfl (by decide) (by decide) (by omega) (by omega) ?_ | refine sg_iinc (pc := 32) (dc_X5_words_29.1.1.2) rfl (by decide) (by decide) ?_
          refine sg_goto (pc := 35) (tgt := 11) (dc_X5_words_29.1.2.1) (by decide) ?_
          refine sg_lsub (lv' := [(4, _), (3, _), (0, _), (2, _)]) ⟨rfl, rfl, rfl, rfl, trivial⟩ ?_
          exact ih _ _ (by omega) (by omega) (by first | exact jl_m1 hm (by omega) | exact jl_m2 hm (by omega) | omega)
  refine sg_lsub (lv' := [(4, _), (3, _), (0, _), (2, _)]) ⟨rfl, rfl, rfl, rfl, trivial⟩ ?_
  exact loop11 _ _ _ (by omega) rfl (Nat.lt_succ_self _)

set_option maxRecDepth 100000 in
theorem f_X5_wordBegin {w : sg_W} {Q : sg_O → sg_H → Prop} {h : sg_H} (g : sg_G w) {d : Nat} (hd : 12 ≤ d) {B a1 : Nat} (hx : ck_X h B) (L1 : ck_L B a1 0) {L : List Int} (kk : cf_l h a1 = L) {t : Int} (hQ : ∀ z : Int, fs_wR L t z → Q (.inl (some (sg_i z))) h) : sg_C w mi_X5_wordBegin d 0 0 [sg_r a1, sg_i t] h Q := by
  refine sg_of pn_X5 (Nat.le_of_ble_eq_true rfl) ?_
  have y0 := ck_Y0 hx
  have l40 := cf_40 hx L1
  rw [kk] at l40
  have hc40 : ck_cap 0 = 40 := rfl
  refine sg_iconst (pc := 0) (z := 0) (dc_X5_wordBegin_0.1.1.1.1) (by decide) ?_
  refine sg_istore_n (pc := 1) (j := 2) (dc_X5_wordBegin_0.1.1.1.2) rfl (by decide) ?_
  refine sg_iconst (pc := 2) (z := 0) (dc_X5_wordBegin_0.1.1.2.1) (by decide) ?_
  refine sg_istore_n (pc := 3) (j := 3) (dc_X5_wordBegin_0.1.1.2.2) rfl (by decide) ?_
  have loop4 : ∀ (N : Nat) (p s : Int), (0 ≤ p ∧ p ≤ (L.length : Int)) → (s = fs_wn L p.toNat) → (∀ j : Nat, (j : Int) < p → fs_wb L j → fs_wn L j ≠ t) → ((L.length : Int) - p).toNat < N → sg_R w mi_X5_wordBegin d 0 0 Q 4 [(3, sg_i p), (2, sg_i s), (0, sg_r a1), (1, sg_i t)] [] h 0 0 := by
    intro N
    induction N with
    | zero => intro p s p0 s0 p1 hm; exact absurd hm (Nat.not_lt_zero _)
    | succ N ih =>
      intro p s p0 s0 p1 hm
      have sb := fs_wnb (L := L) (n := p.toNat)
      rw [← s0] at sb
      refine sg_iload_n (pc := 4) (j := 3) (dc_X5_wordBegin_0.1.2.1.1) rfl rfl ?_
      refine sg_aload_n (pc := 5) (j := 0) (dc_X5_wordBegin_0.1.2.1.2) rfl rfl ?_
      refine sg_cE0 (pc := 6) (d' := d - 1) (mc' := 0) (ms' := 0) 3 g (dc_X5_wordBegin_0.1.2.2.1) cb_X0_size ml_X5_63 mn_X0_size rfl mv_X0_size (Nat.le_of_ble_eq_true rfl) (ck_lc (by assumption) (by first | assumption | exact ck_rev)) (Nat.le_of_ble_eq_true rfl) (by first | exact jl_d0 hd rfl | omega) (by first | exact Nat.le_of_ble_eq_true rfl | omega) (by first | exact Nat.le_of_ble_eq_true rfl | omega) ?_
      refine f_X0_size g (by first | exact jl_d1 hd rfl | omega) (by assumption) L1 (fun z6 e6 l06 u6 => sg_K1 ?_)
      rw [kk] at e6
      try rw [fa_tlen] at e6
      refine sg_icmp_ge (pc := 9) (tgt := 36) (dc_X5_wordBegin_0.1.2.2.2) (by decide) (fun c9 => ?_) (fun c9 => ?_)
      · refine sg_iconst (pc := 36) (z := -1) (dc_X5_wordBegin_26.2.1.1) (by decide) ?_
        refine sg_iret (pc := 37) (dc_X5_wordBegin_26.2.1.2) rfl (by first | exact Nat.le_of_ble_eq_true rfl | omega) (by first | exact Nat.le_of_ble_eq_true rfl | omega) ?_
        exact hQ _ (Or.inl ⟨rfl, fun j j0 => p1 j (by omega)⟩)
      · refine sg_aload_n (pc := 12) (j := 0) (dc_X5_wordBegin_0.2.1.1.1) rfl rfl ?_
        refine sg_iload_n (pc := 13) (j := 3) (dc_X5_wordBegin_0.2.1.1.2) rfl rfl ?_
        refine sg_cS2 (pc := 14) (d' := d - 1) (mc' := 0) (ms' := 0) g (dc_X5_wordBegin_0.2.1.2.1) cb_X5_isWordBegin ml_X5_219 ms_X5_isWordBegin (Nat.le_of_ble_eq_true rfl) (by first | exact jl_d0 hd rfl | omega) (by first | exact Nat.le_of_ble_eq_true rfl | omega) (by first | exact Nat.le_of_ble_eq_true rfl | omega) ?_
        refine f_X5_isWordBegin g (by first | exact jl_d1 hd rfl | omega) (by assumption) L1 kk (by omega) (by omega) (fun z14 b14 => sg_K1 ?_)
        refine sg_if_eq (pc := 17) (tgt := 30) (dc_X5_wordBegin_0.2.1.2.2) (by decide) (fun c17 => ?_) (fun c17 => ?_)
        · have hb : ¬ fs_wb L p.toNat := by
            rcases b14 with b | b
            · exact b.2
            · exact absurd b.1 (by omega)
          have bk := fs_wns (L := L) (p := p) (by omega)
          rw [if_neg hb] at bk
          first | refine sg_iincB (pc := 30) (dc_X5_wordBegin_26.1.2.1) rfl (by decide) (by decide) (by omega) (by omega) ?_ | refine sg_iinc (pc := 30) (dc_X5_wordBegin_26.1.2.1) rfl (by decide) (by decide) ?_
          refine sg_goto (pc := 33) (tgt := 4) (dc_X5_wordBegin_26.1.2.2) (by decide) ?_
          refine sg_lsub (lv' := [(3, _), (2, _), (0, _), (1, _)]) ⟨rfl, rfl, rfl, rfl, trivial⟩ ?_
          exact ih _ _ (by omega) (by omega) (fun j j0 jw => by
            by_cases q : j = p.toNat
            · subst q
              first
                | exact absurd jw hb
                | omega
            · exact p1 j (by omega) jw) (by first | exact jl_m1 hm (by omega) | exact jl_m2 hm (by omega) | omega)
        · have hb20 : fs_wb L p.toNat := by
            rcases b14 with b | b
            · exact absurd b.1 (by omega)
            · exact b.2
          refine sg_iload_n (pc := 20) (j := 2) (dc_X5_wordBegin_0.2.2.1.1) rfl rfl ?_
          refine sg_iload_n (pc := 21) (j := 1) (dc_X5_wordBegin_0.2.2.1.2) rfl rfl ?_
          refine sg_icmp_ne (pc := 22) (tgt := 27) (dc_X5_wordBegin_0.2.2.2.1) (by decide) (fun c22 => ?_) (fun c22 => ?_)
          · first | refine sg_iincB (pc := 27) (dc_X5_wordBegin_26.1.1.2) rfl (by decide) (by decide) (by omega) (by omega) ?_ | refine sg_iinc (pc := 27) (dc_X5_wordBegin_26.1.1.2) rfl (by decide) (by decide) ?_
            have hb : fs_wb L p.toNat := by
              rcases b14 with b | b
              · exact absurd b.1 (by omega)
              · exact b.2
            have bk := fs_wns (L := L) (p := p) (by omega)
            rw [if_pos hb] at bk
            first | refine sg_iincB (pc := 30) (dc_X5_wordBegin_26.1.2.1) rfl (by decide) (by decide) (by omega) (by omega) ?_ | refine sg_iinc (pc := 30) (dc_X5_wordBegin_26.1.2.1) rfl (by decide) (by decide) ?_
            refine sg_goto (pc := 33) (tgt := 4) (dc_X5_wordBegin_26.1.2.2) (by decide) ?_
            refine sg_lsub (lv' := [(3, _), (2, _), (0, _), (1, _)]) ⟨rfl, rfl, rfl, rfl, trivial⟩ ?_
            exact ih _ _ (by omega) (by omega) (fun j j0 jw => by
              by_cases q : j = p.toNat
              · subst q
                first
                  | exact absurd jw hb
                  | omega
              · exact p1 j (by omega) jw) (by first | exact jl_m1 hm (by omega) | exact jl_m2 hm (by omega) | omega)
          · refine sg_iload_n (pc := 25) (j := 3) (dc_X5_wordBegin_0.2.2.2.2) rfl rfl ?_
            refine sg_iret (pc := 26) (dc_X5_wordBegin_26.1.1.1) rfl (by first | exact Nat.le_of_ble_eq_true rfl | omega) (by first | exact Nat.le_of_ble_eq_true rfl | omega) ?_
            exact hQ _ (Or.inr ⟨by omega, by omega, hb20, by omega⟩)
  refine sg_lsub (lv' := [(3, _), (2, _), (0, _), (1, _)]) ⟨rfl, rfl, rfl, rfl, trivial⟩ ?_
  exact loop4 _ _ _ (by omega) rfl (fun j j0 => absurd j0 (by omega)) (Nat.lt_succ_self _)

set_option maxRecDepth 100000 in
theorem f_X5_word {w : sg_W} {Q : sg_O → sg_H → Prop} {h : sg_H} (g : sg_G w) {d : Nat} (hd : 14 ≤ d) {B : Nat} {A : fa_A} (hx : cf_X h B A) (ok : fa_ok A) {row k isl : Int} {L : List Int} (hL : fa_L A row.toNat = L) (hQ : ¬ (row < 0 ∨ 4 ≤ row ∨ fs_wat L k = -1) → ∀ v : Int, v = (if isl = 0 then fs_wat L k else fs_end L (fs_wat L k) - fs_wat L k) → Q (.inl (some (sg_i v))) h) (hXI : (row < 0 ∨ 4 ≤ row ∨ fs_wat L k = -1) → ∀ z, h.1 ≤ z → Q (.inr e_I) (z, h.2)) : sg_C w mi_X5_word d 8 48 [sg_r B, sg_i row, sg_i k, sg_i isl] h Q := by
  refine sg_of pn_X5 (Nat.le_of_ble_eq_true rfl) ?_
  obtain ⟨x0, ho, hS, hP, hK⟩ := id hx
  have y0 := ck_Y0 x0
  have hc40 : ck_cap 0 = 40 := rfl
  refine sg_aload_n (pc := 0) (j := 0) (dc_X5_word_0.1.1.1.1) rfl rfl ?_
  refine sg_iload_n (pc := 1) (j := 1) (dc_X5_word_0.1.1.1.2) rfl rfl ?_
  refine sg_cE1 (pc := 2) (d' := d - 1) (mc' := 1) (ms' := 6) 6 g (dc_X5_word_0.1.1.2.1) cb_X5_rowOf ml_X5_36 mn_X5_rowOf rfl mv_X5_rowOf (Nat.le_of_ble_eq_true rfl) (ck_oc (by assumption)) (Nat.le_of_ble_eq_true rfl) (by first | exact jl_d0 hd rfl | omega) (by first | exact Nat.le_of_ble_eq_true rfl | omega) (by first | exact Nat.le_of_ble_eq_true rfl | omega) ?_
  refine f_X5_rowOf g (by first | exact jl_d1 hd rfl | omega) (by assumption) (fun l2 r2 L2 => sg_K1 ?_) (fun t2 z2 w2 => sg_KX (by first | exact Nat.le_of_ble_eq_true rfl | omega) (by first | exact Nat.le_of_ble_eq_true rfl | omega) (hXI (by omega) z2 w2))
  obtain ⟨a2, ea2⟩ : ∃ a, a = B + 1 + 3 + 2 * row.toNat := ⟨_, rfl⟩
  rw [← ea2] at L2 ⊢
  have k2 : cf_l h a2 = L := by rw [ea2, cf_rl hx (by omega)]; exact hL
  have r42 := fa_row ok (i := row.toNat) (by omega)
  rw [hL] at r42
  refine sg_astore (pc := 5) (dc_X5_word_0.1.1.2.2) (by decide) ?_
  refine sg_aload (pc := 7) (dc_X5_word_0.1.2.1.1) rfl ?_
  refine sg_iload_n (pc := 9) (j := 2) (dc_X5_word_0.1.2.1.2) rfl rfl ?_
  refine sg_cS2 (pc := 10) (d' := d - 1) (mc' := 0) (ms' := 0) g (dc_X5_word_0.1.2.2.1) cb_X5_wordBegin ml_X5_223 ms_X5_wordBegin (Nat.le_of_ble_eq_true rfl) (by first | exact jl_d0 hd rfl | omega) (by first | exact Nat.le_of_ble_eq_true rfl | omega) (by first | exact Nat.le_of_ble_eq_true rfl | omega) ?_
  refine f_X5_wordBegin g (by first | exact jl_d1 hd rfl | omega) (by assumption) L2 k2 (fun z10 R10 => sg_K1 ?_)
  have E10 := fs_theE fs_wU R10
  have zr : z10 = -1 ∨ (0 ≤ z10 ∧ z10 < (L.length : Int)) := R10.elim (fun q => Or.inl q.1) (fun q => Or.inr ⟨q.1, q.2.1⟩)
  have E11 : z10 = fs_wat L k := E10
  refine sg_istore (pc := 13) (dc_X5_word_0.1.2.2.2) (by decide) ?_
  refine sg_iload (pc := 15) (dc_X5_word_0.2.1.1.1) rfl ?_
  refine sg_iconst (pc := 17) (z := -1) (dc_X5_word_0.2.1.1.2) (by decide) ?_
  refine sg_icmp_ne (pc := 18) (tgt := 31) (dc_X5_word_0.2.1.2.1) (by decide) (fun c18 => ?_) (fun c18 => ?_)
  · refine sg_iload_n (pc := 31) (j := 3) (dc_X5_word_31.1.1.1.1) rfl rfl ?_
    refine sg_if_ne (pc := 32) (tgt := 38) (dc_X5_word_31.1.1.1.2) (by decide) (fun c32 => ?_) (fun c32 => ?_)
    · refine sg_iload (pc := 38) (dc_X5_word_31.1.2.1.1) rfl ?_
      refine sg_istore (pc := 40) (dc_X5_word_31.1.2.1.2) (by decide) ?_
      have loop42 : ∀ (N : Nat) (p : Int), (z10 ≤ p ∧ p ≤ (L.length : Int)) → (∀ j : Nat, z10 ≤ (j : Int) → (j : Int) < p → fn_isOf (L.getD j 0) 2 ≠ 0) → ((L.length : Int) - p).toNat < N → sg_R w mi_X5_word d 8 48 Q 42 [(6, sg_i p), (5, sg_i z10), (0, sg_r B), (4, sg_r a2)] [] h 1 6 := by
        intro N
        induction N with
        | zero => intro p p0 p1 hm; exact absurd hm (Nat.not_lt_zero _)
        | succ N ih =>
          intro p p0 p1 hm
          refine sg_iload (pc := 42) (dc_X5_word_31.1.2.2.1) rfl ?_
          refine sg_aload (pc := 44) (dc_X5_word_31.1.2.2.2) rfl ?_
          refine sg_cE0 (pc := 46) (d' := d - 1) (mc' := 0) (ms' := 0) 3 g (dc_X5_word_31.2.1.1.1) cb_X0_size ml_X5_63 mn_X0_size rfl mv_X0_size (Nat.le_of_ble_eq_true rfl) (ck_lc (by assumption) (by first | assumption | exact ck_rev)) (Nat.le_of_ble_eq_true rfl) (by first | exact jl_d0 hd rfl | omega) (by first | exact Nat.le_of_ble_eq_true rfl | omega) (by first | exact Nat.le_of_ble_eq_true rfl | omega) ?_
          refine f_X0_size g (by first | exact jl_d1 hd rfl | omega) (by assumption) L2 (fun z46 e46 l046 u46 => sg_K1 ?_)
          rw [k2] at e46
          try rw [fa_tlen] at e46
          refine sg_icmp_ge (pc := 49) (tgt := 72) (dc_X5_word_31.2.1.1.2) (by decide) (fun c49 => ?_) (fun c49 => ?_)
          · refine sg_iload (pc := 72) (dc_X5_word_66.1.2.1) rfl ?_
            refine sg_iload (pc := 74) (dc_X5_word_66.1.2.2) rfl ?_
            first | refine sg_isubB (pc := 76) (dc_X5_word_66.2.1.1) (by omega) (by omega) ?_ | refine sg_isub (pc := 76) (dc_X5_word_66.2.1.1) ?_
            refine sg_iret (pc := 77) (dc_X5_word_66.2.1.2) rfl (by first | exact Nat.le_of_ble_eq_true rfl | omega) (by first | exact Nat.le_of_ble_eq_true rfl | omega) ?_
            have ee := fs_theE (fs_eU (L := L) (k := z10) (by omega)) (v := p) ⟨by omega, by omega, p1, Or.inl (by omega)⟩
            exact hQ (by omega) _ (by rw [if_neg (by omega)]; show _ = fs_end L (fs_wat L k) - fs_wat L k; rw [show fs_wat L k = z10 from E10.symm]; show _ = fs_the (fs_eR L z10) - z10; rw [← ee])
          · refine sg_aload (pc := 52) (dc_X5_word_31.2.1.2.1) rfl ?_
            refine sg_iload (pc := 54) (dc_X5_word_31.2.1.2.2) rfl ?_
            refine sg_cE1 (pc := 56) (d' := d - 1) (mc' := 0) (ms' := 0) 3 g (dc_X5_word_31.2.2.1.1) cb_X0_get ml_X5_75 mn_X0_get rfl mv_X0_get (Nat.le_of_ble_eq_true rfl) (ck_lc (by assumption) (by first | assumption | exact ck_rev)) (Nat.le_of_ble_eq_true rfl) (by first | exact jl_d0 hd rfl | omega) (by first | exact Nat.le_of_ble_eq_true rfl | omega) (by first | exact Nat.le_of_ble_eq_true rfl | omega) ?_
            refine f_X0_get g (by first | exact jl_d1 hd rfl | omega) (by assumption) L2 (fun z56 e56 v56 => sg_K1 ?_)
            rw [k2] at e56
            rw [k2] at v56
            try rw [fa_tg (by omega) (by omega)] at e56
            rw [gg_in (by omega) (by omega)] at e56
            subst e56
            refine sg_iconst (pc := 59) (z := 2) (dc_X5_word_31.2.2.1.2) (by decide) ?_
            refine sg_cS2 (pc := 60) (d' := d - 1) (mc' := 0) (ms' := 0) g (dc_X5_word_31.2.2.2.1) cb_X2_isOf ml_X5_96 ms_X2_isOf (Nat.le_of_ble_eq_true rfl) (by first | exact jl_d0 hd rfl | omega) (by first | exact Nat.le_of_ble_eq_true rfl | omega) (by first | exact Nat.le_of_ble_eq_true rfl | omega) ?_
            refine s_X2_isOf g (by first | exact jl_d1 hd rfl | omega) (fun z60 h60 b60 => sg_K1 ?_)
            refine sg_if_eq (pc := 63) (tgt := 72) (dc_X5_word_31.2.2.2.2) (by decide) (fun c63 => ?_) (fun c63 => ?_)
            · refine sg_iload (pc := 72) (dc_X5_word_66.1.2.1) rfl ?_
              refine sg_iload (pc := 74) (dc_X5_word_66.1.2.2) rfl ?_
              first | refine sg_isubB (pc := 76) (dc_X5_word_66.2.1.1) (by omega) (by omega) ?_ | refine sg_isub (pc := 76) (dc_X5_word_66.2.1.1) ?_
              refine sg_iret (pc := 77) (dc_X5_word_66.2.1.2) rfl (by first | exact Nat.le_of_ble_eq_true rfl | omega) (by first | exact Nat.le_of_ble_eq_true rfl | omega) ?_
              have ee := fs_theE (fs_eU (L := L) (k := z10) (by omega)) (v := p) ⟨by omega, by omega, p1, Or.inr (by omega)⟩
              exact hQ (by omega) _ (by rw [if_neg (by omega)]; show _ = fs_end L (fs_wat L k) - fs_wat L k; rw [show fs_wat L k = z10 from E10.symm]; show _ = fs_the (fs_eR L z10) - z10; rw [← ee])
            · first | refine sg_iincB (pc := 66) (dc_X5_word_66.1.1.1) rfl (by decide) (by decide) (by omega) (by omega) ?_ | refine sg_iinc (pc := 66) (dc_X5_word_66.1.1.1) rfl (by decide) (by decide) ?_
              refine sg_goto (pc := 69) (tgt := 42) (dc_X5_word_66.1.1.2) (by decide) ?_
              refine sg_lsub (lv' := [(6, _), (5, _), (0, _), (4, _)]) ⟨rfl, rfl, rfl, rfl, trivial⟩ ?_
              exact ih _ (by omega) (fun j j0 j1 => by
                by_cases q : j = p.toNat
                · subst q; omega
                · exact p1 j j0 (by omega)) (by first | exact jl_m1 hm (by omega) | exact jl_m2 hm (by omega) | omega)
      refine sg_lsub (lv' := [(6, _), (5, _), (0, _), (4, _)]) ⟨rfl, rfl, rfl, rfl, trivial⟩ ?_
      exact loop42 _ _ (by omega) (fun j j0 j1 => absurd j1 (by omega)) (Nat.lt_succ_self _)
    · refine sg_iload (pc := 35) (dc_X5_word_31.1.1.2.1) rfl ?_
      refine sg_iret (pc := 37) (dc_X5_word_31.1.1.2.2) rfl (by first | exact Nat.le_of_ble_eq_true rfl | omega) (by first | exact Nat.le_of_ble_eq_true rfl | omega) ?_
      exact hQ (by omega) _ (by rw [if_pos (by omega)]; exact E10)
  · refine sg_throw (pc := 21) g th_X5_226_228 (dc_X5_word_0.2.1.2.2) (dc_X5_word_0.2.2.1.1) (dc_X5_word_0.2.2.1.2) (dc_X5_word_0.2.2.2.1) (dc_X5_word_0.2.2.2.2) (by first | exact Nat.le_trans (Nat.le_of_ble_eq_true rfl) hd | omega) (Nat.le_of_ble_eq_true rfl) (by first | exact Nat.le_of_ble_eq_true rfl | omega) (by first | exact Nat.le_of_ble_eq_true rfl | omega) ?_
    exact fun z hz => hXI (by omega) z hz

set_option maxRecDepth 100000 in
theorem f_X5_isAlike {w : sg_W} {Q : sg_O → sg_H → Prop} {h : sg_H} (g : sg_G w) {d : Nat} (hd : 14 ≤ d) {B : Nat} {A : fa_A} (hx : cf_X h B A) (ok : fa_ok A) {row other : Int} {L : List Int} (hL : fa_L A row.toNat = L) {M : List Int} (hM : fa_L A other.toNat = M) (hQ : ¬ (row < 0 ∨ 4 ≤ row ∨ other < 0 ∨ 4 ≤ other) → ∀ v : Int, ((v = 0 ∧ ¬ fs_al L M) ∨ (v = 1 ∧ fs_al L M)) → Q (.inl (some (sg_i v))) h) (hXI : (row < 0 ∨ 4 ≤ row ∨ other < 0 ∨ 4 ≤ other) → ∀ z, h.1 ≤ z → Q (.inr e_I) (z, h.2)) : sg_C w mi_X5_isAlike d 8 48 [sg_r B, sg_i row, sg_i other] h Q := by
  refine sg_of pn_X5 (Nat.le_of_ble_eq_true rfl) ?_
  obtain ⟨x0, ho, hS, hP, hK⟩ := id hx
  have y0 := ck_Y0 x0
  have hc40 : ck_cap 0 = 40 := rfl
  refine sg_aload_n (pc := 0) (j := 0) (dc_X5_isAlike_0.1.1.1.1) rfl rfl ?_
  refine sg_iload_n (pc := 1) (j := 1) (dc_X5_isAlike_0.1.1.1.2) rfl rfl ?_
  refine sg_cE1 (pc := 2) (d' := d - 1) (mc' := 1) (ms' := 6) 6 g (dc_X5_isAlike_0.1.1.2.1) cb_X5_rowOf ml_X5_36 mn_X5_rowOf rfl mv_X5_rowOf (Nat.le_of_ble_eq_true rfl) (ck_oc (by assumption)) (Nat.le_of_ble_eq_true rfl) (by first | exact jl_d0 hd rfl | omega) (by first | exact Nat.le_of_ble_eq_true rfl | omega) (by first | exact Nat.le_of_ble_eq_true rfl | omega) ?_
  refine f_X5_rowOf g (by first | exact jl_d1 hd rfl | omega) (by assumption) (fun l2 r2 L2 => sg_K1 ?_) (fun t2 z2 w2 => sg_KX (by first | exact Nat.le_of_ble_eq_true rfl | omega) (by first | exact Nat.le_of_ble_eq_true rfl | omega) (hXI (by omega) z2 w2))
  obtain ⟨a2, ea2⟩ : ∃ a, a = B + 1 + 3 + 2 * row.toNat := ⟨_, rfl⟩
  rw [← ea2] at L2 ⊢
  have k2 : cf_l h a2 = L := by rw [ea2, cf_rl hx (by omega)]; exact hL
  have r42 := fa_row ok (i := row.toNat) (by omega)
  rw [hL] at r42
  refine sg_astore_n (pc := 5) (j := 3) (dc_X5_isAlike_0.1.1.2.2) rfl (by decide) ?_
  refine sg_aload_n (pc := 6) (j := 0) (dc_X5_isAlike_0.1.2.1.1) rfl rfl ?_
  refine sg_iload_n (pc := 7) (j := 2) (dc_X5_isAlike_0.1.2.1.2) rfl rfl ?_
  refine sg_cE1 (pc := 8) (d' := d - 1) (mc' := 1) (ms' := 6) 6 g (dc_X5_isAlike_0.1.2.2.1) cb_X5_rowOf ml_X5_36 mn_X5_rowOf rfl mv_X5_rowOf (Nat.le_of_ble_eq_true rfl) (ck_oc (by assumption)) (Nat.le_of_ble_eq_true rfl) (by first | exact jl_d0 hd rfl | omega) (by first | exact Nat.le_of_ble_eq_true rfl | omega) (by first | exact Nat.le_of_ble_eq_true rfl | omega) ?_
  refine f_X5_rowOf g (by first | exact jl_d1 hd rfl | omega) (by assumption) (fun l8 r8 L8 => sg_K1 ?_) (fun t8 z8 w8 => sg_KX (by first | exact Nat.le_of_ble_eq_true rfl | omega) (by first | exact Nat.le_of_ble_eq_true rfl | omega) (hXI (by omega) z8 w8))
  obtain ⟨a8, ea8⟩ : ∃ a, a = B + 1 + 3 + 2 * other.toNat := ⟨_, rfl⟩
  rw [← ea8] at L8 ⊢
  have k8 : cf_l h a8 = M := by rw [ea8, cf_rl hx (by omega)]; exact hM
  have r48 := fa_row ok (i := other.toNat) (by omega)
  rw [hM] at r48
  refine sg_astore (pc := 11) (dc_X5_isAlike_0.1.2.2.2) (by decide) ?_
  refine sg_aload_n (pc := 13) (j := 3) (dc_X5_isAlike_0.2.1.1.1) rfl rfl ?_
  refine sg_cE0 (pc := 14) (d' := d - 1) (mc' := 0) (ms' := 0) 3 g (dc_X5_isAlike_0.2.1.1.2) cb_X0_size ml_X5_63 mn_X0_size rfl mv_X0_size (Nat.le_of_ble_eq_true rfl) (ck_lc (by assumption) (by first | assumption | exact ck_rev)) (Nat.le_of_ble_eq_true rfl) (by first | exact jl_d0 hd rfl | omega) (by first | exact Nat.le_of_ble_eq_true rfl | omega) (by first | exact Nat.le_of_ble_eq_true rfl | omega) ?_
  refine f_X0_size g (by first | exact jl_d1 hd rfl | omega) (by assumption) L2 (fun z14 e14 l014 u14 => sg_K1 ?_)
  rw [k2] at e14
  try rw [fa_tlen] at e14
  refine sg_aload (pc := 17) (dc_X5_isAlike_0.2.1.2.1) rfl ?_
  refine sg_cE0 (pc := 19) (d' := d - 1) (mc' := 0) (ms' := 0) 3 g (dc_X5_isAlike_0.2.1.2.2) cb_X0_size ml_X5_63 mn_X0_size rfl mv_X0_size (Nat.le_of_ble_eq_true rfl) (ck_lc (by assumption) (by first | assumption | exact ck_rev)) (Nat.le_of_ble_eq_true rfl) (by first | exact jl_d0 hd rfl | omega) (by first | exact Nat.le_of_ble_eq_true rfl | omega) (by first | exact Nat.le_of_ble_eq_true rfl | omega) ?_
  refine f_X0_size g (by first | exact jl_d1 hd rfl | omega) (by assumption) L8 (fun z19 e19 l019 u19 => sg_K1 ?_)
  rw [k8] at e19
  try rw [fa_tlen] at e19
  refine sg_icmp_eq (pc := 22) (tgt := 27) (dc_X5_isAlike_0.2.2.1.1) (by decide) (fun c22 => ?_) (fun c22 => ?_)
  · refine sg_iconst (pc := 27) (z := 0) (dc_X5_isAlike_0.2.2.2.2) (by decide) ?_
    refine sg_istore (pc := 28) (dc_X5_isAlike_28.1.1.1.1) (by decide) ?_
    have loop30 : ∀ (N : Nat) (p : Int), (0 ≤ p ∧ p ≤ (L.length : Int)) → (∀ j : Nat, (j : Int) < p → fn_upper (L.getD j 0) = fn_upper (M.getD j 0)) → ((L.length : Int) - p).toNat < N → sg_R w mi_X5_isAlike d 8 48 Q 30 [(5, sg_i p), (0, sg_r B), (3, sg_r a2), (4, sg_r a8)] [] h 2 12 := by
      intro N
      induction N with
      | zero => intro p p0 p1 hm; exact absurd hm (Nat.not_lt_zero _)
      | succ N ih =>
        intro p p0 p1 hm
        refine sg_iload (pc := 30) (dc_X5_isAlike_28.1.1.1.2) rfl ?_
        refine sg_aload_n (pc := 32) (j := 3) (dc_X5_isAlike_28.1.1.2.1) rfl rfl ?_
        refine sg_cE0 (pc := 33) (d' := d - 1) (mc' := 0) (ms' := 0) 3 g (dc_X5_isAlike_28.1.1.2.2) cb_X0_size ml_X5_63 mn_X0_size rfl mv_X0_size (Nat.le_of_ble_eq_true rfl) (ck_lc (by assumption) (by first | assumption | exact ck_rev)) (Nat.le_of_ble_eq_true rfl) (by first | exact jl_d0 hd rfl | omega) (by first | exact Nat.le_of_ble_eq_true rfl | omega) (by first | exact Nat.le_of_ble_eq_true rfl | omega) ?_
        refine f_X0_size g (by first | exact jl_d1 hd rfl | omega) (by assumption) L2 (fun z33 e33 l033 u33 => sg_K1 ?_)
        rw [k2] at e33
        try rw [fa_tlen] at e33
        refine sg_icmp_ge (pc := 36) (tgt := 69) (dc_X5_isAlike_28.1.2.1.1) (by decide) (fun c36 => ?_) (fun c36 => ?_)
        · refine sg_iconst (pc := 69) (z := 1) (dc_X5_isAlike_63.2.1) (by decide) ?_
          refine sg_zret (pc := 70) (dc_X5_isAlike_63.2.2) rfl (by first | exact Or.inl rfl | exact Or.inr rfl | omega | assumption) (by first | exact Nat.le_of_ble_eq_true rfl | omega) (by first | exact Nat.le_of_ble_eq_true rfl | omega) ?_
          exact hQ (by omega) _ (Or.inr ⟨rfl, by omega, fun j j0 => p1 j (by omega)⟩)
        · refine sg_aload_n (pc := 39) (j := 3) (dc_X5_isAlike_28.1.2.1.2) rfl rfl ?_
          refine sg_iload (pc := 40) (dc_X5_isAlike_28.1.2.2.1) rfl ?_
          refine sg_cE1 (pc := 42) (d' := d - 1) (mc' := 0) (ms' := 0) 3 g (dc_X5_isAlike_28.1.2.2.2) cb_X0_get ml_X5_75 mn_X0_get rfl mv_X0_get (Nat.le_of_ble_eq_true rfl) (ck_lc (by assumption) (by first | assumption | exact ck_rev)) (Nat.le_of_ble_eq_true rfl) (by first | exact jl_d0 hd rfl | omega) (by first | exact Nat.le_of_ble_eq_true rfl | omega) (by first | exact Nat.le_of_ble_eq_true rfl | omega) ?_
          refine f_X0_get g (by first | exact jl_d1 hd rfl | omega) (by assumption) L2 (fun z42 e42 v42 => sg_K1 ?_)
          rw [k2] at e42
          rw [k2] at v42
          try rw [fa_tg (by omega) (by omega)] at e42
          rw [gg_in (by omega) (by omega)] at e42
          subst e42
          refine sg_cS1 (pc := 45) (d' := d - 1) (mc' := 0) (ms' := 0) g (dc_X5_isAlike_28.2.1.1.1) cb_X2_upperOf ml_X5_78 ms_X2_upperOf (Nat.le_of_ble_eq_true rfl) (by first | exact jl_d0 hd rfl | omega) (by first | exact Nat.le_of_ble_eq_true rfl | omega) (by first | exact Nat.le_of_ble_eq_true rfl | omega) ?_
          refine s_X2_upperOf g (by first | exact jl_d1 hd rfl | omega) (fun z45 h45 => sg_K1 ?_)
          refine sg_aload (pc := 48) (dc_X5_isAlike_28.2.1.1.2) rfl ?_
          refine sg_iload (pc := 50) (dc_X5_isAlike_28.2.1.2.1) rfl ?_
          refine sg_cE1 (pc := 52) (d' := d - 1) (mc' := 0) (ms' := 0) 3 g (dc_X5_isAlike_28.2.1.2.2) cb_X0_get ml_X5_75 mn_X0_get rfl mv_X0_get (Nat.le_of_ble_eq_true rfl) (ck_lc (by assumption) (by first | assumption | exact ck_rev)) (Nat.le_of_ble_eq_true rfl) (by first | exact jl_d0 hd rfl | omega) (by first | exact Nat.le_of_ble_eq_true rfl | omega) (by first | exact Nat.le_of_ble_eq_true rfl | omega) ?_
          refine f_X0_get g (by first | exact jl_d1 hd rfl | omega) (by assumption) L8 (fun z52 e52 v52 => sg_K1 ?_)
          rw [k8] at e52
          rw [k8] at v52
          try rw [fa_tg (by omega) (by omega)] at e52
          rw [gg_in (by omega) (by omega)] at e52
          subst e52
          refine sg_cS1 (pc := 55) (d' := d - 1) (mc' := 0) (ms' := 0) g (dc_X5_isAlike_28.2.2.1.1) cb_X2_upperOf ml_X5_78 ms_X2_upperOf (Nat.le_of_ble_eq_true rfl) (by first | exact jl_d0 hd rfl | omega) (by first | exact Nat.le_of_ble_eq_true rfl | omega) (by first | exact Nat.le_of_ble_eq_true rfl | omega) ?_
          refine s_X2_upperOf g (by first | exact jl_d1 hd rfl | omega) (fun z55 h55 => sg_K1 ?_)
          refine sg_icmp_eq (pc := 58) (tgt := 63) (dc_X5_isAlike_28.2.2.1.2) (by decide) (fun c58 => ?_) (fun c58 => ?_)
          · first | refine sg_iincB (pc := 63) (dc_X5_isAlike_63.1.1) rfl (by decide) (by decide) (by omega) (by omega) ?_ | refine sg_iinc (pc := 63) (dc_X5_isAlike_63.1.1) rfl (by decide) (by decide) ?_
            refine sg_goto (pc := 66) (tgt := 30) (dc_X5_isAlike_63.1.2) (by decide) ?_
            refine sg_lsub (lv' := [(5, _), (0, _), (3, _), (4, _)]) ⟨rfl, rfl, rfl, rfl, trivial⟩ ?_
            exact ih _ (by omega) (fun j j0 => by
              by_cases q : j = p.toNat
              · subst q; omega
              · exact p1 j (by omega)) (by first | exact jl_m1 hm (by omega) | exact jl_m2 hm (by omega) | omega)
          · refine sg_iconst (pc := 61) (z := 0) (dc_X5_isAlike_28.2.2.2.1) (by decide) ?_
            refine sg_zret (pc := 62) (dc_X5_isAlike_28.2.2.2.2) rfl (by first | exact Or.inl rfl | exact Or.inr rfl | omega | assumption) (by first | exact Nat.le_of_ble_eq_true rfl | omega) (by first | exact Nat.le_of_ble_eq_true rfl | omega) ?_
            exact hQ (by omega) _ (Or.inl ⟨rfl, fun q => by have := q.2 p.toNat (by omega); omega⟩)
    refine sg_lsub (lv' := [(5, _), (0, _), (3, _), (4, _)]) ⟨rfl, rfl, rfl, rfl, trivial⟩ ?_
    exact loop30 _ _ (by omega) (fun j j0 => absurd j0 (by omega)) (Nat.lt_succ_self _)
  · refine sg_iconst (pc := 25) (z := 0) (dc_X5_isAlike_0.2.2.1.2) (by decide) ?_
    refine sg_zret (pc := 26) (dc_X5_isAlike_0.2.2.2.1) rfl (by first | exact Or.inl rfl | exact Or.inr rfl | omega | assumption) (by first | exact Nat.le_of_ble_eq_true rfl | omega) (by first | exact Nat.le_of_ble_eq_true rfl | omega) ?_
    exact hQ (by omega) _ (Or.inl ⟨rfl, fun q => by have := q.1; omega⟩)

set_option maxRecDepth 100000 in
theorem f_X5_order {w : sg_W} {Q : sg_O → sg_H → Prop} {h : sg_H} (g : sg_G w) {d : Nat} (hd : 14 ≤ d) {B : Nat} {A : fa_A} (hx : cf_X h B A) (ok : fa_ok A) {row other : Int} {L : List Int} (hL : fa_L A row.toNat = L) {M : List Int} (hM : fa_L A other.toNat = M) (hQ : ¬ (row < 0 ∨ 4 ≤ row ∨ other < 0 ∨ 4 ≤ other) → ∀ v : Int, v = fs_ord L M → Q (.inl (some (sg_i v))) h) (hXI : (row < 0 ∨ 4 ≤ row ∨ other < 0 ∨ 4 ≤ other) → ∀ z, h.1 ≤ z → Q (.inr e_I) (z, h.2)) : sg_C w mi_X5_order d 8 48 [sg_r B, sg_i row, sg_i other] h Q := by
  refine sg_of pn_X5 (Nat.le_of_ble_eq_true rfl) ?_
  obtain ⟨x0, ho, hS, hP, hK⟩ := id hx
  have y0 := ck_Y0 x0
  have hc40 : ck_cap 0 = 40 := rfl
  refine sg_aload_n (pc := 0) (j := 0) (dc_X5_order_0.1.1.1.1) rfl rfl ?_
  refine sg_iload_n (pc := 1) (j := 1) (dc_X5_order_0.1.1.1.2) rfl rfl ?_
  refine sg_cE1 (pc := 2) (d' := d - 1) (mc' := 1) (ms' := 6) 6 g (dc_X5_order_0.1.1.2.1) cb_X5_rowOf ml_X5_36 mn_X5_rowOf rfl mv_X5_rowOf (Nat.le_of_ble_eq_true rfl) (ck_oc (by assumption)) (Nat.le_of_ble_eq_true rfl) (by first | exact jl_d0 hd rfl | omega) (by first | exact Nat.le_of_ble_eq_true rfl | omega) (by first | exact Nat.le_of_ble_eq_true rfl | omega) ?_
  refine f_X5_rowOf g (by first | exact jl_d1 hd rfl | omega) (by assumption) (fun l2 r2 L2 => sg_K1 ?_) (fun t2 z2 w2 => sg_KX (by first | exact Nat.le_of_ble_eq_true rfl | omega) (by first | exact Nat.le_of_ble_eq_true rfl | omega) (hXI (by omega) z2 w2))
  obtain ⟨a2, ea2⟩ : ∃ a, a = B + 1 + 3 + 2 * row.toNat := ⟨_, rfl⟩
  rw [← ea2] at L2 ⊢
  have k2 : cf_l h a2 = L := by rw [ea2, cf_rl hx (by omega)]; exact hL
  have r42 := fa_row ok (i := row.toNat) (by omega)
  rw [hL] at r42
  refine sg_astore_n (pc := 5) (j := 3) (dc_X5_order_0.1.1.2.2) rfl (by decide) ?_
  refine sg_aload_n (pc := 6) (j := 0) (dc_X5_order_0.1.2.1.1) rfl rfl ?_
  refine sg_iload_n (pc := 7) (j := 2) (dc_X5_order_0.1.2.1.2) rfl rfl ?_
  refine sg_cE1 (pc := 8) (d' := d - 1) (mc' := 1) (ms' := 6) 6 g (dc_X5_order_0.1.2.2.1) cb_X5_rowOf ml_X5_36 mn_X5_rowOf rfl mv_X5_rowOf (Nat.le_of_ble_eq_true rfl) (ck_oc (by assumption)) (Nat.le_of_ble_eq_true rfl) (by first | exact jl_d0 hd rfl | omega) (by first | exact Nat.le_of_ble_eq_true rfl | omega) (by first | exact Nat.le_of_ble_eq_true rfl | omega) ?_
  refine f_X5_rowOf g (by first | exact jl_d1 hd rfl | omega) (by assumption) (fun l8 r8 L8 => sg_K1 ?_) (fun t8 z8 w8 => sg_KX (by first | exact Nat.le_of_ble_eq_true rfl | omega) (by first | exact Nat.le_of_ble_eq_true rfl | omega) (hXI (by omega) z8 w8))
  obtain ⟨a8, ea8⟩ : ∃ a, a = B + 1 + 3 + 2 * other.toNat := ⟨_, rfl⟩
  rw [← ea8] at L8 ⊢
  have k8 : cf_l h a8 = M := by rw [ea8, cf_rl hx (by omega)]; exact hM
  have r48 := fa_row ok (i := other.toNat) (by omega)
  rw [hM] at r48
  refine sg_astore (pc := 11) (dc_X5_order_0.1.2.2.2) (by decide) ?_
  refine sg_iconst (pc := 13) (z := 0) (dc_X5_order_0.2.1.1.1) (by decide) ?_
  refine sg_istore (pc := 14) (dc_X5_order_0.2.1.1.2) (by decide) ?_
  have loop16 : ∀ (N : Nat) (p : Int), (0 ≤ p ∧ p ≤ (L.length : Int) ∧ p ≤ (M.length : Int)) → (∀ j : Nat, (j : Int) < p → L.getD j 0 = M.getD j 0) → ((L.length : Int) - p).toNat < N → sg_R w mi_X5_order d 8 48 Q 16 [(5, sg_i p), (0, sg_r B), (3, sg_r a2), (4, sg_r a8)] [] h 2 12 := by
    intro N
    induction N with
    | zero => intro p p0 p1 hm; exact absurd hm (Nat.not_lt_zero _)
    | succ N ih =>
      intro p p0 p1 hm
      refine sg_iload (pc := 16) (dc_X5_order_0.2.1.2.1) rfl ?_
      refine sg_aload_n (pc := 18) (j := 3) (dc_X5_order_0.2.1.2.2) rfl rfl ?_
      refine sg_cE0 (pc := 19) (d' := d - 1) (mc' := 0) (ms' := 0) 3 g (dc_X5_order_0.2.2.1.1) cb_X0_size ml_X5_63 mn_X0_size rfl mv_X0_size (Nat.le_of_ble_eq_true rfl) (ck_lc (by assumption) (by first | assumption | exact ck_rev)) (Nat.le_of_ble_eq_true rfl) (by first | exact jl_d0 hd rfl | omega) (by first | exact Nat.le_of_ble_eq_true rfl | omega) (by first | exact Nat.le_of_ble_eq_true rfl | omega) ?_
      refine f_X0_size g (by first | exact jl_d1 hd rfl | omega) (by assumption) L2 (fun z19 e19 l019 u19 => sg_K1 ?_)
      rw [k2] at e19
      try rw [fa_tlen] at e19
      refine sg_icmp_ge (pc := 22) (tgt := 74) (dc_X5_order_0.2.2.1.2) (by decide) (fun c22 => ?_) (fun c22 => ?_)
      · refine sg_aload_n (pc := 74) (j := 3) (dc_X5_order_67.1.1.2.2) rfl rfl ?_
        refine sg_cE0 (pc := 75) (d' := d - 1) (mc' := 0) (ms' := 0) 3 g (dc_X5_order_67.1.2.1.1) cb_X0_size ml_X5_63 mn_X0_size rfl mv_X0_size (Nat.le_of_ble_eq_true rfl) (ck_lc (by assumption) (by first | assumption | exact ck_rev)) (Nat.le_of_ble_eq_true rfl) (by first | exact jl_d0 hd rfl | omega) (by first | exact Nat.le_of_ble_eq_true rfl | omega) (by first | exact Nat.le_of_ble_eq_true rfl | omega) ?_
        refine f_X0_size g (by first | exact jl_d1 hd rfl | omega) (by assumption) L2 (fun z75 e75 l075 u75 => sg_K1 ?_)
        rw [k2] at e75
        try rw [fa_tlen] at e75
        refine sg_aload (pc := 78) (dc_X5_order_67.1.2.1.2) rfl ?_
        refine sg_cE0 (pc := 80) (d' := d - 1) (mc' := 0) (ms' := 0) 3 g (dc_X5_order_67.1.2.2.1) cb_X0_size ml_X5_63 mn_X0_size rfl mv_X0_size (Nat.le_of_ble_eq_true rfl) (ck_lc (by assumption) (by first | assumption | exact ck_rev)) (Nat.le_of_ble_eq_true rfl) (by first | exact jl_d0 hd rfl | omega) (by first | exact Nat.le_of_ble_eq_true rfl | omega) (by first | exact Nat.le_of_ble_eq_true rfl | omega) ?_
        refine f_X0_size g (by first | exact jl_d1 hd rfl | omega) (by assumption) L8 (fun z80 e80 l080 u80 => sg_K1 ?_)
        rw [k8] at e80
        try rw [fa_tlen] at e80
        refine sg_cS2 (pc := 83) (d' := d - 1) (mc' := 0) (ms' := 0) g (dc_X5_order_67.1.2.2.2) cb_X5_ahead ml_X5_231 ms_X5_ahead (Nat.le_of_ble_eq_true rfl) (by first | exact jl_d0 hd rfl | omega) (by first | exact Nat.le_of_ble_eq_true rfl | omega) (by first | exact Nat.le_of_ble_eq_true rfl | omega) ?_
        refine s_X5_ahead g (by first | exact jl_d1 hd rfl | omega) (fun z83 h83 => sg_K1 ?_)
        refine sg_iret (pc := 86) (dc_X5_order_67.2.1.1.1) rfl (by first | exact Nat.le_of_ble_eq_true rfl | omega) (by first | exact Nat.le_of_ble_eq_true rfl | omega) ?_
        exact hQ (by omega) _ (fs_theE fs_oU (Or.inr ⟨fun i i0 i1 => p1 i (by omega), by rw [h83, e75, e80]; rfl⟩))
      · refine sg_iload (pc := 25) (dc_X5_order_0.2.2.2.1) rfl ?_
        refine sg_aload (pc := 27) (dc_X5_order_0.2.2.2.2) rfl ?_
        refine sg_cE0 (pc := 29) (d' := d - 1) (mc' := 0) (ms' := 0) 3 g (dc_X5_order_29.1.1.1.1) cb_X0_size ml_X5_63 mn_X0_size rfl mv_X0_size (Nat.le_of_ble_eq_true rfl) (ck_lc (by assumption) (by first | assumption | exact ck_rev)) (Nat.le_of_ble_eq_true rfl) (by first | exact jl_d0 hd rfl | omega) (by first | exact Nat.le_of_ble_eq_true rfl | omega) (by first | exact Nat.le_of_ble_eq_true rfl | omega) ?_
        refine f_X0_size g (by first | exact jl_d1 hd rfl | omega) (by assumption) L8 (fun z29 e29 l029 u29 => sg_K1 ?_)
        rw [k8] at e29
        try rw [fa_tlen] at e29
        refine sg_icmp_ge (pc := 32) (tgt := 74) (dc_X5_order_29.1.1.1.2) (by decide) (fun c32 => ?_) (fun c32 => ?_)
        · refine sg_aload_n (pc := 74) (j := 3) (dc_X5_order_67.1.1.2.2) rfl rfl ?_
          refine sg_cE0 (pc := 75) (d' := d - 1) (mc' := 0) (ms' := 0) 3 g (dc_X5_order_67.1.2.1.1) cb_X0_size ml_X5_63 mn_X0_size rfl mv_X0_size (Nat.le_of_ble_eq_true rfl) (ck_lc (by assumption) (by first | assumption | exact ck_rev)) (Nat.le_of_ble_eq_true rfl) (by first | exact jl_d0 hd rfl | omega) (by first | exact Nat.le_of_ble_eq_true rfl | omega) (by first | exact Nat.le_of_ble_eq_true rfl | omega) ?_
          refine f_X0_size g (by first | exact jl_d1 hd rfl | omega) (by assumption) L2 (fun z75 e75 l075 u75 => sg_K1 ?_)
          rw [k2] at e75
          try rw [fa_tlen] at e75
          refine sg_aload (pc := 78) (dc_X5_order_67.1.2.1.2) rfl ?_
          refine sg_cE0 (pc := 80) (d' := d - 1) (mc' := 0) (ms' := 0) 3 g (dc_X5_order_67.1.2.2.1) cb_X0_size ml_X5_63 mn_X0_size rfl mv_X0_size (Nat.le_of_ble_eq_true rfl) (ck_lc (by assumption) (by first | assumption | exact ck_rev)) (Nat.le_of_ble_eq_true rfl) (by first | exact jl_d0 hd rfl | omega) (by first | exact Nat.le_of_ble_eq_true rfl | omega) (by first | exact Nat.le_of_ble_eq_true rfl | omega) ?_
          refine f_X0_size g (by first | exact jl_d1 hd rfl | omega) (by assumption) L8 (fun z80 e80 l080 u80 => sg_K1 ?_)
          rw [k8] at e80
          try rw [fa_tlen] at e80
          refine sg_cS2 (pc := 83) (d' := d - 1) (mc' := 0) (ms' := 0) g (dc_X5_order_67.1.2.2.2) cb_X5_ahead ml_X5_231 ms_X5_ahead (Nat.le_of_ble_eq_true rfl) (by first | exact jl_d0 hd rfl | omega) (by first | exact Nat.le_of_ble_eq_true rfl | omega) (by first | exact Nat.le_of_ble_eq_true rfl | omega) ?_
          refine s_X5_ahead g (by first | exact jl_d1 hd rfl | omega) (fun z83 h83 => sg_K1 ?_)
          refine sg_iret (pc := 86) (dc_X5_order_67.2.1.1.1) rfl (by first | exact Nat.le_of_ble_eq_true rfl | omega) (by first | exact Nat.le_of_ble_eq_true rfl | omega) ?_
          exact hQ (by omega) _ (fs_theE fs_oU (Or.inr ⟨fun i i0 i1 => p1 i (by omega), by rw [h83, e75, e80]; rfl⟩))
        · refine sg_aload_n (pc := 35) (j := 3) (dc_X5_order_29.1.1.2.1) rfl rfl ?_
          refine sg_iload (pc := 36) (dc_X5_order_29.1.1.2.2) rfl ?_
          refine sg_cE1 (pc := 38) (d' := d - 1) (mc' := 0) (ms' := 0) 3 g (dc_X5_order_29.1.2.1.1) cb_X0_get ml_X5_75 mn_X0_get rfl mv_X0_get (Nat.le_of_ble_eq_true rfl) (ck_lc (by assumption) (by first | assumption | exact ck_rev)) (Nat.le_of_ble_eq_true rfl) (by first | exact jl_d0 hd rfl | omega) (by first | exact Nat.le_of_ble_eq_true rfl | omega) (by first | exact Nat.le_of_ble_eq_true rfl | omega) ?_
          refine f_X0_get g (by first | exact jl_d1 hd rfl | omega) (by assumption) L2 (fun z38 e38 v38 => sg_K1 ?_)
          rw [k2] at e38
          rw [k2] at v38
          try rw [fa_tg (by omega) (by omega)] at e38
          refine sg_aload (pc := 41) (dc_X5_order_29.1.2.1.2) rfl ?_
          refine sg_iload (pc := 43) (dc_X5_order_29.1.2.2.1) rfl ?_
          refine sg_cE1 (pc := 45) (d' := d - 1) (mc' := 0) (ms' := 0) 3 g (dc_X5_order_29.1.2.2.2) cb_X0_get ml_X5_75 mn_X0_get rfl mv_X0_get (Nat.le_of_ble_eq_true rfl) (ck_lc (by assumption) (by first | assumption | exact ck_rev)) (Nat.le_of_ble_eq_true rfl) (by first | exact jl_d0 hd rfl | omega) (by first | exact Nat.le_of_ble_eq_true rfl | omega) (by first | exact Nat.le_of_ble_eq_true rfl | omega) ?_
          refine f_X0_get g (by first | exact jl_d1 hd rfl | omega) (by assumption) L8 (fun z45 e45 v45 => sg_K1 ?_)
          rw [k8] at e45
          rw [k8] at v45
          try rw [fa_tg (by omega) (by omega)] at e45
          rw [gg_in (by omega) (by omega)] at e38 e45
          subst e38
          subst e45
          refine sg_icmp_eq (pc := 48) (tgt := 68) (dc_X5_order_29.2.1.1.1) (by decide) (fun c48 => ?_) (fun c48 => ?_)
          · first | refine sg_iincB (pc := 68) (dc_X5_order_67.1.1.1.2) rfl (by decide) (by decide) (by omega) (by omega) ?_ | refine sg_iinc (pc := 68) (dc_X5_order_67.1.1.1.2) rfl (by decide) (by decide) ?_
            refine sg_goto (pc := 71) (tgt := 16) (dc_X5_order_67.1.1.2.1) (by decide) ?_
            refine sg_lsub (lv' := [(5, _), (0, _), (3, _), (4, _)]) ⟨rfl, rfl, rfl, rfl, trivial⟩ ?_
            exact ih _ (by omega) (fun j j0 => by
              by_cases q : j = p.toNat
              · subst q; omega
              · exact p1 j (by omega)) (by first | exact jl_m1 hm (by omega) | exact jl_m2 hm (by omega) | omega)
          · refine sg_aload_n (pc := 51) (j := 3) (dc_X5_order_29.2.1.1.2) rfl rfl ?_
            refine sg_iload (pc := 52) (dc_X5_order_29.2.1.2.1) rfl ?_
            refine sg_cE1 (pc := 54) (d' := d - 1) (mc' := 0) (ms' := 0) 3 g (dc_X5_order_29.2.1.2.2) cb_X0_get ml_X5_75 mn_X0_get rfl mv_X0_get (Nat.le_of_ble_eq_true rfl) (ck_lc (by assumption) (by first | assumption | exact ck_rev)) (Nat.le_of_ble_eq_true rfl) (by first | exact jl_d0 hd rfl | omega) (by first | exact Nat.le_of_ble_eq_true rfl | omega) (by first | exact Nat.le_of_ble_eq_true rfl | omega) ?_
            refine f_X0_get g (by first | exact jl_d1 hd rfl | omega) (by assumption) L2 (fun z54 e54 v54 => sg_K1 ?_)
            rw [k2] at e54
            rw [k2] at v54
            try rw [fa_tg (by omega) (by omega)] at e54
            refine sg_aload (pc := 57) (dc_X5_order_29.2.2.1.1) rfl ?_
            refine sg_iload (pc := 59) (dc_X5_order_29.2.2.1.2) rfl ?_
            refine sg_cE1 (pc := 61) (d' := d - 1) (mc' := 0) (ms' := 0) 3 g (dc_X5_order_29.2.2.2.1) cb_X0_get ml_X5_75 mn_X0_get rfl mv_X0_get (Nat.le_of_ble_eq_true rfl) (ck_lc (by assumption) (by first | assumption | exact ck_rev)) (Nat.le_of_ble_eq_true rfl) (by first | exact jl_d0 hd rfl | omega) (by first | exact Nat.le_of_ble_eq_true rfl | omega) (by first | exact Nat.le_of_ble_eq_true rfl | omega) ?_
            refine f_X0_get g (by first | exact jl_d1 hd rfl | omega) (by assumption) L8 (fun z61 e61 v61 => sg_K1 ?_)
            rw [k8] at e61
            rw [k8] at v61
            try rw [fa_tg (by omega) (by omega)] at e61
            rw [gg_in (by omega) (by omega)] at e54 e61
            subst e54
            subst e61
            refine sg_cS2 (pc := 64) (d' := d - 1) (mc' := 0) (ms' := 0) g (dc_X5_order_29.2.2.2.2) cb_X5_ahead ml_X5_231 ms_X5_ahead (Nat.le_of_ble_eq_true rfl) (by first | exact jl_d0 hd rfl | omega) (by first | exact Nat.le_of_ble_eq_true rfl | omega) (by first | exact Nat.le_of_ble_eq_true rfl | omega) ?_
            refine s_X5_ahead g (by first | exact jl_d1 hd rfl | omega) (fun z64 h64 => sg_K1 ?_)
            refine sg_iret (pc := 67) (dc_X5_order_67.1.1.1.1) rfl (by first | exact Nat.le_of_ble_eq_true rfl | omega) (by first | exact Nat.le_of_ble_eq_true rfl | omega) ?_
            exact hQ (by omega) _ (fs_theE fs_oU (Or.inl ⟨p.toNat, by omega, by omega, fun i hi => p1 i (by omega), by omega, h64⟩))
  refine sg_lsub (lv' := [(5, _), (0, _), (3, _), (4, _)]) ⟨rfl, rfl, rfl, rfl, trivial⟩ ?_
  exact loop16 _ _ (by omega) (fun j j0 => absurd j0 (by omega)) (Nat.lt_succ_self _)

set_option maxRecDepth 100000 in
theorem f_X5_ofTrack {w : sg_W} {Q : sg_O → sg_H → Prop} {h : sg_H} (g : sg_G w) {d : Nat} (hd : 14 ≤ d) {B : Nat} {A : fa_A} (hx : cf_X h B A) (ok : fa_ok A) {trk what : Int} {L : List Int} (hL : fa_L A (4 + trk.toNat) = L) (hQ : ¬ (trk < 0 ∨ 2 ≤ trk) → ¬ (what < 0 ∨ 3 < what) → ∀ v : Int, v = fs_how L what → Q (.inl (some (sg_i v))) h) (hXI : (trk < 0 ∨ 2 ≤ trk) → ∀ z, h.1 ≤ z → Q (.inr e_I) (z, h.2)) (hXA : ¬ (trk < 0 ∨ 2 ≤ trk) → (what < 0 ∨ 3 < what) → ∀ z, h.1 ≤ z → Q (.inr e_A) (z, h.2)) : sg_C w mi_X5_ofTrack d 8 48 [sg_r B, sg_i trk, sg_i what] h Q := by
  refine sg_of pn_X5 (Nat.le_of_ble_eq_true rfl) ?_
  obtain ⟨x0, ho, hS, hP, hK⟩ := id hx
  have y0 := ck_Y0 x0
  refine sg_aload_n (pc := 0) (j := 0) (dc_X5_ofTrack_0.1.1.1.1) rfl rfl ?_
  refine sg_iload_n (pc := 1) (j := 1) (dc_X5_ofTrack_0.1.1.1.2) rfl rfl ?_
  refine sg_cE1 (pc := 2) (d' := d - 1) (mc' := 1) (ms' := 6) 6 g (dc_X5_ofTrack_0.1.1.2.1) cb_X5_trackOf ml_X5_151 mn_X5_trackOf rfl mv_X5_trackOf (Nat.le_of_ble_eq_true rfl) (ck_oc (by assumption)) (Nat.le_of_ble_eq_true rfl) (by first | exact jl_d0 hd rfl | omega) (by first | exact Nat.le_of_ble_eq_true rfl | omega) (by first | exact Nat.le_of_ble_eq_true rfl | omega) ?_
  refine f_X5_trackOf g (by first | exact jl_d1 hd rfl | omega) (by assumption) (fun l2 r2 L2 => sg_K1 ?_) (fun t2 z2 w2 => sg_KX (by first | exact Nat.le_of_ble_eq_true rfl | omega) (by first | exact Nat.le_of_ble_eq_true rfl | omega) (hXI (by omega) z2 w2))
  obtain ⟨a2, ea2⟩ : ∃ a, a = B + 1 + 3 + 2 * (4 + trk.toNat) := ⟨_, rfl⟩
  rw [← ea2] at L2 ⊢
  have k2 : cf_l h a2 = L := by rw [ea2, cf_rl hx (by omega)]; exact hL
  have r42 := fa_trk ok (i := (4 + trk.toNat)) (by omega) (by omega)
  rw [hL] at r42
  refine sg_astore_n (pc := 5) (j := 3) (dc_X5_ofTrack_0.1.1.2.2) rfl (by decide) ?_
  refine sg_iload_n (pc := 6) (j := 2) (dc_X5_ofTrack_0.1.2.1.1) rfl rfl ?_
  refine sg_if_lt (pc := 7) (tgt := 15) (dc_X5_ofTrack_0.1.2.1.2) (by decide) (fun c7 => ?_) (fun c7 => ?_)
  · refine sg_throwW (pc := 15) g th_X5_110_259 (dc_X5_ofTrack_0.2.1.1.2) (dc_X5_ofTrack_0.2.1.2.1) (dc_X5_ofTrack_0.2.1.2.2) (dc_X5_ofTrack_0.2.2.1.1) (dc_X5_ofTrack_0.2.2.1.2) (by first | exact Nat.le_trans (Nat.le_of_ble_eq_true rfl) hd | omega) (Nat.le_of_ble_eq_true rfl) (by first | exact Nat.le_of_ble_eq_true rfl | omega) (by first | exact Nat.le_of_ble_eq_true rfl | omega) ?_
    exact fun z hz => hXA (by omega) (by omega) z hz
  · refine sg_iload_n (pc := 10) (j := 2) (dc_X5_ofTrack_0.1.2.2.1) rfl rfl ?_
    refine sg_iconst (pc := 11) (z := 3) (dc_X5_ofTrack_0.1.2.2.2) (by decide) ?_
    refine sg_icmp_le (pc := 12) (tgt := 26) (dc_X5_ofTrack_0.2.1.1.1) (by decide) (fun c12 => ?_) (fun c12 => ?_)
    · refine sg_aload_n (pc := 26) (j := 3) (dc_X5_ofTrack_0.2.2.2.1) rfl rfl ?_
      refine sg_iload_n (pc := 27) (j := 2) (dc_X5_ofTrack_0.2.2.2.2) rfl rfl ?_
      refine sg_cS2 (pc := 28) (d' := d - 1) (mc' := 0) (ms' := 0) g (dc_X5_ofTrack_28.1) cb_X4_howMany ml_X5_180 ms_X4_howMany (Nat.le_of_ble_eq_true rfl) (by first | exact jl_d0 hd rfl | omega) (by first | exact Nat.le_of_ble_eq_true rfl | omega) (by first | exact Nat.le_of_ble_eq_true rfl | omega) ?_
      refine f_X4_howMany g (by first | exact jl_d1 hd rfl | omega) (by assumption) L2 k2 r42.2 (fun z28 e28 => sg_K1 ?_)
      refine sg_iret (pc := 31) (dc_X5_ofTrack_28.2) rfl (by first | exact Nat.le_of_ble_eq_true rfl | omega) (by first | exact Nat.le_of_ble_eq_true rfl | omega) ?_
      exact hQ (by omega) (by omega) _ e28
    · refine sg_throwW (pc := 15) g th_X5_110_259 (dc_X5_ofTrack_0.2.1.1.2) (dc_X5_ofTrack_0.2.1.2.1) (dc_X5_ofTrack_0.2.1.2.2) (dc_X5_ofTrack_0.2.2.1.1) (dc_X5_ofTrack_0.2.2.1.2) (by first | exact Nat.le_trans (Nat.le_of_ble_eq_true rfl) hd | omega) (Nat.le_of_ble_eq_true rfl) (by first | exact Nat.le_of_ble_eq_true rfl | omega) (by first | exact Nat.le_of_ble_eq_true rfl | omega) ?_
      exact fun z hz => hXA (by omega) (by omega) z hz

set_option maxRecDepth 100000 in
theorem f_X5_codeAt {w : sg_W} {Q : sg_O → sg_H → Prop} {h : sg_H} (g : sg_G w) {d : Nat} (hd : 14 ≤ d) {B : Nat} {A : fa_A} (hx : cf_X h B A) (ok : fa_ok A) {trk p : Int} {L : List Int} (hL : fa_L A (4 + trk.toNat) = L) (hQ : ¬ (trk < 0 ∨ 2 ≤ trk ∨ p < 0 ∨ (L.length : Int) ≤ p) → ∀ v : Int, v = fs_cd L p.toNat → Q (.inl (some (sg_i v))) h) (hXI : (trk < 0 ∨ 2 ≤ trk ∨ p < 0 ∨ (L.length : Int) ≤ p) → ∀ z, h.1 ≤ z → Q (.inr e_I) (z, h.2)) : sg_C w mi_X5_codeAt d 8 48 [sg_r B, sg_i trk, sg_i p] h Q := by
  refine sg_of pn_X5 (Nat.le_of_ble_eq_true rfl) ?_
  obtain ⟨x0, ho, hS, hP, hK⟩ := id hx
  have y0 := ck_Y0 x0
  have hc24 : ck_cap 1 = 24 := rfl
  refine sg_aload_n (pc := 0) (j := 0) (dc_X5_codeAt_0.1.1.1.1) rfl rfl ?_
  refine sg_iload_n (pc := 1) (j := 1) (dc_X5_codeAt_0.1.1.1.2) rfl rfl ?_
  refine sg_cE1 (pc := 2) (d' := d - 1) (mc' := 1) (ms' := 6) 6 g (dc_X5_codeAt_0.1.1.2.1) cb_X5_trackOf ml_X5_151 mn_X5_trackOf rfl mv_X5_trackOf (Nat.le_of_ble_eq_true rfl) (ck_oc (by assumption)) (Nat.le_of_ble_eq_true rfl) (by first | exact jl_d0 hd rfl | omega) (by first | exact Nat.le_of_ble_eq_true rfl | omega) (by first | exact Nat.le_of_ble_eq_true rfl | omega) ?_
  refine f_X5_trackOf g (by first | exact jl_d1 hd rfl | omega) (by assumption) (fun l2 r2 L2 => sg_K1 ?_) (fun t2 z2 w2 => sg_KX (by first | exact Nat.le_of_ble_eq_true rfl | omega) (by first | exact Nat.le_of_ble_eq_true rfl | omega) (hXI (by omega) z2 w2))
  obtain ⟨a2, ea2⟩ : ∃ a, a = B + 1 + 3 + 2 * (4 + trk.toNat) := ⟨_, rfl⟩
  rw [← ea2] at L2 ⊢
  have k2 : cf_l h a2 = L := by rw [ea2, cf_rl hx (by omega)]; exact hL
  have r42 := fa_trk ok (i := (4 + trk.toNat)) (by omega) (by omega)
  rw [hL] at r42
  refine sg_astore_n (pc := 5) (j := 3) (dc_X5_codeAt_0.1.1.2.2) rfl (by decide) ?_
  refine sg_aload_n (pc := 6) (j := 3) (dc_X5_codeAt_0.1.2.1.1) rfl rfl ?_
  refine sg_iload_n (pc := 7) (j := 2) (dc_X5_codeAt_0.1.2.1.2) rfl rfl ?_
  refine sg_cE1 (pc := 8) (d' := d - 1) (mc' := 0) (ms' := 0) 3 g (dc_X5_codeAt_0.1.2.2.1) cb_X0_hasPlace ml_X5_261 mn_X0_hasPlace rfl mv_X0_hasPlace (Nat.le_of_ble_eq_true rfl) (ck_lc (by assumption) (by first | assumption | exact ck_rev)) (Nat.le_of_ble_eq_true rfl) (by first | exact jl_d0 hd rfl | omega) (by first | exact Nat.le_of_ble_eq_true rfl | omega) (by first | exact Nat.le_of_ble_eq_true rfl | omega) ?_
  refine f_X0_hasPlace g (by first | exact jl_d1 hd rfl | omega) (by assumption) L2 (fun z8 b8 i8 j8 => sg_K1 ?_)
  rw [k2] at i8
  rw [k2] at j8
  refine sg_if_ne (pc := 11) (tgt := 25) (dc_X5_codeAt_0.1.2.2.2) (by decide) (fun c11 => ?_) (fun c11 => ?_)
  · refine sg_aload_n (pc := 25) (j := 3) (dc_X5_codeAt_0.2.2.1.2) rfl rfl ?_
    refine sg_iload_n (pc := 26) (j := 2) (dc_X5_codeAt_0.2.2.2.1) rfl rfl ?_
    refine sg_cS2 (pc := 27) (d' := d - 1) (mc' := 0) (ms' := 0) g (dc_X5_codeAt_0.2.2.2.2) cb_X4_codeFrom ml_X5_266 ms_X4_codeFrom (Nat.le_of_ble_eq_true rfl) (by first | exact jl_d0 hd rfl | omega) (by first | exact Nat.le_of_ble_eq_true rfl | omega) (by first | exact Nat.le_of_ble_eq_true rfl | omega) ?_
    refine f_X4_codeFrom g (by first | exact jl_d1 hd rfl | omega) (by assumption) L2 k2 r42.2 (by omega) (by omega) (fun z27 e27 => sg_K1 ?_)
    have r27 := fs_cdr r42.2 (p := p.toNat) (by omega)
    rw [← e27] at r27
    refine sg_iret (pc := 30) dc_X5_codeAt_30 rfl (by first | exact Nat.le_of_ble_eq_true rfl | omega) (by first | exact Nat.le_of_ble_eq_true rfl | omega) ?_
    exact hQ (by omega) _ e27
  · refine sg_throwW (pc := 14) g th_X5_226_264 (dc_X5_codeAt_0.2.1.1.1) (dc_X5_codeAt_0.2.1.1.2) (dc_X5_codeAt_0.2.1.2.1) (dc_X5_codeAt_0.2.1.2.2) (dc_X5_codeAt_0.2.2.1.1) (by first | exact Nat.le_trans (Nat.le_of_ble_eq_true rfl) hd | omega) (Nat.le_of_ble_eq_true rfl) (by first | exact Nat.le_of_ble_eq_true rfl | omega) (by first | exact Nat.le_of_ble_eq_true rfl | omega) ?_
    exact fun z hz => hXI (by omega) z hz

set_option maxRecDepth 100000 in
theorem f_X4_codeBegin {w : sg_W} {Q : sg_O → sg_H → Prop} {h : sg_H} (g : sg_G w) {d : Nat} (hd : 4 ≤ d) {B a1 : Nat} (hx : ck_X h B) (L1 : ck_L B a1 1) {L : List Int} (kk : cf_l h a1 = L) {t : Int} (hQ : ∀ z : Int, ((z = -1 ∧ (t < 0 ∨ ((fs_cs L L.length).length : Int) ≤ t)) ∨ (0 ≤ z ∧ z < (L.length : Int) ∧ fs_bg L z.toNat ∧ ((fs_cs L z.toNat).length : Int) = t)) → Q (.inl (some (sg_i z))) h) : sg_C w mi_X4_codeBegin d 0 0 [sg_r a1, sg_i t] h Q := by
  refine sg_of pn_X4 (Nat.le_of_ble_eq_true rfl) ?_
  have y0 := ck_Y0 hx
  have l24 := cf_40 hx L1
  rw [kk] at l24
  have hc24 : ck_cap 1 = 24 := rfl
  refine sg_iconst (pc := 0) (z := 0) (dc_X4_codeBegin_0.1.1.1.1) (by decide) ?_
  refine sg_istore_n (pc := 1) (j := 2) (dc_X4_codeBegin_0.1.1.1.2) rfl (by decide) ?_
  refine sg_iconst (pc := 2) (z := 0) (dc_X4_codeBegin_0.1.1.2.1) (by decide) ?_
  refine sg_istore_n (pc := 3) (j := 3) (dc_X4_codeBegin_0.1.1.2.2) rfl (by decide) ?_
  have loop4 : ∀ (N : Nat) (p s : Int), (0 ≤ p ∧ p ≤ (L.length : Int)) → (s = ((fs_cs L p.toNat).length : Int)) → (∀ j : Nat, (j : Int) < p → fs_bg L j → ((fs_cs L j).length : Int) ≠ t) → (t < 0 ∨ s ≤ t) → ((L.length : Int) - p).toNat < N → sg_R w mi_X4_codeBegin d 0 0 Q 4 [(3, sg_i p), (2, sg_i s), (0, sg_r a1), (1, sg_i t)] [] h 0 0 := by
    intro N
    induction N with
    | zero => intro p s p0 s0 p1 p2 hm; exact absurd hm (Nat.not_lt_zero _)
    | succ N ih =>
      intro p s p0 s0 p1 p2 hm
      have sb := fs_csl (L := L) (p := p.toNat)
      refine sg_iload_n (pc := 4) (j := 3) (dc_X4_codeBegin_0.1.2.1.1) rfl rfl ?_
      refine sg_aload_n (pc := 5) (j := 0) (dc_X4_codeBegin_0.1.2.1.2) rfl rfl ?_
      refine sg_cE0 (pc := 6) (d' := d - 1) (mc' := 0) (ms' := 0) 3 g (dc_X4_codeBegin_0.1.2.2.1) cb_X0_size ml_X4_46 mn_X0_size rfl mv_X0_size (Nat.le_of_ble_eq_true rfl) (ck_lc (by assumption) (by first | assumption | exact ck_rev)) (Nat.le_of_ble_eq_true rfl) (by first | exact jl_d0 hd rfl | omega) (by first | exact Nat.le_of_ble_eq_true rfl | omega) (by first | exact Nat.le_of_ble_eq_true rfl | omega) ?_
      refine f_X0_size g (by first | exact jl_d1 hd rfl | omega) (by assumption) L1 (fun z6 e6 l06 u6 => sg_K1 ?_)
      rw [kk] at e6
      try rw [fa_tlen] at e6
      refine sg_icmp_ge (pc := 9) (tgt := 36) (dc_X4_codeBegin_0.1.2.2.2) (by decide) (fun c9 => ?_) (fun c9 => ?_)
      · refine sg_iconst (pc := 36) (z := -1) (dc_X4_codeBegin_26.2.1.1) (by decide) ?_
        refine sg_iret (pc := 37) (dc_X4_codeBegin_26.2.1.2) rfl (by first | exact Nat.le_of_ble_eq_true rfl | omega) (by first | exact Nat.le_of_ble_eq_true rfl | omega) ?_
        exact hQ _ (Or.inl ⟨rfl, by rcases p2 with q | q
                                    · exact Or.inl q
                                    · exact Or.inr (by rw [show L.length = p.toNat by omega]; omega)⟩)
      · refine sg_aload_n (pc := 12) (j := 0) (dc_X4_codeBegin_0.2.1.1.1) rfl rfl ?_
        refine sg_iload_n (pc := 13) (j := 3) (dc_X4_codeBegin_0.2.1.1.2) rfl rfl ?_
        refine sg_cS2 (pc := 14) (d' := d - 1) (mc' := 0) (ms' := 0) g (dc_X4_codeBegin_0.2.1.2.1) cb_X4_isCodeBegin ml_X4_50 ms_X4_isCodeBegin (Nat.le_of_ble_eq_true rfl) (by first | exact jl_d0 hd rfl | omega) (by first | exact Nat.le_of_ble_eq_true rfl | omega) (by first | exact Nat.le_of_ble_eq_true rfl | omega) ?_
        refine f_X4_isCodeBegin g (by first | exact jl_d1 hd rfl | omega) (by assumption) L1 kk (by omega) (by omega) (fun z14 b14 => sg_K1 ?_)
        refine sg_if_eq (pc := 17) (tgt := 30) (dc_X4_codeBegin_0.2.1.2.2) (by decide) (fun c17 => ?_) (fun c17 => ?_)
        · have hb : jk_P (¬ fs_bg L p.toNat) := by
            rcases b14 with b | b
            · exact b.2
            · exact absurd b.1 (by omega)
          have bk : (fs_cs L (p + 1).toNat).length = (fs_cs L p.toNat).length + 0 := by rw [show (p + 1).toNat = p.toNat + 1 by omega, fs_css, if_neg (show ¬ fs_bg L p.toNat from hb), List.length_append]; rfl
          clear b14
          first | refine sg_iincB (pc := 30) (dc_X4_codeBegin_26.1.2.1) rfl (by decide) (by decide) (by omega) (by omega) ?_ | refine sg_iinc (pc := 30) (dc_X4_codeBegin_26.1.2.1) rfl (by decide) (by decide) ?_
          refine sg_goto (pc := 33) (tgt := 4) (dc_X4_codeBegin_26.1.2.2) (by decide) ?_
          refine sg_lsub (lv' := [(3, _), (2, _), (0, _), (1, _)]) ⟨rfl, rfl, rfl, rfl, trivial⟩ ?_
          exact ih _ _ (by omega) (by omega) (fun j j0 jw => by
            by_cases q : j = p.toNat
            · subst q
              first
                | exact absurd jw hb
                | omega
            · exact p1 j (by omega) jw) (by omega) (by first | exact jl_m1 hm (by omega) | exact jl_m2 hm (by omega) | omega)
        · have hb20 : fs_bg L p.toNat := by
            rcases b14 with b | b
            · exact absurd b.1 (by omega)
            · exact b.2
          refine sg_iload_n (pc := 20) (j := 2) (dc_X4_codeBegin_0.2.2.1.1) rfl rfl ?_
          refine sg_iload_n (pc := 21) (j := 1) (dc_X4_codeBegin_0.2.2.1.2) rfl rfl ?_
          refine sg_icmp_ne (pc := 22) (tgt := 27) (dc_X4_codeBegin_0.2.2.2.1) (by decide) (fun c22 => ?_) (fun c22 => ?_)
          · first | refine sg_iincB (pc := 27) (dc_X4_codeBegin_26.1.1.2) rfl (by decide) (by decide) (by omega) (by omega) ?_ | refine sg_iinc (pc := 27) (dc_X4_codeBegin_26.1.1.2) rfl (by decide) (by decide) ?_
            have hb : jk_P (fs_bg L p.toNat) := by
              rcases b14 with b | b
              · exact absurd b.1 (by omega)
              · exact b.2
            have bk : (fs_cs L (p + 1).toNat).length = (fs_cs L p.toNat).length + 1 := by rw [show (p + 1).toNat = p.toNat + 1 by omega, fs_css, if_pos (show fs_bg L p.toNat from hb), List.length_append]; rfl
            clear b14 hb20
            first | refine sg_iincB (pc := 30) (dc_X4_codeBegin_26.1.2.1) rfl (by decide) (by decide) (by omega) (by omega) ?_ | refine sg_iinc (pc := 30) (dc_X4_codeBegin_26.1.2.1) rfl (by decide) (by decide) ?_
            refine sg_goto (pc := 33) (tgt := 4) (dc_X4_codeBegin_26.1.2.2) (by decide) ?_
            refine sg_lsub (lv' := [(3, _), (2, _), (0, _), (1, _)]) ⟨rfl, rfl, rfl, rfl, trivial⟩ ?_
            exact ih _ _ (by omega) (by omega) (fun j j0 jw => by
              by_cases q : j = p.toNat
              · subst q
                first
                  | exact absurd jw hb
                  | omega
              · exact p1 j (by omega) jw) (by omega) (by first | exact jl_m1 hm (by omega) | exact jl_m2 hm (by omega) | omega)
          · refine sg_iload_n (pc := 25) (j := 3) (dc_X4_codeBegin_0.2.2.2.2) rfl rfl ?_
            refine sg_iret (pc := 26) (dc_X4_codeBegin_26.1.1.1) rfl (by first | exact Nat.le_of_ble_eq_true rfl | omega) (by first | exact Nat.le_of_ble_eq_true rfl | omega) ?_
            exact hQ _ (Or.inr ⟨by omega, by omega, hb20, by omega⟩)
  refine sg_lsub (lv' := [(3, _), (2, _), (0, _), (1, _)]) ⟨rfl, rfl, rfl, rfl, trivial⟩ ?_
  exact loop4 _ _ _ (by omega) rfl (fun j j0 => absurd j0 (by omega)) (by omega) (Nat.lt_succ_self _)

set_option maxRecDepth 100000 in
theorem f_X5_nth {w : sg_W} {Q : sg_O → sg_H → Prop} {h : sg_H} (g : sg_G w) {d : Nat} (hd : 14 ≤ d) {B : Nat} {A : fa_A} (hx : cf_X h B A) (ok : fa_ok A) {trk k : Int} {L : List Int} (hL : fa_L A (4 + trk.toNat) = L) (hQ : ¬ (trk < 0 ∨ 2 ≤ trk ∨ k < 0 ∨ ((fs_codes L).length : Int) ≤ k) → ∀ v : Int, v = (fs_codes L).getD k.toNat 0 → Q (.inl (some (sg_i v))) h) (hXI : (trk < 0 ∨ 2 ≤ trk ∨ k < 0 ∨ ((fs_codes L).length : Int) ≤ k) → ∀ z, h.1 ≤ z → Q (.inr e_I) (z, h.2)) : sg_C w mi_X5_nth d 8 48 [sg_r B, sg_i trk, sg_i k] h Q := by
  refine sg_of pn_X5 (Nat.le_of_ble_eq_true rfl) ?_
  obtain ⟨x0, ho, hS, hP, hK⟩ := id hx
  have y0 := ck_Y0 x0
  have hc24 : ck_cap 1 = 24 := rfl
  refine sg_aload_n (pc := 0) (j := 0) (dc_X5_nth_0.1.1.1.1) rfl rfl ?_
  refine sg_iload_n (pc := 1) (j := 1) (dc_X5_nth_0.1.1.1.2) rfl rfl ?_
  refine sg_cE1 (pc := 2) (d' := d - 1) (mc' := 1) (ms' := 6) 6 g (dc_X5_nth_0.1.1.2.1) cb_X5_trackOf ml_X5_151 mn_X5_trackOf rfl mv_X5_trackOf (Nat.le_of_ble_eq_true rfl) (ck_oc (by assumption)) (Nat.le_of_ble_eq_true rfl) (by first | exact jl_d0 hd rfl | omega) (by first | exact Nat.le_of_ble_eq_true rfl | omega) (by first | exact Nat.le_of_ble_eq_true rfl | omega) ?_
  refine f_X5_trackOf g (by first | exact jl_d1 hd rfl | omega) (by assumption) (fun l2 r2 L2 => sg_K1 ?_) (fun t2 z2 w2 => sg_KX (by first | exact Nat.le_of_ble_eq_true rfl | omega) (by first | exact Nat.le_of_ble_eq_true rfl | omega) (hXI (by omega) z2 w2))
  obtain ⟨a2, ea2⟩ : ∃ a, a = B + 1 + 3 + 2 * (4 + trk.toNat) := ⟨_, rfl⟩
  rw [← ea2] at L2 ⊢
  have k2 : cf_l h a2 = L := by rw [ea2, cf_rl hx (by omega)]; exact hL
  have r42 := fa_trk ok (i := (4 + trk.toNat)) (by omega) (by omega)
  rw [hL] at r42
  refine sg_astore_n (pc := 5) (j := 3) (dc_X5_nth_0.1.1.2.2) rfl (by decide) ?_
  refine sg_aload_n (pc := 6) (j := 3) (dc_X5_nth_0.1.2.1.1) rfl rfl ?_
  refine sg_iload_n (pc := 7) (j := 2) (dc_X5_nth_0.1.2.1.2) rfl rfl ?_
  refine sg_cS2 (pc := 8) (d' := d - 1) (mc' := 0) (ms' := 0) g (dc_X5_nth_0.1.2.2.1) cb_X4_codeBegin ml_X5_269 ms_X4_codeBegin (Nat.le_of_ble_eq_true rfl) (by first | exact jl_d0 hd rfl | omega) (by first | exact Nat.le_of_ble_eq_true rfl | omega) (by first | exact Nat.le_of_ble_eq_true rfl | omega) ?_
  refine f_X4_codeBegin g (by first | exact jl_d1 hd rfl | omega) (by assumption) L2 k2 (fun z8 R8 => sg_K1 ?_)
  refine sg_istore (pc := 11) (dc_X5_nth_0.1.2.2.2) (by decide) ?_
  refine sg_iload (pc := 13) (dc_X5_nth_0.2.1.1.1) rfl ?_
  refine sg_iconst (pc := 15) (z := -1) (dc_X5_nth_0.2.1.1.2) (by decide) ?_
  refine sg_icmp_ne (pc := 16) (tgt := 29) (dc_X5_nth_0.2.1.2.1) (by decide) (fun c16 => ?_) (fun c16 => ?_)
  · have q8 : 0 ≤ z8 ∧ z8 < (L.length : Int) ∧ fs_bg L z8.toNat ∧ ((fs_cs L z8.toNat).length : Int) = k := by
      rcases R8 with q | q
      · exact absurd q.1 (by omega)
      · exact q
    have k9 := (fs_cat (L := L) (p := z8.toNat) (by omega) q8.2.2.1).2
    refine sg_aload_n (pc := 29) (j := 3) (dc_X5_nth_29.1.1) rfl rfl ?_
    refine sg_iload (pc := 30) (dc_X5_nth_29.1.2) rfl ?_
    refine sg_cS2 (pc := 32) (d' := d - 1) (mc' := 0) (ms' := 0) g (dc_X5_nth_29.2.1) cb_X4_codeFrom ml_X5_266 ms_X4_codeFrom (Nat.le_of_ble_eq_true rfl) (by first | exact jl_d0 hd rfl | omega) (by first | exact Nat.le_of_ble_eq_true rfl | omega) (by first | exact Nat.le_of_ble_eq_true rfl | omega) ?_
    refine f_X4_codeFrom g (by first | exact jl_d1 hd rfl | omega) (by assumption) L2 k2 r42.2 (by omega) (by omega) (fun z32 e32 => sg_K1 ?_)
    have r32 := fs_cdr r42.2 (p := z8.toNat) (by omega)
    rw [← e32] at r32
    refine sg_iret (pc := 35) (dc_X5_nth_29.2.2) rfl (by first | exact Nat.le_of_ble_eq_true rfl | omega) (by first | exact Nat.le_of_ble_eq_true rfl | omega) ?_
    exact hQ (by omega) _ (by rw [e32, ← (fs_cat (by omega) q8.2.2.1).1, show (fs_cs L z8.toNat).length = k.toNat by omega])
  · have bad : k < 0 ∨ ((fs_codes L).length : Int) ≤ k := by
      rcases R8 with q | q
      · exact q.2
      · exact absurd q.1 (by omega)
    refine sg_throw (pc := 19) g th_X5_226_159 (dc_X5_nth_0.2.1.2.2) (dc_X5_nth_0.2.2.1.1) (dc_X5_nth_0.2.2.1.2) (dc_X5_nth_0.2.2.2.1) (dc_X5_nth_0.2.2.2.2) (by first | exact Nat.le_trans (Nat.le_of_ble_eq_true rfl) hd | omega) (Nat.le_of_ble_eq_true rfl) (by first | exact Nat.le_of_ble_eq_true rfl | omega) (by first | exact Nat.le_of_ble_eq_true rfl | omega) ?_
    exact fun z hz => hXI (by omega) z hz

set_option maxRecDepth 100000 in
theorem f_X5_house {w : sg_W} {Q : sg_O → sg_H → Prop} {h : sg_H} (g : sg_G w) {d : Nat} (hd : 14 ≤ d) {B : Nat} {A : fa_A} (hx : cf_X h B A) (ok : fa_ok A) {what : Int} (hQ : ¬ (what < 0 ∨ 3 < what) → ∀ v : Int, v = fs_house A what → Q (.inl (some (sg_i v))) h) (hXA : (what < 0 ∨ 3 < what) → ∀ z, h.1 ≤ z → Q (.inr e_A) (z, h.2)) : sg_C w mi_X5_house d 8 48 [sg_r B, sg_i what] h Q := by
  refine sg_of pn_X5 (Nat.le_of_ble_eq_true rfl) ?_
  obtain ⟨x0, ho, hS, hP, hK⟩ := id hx
  have y0 := ck_Y0 x0
  refine sg_iload_n (pc := 0) (j := 1) (dc_X5_house_0.1.1.1.1) rfl rfl ?_
  by_cases cs : what < 0 ∨ 3 < what
  · refine sg_tsOut (pc := 1) (tgt := 61) (dc_X5_house_0.1.1.1.2) cs (by decide) ?_
    refine sg_throwW (pc := 61) g th_X5_110_259 (dc_X5_house_60.1.1.2) (dc_X5_house_60.1.2.1) (dc_X5_house_60.1.2.2) (dc_X5_house_60.2.1.1) (dc_X5_house_60.2.1.2) (by first | exact Nat.le_trans (Nat.le_of_ble_eq_true rfl) hd | omega) (Nat.le_of_ble_eq_true rfl) (by first | exact Nat.le_of_ble_eq_true rfl | omega) (by first | exact Nat.le_of_ble_eq_true rfl | omega) ?_
    exact fun z hz => hXA (by omega) z hz
  · rcases (show what = 0 ∨ what = 1 ∨ what = 2 ∨ what = 3 by omega) with rfl | rfl | rfl | rfl
    · refine sg_tsIn (pc := 1) (tgt := 32) (dc_X5_house_0.1.1.1.2) (by omega) (by omega) rfl (by decide) ?_
      refine sg_aload_n (pc := 32) (j := 0) (dc_X5_house_0.1.1.2.1) rfl rfl ?_
      refine ck_gob (pc := 33) g (dc_X5_house_0.1.1.2.2) fk_X5_10 (by assumption) (fun _ => rfl) ?_
      refine sg_cE0 (pc := 36) (d' := d - 1) (mc' := 0) (ms' := 0) 5 g (dc_X5_house_0.1.2.1.1) cb_X3_howManySigns ml_X5_272 mn_X3_howManySigns rfl mv_X3_howManySigns (Nat.le_of_ble_eq_true rfl) (ck_sc (by assumption) (by first | assumption | exact ck_now)) (Nat.le_of_ble_eq_true rfl) (by first | exact jl_d0 hd rfl | omega) (by first | exact Nat.le_of_ble_eq_true rfl | omega) (by first | exact Nat.le_of_ble_eq_true rfl | omega) ?_
      refine f_X3_howManySigns g (by first | exact jl_d1 hd rfl | omega) (by assumption) ck_now (fun z36 e36 => sg_K1 ?_)
      refine sg_iret (pc := 39) (dc_X5_house_0.1.2.1.2) rfl (by first | exact Nat.le_of_ble_eq_true rfl | omega) (by first | exact Nat.le_of_ble_eq_true rfl | omega) ?_
      exact hQ (by omega) _ (by rw [e36]; exact cf_h0 hx)
    · refine sg_tsIn (pc := 1) (tgt := 40) (dc_X5_house_0.1.1.1.2) (by omega) (by omega) rfl (by decide) ?_
      refine sg_aload_n (pc := 40) (j := 0) (dc_X5_house_0.1.2.2.1) rfl rfl ?_
      refine ck_gob (pc := 41) g (dc_X5_house_0.1.2.2.2) fk_X5_10 (by assumption) (fun _ => rfl) ?_
      refine sg_cE0 (pc := 44) (d' := d - 1) (mc' := 0) (ms' := 0) 5 g (dc_X5_house_0.2.1.1.1) cb_X3_howManyUnits ml_X5_275 mn_X3_howManyUnits rfl mv_X3_howManyUnits (Nat.le_of_ble_eq_true rfl) (ck_sc (by assumption) (by first | assumption | exact ck_now)) (Nat.le_of_ble_eq_true rfl) (by first | exact jl_d0 hd rfl | omega) (by first | exact Nat.le_of_ble_eq_true rfl | omega) (by first | exact Nat.le_of_ble_eq_true rfl | omega) ?_
      refine f_X3_howManyUnits g (by first | exact jl_d1 hd rfl | omega) (by assumption) ck_now (fun z44 e44 => sg_K1 ?_)
      refine sg_iret (pc := 47) (dc_X5_house_0.2.1.1.2) rfl (by first | exact Nat.le_of_ble_eq_true rfl | omega) (by first | exact Nat.le_of_ble_eq_true rfl | omega) ?_
      exact hQ (by omega) _ (by rw [e44]; exact cf_h1 hx)
    · refine sg_tsIn (pc := 1) (tgt := 48) (dc_X5_house_0.1.1.1.2) (by omega) (by omega) rfl (by decide) ?_
      refine sg_aload_n (pc := 48) (j := 0) (dc_X5_house_0.2.1.2.1) rfl rfl ?_
      refine ck_gob (pc := 49) g (dc_X5_house_0.2.1.2.2) fk_X5_19 (by assumption) (fun _ => rfl) ?_
      refine sg_cE0 (pc := 52) (d' := d - 1) (mc' := 0) (ms' := 0) 4 g (dc_X5_house_0.2.2.1.1) cb_X1_size ml_X5_183 mn_X1_size rfl mv_X1_size (Nat.le_of_ble_eq_true rfl) (ck_pc (by assumption)) (Nat.le_of_ble_eq_true rfl) (by first | exact jl_d0 hd rfl | omega) (by first | exact Nat.le_of_ble_eq_true rfl | omega) (by first | exact Nat.le_of_ble_eq_true rfl | omega) ?_
      refine f_X1_size g (by first | exact jl_d1 hd rfl | omega) (by assumption) (sg_K1 ?_)
      refine sg_iret (pc := 55) (dc_X5_house_0.2.2.1.2) rfl (by first | exact Nat.le_of_ble_eq_true rfl | omega) (by first | exact Nat.le_of_ble_eq_true rfl | omega) ?_
      exact hQ (by omega) _ ((cf_pl hx).symm)
    · refine sg_tsIn (pc := 1) (tgt := 56) (dc_X5_house_0.1.1.1.2) (by omega) (by omega) rfl (by decide) ?_
      refine sg_aload_n (pc := 56) (j := 0) (dc_X5_house_0.2.2.2.1) rfl rfl ?_
      obtain ⟨z, hz⟩ := ck_obj x0
      have ez : z = A.2.2 := by rw [← hK]; unfold cf_k; rw [hz]
      subst ez
      refine sg_getf (pc := 57) g (dc_X5_house_0.2.2.2.2) fk_X5_32 hz rfl rfl ?_
      refine sg_iret (pc := 60) (dc_X5_house_60.1.1.1) rfl (by first | exact Nat.le_of_ble_eq_true rfl | omega) (by first | exact Nat.le_of_ble_eq_true rfl | omega) ?_
      exact hQ (by omega) _ rfl

