theorem fs_layl {a b c e z1 z2 z3 z4 : Int} (h1 : (a = -1 ∧ z1 = 0) ∨ (a ≠ -1 ∧ z1 = 1)) (h2 : (b = -1 ∧ z2 = 0) ∨ (b ≠ -1 ∧ z2 = 1)) (h3 : (c = -1 ∧ z3 = 0) ∨ (c ≠ -1 ∧ z3 = 1)) (h4 : (e = -1 ∧ z4 = 0) ∨ (e ≠ -1 ∧ z4 = 1)) : ((fs_lay a b c e).length : Int) = z1 + z2 + z3 + z4 := by
  unfold fs_lay
  simp only [List.length_append]
  rcases h1 with ⟨q1, r1⟩ | ⟨q1, r1⟩ <;> rcases h2 with ⟨q2, r2⟩ | ⟨q2, r2⟩ <;> rcases h3 with ⟨q3, r3⟩ | ⟨q3, r3⟩ <;> rcases h4 with ⟨q4, r4⟩ | ⟨q4, r4⟩ <;>
    simp only [q1, q2, q3, q4, r1, r2, r3, r4, if_true, if_false, List.length_nil, List.length_cons] <;> omega
theorem cf_pl {h : sg_H} {B : Nat} {A : fa_A} (hx : cf_X h B A) : (A.2.1.length : Int) = cf_n h (B + 16) := by
  obtain ⟨x, ho, hS, hP, hK⟩ := hx
  obtain ⟨-, -, l6⟩ := cf_ps x
  obtain ⟨-, n0, n1⟩ := ho
  rw [← hP]
  unfold cf_p
  rw [List.length_map, List.length_take]
  omega
set_option maxRecDepth 100000 in
theorem f_X5_laid {w : sg_W} {Q : sg_O → sg_H → Prop} {h : sg_H} (g : sg_G w) {d : Nat} (hd : 12 ≤ d) {x : Int} (hQ : ∀ z : Int, ((x = -1 ∧ z = 0) ∨ (x ≠ -1 ∧ 0 ≤ x ∧ x ≤ 255 ∧ z = 1)) → Q (.inl (some (sg_i z))) h) (hX : (x ≠ -1 ∧ (x < 0 ∨ 255 < x)) → ∀ z, h.1 ≤ z → Q (.inr e_A) (z, h.2)) : sg_C w mi_X5_laid d 1 6 [sg_i x] h Q := by
  refine sg_of pn_X5 (Nat.le_of_ble_eq_true rfl) ?_
  refine sg_iload_n (pc := 0) (j := 0) (dc_X5_laid_0.1.1.1.1) rfl rfl ?_
  refine sg_iconst (pc := 1) (z := -1) (dc_X5_laid_0.1.1.1.2) (by decide) ?_
  refine sg_icmp_ne (pc := 2) (tgt := 7) (dc_X5_laid_0.1.1.2.1) (by decide) (fun c2 => ?_) (fun c2 => ?_)
  · refine sg_iload_n (pc := 7) (j := 0) (dc_X5_laid_0.1.2.1.2) rfl rfl ?_
    refine sg_cS1 (pc := 8) (d' := d - 1) (mc' := 1) (ms' := 6) g (dc_X5_laid_0.1.2.2.1) cb_X5_checkSign ml_X5_189 ms_X5_checkSign (Nat.le_of_ble_eq_true rfl) (by first | exact jl_d0 hd rfl | omega) (by first | exact Nat.le_of_ble_eq_true rfl | omega) (by first | exact Nat.le_of_ble_eq_true rfl | omega) ?_
    refine s_X5_checkSign g (by first | exact jl_d1 hd rfl | omega) (fun v8 => sg_K0 ?_) (fun t8 z8 w8 => sg_KX (by first | exact Nat.le_of_ble_eq_true rfl | omega) (by first | exact Nat.le_of_ble_eq_true rfl | omega) (hX (by omega) z8 w8))
    refine sg_iconst (pc := 11) (z := 1) (dc_X5_laid_0.1.2.2.2) (by decide) ?_
    refine sg_iret (pc := 12) (dc_X5_laid_0.2.1.1.1) rfl (by first | exact Nat.le_of_ble_eq_true rfl | omega) (by first | exact Nat.le_of_ble_eq_true rfl | omega) ?_
    first | exact hQ _ (Or.inl ⟨by omega, rfl⟩) | exact hQ _ (Or.inr ⟨by omega, by omega, by omega, rfl⟩)
  · refine sg_iconst (pc := 5) (z := 0) (dc_X5_laid_0.1.1.2.2) (by decide) ?_
    refine sg_iret (pc := 6) (dc_X5_laid_0.1.2.1.1) rfl (by first | exact Nat.le_of_ble_eq_true rfl | omega) (by first | exact Nat.le_of_ble_eq_true rfl | omega) ?_
    first | exact hQ _ (Or.inl ⟨by omega, rfl⟩) | exact hQ _ (Or.inr ⟨by omega, by omega, by omega, rfl⟩)

set_option maxRecDepth 100000 in
theorem f_X5_addLaid {w : sg_W} {Q : sg_O → sg_H → Prop} {h : sg_H} (g : sg_G w) {d : Nat} (hd : 3 ≤ d) {B a1 : Nat} (hx : ck_X h B) (L1 : ck_L B a1 0) {L : List Int} (kk : cf_l h a1 = L) {x : Int} (hr : x ≠ -1 → (L.length : Int) < 40) (hQ : ∀ h' : sg_H, ck_X h' B → ck_G B a1 h h' → cf_l h' a1 = L ++ (if x = -1 then [] else [x]) → Q (.inl none) h') : sg_C w mi_X5_addLaid d 0 0 [sg_r a1, sg_i x] h Q := by
  refine sg_of pn_X5 (Nat.le_of_ble_eq_true rfl) ?_
  have y0 := ck_Y0 hx
  have hr7 : x ≠ -1 → cf_n h a1 < (ck_cap 0 : Int) := fun q => by have e := cf_len hx L1; rw [kk] at e; have := hr q; show _ < (40 : Int); omega
  refine sg_iload_n (pc := 0) (j := 1) (dc_X5_addLaid_0.1.1.1) rfl rfl ?_
  refine sg_iconst (pc := 1) (z := -1) (dc_X5_addLaid_0.1.1.2) (by decide) ?_
  refine sg_icmp_eq (pc := 2) (tgt := 10) (dc_X5_addLaid_0.1.2.1) (by decide) (fun c2 => ?_) (fun c2 => ?_)
  · refine sg_vret (pc := 10) (dc_X5_addLaid_0.2.2.1) rfl (by first | exact Nat.le_of_ble_eq_true rfl | omega) (by first | exact Nat.le_of_ble_eq_true rfl | omega) ?_
    first | exact hQ _ hx ck_G0 (by rw [if_pos (by omega), List.append_nil]; exact kk) | exact hQ _ x7 f7 (by rw [if_neg (by omega)]; exact l7)
  · refine sg_aload_n (pc := 5) (j := 0) (dc_X5_addLaid_0.1.2.2) rfl rfl ?_
    refine sg_iload_n (pc := 6) (j := 1) (dc_X5_addLaid_0.2.1.1) rfl rfl ?_
    refine sg_cE1 (pc := 7) (d' := d - 1) (mc' := 0) (ms' := 0) 3 g (dc_X5_addLaid_0.2.1.2) cb_X0_add ml_X5_129 mn_X0_add rfl mv_X0_add (Nat.le_of_ble_eq_true rfl) (ck_lc (by assumption) (by first | assumption | exact ck_rev)) (Nat.le_of_ble_eq_true rfl) (by first | exact jl_d0 hd rfl | omega) (by first | exact Nat.le_of_ble_eq_true rfl | omega) (by first | exact Nat.le_of_ble_eq_true rfl | omega) ?_
    have nn7 := cf_len (by assumption) L1
    rw [kk] at nn7
    try simp only [List.length_append, tt_len, List.length_cons, List.length_nil] at nn7
    have hcap7 : ck_cap 0 = 40 := rfl
    refine f_X0_add g (by first | exact jl_d1 hd rfl | omega) (by assumption) L1 (by first | exact ck_v0 | assumption | (simp only [ck_v1, ck_v2] at * <;> omega)) (by omega) (fun h7 x7 f7 n7 w7 => sg_K0 ?_)
    have l7 := cf_la (by assumption) L1 (by omega) n7 w7
    rw [kk] at l7
    have y7 := ck_Yt (h0 := h) (by assumption) x7 f7.1
    refine sg_vret (pc := 10) (dc_X5_addLaid_0.2.2.1) rfl (by first | exact Nat.le_of_ble_eq_true rfl | omega) (by first | exact Nat.le_of_ble_eq_true rfl | omega) ?_
    first | exact hQ _ hx ck_G0 (by rw [if_pos (by omega), List.append_nil]; exact kk) | exact hQ _ x7 f7 (by rw [if_neg (by omega)]; exact l7)

set_option maxRecDepth 100000 in
theorem f_X5_lay {w : sg_W} {Q : sg_O → sg_H → Prop} {h : sg_H} (g : sg_G w) {d : Nat} (hd : 14 ≤ d) {B : Nat} {A : fa_A} (hx : cf_X h B A) (ok : fa_ok A) {row a b c e : Int} {L : List Int} (hL : fa_L A row.toNat = L) (hQ : ¬ (row < 0 ∨ 4 ≤ row) → ¬ ((a ≠ -1 ∧ (a < 0 ∨ 255 < a)) ∨ (b ≠ -1 ∧ (b < 0 ∨ 255 < b)) ∨ (c ≠ -1 ∧ (c < 0 ∨ 255 < c)) ∨ (e ≠ -1 ∧ (e < 0 ∨ 255 < e))) → ¬ (40 < L.length + (fs_lay a b c e).length) → ∀ (v : Int) (h' : sg_H), v = ((L ++ fs_lay a b c e).length : Int) → cf_X h' B (fa_put A row.toNat (L ++ fs_lay a b c e)) → ck_F B h h' → Q (.inl (some (sg_i v))) h') (hXI : (row < 0 ∨ 4 ≤ row) → ∀ z, h.1 ≤ z → Q (.inr e_I) (z, h.2)) (hXA : ¬ (row < 0 ∨ 4 ≤ row) → ((a ≠ -1 ∧ (a < 0 ∨ 255 < a)) ∨ (b ≠ -1 ∧ (b < 0 ∨ 255 < b)) ∨ (c ≠ -1 ∧ (c < 0 ∨ 255 < c)) ∨ (e ≠ -1 ∧ (e < 0 ∨ 255 < e))) → ∀ z, h.1 ≤ z → Q (.inr e_A) (z, h.2)) (hXS : ¬ (row < 0 ∨ 4 ≤ row) → ¬ ((a ≠ -1 ∧ (a < 0 ∨ 255 < a)) ∨ (b ≠ -1 ∧ (b < 0 ∨ 255 < b)) ∨ (c ≠ -1 ∧ (c < 0 ∨ 255 < c)) ∨ (e ≠ -1 ∧ (e < 0 ∨ 255 < e))) → (40 < L.length + (fs_lay a b c e).length) → ∀ z, h.1 ≤ z → Q (.inr e_S) (z, h.2)) : sg_C w mi_X5_lay d 8 48 [sg_r B, sg_i row, sg_i a, sg_i b, sg_i c, sg_i e] h Q := by
  refine sg_of pn_X5 (Nat.le_of_ble_eq_true rfl) ?_
  obtain ⟨x0, ho, hS, hP, hK⟩ := id hx
  have y0 := ck_Y0 x0
  have hc40 : ck_cap 0 = 40 := rfl
  refine sg_aload_n (pc := 0) (j := 0) (dc_X5_lay_0.1.1.1.1) rfl rfl ?_
  refine sg_iload_n (pc := 1) (j := 1) (dc_X5_lay_0.1.1.1.2) rfl rfl ?_
  refine sg_cE1 (pc := 2) (d' := d - 1) (mc' := 1) (ms' := 6) 6 g (dc_X5_lay_0.1.1.2.1) cb_X5_rowOf ml_X5_36 mn_X5_rowOf rfl mv_X5_rowOf (Nat.le_of_ble_eq_true rfl) (ck_oc (by assumption)) (Nat.le_of_ble_eq_true rfl) (by first | exact jl_d0 hd rfl | omega) (by first | exact Nat.le_of_ble_eq_true rfl | omega) (by first | exact Nat.le_of_ble_eq_true rfl | omega) ?_
  refine f_X5_rowOf g (by first | exact jl_d1 hd rfl | omega) (by assumption) (fun l2 r2 L2 => sg_K1 ?_) (fun t2 z2 w2 => sg_KX (by first | exact Nat.le_of_ble_eq_true rfl | omega) (by first | exact Nat.le_of_ble_eq_true rfl | omega) (hXI (by omega) z2 w2))
  obtain ⟨a2, ea2⟩ : ∃ a, a = B + 1 + 3 + 2 * row.toNat := ⟨_, rfl⟩
  rw [← ea2] at L2 ⊢
  have k2 : cf_l h a2 = L := by rw [ea2, cf_rl hx (by omega)]; exact hL
  have r42 := fa_row ok (i := row.toNat) (by omega)
  rw [hL] at r42
  refine sg_astore (pc := 5) (dc_X5_lay_0.1.1.2.2) (by decide) ?_
  refine sg_iload_n (pc := 7) (j := 2) (dc_X5_lay_0.1.2.1.1) rfl rfl ?_
  refine sg_cS1 (pc := 8) (d' := d - 1) (mc' := 1) (ms' := 6) g (dc_X5_lay_0.1.2.1.2) cb_X5_laid ml_X5_40 ms_X5_laid (Nat.le_of_ble_eq_true rfl) (by first | exact jl_d0 hd rfl | omega) (by first | exact Nat.le_of_ble_eq_true rfl | omega) (by first | exact Nat.le_of_ble_eq_true rfl | omega) ?_
  refine f_X5_laid g (by first | exact jl_d1 hd rfl | omega) (fun z8 b8 => sg_K1 ?_) (fun t8 z8 w8 => sg_KX (by first | exact Nat.le_of_ble_eq_true rfl | omega) (by first | exact Nat.le_of_ble_eq_true rfl | omega) (hXA (by omega) (by omega) z8 w8))
  refine sg_iload_n (pc := 11) (j := 3) (dc_X5_lay_0.1.2.2.1) rfl rfl ?_
  refine sg_cS1 (pc := 12) (d' := d - 1) (mc' := 1) (ms' := 6) g (dc_X5_lay_0.1.2.2.2) cb_X5_laid ml_X5_40 ms_X5_laid (Nat.le_of_ble_eq_true rfl) (by first | exact jl_d0 hd rfl | omega) (by first | exact Nat.le_of_ble_eq_true rfl | omega) (by first | exact Nat.le_of_ble_eq_true rfl | omega) ?_
  refine f_X5_laid g (by first | exact jl_d1 hd rfl | omega) (fun z12 b12 => sg_K1 ?_) (fun t12 z12 w12 => sg_KX (by first | exact Nat.le_of_ble_eq_true rfl | omega) (by first | exact Nat.le_of_ble_eq_true rfl | omega) (hXA (by omega) (by omega) z12 w12))
  first | refine sg_iaddB (pc := 15) (dc_X5_lay_0.2.1.1.1) (by omega) (by omega) ?_ | refine sg_iadd (pc := 15) (dc_X5_lay_0.2.1.1.1) ?_
  refine sg_iload (pc := 16) (dc_X5_lay_0.2.1.1.2) rfl ?_
  refine sg_cS1 (pc := 18) (d' := d - 1) (mc' := 1) (ms' := 6) g (dc_X5_lay_0.2.1.2.1) cb_X5_laid ml_X5_40 ms_X5_laid (Nat.le_of_ble_eq_true rfl) (by first | exact jl_d0 hd rfl | omega) (by first | exact Nat.le_of_ble_eq_true rfl | omega) (by first | exact Nat.le_of_ble_eq_true rfl | omega) ?_
  refine f_X5_laid g (by first | exact jl_d1 hd rfl | omega) (fun z18 b18 => sg_K1 ?_) (fun t18 z18 w18 => sg_KX (by first | exact Nat.le_of_ble_eq_true rfl | omega) (by first | exact Nat.le_of_ble_eq_true rfl | omega) (hXA (by omega) (by omega) z18 w18))
  first | refine sg_iaddB (pc := 21) (dc_X5_lay_0.2.1.2.2) (by omega) (by omega) ?_ | refine sg_iadd (pc := 21) (dc_X5_lay_0.2.1.2.2) ?_
  refine sg_iload (pc := 22) (dc_X5_lay_0.2.2.1.1) rfl ?_
  refine sg_cS1 (pc := 24) (d' := d - 1) (mc' := 1) (ms' := 6) g (dc_X5_lay_0.2.2.1.2) cb_X5_laid ml_X5_40 ms_X5_laid (Nat.le_of_ble_eq_true rfl) (by first | exact jl_d0 hd rfl | omega) (by first | exact Nat.le_of_ble_eq_true rfl | omega) (by first | exact Nat.le_of_ble_eq_true rfl | omega) ?_
  refine f_X5_laid g (by first | exact jl_d1 hd rfl | omega) (fun z24 b24 => sg_K1 ?_) (fun t24 z24 w24 => sg_KX (by first | exact Nat.le_of_ble_eq_true rfl | omega) (by first | exact Nat.le_of_ble_eq_true rfl | omega) (hXA (by omega) (by omega) z24 w24))
  first | refine sg_iaddB (pc := 27) (dc_X5_lay_0.2.2.2.1) (by omega) (by omega) ?_ | refine sg_iadd (pc := 27) (dc_X5_lay_0.2.2.2.1) ?_
  refine sg_istore (pc := 28) (dc_X5_lay_0.2.2.2.2) (by decide) ?_
  have ll := fs_layl (a := a) (b := b) (c := c) (e := e) (z1 := z8) (z2 := z12) (z3 := z18) (z4 := z24) (by omega) (by omega) (by omega) (by omega)
  refine sg_aload (pc := 30) (dc_X5_lay_30.1.1.1.1) rfl ?_
  refine sg_iload (pc := 32) (dc_X5_lay_30.1.1.1.2) rfl ?_
  refine sg_cE1 (pc := 34) (d' := d - 1) (mc' := 0) (ms' := 0) 3 g (dc_X5_lay_30.1.1.2.1) cb_X0_hasRoomFor ml_X5_44 mn_X0_hasRoomFor rfl mv_X0_hasRoomFor (Nat.le_of_ble_eq_true rfl) (ck_lc (by assumption) (by first | assumption | exact ck_rev)) (Nat.le_of_ble_eq_true rfl) (by first | exact jl_d0 hd rfl | omega) (by first | exact Nat.le_of_ble_eq_true rfl | omega) (by first | exact Nat.le_of_ble_eq_true rfl | omega) ?_
  refine f_X0_hasRoomFor g (by first | exact jl_d1 hd rfl | omega) (by assumption) L2 (by omega) (fun z34 b34 i34 j34 => sg_K1 ?_)
  rw [k2] at i34 j34
  refine sg_if_ne (pc := 37) (tgt := 50) (dc_X5_lay_30.1.1.2.2) (by decide) (fun c37 => ?_) (fun c37 => ?_)
  · refine sg_aload_n (pc := 50) (j := 0) (dc_X5_lay_30.2.1.1.2) rfl rfl ?_
    refine ck_gob (pc := 51) g (dc_X5_lay_30.2.1.2.1) fk_X5_19 (by assumption) (fun _ => rfl) ?_
    refine sg_aload_n (pc := 54) (j := 0) (dc_X5_lay_30.2.1.2.2) rfl rfl ?_
    refine ck_gob (pc := 55) g (dc_X5_lay_30.2.2.1.1) fk_X5_10 (by assumption) (fun _ => rfl) ?_
    refine sg_cE1 (pc := 58) (d' := d - 1) (mc' := 0) (ms' := 0) 4 g (dc_X5_lay_30.2.2.1.2) cb_X1_keep ml_X5_55 mn_X1_keep rfl mv_X1_keep (Nat.le_of_ble_eq_true rfl) (ck_pc (by assumption)) (Nat.le_of_ble_eq_true rfl) (by first | exact jl_d0 hd rfl | omega) (by first | exact Nat.le_of_ble_eq_true rfl | omega) (by first | exact Nat.le_of_ble_eq_true rfl | omega) ?_
    refine f_X1_keep g (by first | exact jl_d1 hd rfl | omega) x0 ho (fun h58 x58 F58 fr58 ho58 P58 => sg_K0 ?_)
    have y58 : ck_Y h h58 B := ⟨x58, F58⟩
    have q58a2 : cf_l h58 a2 = cf_l h a2 := cf_lq (fr58 _ (by omega)) (fr58 _ (by omega))
    rw [k2] at q58a2
    have w1 : ((if a = -1 then [] else [a] : List Int).length : Int) = z8 := by rcases b8 with ⟨q, r⟩ | ⟨q, -, -, r⟩ <;> simp [q, r]
    have w2 : ((if b = -1 then [] else [b] : List Int).length : Int) = z12 := by rcases b12 with ⟨q, r⟩ | ⟨q, -, -, r⟩ <;> simp [q, r]
    have w3 : ((if c = -1 then [] else [c] : List Int).length : Int) = z18 := by rcases b18 with ⟨q, r⟩ | ⟨q, -, -, r⟩ <;> simp [q, r]
    have w4 : ((if e = -1 then [] else [e] : List Int).length : Int) = z24 := by rcases b24 with ⟨q, r⟩ | ⟨q, -, -, r⟩ <;> simp [q, r]
    refine sg_aload (pc := 61) (dc_X5_lay_30.2.2.2.1) rfl ?_
    refine sg_iload_n (pc := 63) (j := 2) (dc_X5_lay_30.2.2.2.2) rfl rfl ?_
    refine sg_cS2 (pc := 64) (d' := d - 1) (mc' := 0) (ms' := 0) g (dc_X5_lay_64.1.1.1.1) cb_X5_addLaid ml_X5_59 ms_X5_addLaid (Nat.le_of_ble_eq_true rfl) (by first | exact jl_d0 hd rfl | omega) (by first | exact Nat.le_of_ble_eq_true rfl | omega) (by first | exact Nat.le_of_ble_eq_true rfl | omega) ?_
    refine f_X5_addLaid g (by first | exact jl_d1 hd rfl | omega) (by assumption) L2 q58a2 (by intro _; first | omega | (simp only [List.length_append]; omega)) (fun h64 x64 f64 l64 => sg_K0 ?_)
    have y64 := ck_Yt (h0 := h) (by assumption) x64 f64.1
    refine sg_aload (pc := 67) (dc_X5_lay_64.1.1.1.2) rfl ?_
    refine sg_iload_n (pc := 69) (j := 3) (dc_X5_lay_64.1.1.2.1) rfl rfl ?_
    refine sg_cS2 (pc := 70) (d' := d - 1) (mc' := 0) (ms' := 0) g (dc_X5_lay_64.1.1.2.2) cb_X5_addLaid ml_X5_59 ms_X5_addLaid (Nat.le_of_ble_eq_true rfl) (by first | exact jl_d0 hd rfl | omega) (by first | exact Nat.le_of_ble_eq_true rfl | omega) (by first | exact Nat.le_of_ble_eq_true rfl | omega) ?_
    refine f_X5_addLaid g (by first | exact jl_d1 hd rfl | omega) (by assumption) L2 l64 (by intro _; first | omega | (simp only [List.length_append]; omega)) (fun h70 x70 f70 l70 => sg_K0 ?_)
    have y70 := ck_Yt (h0 := h) (by assumption) x70 f70.1
    refine sg_aload (pc := 73) (dc_X5_lay_64.1.2.1.1) rfl ?_
    refine sg_iload (pc := 75) (dc_X5_lay_64.1.2.1.2) rfl ?_
    refine sg_cS2 (pc := 77) (d' := d - 1) (mc' := 0) (ms' := 0) g (dc_X5_lay_64.1.2.2.1) cb_X5_addLaid ml_X5_59 ms_X5_addLaid (Nat.le_of_ble_eq_true rfl) (by first | exact jl_d0 hd rfl | omega) (by first | exact Nat.le_of_ble_eq_true rfl | omega) (by first | exact Nat.le_of_ble_eq_true rfl | omega) ?_
    refine f_X5_addLaid g (by first | exact jl_d1 hd rfl | omega) (by assumption) L2 l70 (by intro _; first | omega | (simp only [List.length_append]; omega)) (fun h77 x77 f77 l77 => sg_K0 ?_)
    have y77 := ck_Yt (h0 := h) (by assumption) x77 f77.1
    refine sg_aload (pc := 80) (dc_X5_lay_64.1.2.2.2) rfl ?_
    refine sg_iload (pc := 82) (dc_X5_lay_64.2.1.1.1) rfl ?_
    refine sg_cS2 (pc := 84) (d' := d - 1) (mc' := 0) (ms' := 0) g (dc_X5_lay_64.2.1.1.2) cb_X5_addLaid ml_X5_59 ms_X5_addLaid (Nat.le_of_ble_eq_true rfl) (by first | exact jl_d0 hd rfl | omega) (by first | exact Nat.le_of_ble_eq_true rfl | omega) (by first | exact Nat.le_of_ble_eq_true rfl | omega) ?_
    refine f_X5_addLaid g (by first | exact jl_d1 hd rfl | omega) (by assumption) L2 l77 (by intro _; first | omega | (simp only [List.length_append]; omega)) (fun h84 x84 f84 l84 => sg_K0 ?_)
    have y84 := ck_Yt (h0 := h) (by assumption) x84 f84.1
    refine sg_aload (pc := 87) (dc_X5_lay_64.2.1.2.1) rfl ?_
    refine sg_cE0 (pc := 89) (d' := d - 1) (mc' := 0) (ms' := 0) 3 g (dc_X5_lay_64.2.1.2.2) cb_X0_size ml_X5_63 mn_X0_size rfl mv_X0_size (Nat.le_of_ble_eq_true rfl) (ck_lc (by assumption) (by first | assumption | exact ck_rev)) (Nat.le_of_ble_eq_true rfl) (by first | exact jl_d0 hd rfl | omega) (by first | exact Nat.le_of_ble_eq_true rfl | omega) (by first | exact Nat.le_of_ble_eq_true rfl | omega) ?_
    refine f_X0_size g (by first | exact jl_d1 hd rfl | omega) (by assumption) L2 (fun z89 e89 l089 u89 => sg_K1 ?_)
    rw [l84] at e89
    try rw [fa_tlen] at e89
    have eL : L ++ fs_lay a b c e = (((L ++ (if a = -1 then [] else [a])) ++ (if b = -1 then [] else [b])) ++ (if c = -1 then [] else [c])) ++ (if e = -1 then [] else [e]) := by unfold fs_lay; simp only [List.append_assoc]
    refine sg_iret (pc := 92) (dc_X5_lay_64.2.2.1.1) rfl (by first | exact Nat.le_of_ble_eq_true rfl | omega) (by first | exact Nat.le_of_ble_eq_true rfl | omega) ?_
    exact hQ (by omega) (by omega) (by omega) _ _ (by rw [eL]; exact e89) (cf_put (i := row.toNat) hx fr58 ho58 P58 x84 (ck_Gt f64 (ck_Gt f70 (ck_Gt f77 f84))) (by omega) (by omega) (by rw [eL]; exact l84)) (ck_Ft F58 (ck_Ft f64.1 (ck_Ft f70.1 (ck_Ft f77.1 f84.1))))
  · refine sg_throw (pc := 40) g th_X5_48_50 (dc_X5_lay_30.1.2.1.1) (dc_X5_lay_30.1.2.1.2) (dc_X5_lay_30.1.2.2.1) (dc_X5_lay_30.1.2.2.2) (dc_X5_lay_30.2.1.1.1) (by first | exact Nat.le_trans (Nat.le_of_ble_eq_true rfl) hd | omega) (Nat.le_of_ble_eq_true rfl) (by first | exact Nat.le_of_ble_eq_true rfl | omega) (by first | exact Nat.le_of_ble_eq_true rfl | omega) ?_
    exact fun z hz => hXS (by omega) (by omega) (by omega) z hz

set_option maxRecDepth 100000 in
theorem f_X5_shorten {w : sg_W} {Q : sg_O → sg_H → Prop} {h : sg_H} (g : sg_G w) {d : Nat} (hd : 11 ≤ d) {B a1 i c : Nat} {A : fa_A} (hx : cf_X h B A) (hi : i < 6) (ea : B + 1 + 3 + 2 * i = a1) (L1 : ck_L B a1 c) {L : List Int} (hL : fa_L A i = L) {x : Int} (hQ : 0 ≤ x → x ≤ (L.length : Int) → ∀ h' : sg_H, cf_X h' B (fa_put A i (L.take (L.length - x.toNat))) → ck_F B h h' → Q (.inl (some (sg_i ((L.length : Int) - x)))) h') (hX : (x < 0 ∨ (L.length : Int) < x) → ∀ z, h.1 ≤ z → Q (.inr e_A) (z, h.2)) : sg_C w mi_X5_shorten d 1 6 [sg_r B, sg_r a1, sg_i x] h Q := by
  refine sg_of pn_X5 (Nat.le_of_ble_eq_true rfl) ?_
  obtain ⟨x0, ho, hS, hP, hK⟩ := id hx
  have y0 := ck_Y0 x0
  have kk : cf_l h a1 = L := by rw [← ea, cf_rl hx hi]; exact hL
  refine sg_iload_n (pc := 0) (j := 2) (dc_X5_shorten_0.1.1.1.1) rfl rfl ?_
  refine sg_if_lt (pc := 1) (tgt := 12) (dc_X5_shorten_0.1.1.1.2) (by decide) (fun c1 => ?_) (fun c1 => ?_)
  · refine sg_throwW (pc := 12) g th_X5_110_334 (dc_X5_shorten_0.1.2.2.1) (dc_X5_shorten_0.1.2.2.2) (dc_X5_shorten_0.2.1.1.1) (dc_X5_shorten_0.2.1.1.2) (dc_X5_shorten_0.2.1.2.1) (by first | exact Nat.le_trans (Nat.le_of_ble_eq_true rfl) hd | omega) (Nat.le_of_ble_eq_true rfl) (by first | exact Nat.le_of_ble_eq_true rfl | omega) (by first | exact Nat.le_of_ble_eq_true rfl | omega) ?_
    exact fun z hz => hX (by omega) z hz
  · refine sg_iload_n (pc := 4) (j := 2) (dc_X5_shorten_0.1.1.2.1) rfl rfl ?_
    refine sg_aload_n (pc := 5) (j := 1) (dc_X5_shorten_0.1.1.2.2) rfl rfl ?_
    refine sg_cE0 (pc := 6) (d' := d - 1) (mc' := 0) (ms' := 0) 3 g (dc_X5_shorten_0.1.2.1.1) cb_X0_size ml_X5_63 mn_X0_size rfl mv_X0_size (Nat.le_of_ble_eq_true rfl) (ck_lc (by assumption) (by first | assumption | exact ck_rev)) (Nat.le_of_ble_eq_true rfl) (by first | exact jl_d0 hd rfl | omega) (by first | exact Nat.le_of_ble_eq_true rfl | omega) (by first | exact Nat.le_of_ble_eq_true rfl | omega) ?_
    refine f_X0_size g (by first | exact jl_d1 hd rfl | omega) (by assumption) L1 (fun z6 e6 l06 u6 => sg_K1 ?_)
    rw [kk] at e6
    try rw [fa_tlen] at e6
    refine sg_icmp_le (pc := 9) (tgt := 23) (dc_X5_shorten_0.1.2.1.2) (by decide) (fun c9 => ?_) (fun c9 => ?_)
    · refine sg_aload_n (pc := 23) (j := 0) (dc_X5_shorten_0.2.1.2.2) rfl rfl ?_
      refine ck_gob (pc := 24) g (dc_X5_shorten_0.2.2.1.1) fk_X5_19 (by assumption) (fun _ => rfl) ?_
      refine sg_aload_n (pc := 27) (j := 0) (dc_X5_shorten_0.2.2.1.2) rfl rfl ?_
      refine ck_gob (pc := 28) g (dc_X5_shorten_0.2.2.2.1) fk_X5_10 (by assumption) (fun _ => rfl) ?_
      refine sg_cE1 (pc := 31) (d' := d - 1) (mc' := 0) (ms' := 0) 4 g (dc_X5_shorten_0.2.2.2.2) cb_X1_keep ml_X5_55 mn_X1_keep rfl mv_X1_keep (Nat.le_of_ble_eq_true rfl) (ck_pc (by assumption)) (Nat.le_of_ble_eq_true rfl) (by first | exact jl_d0 hd rfl | omega) (by first | exact Nat.le_of_ble_eq_true rfl | omega) (by first | exact Nat.le_of_ble_eq_true rfl | omega) ?_
      refine f_X1_keep g (by first | exact jl_d1 hd rfl | omega) x0 ho (fun h31 x31 F31 fr31 ho31 P31 => sg_K0 ?_)
      have y31 : ck_Y h h31 B := ⟨x31, F31⟩
      have q31a1 : cf_l h31 a1 = cf_l h a1 := cf_lq (fr31 _ (by omega)) (fr31 _ (by omega))
      rw [kk] at q31a1
      refine sg_aload_n (pc := 34) (j := 1) (dc_X5_shorten_34.1.1.1) rfl rfl ?_
      refine sg_iload_n (pc := 35) (j := 2) (dc_X5_shorten_34.1.1.2) rfl rfl ?_
      refine sg_cE1 (pc := 36) (d' := d - 1) (mc' := 0) (ms' := 0) 3 g (dc_X5_shorten_34.1.2.1) cb_X0_takeAway ml_X5_100 mn_X0_takeAway rfl mv_X0_takeAway (Nat.le_of_ble_eq_true rfl) (ck_lc (by assumption) (by first | assumption | exact ck_rev)) (Nat.le_of_ble_eq_true rfl) (by first | exact jl_d0 hd rfl | omega) (by first | exact Nat.le_of_ble_eq_true rfl | omega) (by first | exact Nat.le_of_ble_eq_true rfl | omega) ?_
      refine f_X0_takeAway g (by first | exact jl_d1 hd rfl | omega) (by assumption) L1 (by first | omega | (rw [q31a1]; omega)) (by first | omega | (rw [q31a1]; omega)) (fun h36 x36 f36 l36 => sg_K0 ?_)
      rw [q31a1] at l36
      have y36 := ck_Yt (h0 := h) (by assumption) x36 f36.1
      refine sg_aload_n (pc := 39) (j := 1) (dc_X5_shorten_34.1.2.2) rfl rfl ?_
      refine sg_cE0 (pc := 40) (d' := d - 1) (mc' := 0) (ms' := 0) 3 g (dc_X5_shorten_34.2.1.1) cb_X0_size ml_X5_63 mn_X0_size rfl mv_X0_size (Nat.le_of_ble_eq_true rfl) (ck_lc (by assumption) (by first | assumption | exact ck_rev)) (Nat.le_of_ble_eq_true rfl) (by first | exact jl_d0 hd rfl | omega) (by first | exact Nat.le_of_ble_eq_true rfl | omega) (by first | exact Nat.le_of_ble_eq_true rfl | omega) ?_
      refine f_X0_size g (by first | exact jl_d1 hd rfl | omega) (by assumption) L1 (fun z40 e40 l040 u40 => sg_K1 ?_)
      rw [l36] at e40
      try rw [fa_tlen] at e40
      have e43 : z40 = (L.length : Int) - x := by rw [e40, List.length_take]; omega
      subst e43
      refine sg_iret (pc := 43) (dc_X5_shorten_34.2.1.2) rfl (by first | exact Nat.le_of_ble_eq_true rfl | omega) (by first | exact Nat.le_of_ble_eq_true rfl | omega) ?_
      exact hQ (by omega) (by omega) _ (cf_put (i := i) hx fr31 ho31 P31 x36 f36 ea hi l36) (ck_Ft F31 f36.1)
    · refine sg_throwW (pc := 12) g th_X5_110_334 (dc_X5_shorten_0.1.2.2.1) (dc_X5_shorten_0.1.2.2.2) (dc_X5_shorten_0.2.1.1.1) (dc_X5_shorten_0.2.1.1.2) (dc_X5_shorten_0.2.1.2.1) (by first | exact Nat.le_trans (Nat.le_of_ble_eq_true rfl) hd | omega) (Nat.le_of_ble_eq_true rfl) (by first | exact Nat.le_of_ble_eq_true rfl | omega) (by first | exact Nat.le_of_ble_eq_true rfl | omega) ?_
      exact fun z hz => hX (by omega) z hz

set_option maxRecDepth 100000 in
theorem f_X5_drop {w : sg_W} {Q : sg_O → sg_H → Prop} {h : sg_H} (g : sg_G w) {d : Nat} (hd : 14 ≤ d) {B : Nat} {A : fa_A} (hx : cf_X h B A) (ok : fa_ok A) {row many : Int} {L : List Int} (hL : fa_L A row.toNat = L) (hQ : ¬ (row < 0 ∨ 4 ≤ row) → ¬ (many < 0 ∨ (L.length : Int) < many) → ∀ (v : Int) (h' : sg_H), v = (L.length : Int) - many → cf_X h' B (fa_put A row.toNat (L.take (L.length - many.toNat))) → ck_F B h h' → Q (.inl (some (sg_i v))) h') (hXI : (row < 0 ∨ 4 ≤ row) → ∀ z, h.1 ≤ z → Q (.inr e_I) (z, h.2)) (hXA : ¬ (row < 0 ∨ 4 ≤ row) → (many < 0 ∨ (L.length : Int) < many) → ∀ z, h.1 ≤ z → Q (.inr e_A) (z, h.2)) : sg_C w mi_X5_drop d 8 48 [sg_r B, sg_i row, sg_i many] h Q := by
  refine sg_of pn_X5 (Nat.le_of_ble_eq_true rfl) ?_
  obtain ⟨x0, ho, hS, hP, hK⟩ := id hx
  have y0 := ck_Y0 x0
  refine sg_aload_n (pc := 0) (j := 0) (dc_X5_drop_0.1.1.1) rfl rfl ?_
  refine sg_aload_n (pc := 1) (j := 0) (dc_X5_drop_0.1.1.2) rfl rfl ?_
  refine sg_iload_n (pc := 2) (j := 1) (dc_X5_drop_0.1.2.1) rfl rfl ?_
  refine sg_cE1 (pc := 3) (d' := d - 1) (mc' := 1) (ms' := 6) 6 g (dc_X5_drop_0.1.2.2) cb_X5_rowOf ml_X5_36 mn_X5_rowOf rfl mv_X5_rowOf (Nat.le_of_ble_eq_true rfl) (ck_oc (by assumption)) (Nat.le_of_ble_eq_true rfl) (by first | exact jl_d0 hd rfl | omega) (by first | exact Nat.le_of_ble_eq_true rfl | omega) (by first | exact Nat.le_of_ble_eq_true rfl | omega) ?_
  refine f_X5_rowOf g (by first | exact jl_d1 hd rfl | omega) (by assumption) (fun l3 r3 L3 => sg_K1 ?_) (fun t3 z3 w3 => sg_KX (by first | exact Nat.le_of_ble_eq_true rfl | omega) (by first | exact Nat.le_of_ble_eq_true rfl | omega) (hXI (by omega) z3 w3))
  obtain ⟨a3, ea3⟩ : ∃ a, a = B + 1 + 3 + 2 * row.toNat := ⟨_, rfl⟩
  rw [← ea3] at L3 ⊢
  have k3 : cf_l h a3 = L := by rw [ea3, cf_rl hx (by omega)]; exact hL
  have r43 := fa_row ok (i := row.toNat) (by omega)
  rw [hL] at r43
  refine sg_iload_n (pc := 6) (j := 2) (dc_X5_drop_0.2.1.1) rfl rfl ?_
  refine sg_cE2 (pc := 7) (d' := d - 1) (mc' := 1) (ms' := 6) 6 g (dc_X5_drop_0.2.1.2) cb_X5_shorten ml_X5_67 mn_X5_shorten rfl mv_X5_shorten (Nat.le_of_ble_eq_true rfl) (ck_oc (by assumption)) (Nat.le_of_ble_eq_true rfl) (by first | exact jl_d0 hd rfl | omega) (by first | exact Nat.le_of_ble_eq_true rfl | omega) (by first | exact Nat.le_of_ble_eq_true rfl | omega) ?_
  refine f_X5_shorten (i := row.toNat) g (by first | exact jl_d1 hd rfl | omega) hx (by omega) ea3.symm L3 hL (fun r7 R7 h7 X7 F7 => sg_K1 ?_) (fun t7 z7 w7 => sg_KX (by first | exact Nat.le_of_ble_eq_true rfl | omega) (by first | exact Nat.le_of_ble_eq_true rfl | omega) (hXA (by omega) (by omega) z7 w7))
  refine sg_iret (pc := 10) (dc_X5_drop_0.2.2.1) rfl (by first | exact Nat.le_of_ble_eq_true rfl | omega) (by first | exact Nat.le_of_ble_eq_true rfl | omega) ?_
  exact hQ (by omega) (by omega) _ _ rfl X7 F7

set_option maxRecDepth 100000 in
theorem f_X5_cut {w : sg_W} {Q : sg_O → sg_H → Prop} {h : sg_H} (g : sg_G w) {d : Nat} (hd : 14 ≤ d) {B : Nat} {A : fa_A} (hx : cf_X h B A) (ok : fa_ok A) {trk many : Int} {L : List Int} (hL : fa_L A (4 + trk.toNat) = L) (hQ : ¬ (trk < 0 ∨ 2 ≤ trk) → ¬ (many < 0 ∨ (L.length : Int) < many) → ∀ (v : Int) (h' : sg_H), v = (L.length : Int) - many → cf_X h' B (fa_put A (4 + trk.toNat) (L.take (L.length - many.toNat))) → ck_F B h h' → Q (.inl (some (sg_i v))) h') (hXI : (trk < 0 ∨ 2 ≤ trk) → ∀ z, h.1 ≤ z → Q (.inr e_I) (z, h.2)) (hXA : ¬ (trk < 0 ∨ 2 ≤ trk) → (many < 0 ∨ (L.length : Int) < many) → ∀ z, h.1 ≤ z → Q (.inr e_A) (z, h.2)) : sg_C w mi_X5_cut d 8 48 [sg_r B, sg_i trk, sg_i many] h Q := by
  refine sg_of pn_X5 (Nat.le_of_ble_eq_true rfl) ?_
  obtain ⟨x0, ho, hS, hP, hK⟩ := id hx
  have y0 := ck_Y0 x0
  refine sg_aload_n (pc := 0) (j := 0) (dc_X5_cut_0.1.1.1) rfl rfl ?_
  refine sg_aload_n (pc := 1) (j := 0) (dc_X5_cut_0.1.1.2) rfl rfl ?_
  refine sg_iload_n (pc := 2) (j := 1) (dc_X5_cut_0.1.2.1) rfl rfl ?_
  refine sg_cE1 (pc := 3) (d' := d - 1) (mc' := 1) (ms' := 6) 6 g (dc_X5_cut_0.1.2.2) cb_X5_trackOf ml_X5_151 mn_X5_trackOf rfl mv_X5_trackOf (Nat.le_of_ble_eq_true rfl) (ck_oc (by assumption)) (Nat.le_of_ble_eq_true rfl) (by first | exact jl_d0 hd rfl | omega) (by first | exact Nat.le_of_ble_eq_true rfl | omega) (by first | exact Nat.le_of_ble_eq_true rfl | omega) ?_
  refine f_X5_trackOf g (by first | exact jl_d1 hd rfl | omega) (by assumption) (fun l3 r3 L3 => sg_K1 ?_) (fun t3 z3 w3 => sg_KX (by first | exact Nat.le_of_ble_eq_true rfl | omega) (by first | exact Nat.le_of_ble_eq_true rfl | omega) (hXI (by omega) z3 w3))
  obtain ⟨a3, ea3⟩ : ∃ a, a = B + 1 + 3 + 2 * (4 + trk.toNat) := ⟨_, rfl⟩
  rw [← ea3] at L3 ⊢
  have k3 : cf_l h a3 = L := by rw [ea3, cf_rl hx (by omega)]; exact hL
  have r43 := fa_trk ok (i := (4 + trk.toNat)) (by omega) (by omega)
  rw [hL] at r43
  refine sg_iload_n (pc := 6) (j := 2) (dc_X5_cut_0.2.1.1) rfl rfl ?_
  refine sg_cE2 (pc := 7) (d' := d - 1) (mc' := 1) (ms' := 6) 6 g (dc_X5_cut_0.2.1.2) cb_X5_shorten ml_X5_67 mn_X5_shorten rfl mv_X5_shorten (Nat.le_of_ble_eq_true rfl) (ck_oc (by assumption)) (Nat.le_of_ble_eq_true rfl) (by first | exact jl_d0 hd rfl | omega) (by first | exact Nat.le_of_ble_eq_true rfl | omega) (by first | exact Nat.le_of_ble_eq_true rfl | omega) ?_
  refine f_X5_shorten (i := (4 + trk.toNat)) g (by first | exact jl_d1 hd rfl | omega) hx (by omega) ea3.symm L3 hL (fun r7 R7 h7 X7 F7 => sg_K1 ?_) (fun t7 z7 w7 => sg_KX (by first | exact Nat.le_of_ble_eq_true rfl | omega) (by first | exact Nat.le_of_ble_eq_true rfl | omega) (hXA (by omega) (by omega) z7 w7))
  refine sg_iret (pc := 10) (dc_X5_cut_0.2.2.1) rfl (by first | exact Nat.le_of_ble_eq_true rfl | omega) (by first | exact Nat.le_of_ble_eq_true rfl | omega) ?_
  exact hQ (by omega) (by omega) _ _ rfl X7 F7

set_option maxRecDepth 100000 in
theorem f_X5_copy {w : sg_W} {Q : sg_O → sg_H → Prop} {h : sg_H} (g : sg_G w) {d : Nat} (hd : 14 ≤ d) {B : Nat} {A : fa_A} (hx : cf_X h B A) (ok : fa_ok A) {fr to : Int} {L : List Int} (hL : fa_L A fr.toNat = L) {M : List Int} (hM : fa_L A to.toNat = M) (hQ : ¬ (fr < 0 ∨ 4 ≤ fr ∨ to < 0 ∨ 4 ≤ to) → ∀ (v : Int) (h' : sg_H), v = (M.length : Int) → cf_X h' B (fa_put A to.toNat (L)) → ck_F B h h' → Q (.inl (some (sg_i v))) h') (hXI : (fr < 0 ∨ 4 ≤ fr ∨ to < 0 ∨ 4 ≤ to) → ∀ z, h.1 ≤ z → Q (.inr e_I) (z, h.2)) : sg_C w mi_X5_copy d 8 48 [sg_r B, sg_i fr, sg_i to] h Q := by
  refine sg_of pn_X5 (Nat.le_of_ble_eq_true rfl) ?_
  obtain ⟨x0, ho, hS, hP, hK⟩ := id hx
  have y0 := ck_Y0 x0
  refine sg_aload_n (pc := 0) (j := 0) (dc_X5_copy_0.1.1.1.1) rfl rfl ?_
  refine sg_iload_n (pc := 1) (j := 1) (dc_X5_copy_0.1.1.1.2) rfl rfl ?_
  refine sg_cE1 (pc := 2) (d' := d - 1) (mc' := 1) (ms' := 6) 6 g (dc_X5_copy_0.1.1.2.1) cb_X5_rowOf ml_X5_36 mn_X5_rowOf rfl mv_X5_rowOf (Nat.le_of_ble_eq_true rfl) (ck_oc (by assumption)) (Nat.le_of_ble_eq_true rfl) (by first | exact jl_d0 hd rfl | omega) (by first | exact Nat.le_of_ble_eq_true rfl | omega) (by first | exact Nat.le_of_ble_eq_true rfl | omega) ?_
  refine f_X5_rowOf g (by first | exact jl_d1 hd rfl | omega) (by assumption) (fun l2 r2 L2 => sg_K1 ?_) (fun t2 z2 w2 => sg_KX (by first | exact Nat.le_of_ble_eq_true rfl | omega) (by first | exact Nat.le_of_ble_eq_true rfl | omega) (hXI (by omega) z2 w2))
  obtain ⟨a2, ea2⟩ : ∃ a, a = B + 1 + 3 + 2 * fr.toNat := ⟨_, rfl⟩
  rw [← ea2] at L2 ⊢
  have k2 : cf_l h a2 = L := by rw [ea2, cf_rl hx (by omega)]; exact hL
  have r42 := fa_row ok (i := fr.toNat) (by omega)
  rw [hL] at r42
  refine sg_astore_n (pc := 5) (j := 3) (dc_X5_copy_0.1.1.2.2) rfl (by decide) ?_
  refine sg_aload_n (pc := 6) (j := 0) (dc_X5_copy_0.1.2.1.1) rfl rfl ?_
  refine sg_iload_n (pc := 7) (j := 2) (dc_X5_copy_0.1.2.1.2) rfl rfl ?_
  refine sg_cE1 (pc := 8) (d' := d - 1) (mc' := 1) (ms' := 6) 6 g (dc_X5_copy_0.1.2.2.1) cb_X5_rowOf ml_X5_36 mn_X5_rowOf rfl mv_X5_rowOf (Nat.le_of_ble_eq_true rfl) (ck_oc (by assumption)) (Nat.le_of_ble_eq_true rfl) (by first | exact jl_d0 hd rfl | omega) (by first | exact Nat.le_of_ble_eq_true rfl | omega) (by first | exact Nat.le_of_ble_eq_true rfl | omega) ?_
  refine f_X5_rowOf g (by first | exact jl_d1 hd rfl | omega) (by assumption) (fun l8 r8 L8 => sg_K1 ?_) (fun t8 z8 w8 => sg_KX (by first | exact Nat.le_of_ble_eq_true rfl | omega) (by first | exact Nat.le_of_ble_eq_true rfl | omega) (hXI (by omega) z8 w8))
  obtain ⟨a8, ea8⟩ : ∃ a, a = B + 1 + 3 + 2 * to.toNat := ⟨_, rfl⟩
  rw [← ea8] at L8 ⊢
  have k8 : cf_l h a8 = M := by rw [ea8, cf_rl hx (by omega)]; exact hM
  have r48 := fa_row ok (i := to.toNat) (by omega)
  rw [hM] at r48
  refine sg_astore (pc := 11) (dc_X5_copy_0.1.2.2.2) (by decide) ?_
  refine sg_aload (pc := 13) (dc_X5_copy_0.2.1.1.1) rfl ?_
  refine sg_cE0 (pc := 15) (d' := d - 1) (mc' := 0) (ms' := 0) 3 g (dc_X5_copy_0.2.1.1.2) cb_X0_size ml_X5_63 mn_X0_size rfl mv_X0_size (Nat.le_of_ble_eq_true rfl) (ck_lc (by assumption) (by first | assumption | exact ck_rev)) (Nat.le_of_ble_eq_true rfl) (by first | exact jl_d0 hd rfl | omega) (by first | exact Nat.le_of_ble_eq_true rfl | omega) (by first | exact Nat.le_of_ble_eq_true rfl | omega) ?_
  refine f_X0_size g (by first | exact jl_d1 hd rfl | omega) (by assumption) L8 (fun z15 e15 l015 u15 => sg_K1 ?_)
  rw [k8] at e15
  try rw [fa_tlen] at e15
  refine sg_istore (pc := 18) (dc_X5_copy_0.2.1.2.1) (by decide) ?_
  refine sg_aload_n (pc := 20) (j := 0) (dc_X5_copy_0.2.1.2.2) rfl rfl ?_
  refine ck_gob (pc := 21) g (dc_X5_copy_0.2.2.1.1) fk_X5_19 (by assumption) (fun _ => rfl) ?_
  refine sg_aload_n (pc := 24) (j := 0) (dc_X5_copy_0.2.2.1.2) rfl rfl ?_
  refine ck_gob (pc := 25) g (dc_X5_copy_0.2.2.2.1) fk_X5_10 (by assumption) (fun _ => rfl) ?_
  refine sg_cE1 (pc := 28) (d' := d - 1) (mc' := 0) (ms' := 0) 4 g (dc_X5_copy_0.2.2.2.2) cb_X1_keep ml_X5_55 mn_X1_keep rfl mv_X1_keep (Nat.le_of_ble_eq_true rfl) (ck_pc (by assumption)) (Nat.le_of_ble_eq_true rfl) (by first | exact jl_d0 hd rfl | omega) (by first | exact Nat.le_of_ble_eq_true rfl | omega) (by first | exact Nat.le_of_ble_eq_true rfl | omega) ?_
  refine f_X1_keep g (by first | exact jl_d1 hd rfl | omega) x0 ho (fun h28 x28 F28 fr28 ho28 P28 => sg_K0 ?_)
  have y28 : ck_Y h h28 B := ⟨x28, F28⟩
  have q28a2 : cf_l h28 a2 = cf_l h a2 := cf_lq (fr28 _ (by omega)) (fr28 _ (by omega))
  rw [k2] at q28a2
  have q28a8 : cf_l h28 a8 = cf_l h a8 := cf_lq (fr28 _ (by omega)) (fr28 _ (by omega))
  rw [k8] at q28a8
  refine sg_iload_n (pc := 31) (j := 1) (dc_X5_copy_31.1.1.1) rfl rfl ?_
  refine sg_iload_n (pc := 32) (j := 2) (dc_X5_copy_31.1.1.2) rfl rfl ?_
  refine sg_icmp_eq (pc := 33) (tgt := 42) (dc_X5_copy_31.1.2.1) (by decide) (fun c33 => ?_) (fun c33 => ?_)
  · refine sg_iload (pc := 42) (dc_X5_copy_31.2.2.1) rfl ?_
    refine sg_iret (pc := 44) (dc_X5_copy_31.2.2.2) rfl (by first | exact Nat.le_of_ble_eq_true rfl | omega) (by first | exact Nat.le_of_ble_eq_true rfl | omega) ?_
    first
      | (exact hQ (by omega) _ _ e15 (cf_put (i := to.toNat) hx fr28 ho28 P28 x39 f39 (by omega) (by omega) l39) (ck_Ft F28 f39.1))
      | (exact hQ (by omega) _ _ e15 (cf_put (i := to.toNat) hx fr28 ho28 P28 x28 (ck_G0 (a := a8)) (by omega) (by omega) (by rw [q28a8, ← hM, ← hL, show to = fr by omega])) F28)
  · refine sg_aload (pc := 36) (dc_X5_copy_31.1.2.2) rfl ?_
    refine sg_aload_n (pc := 38) (j := 3) (dc_X5_copy_31.2.1.1) rfl rfl ?_
    refine sg_cE1 (pc := 39) (d' := d - 1) (mc' := 0) (ms' := 0) 3 g (dc_X5_copy_31.2.1.2) cb_X0_become ml_X5_71 mn_X0_become rfl mv_X0_become (Nat.le_of_ble_eq_true rfl) (ck_lc (by assumption) (by first | assumption | exact ck_rev)) (Nat.le_of_ble_eq_true rfl) (by first | exact jl_d0 hd rfl | omega) (by first | exact Nat.le_of_ble_eq_true rfl | omega) (by first | exact Nat.le_of_ble_eq_true rfl | omega) ?_
    refine f_X0_become g (by first | exact jl_d1 hd rfl | omega) (by assumption) L8 L2 (by unfold cf_ap; omega) (fun h39 x39 f39 l39 => sg_K0 ?_)
    rw [q28a2] at l39
    have y39 := ck_Yt (h0 := h) (by assumption) x39 f39.1
    refine sg_iload (pc := 42) (dc_X5_copy_31.2.2.1) rfl ?_
    refine sg_iret (pc := 44) (dc_X5_copy_31.2.2.2) rfl (by first | exact Nat.le_of_ble_eq_true rfl | omega) (by first | exact Nat.le_of_ble_eq_true rfl | omega) ?_
    first
      | (exact hQ (by omega) _ _ e15 (cf_put (i := to.toNat) hx fr28 ho28 P28 x39 f39 (by omega) (by omega) l39) (ck_Ft F28 f39.1))
      | (exact hQ (by omega) _ _ e15 (cf_put (i := to.toNat) hx fr28 ho28 P28 x28 (ck_G0 (a := a8)) (by omega) (by omega) (by rw [q28a8, ← hM, ← hL, show to = fr by omega])) F28)

set_option maxRecDepth 100000 in
theorem f_X5_undo {w : sg_W} {Q : sg_O → sg_H → Prop} {h : sg_H} (g : sg_G w) {d : Nat} (hd : 14 ≤ d) {B : Nat} {A : fa_A} (hx : cf_X h B A) (hQ : ¬ (A.2.1.length = 0) → ∀ (v : Int) (h' : sg_H), v = (A.2.1.length : Int) - 1 → cf_X h' B (A.2.1.headD [], (A.2.1.tail, A.2.2)) → ck_F B h h' → Q (.inl (some (sg_i v))) h') (hXS : A.2.1.length = 0 → ∀ z, h.1 ≤ z → Q (.inr e_S) (z, h.2)) : sg_C w mi_X5_undo d 8 48 [sg_r B] h Q := by
  refine sg_of pn_X5 (Nat.le_of_ble_eq_true rfl) ?_
  obtain ⟨x0, ho, hS, hP, hK⟩ := id hx
  have y0 := ck_Y0 x0
  have pl := cf_pl hx
  refine sg_aload_n (pc := 0) (j := 0) (dc_X5_undo_0.1.1.1.1) rfl rfl ?_
  refine ck_gob (pc := 1) g (dc_X5_undo_0.1.1.1.2) fk_X5_19 (by assumption) (fun _ => rfl) ?_
  refine sg_cE0 (pc := 4) (d' := d - 1) (mc' := 0) (ms' := 0) 4 g (dc_X5_undo_0.1.1.2.1) cb_X1_size ml_X5_183 mn_X1_size rfl mv_X1_size (Nat.le_of_ble_eq_true rfl) (ck_pc (by assumption)) (Nat.le_of_ble_eq_true rfl) (by first | exact jl_d0 hd rfl | omega) (by first | exact Nat.le_of_ble_eq_true rfl | omega) (by first | exact Nat.le_of_ble_eq_true rfl | omega) ?_
  refine f_X1_size g (by first | exact jl_d1 hd rfl | omega) (by assumption) (sg_K1 ?_)
  refine sg_if_ne (pc := 7) (tgt := 20) (dc_X5_undo_0.1.1.2.2) (by decide) (fun c7 => ?_) (fun c7 => ?_)
  · refine sg_aload_n (pc := 20) (j := 0) (dc_X5_undo_0.2.1.1.2) rfl rfl ?_
    refine ck_gob (pc := 21) g (dc_X5_undo_0.2.1.2.1) fk_X5_19 (by assumption) (fun _ => rfl) ?_
    refine sg_aload_n (pc := 24) (j := 0) (dc_X5_undo_0.2.1.2.2) rfl rfl ?_
    refine ck_gob (pc := 25) g (dc_X5_undo_0.2.2.1.1) fk_X5_10 (by assumption) (fun _ => rfl) ?_
    refine sg_cE1 (pc := 28) (d' := d - 1) (mc' := 0) (ms' := 0) 4 g (dc_X5_undo_0.2.2.1.2) cb_X1_bringBack ml_X5_186 mn_X1_bringBack rfl mv_X1_bringBack (Nat.le_of_ble_eq_true rfl) (ck_pc (by assumption)) (Nat.le_of_ble_eq_true rfl) (by first | exact jl_d0 hd rfl | omega) (by first | exact Nat.le_of_ble_eq_true rfl | omega) (by first | exact Nat.le_of_ble_eq_true rfl | omega) ?_
    refine f_X1_bringBack g (by first | exact jl_d1 hd rfl | omega) x0 ho (by omega) (fun h28 x28 F28 fr28 ho28 sp28 => sg_K0 ?_)
    obtain ⟨S, P, sp1, sp2, sp3⟩ := sp28
    rw [hP] at sp1
    have X28 : cf_X h28 B (A.2.1.headD [], (A.2.1.tail, A.2.2)) := ⟨x28, ho28, by rw [sp1]; exact sp2, by rw [sp1]; exact sp3, (cf_kq (fr28 B (by omega))).trans hK⟩
    have y28 : ck_Y h h28 B := ⟨x28, F28⟩
    have e35 := cf_pl X28
    refine sg_aload_n (pc := 31) (j := 0) (dc_X5_undo_0.2.2.2.1) rfl rfl ?_
    refine ck_gob (pc := 32) g (dc_X5_undo_0.2.2.2.2) fk_X5_19 (by assumption) (fun _ => rfl) ?_
    refine sg_cE0 (pc := 35) (d' := d - 1) (mc' := 0) (ms' := 0) 4 g (dc_X5_undo_35.1) cb_X1_size ml_X5_183 mn_X1_size rfl mv_X1_size (Nat.le_of_ble_eq_true rfl) (ck_pc (by assumption)) (Nat.le_of_ble_eq_true rfl) (by first | exact jl_d0 hd rfl | omega) (by first | exact Nat.le_of_ble_eq_true rfl | omega) (by first | exact Nat.le_of_ble_eq_true rfl | omega) ?_
    refine f_X1_size g (by first | exact jl_d1 hd rfl | omega) (by assumption) (sg_K1 ?_)
    refine sg_iret (pc := 38) (dc_X5_undo_35.2) rfl (by first | exact Nat.le_of_ble_eq_true rfl | omega) (by first | exact Nat.le_of_ble_eq_true rfl | omega) ?_
    exact hQ (by omega) _ _ (by rw [← e35, List.length_tail]; omega) X28 F28
  · refine sg_throw (pc := 10) g th_X5_48_184 (dc_X5_undo_0.1.2.1.1) (dc_X5_undo_0.1.2.1.2) (dc_X5_undo_0.1.2.2.1) (dc_X5_undo_0.1.2.2.2) (dc_X5_undo_0.2.1.1.1) (by first | exact Nat.le_trans (Nat.le_of_ble_eq_true rfl) hd | omega) (Nat.le_of_ble_eq_true rfl) (by first | exact Nat.le_of_ble_eq_true rfl | omega) (by first | exact Nat.le_of_ble_eq_true rfl | omega) ?_
    exact fun z hz => hXS (by omega) z hz

