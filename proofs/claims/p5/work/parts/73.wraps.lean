theorem ct_e_I : Cond.castable e_I e_I ∈ lw_tbl := List.mem_append_right _ (List.mem_of_getElem? (i := 157) (by decide +kernel))
theorem ct_e_A : Cond.castable e_A e_A ∈ lw_tbl := List.mem_append_right _ (List.mem_of_getElem? (i := 345) (by decide +kernel))
theorem ct_e_S : Cond.castable e_S e_S ∈ lw_tbl := List.mem_append_right _ (List.mem_of_getElem? (i := 478) (by decide +kernel))
theorem jk_FO {w : sg_W} {B M O S : Nat} {xs : List Int} {h : sg_H} (x : jk_I w B M O S xs h) {e : sg_E} : jk_F B h (h.1, sg_up h.2 O e) := fun q p1 p2 => sg_up_n (by have := x.2.2.2.2.1; omega)
theorem jk_Fz {B z : Nat} {h : sg_H} : jk_F B h (z, h.2) := fun _ _ _ => rfl
set_option maxRecDepth 100000 in
theorem s_L_isDigit {w : sg_W} {Q : sg_O → sg_H → Prop} {h : sg_H} (g : sg_G w) {d : Nat} (nc : jk_C w) (hd : 15 ≤ d) {B M O S : Nat} {xs : List Int} (hI : jk_I w B M O S xs h) {x : Int} (hQ : ∀ (v : Int) (h' : sg_H), jk_I w B M O S xs h' → jk_X (jk_cut B h) (jk_cut B h') → jk_F B h h' → ((x < 0 ∨ 255 < x) → v = 1) → (¬ (x < 0 ∨ 255 < x) → v = 0 ∧ (jk_o h' O) = fn_isOf x 0) → Q (.inl (some (sg_i v))) h') : sg_D w mi_L_isDigit hh_L_isDigit d 8 48 [sg_r B, sg_i x, sg_r O] h Q := by
  refine st_of pn_L cb_L_isDigit g (Nat.le_of_ble_eq_true rfl) ?_
  have hx := hI.2.2.1
  obtain ⟨us, hob⟩ := ck_oc hx
  refine st_aload_n (pc := 0) (j := 2) (dc_L_isDigit_0.1.1.1.1) rfl rfl ?_
  refine st_aload_n (pc := 1) (j := 0) (dc_L_isDigit_0.1.1.1.2) rfl rfl ?_
  refine st_iload_n (pc := 2) (j := 1) (dc_L_isDigit_0.1.1.2.1) rfl rfl ?_
  refine st_callV (mi' := mi_X5_isDigit) (as := [sg_i x]) (rest := [sg_r O]) (t := 6) (b := B) (d' := d - 1) (mc' := 8) (ms' := 48) g (dc_L_isDigit_0.1.1.2.2) cb_X5_isDigit ml_L_78 mn_X5_isDigit mv_X5_isDigit rfl (by decide) rfl hob rfl (Nat.le_of_ble_eq_true rfl) (by omega) (by omega) (by omega) ?_
  refine s_X5_isDigit g (by first | exact jl_d1 hd rfl | omega) (fun v nv hc => st_K1 ?_) (fun t1 z1 w1 => ?_)
  · have J1 : jk_I w B M O S xs h ∧ jk_X (jk_cut B h) (jk_cut B h) := ⟨hI, jk_X0⟩
    have F1 : jk_F B h h := jk_F0
    obtain ⟨z0, r0, hO⟩ := J1.1.2.2.2.2.2.2.2.2.1
    refine st_if_eq (pc := 6) (tgt := 13) (dc_L_isDigit_0.1.2.1.1) (by decide) (fun c6 => ?_) (fun c6 => ?_)
    · refine st_lconst (pc := 13) (z := 0) (dc_L_isDigit_0.1.2.2.2) (by decide) ?_
      refine st_putN (pc := 14) g (dc_L_isDigit_0.2.1.1.1) fk_L_13 hO sg_ft_l ?_
      refine st_goto (pc := 17) (tgt := 23) (dc_L_isDigit_0.2.1.1.2) (by decide) ?_
      refine st_iconst (pc := 23) (z := 0) (dc_L_isDigit_0.2.2.1.2) (by decide) ?_
      refine st_iret (pc := 24) (dc_L_isDigit_0.2.2.2.1) rfl (by first | exact Nat.le_of_ble_eq_true rfl | omega) (by first | exact Nat.le_of_ble_eq_true rfl | omega) ?_
      exact hQ _ _ (jk_IO J1.1).1 (jk_Xt J1.2 (jk_IO J1.1).2) (jk_Ft F1 (jk_FO J1.1)) (fun q => absurd q nv) (fun _ => ⟨rfl, jk_ov (P := fun v => v = fn_isOf x 0) jk_oe (by first | exact hc | exact hc.1 | omega)⟩)
    · refine st_lconst (pc := 9) (z := 1) (dc_L_isDigit_0.1.2.1.2) (by decide) ?_
      refine st_goto (pc := 10) (tgt := 14) (dc_L_isDigit_0.1.2.2.1) (by decide) ?_
      refine st_putN (pc := 14) g (dc_L_isDigit_0.2.1.1.1) fk_L_13 hO sg_ft_l ?_
      refine st_goto (pc := 17) (tgt := 23) (dc_L_isDigit_0.2.1.1.2) (by decide) ?_
      refine st_iconst (pc := 23) (z := 0) (dc_L_isDigit_0.2.2.1.2) (by decide) ?_
      refine st_iret (pc := 24) (dc_L_isDigit_0.2.2.2.1) rfl (by first | exact Nat.le_of_ble_eq_true rfl | omega) (by first | exact Nat.le_of_ble_eq_true rfl | omega) ?_
      exact hQ _ _ (jk_IO J1.1).1 (jk_Xt J1.2 (jk_IO J1.1).2) (jk_Ft F1 (jk_FO J1.1)) (fun q => absurd q nv) (fun _ => ⟨rfl, jk_ov (P := fun v => v = fn_isOf x 0) jk_oe (by first | exact hc | exact hc.1 | omega)⟩)
  · have J1 := jk_IY hI (ck_Yz (ck_Y0 hx) w1)
    have F1 : jk_F B h (z1, h.2) := jk_Fz
    refine st_KX 20 ⟨[], ⟨0, 17, 20, 21⟩, [], e_A, rfl, fun z hz => (nomatch hz), by decide, by decide, cl_L_21, ct_e_A, rfl⟩ (fun q1 => ?_)
    refine st_astore_n (pc := 20) (j := 3) (dc_L_isDigit_0.2.1.2.1) rfl (by decide) ?_
    refine st_iconst (pc := 21) (z := 1) (dc_L_isDigit_0.2.1.2.2) (by decide) ?_
    refine st_iret (pc := 22) (dc_L_isDigit_0.2.2.1.1) rfl (by first | exact Nat.le_of_ble_eq_true rfl | omega) (by first | exact Nat.le_of_ble_eq_true rfl | omega) ?_
    exact hQ _ _ J1.1 J1.2 F1 (fun _ => rfl) (fun q => absurd t1 q)

set_option maxRecDepth 100000 in
theorem s_L_isLetter {w : sg_W} {Q : sg_O → sg_H → Prop} {h : sg_H} (g : sg_G w) {d : Nat} (nc : jk_C w) (hd : 15 ≤ d) {B M O S : Nat} {xs : List Int} (hI : jk_I w B M O S xs h) {x : Int} (hQ : ∀ (v : Int) (h' : sg_H), jk_I w B M O S xs h' → jk_X (jk_cut B h) (jk_cut B h') → jk_F B h h' → ((x < 0 ∨ 255 < x) → v = 1) → (¬ (x < 0 ∨ 255 < x) → v = 0 ∧ (jk_o h' O) = fn_isOf x 1) → Q (.inl (some (sg_i v))) h') : sg_D w mi_L_isLetter hh_L_isLetter d 8 48 [sg_r B, sg_i x, sg_r O] h Q := by
  refine st_of pn_L cb_L_isLetter g (Nat.le_of_ble_eq_true rfl) ?_
  have hx := hI.2.2.1
  obtain ⟨us, hob⟩ := ck_oc hx
  refine st_aload_n (pc := 0) (j := 2) (dc_L_isLetter_0.1.1.1.1) rfl rfl ?_
  refine st_aload_n (pc := 1) (j := 0) (dc_L_isLetter_0.1.1.1.2) rfl rfl ?_
  refine st_iload_n (pc := 2) (j := 1) (dc_L_isLetter_0.1.1.2.1) rfl rfl ?_
  refine st_callV (mi' := mi_X5_isLetter) (as := [sg_i x]) (rest := [sg_r O]) (t := 6) (b := B) (d' := d - 1) (mc' := 8) (ms' := 48) g (dc_L_isLetter_0.1.1.2.2) cb_X5_isLetter ml_L_82 mn_X5_isLetter mv_X5_isLetter rfl (by decide) rfl hob rfl (Nat.le_of_ble_eq_true rfl) (by omega) (by omega) (by omega) ?_
  refine s_X5_isLetter g (by first | exact jl_d1 hd rfl | omega) (fun v nv hc => st_K1 ?_) (fun t1 z1 w1 => ?_)
  · have J1 : jk_I w B M O S xs h ∧ jk_X (jk_cut B h) (jk_cut B h) := ⟨hI, jk_X0⟩
    have F1 : jk_F B h h := jk_F0
    obtain ⟨z0, r0, hO⟩ := J1.1.2.2.2.2.2.2.2.2.1
    refine st_if_eq (pc := 6) (tgt := 13) (dc_L_isLetter_0.1.2.1.1) (by decide) (fun c6 => ?_) (fun c6 => ?_)
    · refine st_lconst (pc := 13) (z := 0) (dc_L_isLetter_0.1.2.2.2) (by decide) ?_
      refine st_putN (pc := 14) g (dc_L_isLetter_0.2.1.1.1) fk_L_13 hO sg_ft_l ?_
      refine st_goto (pc := 17) (tgt := 23) (dc_L_isLetter_0.2.1.1.2) (by decide) ?_
      refine st_iconst (pc := 23) (z := 0) (dc_L_isLetter_0.2.2.1.2) (by decide) ?_
      refine st_iret (pc := 24) (dc_L_isLetter_0.2.2.2.1) rfl (by first | exact Nat.le_of_ble_eq_true rfl | omega) (by first | exact Nat.le_of_ble_eq_true rfl | omega) ?_
      exact hQ _ _ (jk_IO J1.1).1 (jk_Xt J1.2 (jk_IO J1.1).2) (jk_Ft F1 (jk_FO J1.1)) (fun q => absurd q nv) (fun _ => ⟨rfl, jk_ov (P := fun v => v = fn_isOf x 1) jk_oe (by first | exact hc | exact hc.1 | omega)⟩)
    · refine st_lconst (pc := 9) (z := 1) (dc_L_isLetter_0.1.2.1.2) (by decide) ?_
      refine st_goto (pc := 10) (tgt := 14) (dc_L_isLetter_0.1.2.2.1) (by decide) ?_
      refine st_putN (pc := 14) g (dc_L_isLetter_0.2.1.1.1) fk_L_13 hO sg_ft_l ?_
      refine st_goto (pc := 17) (tgt := 23) (dc_L_isLetter_0.2.1.1.2) (by decide) ?_
      refine st_iconst (pc := 23) (z := 0) (dc_L_isLetter_0.2.2.1.2) (by decide) ?_
      refine st_iret (pc := 24) (dc_L_isLetter_0.2.2.2.1) rfl (by first | exact Nat.le_of_ble_eq_true rfl | omega) (by first | exact Nat.le_of_ble_eq_true rfl | omega) ?_
      exact hQ _ _ (jk_IO J1.1).1 (jk_Xt J1.2 (jk_IO J1.1).2) (jk_Ft F1 (jk_FO J1.1)) (fun q => absurd q nv) (fun _ => ⟨rfl, jk_ov (P := fun v => v = fn_isOf x 1) jk_oe (by first | exact hc | exact hc.1 | omega)⟩)
  · have J1 := jk_IY hI (ck_Yz (ck_Y0 hx) w1)
    have F1 : jk_F B h (z1, h.2) := jk_Fz
    refine st_KX 20 ⟨[], ⟨0, 17, 20, 21⟩, [], e_A, rfl, fun z hz => (nomatch hz), by decide, by decide, cl_L_21, ct_e_A, rfl⟩ (fun q1 => ?_)
    refine st_astore_n (pc := 20) (j := 3) (dc_L_isLetter_0.2.1.2.1) rfl (by decide) ?_
    refine st_iconst (pc := 21) (z := 1) (dc_L_isLetter_0.2.1.2.2) (by decide) ?_
    refine st_iret (pc := 22) (dc_L_isLetter_0.2.2.1.1) rfl (by first | exact Nat.le_of_ble_eq_true rfl | omega) (by first | exact Nat.le_of_ble_eq_true rfl | omega) ?_
    exact hQ _ _ J1.1 J1.2 F1 (fun _ => rfl) (fun q => absurd t1 q)

set_option maxRecDepth 100000 in
theorem s_L_isLetterOrDigit {w : sg_W} {Q : sg_O → sg_H → Prop} {h : sg_H} (g : sg_G w) {d : Nat} (nc : jk_C w) (hd : 15 ≤ d) {B M O S : Nat} {xs : List Int} (hI : jk_I w B M O S xs h) {x : Int} (hQ : ∀ (v : Int) (h' : sg_H), jk_I w B M O S xs h' → jk_X (jk_cut B h) (jk_cut B h') → jk_F B h h' → ((x < 0 ∨ 255 < x) → v = 1) → (¬ (x < 0 ∨ 255 < x) → v = 0 ∧ (jk_o h' O) = fn_isOf x 2) → Q (.inl (some (sg_i v))) h') : sg_D w mi_L_isLetterOrDigit hh_L_isLetterOrDigit d 8 48 [sg_r B, sg_i x, sg_r O] h Q := by
  refine st_of pn_L cb_L_isLetterOrDigit g (Nat.le_of_ble_eq_true rfl) ?_
  have hx := hI.2.2.1
  obtain ⟨us, hob⟩ := ck_oc hx
  refine st_aload_n (pc := 0) (j := 2) (dc_L_isLetterOrDigit_0.1.1.1.1) rfl rfl ?_
  refine st_aload_n (pc := 1) (j := 0) (dc_L_isLetterOrDigit_0.1.1.1.2) rfl rfl ?_
  refine st_iload_n (pc := 2) (j := 1) (dc_L_isLetterOrDigit_0.1.1.2.1) rfl rfl ?_
  refine st_callV (mi' := mi_X5_isLetterOrDigit) (as := [sg_i x]) (rest := [sg_r O]) (t := 6) (b := B) (d' := d - 1) (mc' := 8) (ms' := 48) g (dc_L_isLetterOrDigit_0.1.1.2.2) cb_X5_isLetterOrDigit ml_L_85 mn_X5_isLetterOrDigit mv_X5_isLetterOrDigit rfl (by decide) rfl hob rfl (Nat.le_of_ble_eq_true rfl) (by omega) (by omega) (by omega) ?_
  refine s_X5_isLetterOrDigit g (by first | exact jl_d1 hd rfl | omega) (fun v nv hc => st_K1 ?_) (fun t1 z1 w1 => ?_)
  · have J1 : jk_I w B M O S xs h ∧ jk_X (jk_cut B h) (jk_cut B h) := ⟨hI, jk_X0⟩
    have F1 : jk_F B h h := jk_F0
    obtain ⟨z0, r0, hO⟩ := J1.1.2.2.2.2.2.2.2.2.1
    refine st_if_eq (pc := 6) (tgt := 13) (dc_L_isLetterOrDigit_0.1.2.1.1) (by decide) (fun c6 => ?_) (fun c6 => ?_)
    · refine st_lconst (pc := 13) (z := 0) (dc_L_isLetterOrDigit_0.1.2.2.2) (by decide) ?_
      refine st_putN (pc := 14) g (dc_L_isLetterOrDigit_0.2.1.1.1) fk_L_13 hO sg_ft_l ?_
      refine st_goto (pc := 17) (tgt := 23) (dc_L_isLetterOrDigit_0.2.1.1.2) (by decide) ?_
      refine st_iconst (pc := 23) (z := 0) (dc_L_isLetterOrDigit_0.2.2.1.2) (by decide) ?_
      refine st_iret (pc := 24) (dc_L_isLetterOrDigit_0.2.2.2.1) rfl (by first | exact Nat.le_of_ble_eq_true rfl | omega) (by first | exact Nat.le_of_ble_eq_true rfl | omega) ?_
      exact hQ _ _ (jk_IO J1.1).1 (jk_Xt J1.2 (jk_IO J1.1).2) (jk_Ft F1 (jk_FO J1.1)) (fun q => absurd q nv) (fun _ => ⟨rfl, jk_ov (P := fun v => v = fn_isOf x 2) jk_oe (by first | exact hc | exact hc.1 | omega)⟩)
    · refine st_lconst (pc := 9) (z := 1) (dc_L_isLetterOrDigit_0.1.2.1.2) (by decide) ?_
      refine st_goto (pc := 10) (tgt := 14) (dc_L_isLetterOrDigit_0.1.2.2.1) (by decide) ?_
      refine st_putN (pc := 14) g (dc_L_isLetterOrDigit_0.2.1.1.1) fk_L_13 hO sg_ft_l ?_
      refine st_goto (pc := 17) (tgt := 23) (dc_L_isLetterOrDigit_0.2.1.1.2) (by decide) ?_
      refine st_iconst (pc := 23) (z := 0) (dc_L_isLetterOrDigit_0.2.2.1.2) (by decide) ?_
      refine st_iret (pc := 24) (dc_L_isLetterOrDigit_0.2.2.2.1) rfl (by first | exact Nat.le_of_ble_eq_true rfl | omega) (by first | exact Nat.le_of_ble_eq_true rfl | omega) ?_
      exact hQ _ _ (jk_IO J1.1).1 (jk_Xt J1.2 (jk_IO J1.1).2) (jk_Ft F1 (jk_FO J1.1)) (fun q => absurd q nv) (fun _ => ⟨rfl, jk_ov (P := fun v => v = fn_isOf x 2) jk_oe (by first | exact hc | exact hc.1 | omega)⟩)
  · have J1 := jk_IY hI (ck_Yz (ck_Y0 hx) w1)
    have F1 : jk_F B h (z1, h.2) := jk_Fz
    refine st_KX 20 ⟨[], ⟨0, 17, 20, 21⟩, [], e_A, rfl, fun z hz => (nomatch hz), by decide, by decide, cl_L_21, ct_e_A, rfl⟩ (fun q1 => ?_)
    refine st_astore_n (pc := 20) (j := 3) (dc_L_isLetterOrDigit_0.2.1.2.1) rfl (by decide) ?_
    refine st_iconst (pc := 21) (z := 1) (dc_L_isLetterOrDigit_0.2.1.2.2) (by decide) ?_
    refine st_iret (pc := 22) (dc_L_isLetterOrDigit_0.2.2.1.1) rfl (by first | exact Nat.le_of_ble_eq_true rfl | omega) (by first | exact Nat.le_of_ble_eq_true rfl | omega) ?_
    exact hQ _ _ J1.1 J1.2 F1 (fun _ => rfl) (fun q => absurd t1 q)

set_option maxRecDepth 100000 in
theorem s_L_isWhite {w : sg_W} {Q : sg_O → sg_H → Prop} {h : sg_H} (g : sg_G w) {d : Nat} (nc : jk_C w) (hd : 15 ≤ d) {B M O S : Nat} {xs : List Int} (hI : jk_I w B M O S xs h) {x : Int} (hQ : ∀ (v : Int) (h' : sg_H), jk_I w B M O S xs h' → jk_X (jk_cut B h) (jk_cut B h') → jk_F B h h' → ((x < 0 ∨ 255 < x) → v = 1) → (¬ (x < 0 ∨ 255 < x) → v = 0 ∧ (jk_o h' O) = fn_isOf x 3) → Q (.inl (some (sg_i v))) h') : sg_D w mi_L_isWhite hh_L_isWhite d 8 48 [sg_r B, sg_i x, sg_r O] h Q := by
  refine st_of pn_L cb_L_isWhite g (Nat.le_of_ble_eq_true rfl) ?_
  have hx := hI.2.2.1
  obtain ⟨us, hob⟩ := ck_oc hx
  refine st_aload_n (pc := 0) (j := 2) (dc_L_isWhite_0.1.1.1.1) rfl rfl ?_
  refine st_aload_n (pc := 1) (j := 0) (dc_L_isWhite_0.1.1.1.2) rfl rfl ?_
  refine st_iload_n (pc := 2) (j := 1) (dc_L_isWhite_0.1.1.2.1) rfl rfl ?_
  refine st_callV (mi' := mi_X5_isWhite) (as := [sg_i x]) (rest := [sg_r O]) (t := 6) (b := B) (d' := d - 1) (mc' := 8) (ms' := 48) g (dc_L_isWhite_0.1.1.2.2) cb_X5_isWhite ml_L_88 mn_X5_isWhite mv_X5_isWhite rfl (by decide) rfl hob rfl (Nat.le_of_ble_eq_true rfl) (by omega) (by omega) (by omega) ?_
  refine s_X5_isWhite g (by first | exact jl_d1 hd rfl | omega) (fun v nv hc => st_K1 ?_) (fun t1 z1 w1 => ?_)
  · have J1 : jk_I w B M O S xs h ∧ jk_X (jk_cut B h) (jk_cut B h) := ⟨hI, jk_X0⟩
    have F1 : jk_F B h h := jk_F0
    obtain ⟨z0, r0, hO⟩ := J1.1.2.2.2.2.2.2.2.2.1
    refine st_if_eq (pc := 6) (tgt := 13) (dc_L_isWhite_0.1.2.1.1) (by decide) (fun c6 => ?_) (fun c6 => ?_)
    · refine st_lconst (pc := 13) (z := 0) (dc_L_isWhite_0.1.2.2.2) (by decide) ?_
      refine st_putN (pc := 14) g (dc_L_isWhite_0.2.1.1.1) fk_L_13 hO sg_ft_l ?_
      refine st_goto (pc := 17) (tgt := 23) (dc_L_isWhite_0.2.1.1.2) (by decide) ?_
      refine st_iconst (pc := 23) (z := 0) (dc_L_isWhite_0.2.2.1.2) (by decide) ?_
      refine st_iret (pc := 24) (dc_L_isWhite_0.2.2.2.1) rfl (by first | exact Nat.le_of_ble_eq_true rfl | omega) (by first | exact Nat.le_of_ble_eq_true rfl | omega) ?_
      exact hQ _ _ (jk_IO J1.1).1 (jk_Xt J1.2 (jk_IO J1.1).2) (jk_Ft F1 (jk_FO J1.1)) (fun q => absurd q nv) (fun _ => ⟨rfl, jk_ov (P := fun v => v = fn_isOf x 3) jk_oe (by first | exact hc | exact hc.1 | omega)⟩)
    · refine st_lconst (pc := 9) (z := 1) (dc_L_isWhite_0.1.2.1.2) (by decide) ?_
      refine st_goto (pc := 10) (tgt := 14) (dc_L_isWhite_0.1.2.2.1) (by decide) ?_
      refine st_putN (pc := 14) g (dc_L_isWhite_0.2.1.1.1) fk_L_13 hO sg_ft_l ?_
      refine st_goto (pc := 17) (tgt := 23) (dc_L_isWhite_0.2.1.1.2) (by decide) ?_
      refine st_iconst (pc := 23) (z := 0) (dc_L_isWhite_0.2.2.1.2) (by decide) ?_
      refine st_iret (pc := 24) (dc_L_isWhite_0.2.2.2.1) rfl (by first | exact Nat.le_of_ble_eq_true rfl | omega) (by first | exact Nat.le_of_ble_eq_true rfl | omega) ?_
      exact hQ _ _ (jk_IO J1.1).1 (jk_Xt J1.2 (jk_IO J1.1).2) (jk_Ft F1 (jk_FO J1.1)) (fun q => absurd q nv) (fun _ => ⟨rfl, jk_ov (P := fun v => v = fn_isOf x 3) jk_oe (by first | exact hc | exact hc.1 | omega)⟩)
  · have J1 := jk_IY hI (ck_Yz (ck_Y0 hx) w1)
    have F1 : jk_F B h (z1, h.2) := jk_Fz
    refine st_KX 20 ⟨[], ⟨0, 17, 20, 21⟩, [], e_A, rfl, fun z hz => (nomatch hz), by decide, by decide, cl_L_21, ct_e_A, rfl⟩ (fun q1 => ?_)
    refine st_astore_n (pc := 20) (j := 3) (dc_L_isWhite_0.2.1.2.1) rfl (by decide) ?_
    refine st_iconst (pc := 21) (z := 1) (dc_L_isWhite_0.2.1.2.2) (by decide) ?_
    refine st_iret (pc := 22) (dc_L_isWhite_0.2.2.1.1) rfl (by first | exact Nat.le_of_ble_eq_true rfl | omega) (by first | exact Nat.le_of_ble_eq_true rfl | omega) ?_
    exact hQ _ _ J1.1 J1.2 F1 (fun _ => rfl) (fun q => absurd t1 q)

set_option maxRecDepth 100000 in
theorem s_L_isGreat {w : sg_W} {Q : sg_O → sg_H → Prop} {h : sg_H} (g : sg_G w) {d : Nat} (nc : jk_C w) (hd : 15 ≤ d) {B M O S : Nat} {xs : List Int} (hI : jk_I w B M O S xs h) {x : Int} (hQ : ∀ (v : Int) (h' : sg_H), jk_I w B M O S xs h' → jk_X (jk_cut B h) (jk_cut B h') → jk_F B h h' → ((x < 0 ∨ 255 < x) → v = 1) → (¬ (x < 0 ∨ 255 < x) → v = 0 ∧ (jk_o h' O) = fn_isOf x 4) → Q (.inl (some (sg_i v))) h') : sg_D w mi_L_isGreat hh_L_isGreat d 8 48 [sg_r B, sg_i x, sg_r O] h Q := by
  refine st_of pn_L cb_L_isGreat g (Nat.le_of_ble_eq_true rfl) ?_
  have hx := hI.2.2.1
  obtain ⟨us, hob⟩ := ck_oc hx
  refine st_aload_n (pc := 0) (j := 2) (dc_L_isGreat_0.1.1.1.1) rfl rfl ?_
  refine st_aload_n (pc := 1) (j := 0) (dc_L_isGreat_0.1.1.1.2) rfl rfl ?_
  refine st_iload_n (pc := 2) (j := 1) (dc_L_isGreat_0.1.1.2.1) rfl rfl ?_
  refine st_callV (mi' := mi_X5_isGreat) (as := [sg_i x]) (rest := [sg_r O]) (t := 6) (b := B) (d' := d - 1) (mc' := 8) (ms' := 48) g (dc_L_isGreat_0.1.1.2.2) cb_X5_isGreat ml_L_91 mn_X5_isGreat mv_X5_isGreat rfl (by decide) rfl hob rfl (Nat.le_of_ble_eq_true rfl) (by omega) (by omega) (by omega) ?_
  refine s_X5_isGreat g (by first | exact jl_d1 hd rfl | omega) (fun v nv hc => st_K1 ?_) (fun t1 z1 w1 => ?_)
  · have J1 : jk_I w B M O S xs h ∧ jk_X (jk_cut B h) (jk_cut B h) := ⟨hI, jk_X0⟩
    have F1 : jk_F B h h := jk_F0
    obtain ⟨z0, r0, hO⟩ := J1.1.2.2.2.2.2.2.2.2.1
    refine st_if_eq (pc := 6) (tgt := 13) (dc_L_isGreat_0.1.2.1.1) (by decide) (fun c6 => ?_) (fun c6 => ?_)
    · refine st_lconst (pc := 13) (z := 0) (dc_L_isGreat_0.1.2.2.2) (by decide) ?_
      refine st_putN (pc := 14) g (dc_L_isGreat_0.2.1.1.1) fk_L_13 hO sg_ft_l ?_
      refine st_goto (pc := 17) (tgt := 23) (dc_L_isGreat_0.2.1.1.2) (by decide) ?_
      refine st_iconst (pc := 23) (z := 0) (dc_L_isGreat_0.2.2.1.2) (by decide) ?_
      refine st_iret (pc := 24) (dc_L_isGreat_0.2.2.2.1) rfl (by first | exact Nat.le_of_ble_eq_true rfl | omega) (by first | exact Nat.le_of_ble_eq_true rfl | omega) ?_
      exact hQ _ _ (jk_IO J1.1).1 (jk_Xt J1.2 (jk_IO J1.1).2) (jk_Ft F1 (jk_FO J1.1)) (fun q => absurd q nv) (fun _ => ⟨rfl, jk_ov (P := fun v => v = fn_isOf x 4) jk_oe (by first | exact hc | exact hc.1 | omega)⟩)
    · refine st_lconst (pc := 9) (z := 1) (dc_L_isGreat_0.1.2.1.2) (by decide) ?_
      refine st_goto (pc := 10) (tgt := 14) (dc_L_isGreat_0.1.2.2.1) (by decide) ?_
      refine st_putN (pc := 14) g (dc_L_isGreat_0.2.1.1.1) fk_L_13 hO sg_ft_l ?_
      refine st_goto (pc := 17) (tgt := 23) (dc_L_isGreat_0.2.1.1.2) (by decide) ?_
      refine st_iconst (pc := 23) (z := 0) (dc_L_isGreat_0.2.2.1.2) (by decide) ?_
      refine st_iret (pc := 24) (dc_L_isGreat_0.2.2.2.1) rfl (by first | exact Nat.le_of_ble_eq_true rfl | omega) (by first | exact Nat.le_of_ble_eq_true rfl | omega) ?_
      exact hQ _ _ (jk_IO J1.1).1 (jk_Xt J1.2 (jk_IO J1.1).2) (jk_Ft F1 (jk_FO J1.1)) (fun q => absurd q nv) (fun _ => ⟨rfl, jk_ov (P := fun v => v = fn_isOf x 4) jk_oe (by first | exact hc | exact hc.1 | omega)⟩)
  · have J1 := jk_IY hI (ck_Yz (ck_Y0 hx) w1)
    have F1 : jk_F B h (z1, h.2) := jk_Fz
    refine st_KX 20 ⟨[], ⟨0, 17, 20, 21⟩, [], e_A, rfl, fun z hz => (nomatch hz), by decide, by decide, cl_L_21, ct_e_A, rfl⟩ (fun q1 => ?_)
    refine st_astore_n (pc := 20) (j := 3) (dc_L_isGreat_0.2.1.2.1) rfl (by decide) ?_
    refine st_iconst (pc := 21) (z := 1) (dc_L_isGreat_0.2.1.2.2) (by decide) ?_
    refine st_iret (pc := 22) (dc_L_isGreat_0.2.2.1.1) rfl (by first | exact Nat.le_of_ble_eq_true rfl | omega) (by first | exact Nat.le_of_ble_eq_true rfl | omega) ?_
    exact hQ _ _ J1.1 J1.2 F1 (fun _ => rfl) (fun q => absurd t1 q)

set_option maxRecDepth 100000 in
theorem s_L_kinds {w : sg_W} {Q : sg_O → sg_H → Prop} {h : sg_H} (g : sg_G w) {d : Nat} (nc : jk_C w) (hd : 15 ≤ d) {B M O S : Nat} {xs : List Int} (hI : jk_I w B M O S xs h) {x : Int} (hQ : ∀ (v : Int) (h' : sg_H), jk_I w B M O S xs h' → jk_X (jk_cut B h) (jk_cut B h') → jk_F B h h' → ((x < 0 ∨ 255 < x) → v = 1) → (¬ (x < 0 ∨ 255 < x) → v = 0 ∧ (jk_o h' O) = fn_kinds x) → Q (.inl (some (sg_i v))) h') : sg_D w mi_L_kinds hh_L_kinds d 8 48 [sg_r B, sg_i x, sg_r O] h Q := by
  refine st_of pn_L cb_L_kinds g (Nat.le_of_ble_eq_true rfl) ?_
  have hx := hI.2.2.1
  obtain ⟨us, hob⟩ := ck_oc hx
  refine st_aload_n (pc := 0) (j := 2) (dc_L_kinds_0.1.1.1.1) rfl rfl ?_
  refine st_aload_n (pc := 1) (j := 0) (dc_L_kinds_0.1.1.1.2) rfl rfl ?_
  refine st_iload_n (pc := 2) (j := 1) (dc_L_kinds_0.1.1.2.1) rfl rfl ?_
  refine st_callV (mi' := mi_X5_kinds) (as := [sg_i x]) (rest := [sg_r O]) (t := 6) (b := B) (d' := d - 1) (mc' := 8) (ms' := 48) g (dc_L_kinds_0.1.1.2.2) cb_X5_kinds ml_L_94 mn_X5_kinds mv_X5_kinds rfl (by decide) rfl hob rfl (Nat.le_of_ble_eq_true rfl) (by omega) (by omega) (by omega) ?_
  refine s_X5_kinds g (by first | exact jl_d1 hd rfl | omega) (fun v nv hc => st_K1 ?_) (fun t1 z1 w1 => ?_)
  · have J1 : jk_I w B M O S xs h ∧ jk_X (jk_cut B h) (jk_cut B h) := ⟨hI, jk_X0⟩
    have F1 : jk_F B h h := jk_F0
    obtain ⟨z0, r0, hO⟩ := J1.1.2.2.2.2.2.2.2.2.1
    refine st_i2l (pc := 6) (dc_L_kinds_0.1.2.1.1) ?_
    refine st_putN (pc := 7) g (dc_L_kinds_0.1.2.1.2) fk_L_13 hO sg_ft_l ?_
    refine st_goto (pc := 10) (tgt := 16) (dc_L_kinds_0.1.2.2.1) (by decide) ?_
    refine st_iconst (pc := 16) (z := 0) (dc_L_kinds_0.2.1.2.1) (by decide) ?_
    refine st_iret (pc := 17) (dc_L_kinds_0.2.1.2.2) rfl (by first | exact Nat.le_of_ble_eq_true rfl | omega) (by first | exact Nat.le_of_ble_eq_true rfl | omega) ?_
    exact hQ _ _ (jk_IO J1.1).1 (jk_Xt J1.2 (jk_IO J1.1).2) (jk_Ft F1 (jk_FO J1.1)) (fun q => absurd q nv) (fun _ => ⟨rfl, jk_ov (P := fun v => v = fn_kinds x) jk_oe (by first | exact hc | exact hc.1 | omega)⟩)
  · have J1 := jk_IY hI (ck_Yz (ck_Y0 hx) w1)
    have F1 : jk_F B h (z1, h.2) := jk_Fz
    refine st_KX 13 ⟨[], ⟨0, 10, 13, 21⟩, [], e_A, rfl, fun z hz => (nomatch hz), by decide, by decide, cl_L_21, ct_e_A, rfl⟩ (fun q1 => ?_)
    refine st_astore_n (pc := 13) (j := 3) (dc_L_kinds_0.1.2.2.2) rfl (by decide) ?_
    refine st_iconst (pc := 14) (z := 1) (dc_L_kinds_0.2.1.1.1) (by decide) ?_
    refine st_iret (pc := 15) (dc_L_kinds_0.2.1.1.2) rfl (by first | exact Nat.le_of_ble_eq_true rfl | omega) (by first | exact Nat.le_of_ble_eq_true rfl | omega) ?_
    exact hQ _ _ J1.1 J1.2 F1 (fun _ => rfl) (fun q => absurd t1 q)

set_option maxRecDepth 100000 in
theorem s_L_upper {w : sg_W} {Q : sg_O → sg_H → Prop} {h : sg_H} (g : sg_G w) {d : Nat} (nc : jk_C w) (hd : 15 ≤ d) {B M O S : Nat} {xs : List Int} (hI : jk_I w B M O S xs h) {x c : Int} (hQ : ∀ (v : Int) (h' : sg_H), jk_I w B M O S xs h' → jk_X (jk_cut B h) (jk_cut B h') → jk_F B h h' → ((x < 0 ∨ 255 < x) → v = 1) → (¬ (x < 0 ∨ 255 < x) → v = 0 ∧ (jk_o h' O) = fn_upper x) → Q (.inl (some (sg_i v))) h') : sg_D w mi_L_upper hh_L_upper d 8 48 [sg_r B, sg_i x, sg_i c, sg_r O] h Q := by
  refine st_of pn_L cb_L_upper g (Nat.le_of_ble_eq_true rfl) ?_
  have hx := hI.2.2.1
  obtain ⟨us, hob⟩ := ck_oc hx
  refine st_aload_n (pc := 0) (j := 3) (dc_L_upper_0.1.1.1.1) rfl rfl ?_
  refine st_aload_n (pc := 1) (j := 0) (dc_L_upper_0.1.1.1.2) rfl rfl ?_
  refine st_iload_n (pc := 2) (j := 1) (dc_L_upper_0.1.1.2.1) rfl rfl ?_
  refine st_iload_n (pc := 3) (j := 2) (dc_L_upper_0.1.1.2.2) rfl rfl ?_
  refine st_callV (mi' := mi_X5_upper) (as := [sg_i x, sg_i c]) (rest := [sg_r O]) (t := 6) (b := B) (d' := d - 1) (mc' := 8) (ms' := 48) g (dc_L_upper_0.1.2.1.1) cb_X5_upper ml_L_97 mn_X5_upper mv_X5_upper rfl (by decide) rfl hob rfl (Nat.le_of_ble_eq_true rfl) (by omega) (by omega) (by omega) ?_
  refine s_X5_upper g (by first | exact jl_d1 hd rfl | omega) (fun v nv hc => st_K1 ?_) (fun t1 z1 w1 => ?_)
  · have J1 : jk_I w B M O S xs h ∧ jk_X (jk_cut B h) (jk_cut B h) := ⟨hI, jk_X0⟩
    have F1 : jk_F B h h := jk_F0
    obtain ⟨z0, r0, hO⟩ := J1.1.2.2.2.2.2.2.2.2.1
    refine st_i2l (pc := 7) (dc_L_upper_0.1.2.1.2) ?_
    refine st_putN (pc := 8) g (dc_L_upper_0.1.2.2.1) fk_L_13 hO sg_ft_l ?_
    refine st_goto (pc := 11) (tgt := 18) (dc_L_upper_0.1.2.2.2) (by decide) ?_
    refine st_iconst (pc := 18) (z := 0) (dc_L_upper_0.2.1.2.2) (by decide) ?_
    refine st_iret (pc := 19) (dc_L_upper_0.2.2.1.1) rfl (by first | exact Nat.le_of_ble_eq_true rfl | omega) (by first | exact Nat.le_of_ble_eq_true rfl | omega) ?_
    exact hQ _ _ (jk_IO J1.1).1 (jk_Xt J1.2 (jk_IO J1.1).2) (jk_Ft F1 (jk_FO J1.1)) (fun q => absurd q nv) (fun _ => ⟨rfl, jk_ov (P := fun v => v = fn_upper x) jk_oe (by first | exact hc | exact hc.1 | omega)⟩)
  · have J1 := jk_IY hI (ck_Yz (ck_Y0 hx) w1)
    have F1 : jk_F B h (z1, h.2) := jk_Fz
    refine st_KX 14 ⟨[], ⟨0, 11, 14, 21⟩, [], e_A, rfl, fun z hz => (nomatch hz), by decide, by decide, cl_L_21, ct_e_A, rfl⟩ (fun q1 => ?_)
    refine st_astore (pc := 14) (dc_L_upper_0.2.1.1.1) (by decide) ?_
    refine st_iconst (pc := 16) (z := 1) (dc_L_upper_0.2.1.1.2) (by decide) ?_
    refine st_iret (pc := 17) (dc_L_upper_0.2.1.2.1) rfl (by first | exact Nat.le_of_ble_eq_true rfl | omega) (by first | exact Nat.le_of_ble_eq_true rfl | omega) ?_
    exact hQ _ _ J1.1 J1.2 F1 (fun _ => rfl) (fun q => absurd t1 q)

set_option maxRecDepth 100000 in
theorem s_L_lower {w : sg_W} {Q : sg_O → sg_H → Prop} {h : sg_H} (g : sg_G w) {d : Nat} (nc : jk_C w) (hd : 15 ≤ d) {B M O S : Nat} {xs : List Int} (hI : jk_I w B M O S xs h) {x c : Int} (hQ : ∀ (v : Int) (h' : sg_H), jk_I w B M O S xs h' → jk_X (jk_cut B h) (jk_cut B h') → jk_F B h h' → ((x < 0 ∨ 255 < x) → v = 1) → (¬ (x < 0 ∨ 255 < x) → v = 0 ∧ (jk_o h' O) = fn_lower x) → Q (.inl (some (sg_i v))) h') : sg_D w mi_L_lower hh_L_lower d 8 48 [sg_r B, sg_i x, sg_i c, sg_r O] h Q := by
  refine st_of pn_L cb_L_lower g (Nat.le_of_ble_eq_true rfl) ?_
  have hx := hI.2.2.1
  obtain ⟨us, hob⟩ := ck_oc hx
  refine st_aload_n (pc := 0) (j := 3) (dc_L_lower_0.1.1.1.1) rfl rfl ?_
  refine st_aload_n (pc := 1) (j := 0) (dc_L_lower_0.1.1.1.2) rfl rfl ?_
  refine st_iload_n (pc := 2) (j := 1) (dc_L_lower_0.1.1.2.1) rfl rfl ?_
  refine st_iload_n (pc := 3) (j := 2) (dc_L_lower_0.1.1.2.2) rfl rfl ?_
  refine st_callV (mi' := mi_X5_lower) (as := [sg_i x, sg_i c]) (rest := [sg_r O]) (t := 6) (b := B) (d' := d - 1) (mc' := 8) (ms' := 48) g (dc_L_lower_0.1.2.1.1) cb_X5_lower ml_L_101 mn_X5_lower mv_X5_lower rfl (by decide) rfl hob rfl (Nat.le_of_ble_eq_true rfl) (by omega) (by omega) (by omega) ?_
  refine s_X5_lower g (by first | exact jl_d1 hd rfl | omega) (fun v nv hc => st_K1 ?_) (fun t1 z1 w1 => ?_)
  · have J1 : jk_I w B M O S xs h ∧ jk_X (jk_cut B h) (jk_cut B h) := ⟨hI, jk_X0⟩
    have F1 : jk_F B h h := jk_F0
    obtain ⟨z0, r0, hO⟩ := J1.1.2.2.2.2.2.2.2.2.1
    refine st_i2l (pc := 7) (dc_L_lower_0.1.2.1.2) ?_
    refine st_putN (pc := 8) g (dc_L_lower_0.1.2.2.1) fk_L_13 hO sg_ft_l ?_
    refine st_goto (pc := 11) (tgt := 18) (dc_L_lower_0.1.2.2.2) (by decide) ?_
    refine st_iconst (pc := 18) (z := 0) (dc_L_lower_0.2.1.2.2) (by decide) ?_
    refine st_iret (pc := 19) (dc_L_lower_0.2.2.1.1) rfl (by first | exact Nat.le_of_ble_eq_true rfl | omega) (by first | exact Nat.le_of_ble_eq_true rfl | omega) ?_
    exact hQ _ _ (jk_IO J1.1).1 (jk_Xt J1.2 (jk_IO J1.1).2) (jk_Ft F1 (jk_FO J1.1)) (fun q => absurd q nv) (fun _ => ⟨rfl, jk_ov (P := fun v => v = fn_lower x) jk_oe (by first | exact hc | exact hc.1 | omega)⟩)
  · have J1 := jk_IY hI (ck_Yz (ck_Y0 hx) w1)
    have F1 : jk_F B h (z1, h.2) := jk_Fz
    refine st_KX 14 ⟨[], ⟨0, 11, 14, 21⟩, [], e_A, rfl, fun z hz => (nomatch hz), by decide, by decide, cl_L_21, ct_e_A, rfl⟩ (fun q1 => ?_)
    refine st_astore (pc := 14) (dc_L_lower_0.2.1.1.1) (by decide) ?_
    refine st_iconst (pc := 16) (z := 1) (dc_L_lower_0.2.1.1.2) (by decide) ?_
    refine st_iret (pc := 17) (dc_L_lower_0.2.1.2.1) rfl (by first | exact Nat.le_of_ble_eq_true rfl | omega) (by first | exact Nat.le_of_ble_eq_true rfl | omega) ?_
    exact hQ _ _ J1.1 J1.2 F1 (fun _ => rfl) (fun q => absurd t1 q)

set_option maxRecDepth 100000 in
theorem s_L_value {w : sg_W} {Q : sg_O → sg_H → Prop} {h : sg_H} (g : sg_G w) {d : Nat} (nc : jk_C w) (hd : 15 ≤ d) {B M O S : Nat} {xs : List Int} (hI : jk_I w B M O S xs h) {x c : Int} (hQ : ∀ (v : Int) (h' : sg_H), jk_I w B M O S xs h' → jk_X (jk_cut B h) (jk_cut B h') → jk_F B h h' → ((x < 0 ∨ 255 < x) → v = 1) → (¬ (x < 0 ∨ 255 < x) → v = 0 ∧ (jk_o h' O) = fn_val x) → Q (.inl (some (sg_i v))) h') : sg_D w mi_L_value hh_L_value d 8 48 [sg_r B, sg_i x, sg_i c, sg_r O] h Q := by
  refine st_of pn_L cb_L_value g (Nat.le_of_ble_eq_true rfl) ?_
  have hx := hI.2.2.1
  obtain ⟨us, hob⟩ := ck_oc hx
  refine st_aload_n (pc := 0) (j := 3) (dc_L_value_0.1.1.1.1) rfl rfl ?_
  refine st_aload_n (pc := 1) (j := 0) (dc_L_value_0.1.1.1.2) rfl rfl ?_
  refine st_iload_n (pc := 2) (j := 1) (dc_L_value_0.1.1.2.1) rfl rfl ?_
  refine st_iload_n (pc := 3) (j := 2) (dc_L_value_0.1.1.2.2) rfl rfl ?_
  refine st_callV (mi' := mi_X5_value) (as := [sg_i x, sg_i c]) (rest := [sg_r O]) (t := 6) (b := B) (d' := d - 1) (mc' := 8) (ms' := 48) g (dc_L_value_0.1.2.1.1) cb_X5_value ml_L_104 mn_X5_value mv_X5_value rfl (by decide) rfl hob rfl (Nat.le_of_ble_eq_true rfl) (by omega) (by omega) (by omega) ?_
  refine s_X5_value g (by first | exact jl_d1 hd rfl | omega) (fun v nv hc => st_K1 ?_) (fun t1 z1 w1 => ?_)
  · have J1 : jk_I w B M O S xs h ∧ jk_X (jk_cut B h) (jk_cut B h) := ⟨hI, jk_X0⟩
    have F1 : jk_F B h h := jk_F0
    obtain ⟨z0, r0, hO⟩ := J1.1.2.2.2.2.2.2.2.2.1
    refine st_i2l (pc := 7) (dc_L_value_0.1.2.1.2) ?_
    refine st_putN (pc := 8) g (dc_L_value_0.1.2.2.1) fk_L_13 hO sg_ft_l ?_
    refine st_goto (pc := 11) (tgt := 18) (dc_L_value_0.1.2.2.2) (by decide) ?_
    refine st_iconst (pc := 18) (z := 0) (dc_L_value_0.2.1.2.2) (by decide) ?_
    refine st_iret (pc := 19) (dc_L_value_0.2.2.1.1) rfl (by first | exact Nat.le_of_ble_eq_true rfl | omega) (by first | exact Nat.le_of_ble_eq_true rfl | omega) ?_
    exact hQ _ _ (jk_IO J1.1).1 (jk_Xt J1.2 (jk_IO J1.1).2) (jk_Ft F1 (jk_FO J1.1)) (fun q => absurd q nv) (fun _ => ⟨rfl, jk_ov (P := fun v => v = fn_val x) jk_oe (by first | exact hc | exact hc.1 | omega)⟩)
  · have J1 := jk_IY hI (ck_Yz (ck_Y0 hx) w1)
    have F1 : jk_F B h (z1, h.2) := jk_Fz
    refine st_KX 14 ⟨[], ⟨0, 11, 14, 21⟩, [], e_A, rfl, fun z hz => (nomatch hz), by decide, by decide, cl_L_21, ct_e_A, rfl⟩ (fun q1 => ?_)
    refine st_astore (pc := 14) (dc_L_value_0.2.1.1.1) (by decide) ?_
    refine st_iconst (pc := 16) (z := 1) (dc_L_value_0.2.1.1.2) (by decide) ?_
    refine st_iret (pc := 17) (dc_L_value_0.2.1.2.1) rfl (by first | exact Nat.le_of_ble_eq_true rfl | omega) (by first | exact Nat.le_of_ble_eq_true rfl | omega) ?_
    exact hQ _ _ J1.1 J1.2 F1 (fun _ => rfl) (fun q => absurd t1 q)

set_option maxRecDepth 100000 in
theorem s_L_number {w : sg_W} {Q : sg_O → sg_H → Prop} {h : sg_H} (g : sg_G w) {d : Nat} (nc : jk_C w) (hd : 15 ≤ d) {B M O S : Nat} {xs : List Int} (hI : jk_I w B M O S xs h) {x r c : Int} (hQ : ∀ (v : Int) (h' : sg_H), jk_I w B M O S xs h' → jk_X (jk_cut B h) (jk_cut B h') → jk_F B h h' → ((x < 0 ∨ 255 < x) → v = 1) → (¬ (x < 0 ∨ 255 < x) → v = 0 ∧ (jk_o h' O) = fn_num x r) → Q (.inl (some (sg_i v))) h') : sg_D w mi_L_number hh_L_number d 8 48 [sg_r B, sg_i x, sg_i r, sg_i c, sg_r O] h Q := by
  refine st_of pn_L cb_L_number g (Nat.le_of_ble_eq_true rfl) ?_
  have hx := hI.2.2.1
  obtain ⟨us, hob⟩ := ck_oc hx
  refine st_aload (pc := 0) (dc_L_number_0.1.1.1.1) rfl ?_
  refine st_aload_n (pc := 2) (j := 0) (dc_L_number_0.1.1.1.2) rfl rfl ?_
  refine st_iload_n (pc := 3) (j := 1) (dc_L_number_0.1.1.2.1) rfl rfl ?_
  refine st_iload_n (pc := 4) (j := 2) (dc_L_number_0.1.1.2.2) rfl rfl ?_
  refine st_iload_n (pc := 5) (j := 3) (dc_L_number_0.1.2.1.1) rfl rfl ?_
  refine st_callV (mi' := mi_X5_number) (as := [sg_i x, sg_i r, sg_i c]) (rest := [sg_r O]) (t := 6) (b := B) (d' := d - 1) (mc' := 8) (ms' := 48) g (dc_L_number_0.1.2.1.2) cb_X5_number ml_L_107 mn_X5_number mv_X5_number rfl (by decide) rfl hob rfl (Nat.le_of_ble_eq_true rfl) (by omega) (by omega) (by omega) ?_
  refine s_X5_number g (by first | exact jl_d1 hd rfl | omega) (fun v nv hc => st_K1 ?_) (fun t1 z1 w1 => ?_)
  · have J1 : jk_I w B M O S xs h ∧ jk_X (jk_cut B h) (jk_cut B h) := ⟨hI, jk_X0⟩
    have F1 : jk_F B h h := jk_F0
    obtain ⟨z0, r0, hO⟩ := J1.1.2.2.2.2.2.2.2.2.1
    refine st_i2l (pc := 9) (dc_L_number_0.1.2.2.1) ?_
    refine st_putN (pc := 10) g (dc_L_number_0.1.2.2.2) fk_L_13 hO sg_ft_l ?_
    refine st_goto (pc := 13) (tgt := 20) (dc_L_number_0.2.1.1.1) (by decide) ?_
    refine st_iconst (pc := 20) (z := 0) (dc_L_number_0.2.2.1.1) (by decide) ?_
    refine st_iret (pc := 21) (dc_L_number_0.2.2.1.2) rfl (by first | exact Nat.le_of_ble_eq_true rfl | omega) (by first | exact Nat.le_of_ble_eq_true rfl | omega) ?_
    exact hQ _ _ (jk_IO J1.1).1 (jk_Xt J1.2 (jk_IO J1.1).2) (jk_Ft F1 (jk_FO J1.1)) (fun q => absurd q nv) (fun _ => ⟨rfl, jk_ov (P := fun v => v = fn_num x r) jk_oe (by first | exact hc | exact hc.1 | omega)⟩)
  · have J1 := jk_IY hI (ck_Yz (ck_Y0 hx) w1)
    have F1 : jk_F B h (z1, h.2) := jk_Fz
    refine st_KX 16 ⟨[], ⟨0, 13, 16, 21⟩, [], e_A, rfl, fun z hz => (nomatch hz), by decide, by decide, cl_L_21, ct_e_A, rfl⟩ (fun q1 => ?_)
    refine st_astore (pc := 16) (dc_L_number_0.2.1.1.2) (by decide) ?_
    refine st_iconst (pc := 18) (z := 1) (dc_L_number_0.2.1.2.1) (by decide) ?_
    refine st_iret (pc := 19) (dc_L_number_0.2.1.2.2) rfl (by first | exact Nat.le_of_ble_eq_true rfl | omega) (by first | exact Nat.le_of_ble_eq_true rfl | omega) ?_
    exact hQ _ _ J1.1 J1.2 F1 (fun _ => rfl) (fun q => absurd t1 q)

set_option maxRecDepth 100000 in
theorem s_L_forms {w : sg_W} {Q : sg_O → sg_H → Prop} {h : sg_H} (g : sg_G w) {d : Nat} (nc : jk_C w) (hJ : jz w) (hd : 13 ≤ d) {B M O S : Nat} {xs : List Int} (hI : jk_I w B M O S xs h) {row : Int} (hQ : ∀ (v : Int) (h' : sg_H), jk_I w B M O S xs h' → jk_X (jk_cut B h) (jk_cut B h') → jk_F B h h' → Q (.inl (some (sg_i v))) h') : sg_D w mi_L_forms hh_L_forms d 6 168 [sg_r B, sg_i row, sg_r O] h Q := by
  refine st_of pn_L cb_L_forms g (Nat.le_of_ble_eq_true rfl) ?_
  refine st_frs (fun hf => ?_)
  have hx := hI.2.2.1
  obtain ⟨us, hob⟩ := ck_oc hx
  refine st_aload_n (pc := 0) (j := 2) (dc_L_forms_0.1.1.1.1) rfl rfl ?_
  refine st_aload_n (pc := 1) (j := 0) (dc_L_forms_0.1.1.1.2) rfl rfl ?_
  refine st_iload_n (pc := 2) (j := 1) (dc_L_forms_0.1.1.2.1) rfl rfl ?_
  refine st_callV (mi' := mi_X5_forms) (as := [sg_i row]) (rest := [sg_r O]) (t := 6) (b := B) (d' := d - 1) (mc' := 6) (ms' := 168) g (dc_L_forms_0.1.1.2.2) cb_X5_forms ml_L_125 mn_X5_forms mv_X5_forms rfl (by decide) rfl hob rfl (Nat.le_of_ble_eq_true rfl) (by omega) (by omega) (by omega) ?_
  refine s_X5_forms g (by first | exact jl_d1 hd rfl | omega) hJ hx (fun a h1 E1 x1 => st_K1 ?_) (fun t1 z1 w1 => ?_)
  · have J1 := jk_IE hI hf E1 x1
    have F1 : jk_F B h h1 := fun q p1 p2 => E1.2 q (by have := hI.2.1; omega)
    obtain ⟨z0, r0, hO⟩ := J1.1.2.2.2.2.2.2.2.2.1
    refine st_putN (pc := 6) g (dc_L_forms_0.1.2.1.1) fk_L_129 hO sg_ft_o ?_
    refine st_goto (pc := 9) (tgt := 15) (dc_L_forms_0.1.2.1.2) (by decide) ?_
    refine st_iconst (pc := 15) (z := 0) (dc_L_forms_0.2.1.1.2) (by decide) ?_
    refine st_iret (pc := 16) (dc_L_forms_0.2.1.2.1) rfl (by first | exact Nat.le_of_ble_eq_true rfl | omega) (by first | exact Nat.le_of_ble_eq_true rfl | omega) ?_
    exact hQ _ _ (jk_IO J1.1).1 (jk_Xt J1.2 (jk_IO J1.1).2) (jk_Ft F1 (jk_FO J1.1))
  · have J1 := jk_IY hI (ck_Yz (ck_Y0 hx) w1)
    have F1 : jk_F B h (z1, h.2) := jk_Fz
    refine st_KX 12 ⟨[], ⟨0, 9, 12, 19⟩, [], e_I, rfl, fun z hz => (nomatch hz), by decide, by decide, cl_L_19, ct_e_I, rfl⟩ (fun q1 => ?_)
    refine st_astore_n (pc := 12) (j := 3) (dc_L_forms_0.1.2.2.1) rfl (by decide) ?_
    refine st_iconst (pc := 13) (z := 1) (dc_L_forms_0.1.2.2.2) (by decide) ?_
    refine st_iret (pc := 14) (dc_L_forms_0.2.1.1.1) rfl (by first | exact Nat.le_of_ble_eq_true rfl | omega) (by first | exact Nat.le_of_ble_eq_true rfl | omega) ?_
    exact hQ _ _ J1.1 J1.2 F1

set_option maxRecDepth 100000 in
theorem s_L_spelled {w : sg_W} {Q : sg_O → sg_H → Prop} {h : sg_H} (g : sg_G w) {d : Nat} (nc : jk_C w) (hJ : jz w) (hd : 13 ≤ d) {B M O S : Nat} {xs : List Int} (hI : jk_I w B M O S xs h) {row : Int} (hQ : ∀ (v : Int) (h' : sg_H), jk_I w B M O S xs h' → jk_X (jk_cut B h) (jk_cut B h') → jk_F B h h' → Q (.inl (some (sg_i v))) h') : sg_D w mi_L_spelled hh_L_spelled d 7 350 [sg_r B, sg_i row, sg_r O] h Q := by
  refine st_of pn_L cb_L_spelled g (Nat.le_of_ble_eq_true rfl) ?_
  refine st_frs (fun hf => ?_)
  have hx := hI.2.2.1
  obtain ⟨us, hob⟩ := ck_oc hx
  refine st_aload_n (pc := 0) (j := 2) (dc_L_spelled_0.1.1.1.1) rfl rfl ?_
  refine st_aload_n (pc := 1) (j := 0) (dc_L_spelled_0.1.1.1.2) rfl rfl ?_
  refine st_iload_n (pc := 2) (j := 1) (dc_L_spelled_0.1.1.2.1) rfl rfl ?_
  refine st_callV (mi' := mi_X5_spelled) (as := [sg_i row]) (rest := [sg_r O]) (t := 6) (b := B) (d' := d - 1) (mc' := 7) (ms' := 350) g (dc_L_spelled_0.1.1.2.2) cb_X5_spelled ml_L_133 mn_X5_spelled mv_X5_spelled rfl (by decide) rfl hob rfl (Nat.le_of_ble_eq_true rfl) (by omega) (by omega) (by omega) ?_
  refine s_X5_spelled g (by first | exact jl_d1 hd rfl | omega) hJ hx (fun a h1 E1 x1 => st_K1 ?_) (fun t1 z1 w1 => ?_)
  · have J1 := jk_IE hI hf E1 x1
    have F1 : jk_F B h h1 := fun q p1 p2 => E1.2 q (by have := hI.2.1; omega)
    obtain ⟨z0, r0, hO⟩ := J1.1.2.2.2.2.2.2.2.2.1
    refine st_putN (pc := 6) g (dc_L_spelled_0.1.2.1.1) fk_L_129 hO sg_ft_o ?_
    refine st_goto (pc := 9) (tgt := 15) (dc_L_spelled_0.1.2.1.2) (by decide) ?_
    refine st_iconst (pc := 15) (z := 0) (dc_L_spelled_0.2.1.1.2) (by decide) ?_
    refine st_iret (pc := 16) (dc_L_spelled_0.2.1.2.1) rfl (by first | exact Nat.le_of_ble_eq_true rfl | omega) (by first | exact Nat.le_of_ble_eq_true rfl | omega) ?_
    exact hQ _ _ (jk_IO J1.1).1 (jk_Xt J1.2 (jk_IO J1.1).2) (jk_Ft F1 (jk_FO J1.1))
  · have J1 := jk_IY hI (ck_Yz (ck_Y0 hx) w1)
    have F1 : jk_F B h (z1, h.2) := jk_Fz
    refine st_KX 12 ⟨[], ⟨0, 9, 12, 19⟩, [], e_I, rfl, fun z hz => (nomatch hz), by decide, by decide, cl_L_19, ct_e_I, rfl⟩ (fun q1 => ?_)
    refine st_astore_n (pc := 12) (j := 3) (dc_L_spelled_0.1.2.2.1) rfl (by decide) ?_
    refine st_iconst (pc := 13) (z := 1) (dc_L_spelled_0.1.2.2.2) (by decide) ?_
    refine st_iret (pc := 14) (dc_L_spelled_0.2.1.1.1) rfl (by first | exact Nat.le_of_ble_eq_true rfl | omega) (by first | exact Nat.le_of_ble_eq_true rfl | omega) ?_
    exact hQ _ _ J1.1 J1.2 F1

set_option maxRecDepth 100000 in
theorem s_L_half {w : sg_W} {Q : sg_O → sg_H → Prop} {h : sg_H} (g : sg_G w) {d : Nat} (nc : jk_C w) (hd : 15 ≤ d) {B M O S : Nat} {xs : List Int} (hI : jk_I w B M O S xs h) {x p : Int} (hQ : ∀ (v : Int) (h' : sg_H), jk_I w B M O S xs h' → jk_X (jk_cut B h) (jk_cut B h') → jk_F B h h' → ((x < 65536 ∨ 1114111 < x) → v = 1) → (¬ (x < 65536 ∨ 1114111 < x) → v = 0 ∧ (jk_o h' O) = (if p = 0 then 56320 + (x - 65536) % 1024 else 55296 + (x - 65536) / 1024)) → Q (.inl (some (sg_i v))) h') : sg_D w mi_L_half hh_L_half d 8 48 [sg_r B, sg_i x, sg_i p, sg_r O] h Q := by
  refine st_of pn_L cb_L_half g (Nat.le_of_ble_eq_true rfl) ?_
  have hx := hI.2.2.1
  obtain ⟨us, hob⟩ := ck_oc hx
  refine st_aload_n (pc := 0) (j := 3) (dc_L_half_0.1.1.1.1) rfl rfl ?_
  refine st_aload_n (pc := 1) (j := 0) (dc_L_half_0.1.1.1.2) rfl rfl ?_
  refine st_iload_n (pc := 2) (j := 1) (dc_L_half_0.1.1.2.1) rfl rfl ?_
  refine st_iload_n (pc := 3) (j := 2) (dc_L_half_0.1.1.2.2) rfl rfl ?_
  refine st_callV (mi' := mi_X5_half) (as := [sg_i x, sg_i p]) (rest := [sg_r O]) (t := 6) (b := B) (d' := d - 1) (mc' := 8) (ms' := 48) g (dc_L_half_0.1.2.1.1) cb_X5_half ml_L_158 mn_X5_half mv_X5_half rfl (by decide) rfl hob rfl (Nat.le_of_ble_eq_true rfl) (by omega) (by omega) (by omega) ?_
  refine s_X5_half g (by first | exact jl_d1 hd rfl | omega) (fun v nv hc => st_K1 ?_) (fun t1 z1 w1 => ?_)
  · have J1 : jk_I w B M O S xs h ∧ jk_X (jk_cut B h) (jk_cut B h) := ⟨hI, jk_X0⟩
    have F1 : jk_F B h h := jk_F0
    obtain ⟨z0, r0, hO⟩ := J1.1.2.2.2.2.2.2.2.2.1
    refine st_i2l (pc := 7) (dc_L_half_0.1.2.1.2) ?_
    refine st_putN (pc := 8) g (dc_L_half_0.1.2.2.1) fk_L_13 hO sg_ft_l ?_
    refine st_goto (pc := 11) (tgt := 18) (dc_L_half_0.1.2.2.2) (by decide) ?_
    refine st_iconst (pc := 18) (z := 0) (dc_L_half_0.2.1.2.2) (by decide) ?_
    refine st_iret (pc := 19) (dc_L_half_0.2.2.1.1) rfl (by first | exact Nat.le_of_ble_eq_true rfl | omega) (by first | exact Nat.le_of_ble_eq_true rfl | omega) ?_
    exact hQ _ _ (jk_IO J1.1).1 (jk_Xt J1.2 (jk_IO J1.1).2) (jk_Ft F1 (jk_FO J1.1)) (fun q => absurd q nv) (fun _ => ⟨rfl, jk_ov (P := fun v => v = (if p = 0 then 56320 + (x - 65536) % 1024 else 55296 + (x - 65536) / 1024)) jk_oe (by first | exact hc | exact hc.1 | omega)⟩)
  · have J1 := jk_IY hI (ck_Yz (ck_Y0 hx) w1)
    have F1 : jk_F B h (z1, h.2) := jk_Fz
    refine st_KX 14 ⟨[], ⟨0, 11, 14, 21⟩, [], e_A, rfl, fun z hz => (nomatch hz), by decide, by decide, cl_L_21, ct_e_A, rfl⟩ (fun q1 => ?_)
    refine st_astore (pc := 14) (dc_L_half_0.2.1.1.1) (by decide) ?_
    refine st_iconst (pc := 16) (z := 1) (dc_L_half_0.2.1.1.2) (by decide) ?_
    refine st_iret (pc := 17) (dc_L_half_0.2.1.2.1) rfl (by first | exact Nat.le_of_ble_eq_true rfl | omega) (by first | exact Nat.le_of_ble_eq_true rfl | omega) ?_
    exact hQ _ _ J1.1 J1.2 F1 (fun _ => rfl) (fun q => absurd t1 q)

set_option maxRecDepth 100000 in
theorem s_L_code {w : sg_W} {Q : sg_O → sg_H → Prop} {h : sg_H} (g : sg_G w) {d : Nat} (nc : jk_C w) (hd : 15 ≤ d) {B M O S : Nat} {xs : List Int} (hI : jk_I w B M O S xs h) {x y : Int} (hQ : ∀ (v : Int) (h' : sg_H), jk_I w B M O S xs h' → jk_X (jk_cut B h) (jk_cut B h') → jk_F B h h' → ((x < 55296 ∨ 56320 ≤ x ∨ y < 56320 ∨ 57344 ≤ y) → v = 1) → (¬ (x < 55296 ∨ 56320 ≤ x ∨ y < 56320 ∨ 57344 ≤ y) → v = 0 ∧ (jk_o h' O) = 65536 + (x - 55296) * 1024 + (y - 56320)) → Q (.inl (some (sg_i v))) h') : sg_D w mi_L_code hh_L_code d 8 48 [sg_r B, sg_i x, sg_i y, sg_r O] h Q := by
  refine st_of pn_L cb_L_code g (Nat.le_of_ble_eq_true rfl) ?_
  have hx := hI.2.2.1
  obtain ⟨us, hob⟩ := ck_oc hx
  refine st_aload_n (pc := 0) (j := 3) (dc_L_code_0.1.1.1.1) rfl rfl ?_
  refine st_aload_n (pc := 1) (j := 0) (dc_L_code_0.1.1.1.2) rfl rfl ?_
  refine st_iload_n (pc := 2) (j := 1) (dc_L_code_0.1.1.2.1) rfl rfl ?_
  refine st_iload_n (pc := 3) (j := 2) (dc_L_code_0.1.1.2.2) rfl rfl ?_
  refine st_callV (mi' := mi_X5_code) (as := [sg_i x, sg_i y]) (rest := [sg_r O]) (t := 6) (b := B) (d' := d - 1) (mc' := 8) (ms' := 48) g (dc_L_code_0.1.2.1.1) cb_X5_code ml_L_161 mn_X5_code mv_X5_code rfl (by decide) rfl hob rfl (Nat.le_of_ble_eq_true rfl) (by omega) (by omega) (by omega) ?_
  refine s_X5_code g (by first | exact jl_d1 hd rfl | omega) (fun v nv hc => st_K1 ?_) (fun t1 z1 w1 => ?_)
  · have J1 : jk_I w B M O S xs h ∧ jk_X (jk_cut B h) (jk_cut B h) := ⟨hI, jk_X0⟩
    have F1 : jk_F B h h := jk_F0
    obtain ⟨z0, r0, hO⟩ := J1.1.2.2.2.2.2.2.2.2.1
    refine st_i2l (pc := 7) (dc_L_code_0.1.2.1.2) ?_
    refine st_putN (pc := 8) g (dc_L_code_0.1.2.2.1) fk_L_13 hO sg_ft_l ?_
    refine st_goto (pc := 11) (tgt := 18) (dc_L_code_0.1.2.2.2) (by decide) ?_
    refine st_iconst (pc := 18) (z := 0) (dc_L_code_0.2.1.2.2) (by decide) ?_
    refine st_iret (pc := 19) (dc_L_code_0.2.2.1.1) rfl (by first | exact Nat.le_of_ble_eq_true rfl | omega) (by first | exact Nat.le_of_ble_eq_true rfl | omega) ?_
    exact hQ _ _ (jk_IO J1.1).1 (jk_Xt J1.2 (jk_IO J1.1).2) (jk_Ft F1 (jk_FO J1.1)) (fun q => absurd q nv) (fun _ => ⟨rfl, jk_ov (P := fun v => v = 65536 + (x - 55296) * 1024 + (y - 56320)) jk_oe (by first | exact hc | exact hc.1 | omega)⟩)
  · have J1 := jk_IY hI (ck_Yz (ck_Y0 hx) w1)
    have F1 : jk_F B h (z1, h.2) := jk_Fz
    refine st_KX 14 ⟨[], ⟨0, 11, 14, 21⟩, [], e_A, rfl, fun z hz => (nomatch hz), by decide, by decide, cl_L_21, ct_e_A, rfl⟩ (fun q1 => ?_)
    refine st_astore (pc := 14) (dc_L_code_0.2.1.1.1) (by decide) ?_
    refine st_iconst (pc := 16) (z := 1) (dc_L_code_0.2.1.1.2) (by decide) ?_
    refine st_iret (pc := 17) (dc_L_code_0.2.1.2.1) rfl (by first | exact Nat.le_of_ble_eq_true rfl | omega) (by first | exact Nat.le_of_ble_eq_true rfl | omega) ?_
    exact hQ _ _ J1.1 J1.2 F1 (fun _ => rfl) (fun q => absurd t1 q)

set_option maxRecDepth 100000 in
theorem s_L_ofUnit {w : sg_W} {Q : sg_O → sg_H → Prop} {h : sg_H} (g : sg_G w) {d : Nat} (nc : jk_C w) (hd : 15 ≤ d) {B M O S : Nat} {xs : List Int} (hI : jk_I w B M O S xs h) {x what : Int} (hQ : ∀ (v : Int) (h' : sg_H), jk_I w B M O S xs h' → jk_X (jk_cut B h) (jk_cut B h') → jk_F B h h' → ((x < 0 ∨ 65536 ≤ x ∨ what < 0 ∨ 3 < what) → v = 1) → (¬ (x < 0 ∨ 65536 ≤ x ∨ what < 0 ∨ 3 < what) → v = 0 ∧ ((what = 0 → (jk_o h' O) = fn_half x) ∧ (what = 1 → (jk_o h' O) = fn_high x) ∧ (what = 2 → (jk_o h' O) = fn_low x) ∧ (what = 3 → (jk_o h' O) = x % 256 * 256 + x / 256))) → Q (.inl (some (sg_i v))) h') : sg_D w mi_L_ofUnit hh_L_ofUnit d 8 48 [sg_r B, sg_i x, sg_i what, sg_r O] h Q := by
  refine st_of pn_L cb_L_ofUnit g (Nat.le_of_ble_eq_true rfl) ?_
  have hx := hI.2.2.1
  obtain ⟨us, hob⟩ := ck_oc hx
  refine st_aload_n (pc := 0) (j := 3) (dc_L_ofUnit_0.1.1.1.1) rfl rfl ?_
  refine st_aload_n (pc := 1) (j := 0) (dc_L_ofUnit_0.1.1.1.2) rfl rfl ?_
  refine st_iload_n (pc := 2) (j := 1) (dc_L_ofUnit_0.1.1.2.1) rfl rfl ?_
  refine st_iload_n (pc := 3) (j := 2) (dc_L_ofUnit_0.1.1.2.2) rfl rfl ?_
  refine st_callV (mi' := mi_X5_ofUnit) (as := [sg_i x, sg_i what]) (rest := [sg_r O]) (t := 6) (b := B) (d' := d - 1) (mc' := 8) (ms' := 48) g (dc_L_ofUnit_0.1.2.1.1) cb_X5_ofUnit ml_L_164 mn_X5_ofUnit mv_X5_ofUnit rfl (by decide) rfl hob rfl (Nat.le_of_ble_eq_true rfl) (by omega) (by omega) (by omega) ?_
  refine s_X5_ofUnit g (by first | exact jl_d1 hd rfl | omega) (fun v nv hc => st_K1 ?_) (fun t1 z1 w1 => ?_)
  · have J1 : jk_I w B M O S xs h ∧ jk_X (jk_cut B h) (jk_cut B h) := ⟨hI, jk_X0⟩
    have F1 : jk_F B h h := jk_F0
    obtain ⟨z0, r0, hO⟩ := J1.1.2.2.2.2.2.2.2.2.1
    refine st_i2l (pc := 7) (dc_L_ofUnit_0.1.2.1.2) ?_
    refine st_putN (pc := 8) g (dc_L_ofUnit_0.1.2.2.1) fk_L_13 hO sg_ft_l ?_
    refine st_goto (pc := 11) (tgt := 18) (dc_L_ofUnit_0.1.2.2.2) (by decide) ?_
    refine st_iconst (pc := 18) (z := 0) (dc_L_ofUnit_0.2.1.2.2) (by decide) ?_
    refine st_iret (pc := 19) (dc_L_ofUnit_0.2.2.1.1) rfl (by first | exact Nat.le_of_ble_eq_true rfl | omega) (by first | exact Nat.le_of_ble_eq_true rfl | omega) ?_
    exact hQ _ _ (jk_IO J1.1).1 (jk_Xt J1.2 (jk_IO J1.1).2) (jk_Ft F1 (jk_FO J1.1)) (fun q => absurd q nv) (fun _ => ⟨rfl, jk_ov (P := fun v => ((what = 0 → v = fn_half x) ∧ (what = 1 → v = fn_high x) ∧ (what = 2 → v = fn_low x) ∧ (what = 3 → v = x % 256 * 256 + x / 256))) jk_oe (by first | exact hc | exact hc.1 | omega)⟩)
  · have J1 := jk_IY hI (ck_Yz (ck_Y0 hx) w1)
    have F1 : jk_F B h (z1, h.2) := jk_Fz
    refine st_KX 14 ⟨[], ⟨0, 11, 14, 21⟩, [], e_A, rfl, fun z hz => (nomatch hz), by decide, by decide, cl_L_21, ct_e_A, rfl⟩ (fun q1 => ?_)
    refine st_astore (pc := 14) (dc_L_ofUnit_0.2.1.1.1) (by decide) ?_
    refine st_iconst (pc := 16) (z := 1) (dc_L_ofUnit_0.2.1.1.2) (by decide) ?_
    refine st_iret (pc := 17) (dc_L_ofUnit_0.2.1.2.1) rfl (by first | exact Nat.le_of_ble_eq_true rfl | omega) (by first | exact Nat.le_of_ble_eq_true rfl | omega) ?_
    exact hQ _ _ J1.1 J1.2 F1 (fun _ => rfl) (fun q => absurd t1 q)

set_option maxRecDepth 100000 in
theorem s_L_compare {w : sg_W} {Q : sg_O → sg_H → Prop} {h : sg_H} (g : sg_G w) {d : Nat} (nc : jk_C w) (hd : 15 ≤ d) {B M O S : Nat} {xs : List Int} (hI : jk_I w B M O S xs h) {x y : Int} (hQ : ∀ (v : Int) (h' : sg_H), jk_I w B M O S xs h' → jk_X (jk_cut B h) (jk_cut B h') → jk_F B h h' → ((x < 0 ∨ 65536 ≤ x ∨ y < 0 ∨ 65536 ≤ y) → v = 1) → (¬ (x < 0 ∨ 65536 ≤ x ∨ y < 0 ∨ 65536 ≤ y) → v = 0 ∧ (jk_o h' O) = (if x = y then 0 else if x < y then -1 else 1)) → Q (.inl (some (sg_i v))) h') : sg_D w mi_L_compare hh_L_compare d 8 48 [sg_r B, sg_i x, sg_i y, sg_r O] h Q := by
  refine st_of pn_L cb_L_compare g (Nat.le_of_ble_eq_true rfl) ?_
  have hx := hI.2.2.1
  obtain ⟨us, hob⟩ := ck_oc hx
  refine st_aload_n (pc := 0) (j := 3) (dc_L_compare_0.1.1.1.1) rfl rfl ?_
  refine st_aload_n (pc := 1) (j := 0) (dc_L_compare_0.1.1.1.2) rfl rfl ?_
  refine st_iload_n (pc := 2) (j := 1) (dc_L_compare_0.1.1.2.1) rfl rfl ?_
  refine st_iload_n (pc := 3) (j := 2) (dc_L_compare_0.1.1.2.2) rfl rfl ?_
  refine st_callV (mi' := mi_X5_compare) (as := [sg_i x, sg_i y]) (rest := [sg_r O]) (t := 6) (b := B) (d' := d - 1) (mc' := 8) (ms' := 48) g (dc_L_compare_0.1.2.1.1) cb_X5_compare ml_L_167 mn_X5_compare mv_X5_compare rfl (by decide) rfl hob rfl (Nat.le_of_ble_eq_true rfl) (by omega) (by omega) (by omega) ?_
  refine s_X5_compare g (by first | exact jl_d1 hd rfl | omega) (fun v nv hc => st_K1 ?_) (fun t1 z1 w1 => ?_)
  · have J1 : jk_I w B M O S xs h ∧ jk_X (jk_cut B h) (jk_cut B h) := ⟨hI, jk_X0⟩
    have F1 : jk_F B h h := jk_F0
    obtain ⟨z0, r0, hO⟩ := J1.1.2.2.2.2.2.2.2.2.1
    refine st_i2l (pc := 7) (dc_L_compare_0.1.2.1.2) ?_
    refine st_putN (pc := 8) g (dc_L_compare_0.1.2.2.1) fk_L_13 hO sg_ft_l ?_
    refine st_goto (pc := 11) (tgt := 18) (dc_L_compare_0.1.2.2.2) (by decide) ?_
    refine st_iconst (pc := 18) (z := 0) (dc_L_compare_0.2.1.2.2) (by decide) ?_
    refine st_iret (pc := 19) (dc_L_compare_0.2.2.1.1) rfl (by first | exact Nat.le_of_ble_eq_true rfl | omega) (by first | exact Nat.le_of_ble_eq_true rfl | omega) ?_
    exact hQ _ _ (jk_IO J1.1).1 (jk_Xt J1.2 (jk_IO J1.1).2) (jk_Ft F1 (jk_FO J1.1)) (fun q => absurd q nv) (fun _ => ⟨rfl, jk_ov (P := fun v => v = (if x = y then 0 else if x < y then -1 else 1)) jk_oe (by first | exact hc | exact hc.1 | omega)⟩)
  · have J1 := jk_IY hI (ck_Yz (ck_Y0 hx) w1)
    have F1 : jk_F B h (z1, h.2) := jk_Fz
    refine st_KX 14 ⟨[], ⟨0, 11, 14, 21⟩, [], e_A, rfl, fun z hz => (nomatch hz), by decide, by decide, cl_L_21, ct_e_A, rfl⟩ (fun q1 => ?_)
    refine st_astore (pc := 14) (dc_L_compare_0.2.1.1.1) (by decide) ?_
    refine st_iconst (pc := 16) (z := 1) (dc_L_compare_0.2.1.1.2) (by decide) ?_
    refine st_iret (pc := 17) (dc_L_compare_0.2.1.2.1) rfl (by first | exact Nat.le_of_ble_eq_true rfl | omega) (by first | exact Nat.le_of_ble_eq_true rfl | omega) ?_
    exact hQ _ _ J1.1 J1.2 F1 (fun _ => rfl) (fun q => absurd t1 q)

set_option maxRecDepth 100000 in
theorem f_L_lay {w : sg_W} {Q : sg_O → sg_H → Prop} {h : sg_H} (g : sg_G w) {d : Nat} (nc : jk_C w) (hd : 15 ≤ d) {B M O S : Nat} {xs : List Int} {A : fa_A} (hI : jk_I w B M O S xs h) (hx : cf_X h B A) (ok : fa_ok A) {row a b c e : Int} {L : List Int} (hL : fa_L A row.toNat = L) (hQ : ∀ (v : Int) (h' : sg_H), jk_I w B M O S xs h' → jk_X (jk_cut B h) (jk_cut B h') → jk_P ((row < 0 ∨ 4 ≤ row) → v = 1) → jk_P (¬ (row < 0 ∨ 4 ≤ row) → ((a ≠ -1 ∧ (a < 0 ∨ 255 < a)) ∨ (b ≠ -1 ∧ (b < 0 ∨ 255 < b)) ∨ (c ≠ -1 ∧ (c < 0 ∨ 255 < c)) ∨ (e ≠ -1 ∧ (e < 0 ∨ 255 < e))) → v = 2) → jk_P (¬ (row < 0 ∨ 4 ≤ row) → ¬ ((a ≠ -1 ∧ (a < 0 ∨ 255 < a)) ∨ (b ≠ -1 ∧ (b < 0 ∨ 255 < b)) ∨ (c ≠ -1 ∧ (c < 0 ∨ 255 < c)) ∨ (e ≠ -1 ∧ (e < 0 ∨ 255 < e))) → (40 < L.length + (fs_lay a b c e).length) → v = 3) → jk_P (¬ (row < 0 ∨ 4 ≤ row) → ¬ ((a ≠ -1 ∧ (a < 0 ∨ 255 < a)) ∨ (b ≠ -1 ∧ (b < 0 ∨ 255 < b)) ∨ (c ≠ -1 ∧ (c < 0 ∨ 255 < c)) ∨ (e ≠ -1 ∧ (e < 0 ∨ 255 < e))) → ¬ (40 < L.length + (fs_lay a b c e).length) → v = 0) → (v ≠ 0 → cf_X h' B A) → (v = 0 → jk_o h' O = ((L ++ fs_lay a b c e).length : Int) ∧ cf_X h' B (fa_put A row.toNat (L ++ fs_lay a b c e))) → Q (.inl (some (sg_i v))) h') : sg_D w mi_L_lay hh_L_lay d 8 48 [sg_r B, sg_i row, sg_i a, sg_i b, sg_i c, sg_i e, sg_r O] h Q := by
  refine st_of pn_L cb_L_lay g (Nat.le_of_ble_eq_true rfl) ?_
  obtain ⟨us, hob⟩ := ck_oc hx.1
  refine st_aload (pc := 0) (dc_L_lay_0.1.1.1.1) rfl ?_
  refine st_aload_n (pc := 2) (j := 0) (dc_L_lay_0.1.1.1.2) rfl rfl ?_
  refine st_iload_n (pc := 3) (j := 1) (dc_L_lay_0.1.1.2.1) rfl rfl ?_
  refine st_iload_n (pc := 4) (j := 2) (dc_L_lay_0.1.1.2.2) rfl rfl ?_
  refine st_iload_n (pc := 5) (j := 3) (dc_L_lay_0.1.2.1.1) rfl rfl ?_
  refine st_iload (pc := 6) (dc_L_lay_0.1.2.1.2) rfl ?_
  refine st_iload (pc := 8) (dc_L_lay_0.1.2.2.1) rfl ?_
  refine st_callV (mi' := mi_X5_lay) (as := [sg_i row, sg_i a, sg_i b, sg_i c, sg_i e]) (rest := [sg_r O]) (t := 6) (b := B) (d' := d - 1) (mc' := 8) (ms' := 48) g (dc_L_lay_0.1.2.2.2) cb_X5_lay ml_L_7 mn_X5_lay mv_X5_lay rfl (by decide) rfl hob rfl (Nat.le_of_ble_eq_true rfl) (by omega) (by omega) (by omega) ?_
  refine f_X5_lay g (by first | exact jl_d1 hd rfl | omega) hx ok hL (fun n1 n2 n3 v h1 ev cx F1 => st_K1 ?_) (fun t1 z1 w1 => ?_) (fun t1 t2 z1 w1 => ?_) (fun t1 t2 t3 z1 w1 => ?_)
  · have J1 := jk_IY hI (⟨cx.1, F1⟩ : ck_Y h h1 B)
    obtain ⟨z0, r0, hO⟩ := J1.1.2.2.2.2.2.2.2.2.1
    refine st_i2l (pc := 13) (dc_L_lay_0.2.1.1.1) ?_
    refine st_putN (pc := 14) g (dc_L_lay_0.2.1.1.2) fk_L_13 hO sg_ft_l ?_
    refine st_goto (pc := 17) (tgt := 32) (dc_L_lay_0.2.1.2.1) (by decide) ?_
    refine st_iconst (pc := 32) (z := 0) (dc_L_lay_27.2.1.1) (by decide) ?_
    refine st_iret (pc := 33) (dc_L_lay_27.2.1.2) rfl (by first | exact Nat.le_of_ble_eq_true rfl | omega) (by first | exact Nat.le_of_ble_eq_true rfl | omega) ?_
    exact hQ _ _ (jk_IO J1.1).1 (jk_Xt J1.2 (jk_IO J1.1).2) (by unfold jk_P; intros; omega) (by unfold jk_P; intros; omega) (by unfold jk_P; intros; omega) (by unfold jk_P; intros; omega) (fun q => absurd rfl q) (fun _ => ⟨jk_oe.trans ev, cf_XF cx (jk_FO J1.1)⟩)
  · have J1 := jk_IY hI (ck_Yz (ck_Y0 hx.1) w1)
    refine st_KX 20 ⟨[], ⟨0, 17, 20, 19⟩, [⟨0, 17, 24, 21⟩, ⟨0, 17, 28, 23⟩], e_I, rfl, fun z hz => (nomatch hz), by decide, by decide, cl_L_19, ct_e_I, rfl⟩ (fun q1 => ?_)
    refine st_astore (pc := 20) (dc_L_lay_0.2.1.2.2) (by decide) ?_
    refine st_iconst (pc := 22) (z := 1) (dc_L_lay_0.2.2.1.1) (by decide) ?_
    refine st_iret (pc := 23) (dc_L_lay_0.2.2.1.2) rfl (by first | exact Nat.le_of_ble_eq_true rfl | omega) (by first | exact Nat.le_of_ble_eq_true rfl | omega) ?_
    exact hQ _ _ J1.1 J1.2 (by unfold jk_P; intros; omega) (by unfold jk_P; intros; omega) (by unfold jk_P; intros; omega) (by unfold jk_P; intros; omega) (fun _ => cf_XF hx jk_Fz) (fun q => absurd q (by decide))
  · have J1 := jk_IY hI (ck_Yz (ck_Y0 hx.1) w1)
    refine st_KX 24 ⟨[⟨0, 17, 20, 19⟩], ⟨0, 17, 24, 21⟩, [⟨0, 17, 28, 23⟩], e_A, rfl, List.forall_mem_cons.mpr ⟨Or.inr ⟨by decide, _, cl_L_19, nc.1⟩, fun z hz => (nomatch hz)⟩, by decide, by decide, cl_L_21, ct_e_A, rfl⟩ (fun q1 => ?_)
    refine st_astore (pc := 24) (dc_L_lay_0.2.2.2.1) (by decide) ?_
    refine st_iconst (pc := 26) (z := 2) (dc_L_lay_0.2.2.2.2) (by decide) ?_
    refine st_iret (pc := 27) (dc_L_lay_27.1.1.1) rfl (by first | exact Nat.le_of_ble_eq_true rfl | omega) (by first | exact Nat.le_of_ble_eq_true rfl | omega) ?_
    exact hQ _ _ J1.1 J1.2 (by unfold jk_P; intros; omega) (by unfold jk_P; intros; omega) (by unfold jk_P; intros; omega) (by unfold jk_P; intros; omega) (fun _ => cf_XF hx jk_Fz) (fun q => absurd q (by decide))
  · have J1 := jk_IY hI (ck_Yz (ck_Y0 hx.1) w1)
    refine st_KX 28 ⟨[⟨0, 17, 20, 19⟩, ⟨0, 17, 24, 21⟩], ⟨0, 17, 28, 23⟩, [], e_S, rfl, List.forall_mem_cons.mpr ⟨Or.inr ⟨by decide, _, cl_L_19, nc.2.1⟩, List.forall_mem_cons.mpr ⟨Or.inr ⟨by decide, _, cl_L_21, nc.2.2⟩, fun z hz => (nomatch hz)⟩⟩, by decide, by decide, cl_L_23, ct_e_S, rfl⟩ (fun q1 => ?_)
    refine st_astore (pc := 28) (dc_L_lay_27.1.1.2) (by decide) ?_
    refine st_iconst (pc := 30) (z := 3) (dc_L_lay_27.1.2.1) (by decide) ?_
    refine st_iret (pc := 31) (dc_L_lay_27.1.2.2) rfl (by first | exact Nat.le_of_ble_eq_true rfl | omega) (by first | exact Nat.le_of_ble_eq_true rfl | omega) ?_
    exact hQ _ _ J1.1 J1.2 (by unfold jk_P; intros; omega) (by unfold jk_P; intros; omega) (by unfold jk_P; intros; omega) (by unfold jk_P; intros; omega) (fun _ => cf_XF hx jk_Fz) (fun q => absurd q (by decide))

set_option maxRecDepth 100000 in
theorem f_L_drop {w : sg_W} {Q : sg_O → sg_H → Prop} {h : sg_H} (g : sg_G w) {d : Nat} (nc : jk_C w) (hd : 15 ≤ d) {B M O S : Nat} {xs : List Int} {A : fa_A} (hI : jk_I w B M O S xs h) (hx : cf_X h B A) (ok : fa_ok A) {row many : Int} {L : List Int} (hL : fa_L A row.toNat = L) (hQ : ∀ (v : Int) (h' : sg_H), jk_I w B M O S xs h' → jk_X (jk_cut B h) (jk_cut B h') → jk_P ((row < 0 ∨ 4 ≤ row) → v = 1) → jk_P (¬ (row < 0 ∨ 4 ≤ row) → (many < 0 ∨ (L.length : Int) < many) → v = 2) → jk_P (¬ (row < 0 ∨ 4 ≤ row) → ¬ (many < 0 ∨ (L.length : Int) < many) → v = 0) → (v ≠ 0 → cf_X h' B A) → (v = 0 → jk_o h' O = (L.length : Int) - many ∧ cf_X h' B (fa_put A row.toNat (L.take (L.length - many.toNat)))) → Q (.inl (some (sg_i v))) h') : sg_D w mi_L_drop hh_L_drop d 8 48 [sg_r B, sg_i row, sg_i many, sg_r O] h Q := by
  refine st_of pn_L cb_L_drop g (Nat.le_of_ble_eq_true rfl) ?_
  obtain ⟨us, hob⟩ := ck_oc hx.1
  refine st_aload_n (pc := 0) (j := 3) (dc_L_drop_0.1.1.1.1) rfl rfl ?_
  refine st_aload_n (pc := 1) (j := 0) (dc_L_drop_0.1.1.1.2) rfl rfl ?_
  refine st_iload_n (pc := 2) (j := 1) (dc_L_drop_0.1.1.2.1) rfl rfl ?_
  refine st_iload_n (pc := 3) (j := 2) (dc_L_drop_0.1.1.2.2) rfl rfl ?_
  refine st_callV (mi' := mi_X5_drop) (as := [sg_i row, sg_i many]) (rest := [sg_r O]) (t := 6) (b := B) (d' := d - 1) (mc' := 8) (ms' := 48) g (dc_L_drop_0.1.2.1.1) cb_X5_drop ml_L_25 mn_X5_drop mv_X5_drop rfl (by decide) rfl hob rfl (Nat.le_of_ble_eq_true rfl) (by omega) (by omega) (by omega) ?_
  refine f_X5_drop g (by first | exact jl_d1 hd rfl | omega) hx ok hL (fun n1 n2 v h1 ev cx F1 => st_K1 ?_) (fun t1 z1 w1 => ?_) (fun t1 t2 z1 w1 => ?_)
  · have J1 := jk_IY hI (⟨cx.1, F1⟩ : ck_Y h h1 B)
    obtain ⟨z0, r0, hO⟩ := J1.1.2.2.2.2.2.2.2.2.1
    refine st_i2l (pc := 7) (dc_L_drop_0.1.2.1.2) ?_
    refine st_putN (pc := 8) g (dc_L_drop_0.1.2.2.1) fk_L_13 hO sg_ft_l ?_
    refine st_goto (pc := 11) (tgt := 22) (dc_L_drop_0.1.2.2.2) (by decide) ?_
    refine st_iconst (pc := 22) (z := 0) (dc_L_drop_0.2.2.2.1) (by decide) ?_
    refine st_iret (pc := 23) (dc_L_drop_0.2.2.2.2) rfl (by first | exact Nat.le_of_ble_eq_true rfl | omega) (by first | exact Nat.le_of_ble_eq_true rfl | omega) ?_
    exact hQ _ _ (jk_IO J1.1).1 (jk_Xt J1.2 (jk_IO J1.1).2) (by unfold jk_P; intros; omega) (by unfold jk_P; intros; omega) (by unfold jk_P; intros; omega) (fun q => absurd rfl q) (fun _ => ⟨jk_oe.trans ev, cf_XF cx (jk_FO J1.1)⟩)
  · have J1 := jk_IY hI (ck_Yz (ck_Y0 hx.1) w1)
    refine st_KX 14 ⟨[], ⟨0, 11, 14, 19⟩, [⟨0, 11, 18, 21⟩], e_I, rfl, fun z hz => (nomatch hz), by decide, by decide, cl_L_19, ct_e_I, rfl⟩ (fun q1 => ?_)
    refine st_astore (pc := 14) (dc_L_drop_0.2.1.1.1) (by decide) ?_
    refine st_iconst (pc := 16) (z := 1) (dc_L_drop_0.2.1.1.2) (by decide) ?_
    refine st_iret (pc := 17) (dc_L_drop_0.2.1.2.1) rfl (by first | exact Nat.le_of_ble_eq_true rfl | omega) (by first | exact Nat.le_of_ble_eq_true rfl | omega) ?_
    exact hQ _ _ J1.1 J1.2 (by unfold jk_P; intros; omega) (by unfold jk_P; intros; omega) (by unfold jk_P; intros; omega) (fun _ => cf_XF hx jk_Fz) (fun q => absurd q (by decide))
  · have J1 := jk_IY hI (ck_Yz (ck_Y0 hx.1) w1)
    refine st_KX 18 ⟨[⟨0, 11, 14, 19⟩], ⟨0, 11, 18, 21⟩, [], e_A, rfl, List.forall_mem_cons.mpr ⟨Or.inr ⟨by decide, _, cl_L_19, nc.1⟩, fun z hz => (nomatch hz)⟩, by decide, by decide, cl_L_21, ct_e_A, rfl⟩ (fun q1 => ?_)
    refine st_astore (pc := 18) (dc_L_drop_0.2.1.2.2) (by decide) ?_
    refine st_iconst (pc := 20) (z := 2) (dc_L_drop_0.2.2.1.1) (by decide) ?_
    refine st_iret (pc := 21) (dc_L_drop_0.2.2.1.2) rfl (by first | exact Nat.le_of_ble_eq_true rfl | omega) (by first | exact Nat.le_of_ble_eq_true rfl | omega) ?_
    exact hQ _ _ J1.1 J1.2 (by unfold jk_P; intros; omega) (by unfold jk_P; intros; omega) (by unfold jk_P; intros; omega) (fun _ => cf_XF hx jk_Fz) (fun q => absurd q (by decide))

set_option maxRecDepth 100000 in
theorem f_L_copy {w : sg_W} {Q : sg_O → sg_H → Prop} {h : sg_H} (g : sg_G w) {d : Nat} (nc : jk_C w) (hd : 15 ≤ d) {B M O S : Nat} {xs : List Int} {A : fa_A} (hI : jk_I w B M O S xs h) (hx : cf_X h B A) (ok : fa_ok A) {fr to : Int} {L : List Int} (hL : fa_L A fr.toNat = L) {Z : List Int} (hZ : fa_L A to.toNat = Z) (hQ : ∀ (v : Int) (h' : sg_H), jk_I w B M O S xs h' → jk_X (jk_cut B h) (jk_cut B h') → jk_P ((fr < 0 ∨ 4 ≤ fr ∨ to < 0 ∨ 4 ≤ to) → v = 1) → jk_P (¬ (fr < 0 ∨ 4 ≤ fr ∨ to < 0 ∨ 4 ≤ to) → v = 0) → (v ≠ 0 → cf_X h' B A) → (v = 0 → jk_o h' O = (Z.length : Int) ∧ cf_X h' B (fa_put A to.toNat (L))) → Q (.inl (some (sg_i v))) h') : sg_D w mi_L_copy hh_L_copy d 8 48 [sg_r B, sg_i fr, sg_i to, sg_r O] h Q := by
  refine st_of pn_L cb_L_copy g (Nat.le_of_ble_eq_true rfl) ?_
  obtain ⟨us, hob⟩ := ck_oc hx.1
  refine st_aload_n (pc := 0) (j := 3) (dc_L_copy_0.1.1.1.1) rfl rfl ?_
  refine st_aload_n (pc := 1) (j := 0) (dc_L_copy_0.1.1.1.2) rfl rfl ?_
  refine st_iload_n (pc := 2) (j := 1) (dc_L_copy_0.1.1.2.1) rfl rfl ?_
  refine st_iload_n (pc := 3) (j := 2) (dc_L_copy_0.1.1.2.2) rfl rfl ?_
  refine st_callV (mi' := mi_X5_copy) (as := [sg_i fr, sg_i to]) (rest := [sg_r O]) (t := 6) (b := B) (d' := d - 1) (mc' := 8) (ms' := 48) g (dc_L_copy_0.1.2.1.1) cb_X5_copy ml_L_29 mn_X5_copy mv_X5_copy rfl (by decide) rfl hob rfl (Nat.le_of_ble_eq_true rfl) (by omega) (by omega) (by omega) ?_
  refine f_X5_copy g (by first | exact jl_d1 hd rfl | omega) hx ok hL hZ (fun n1 v h1 ev cx F1 => st_K1 ?_) (fun t1 z1 w1 => ?_)
  · have J1 := jk_IY hI (⟨cx.1, F1⟩ : ck_Y h h1 B)
    obtain ⟨z0, r0, hO⟩ := J1.1.2.2.2.2.2.2.2.2.1
    refine st_i2l (pc := 7) (dc_L_copy_0.1.2.1.2) ?_
    refine st_putN (pc := 8) g (dc_L_copy_0.1.2.2.1) fk_L_13 hO sg_ft_l ?_
    refine st_goto (pc := 11) (tgt := 18) (dc_L_copy_0.1.2.2.2) (by decide) ?_
    refine st_iconst (pc := 18) (z := 0) (dc_L_copy_0.2.1.2.2) (by decide) ?_
    refine st_iret (pc := 19) (dc_L_copy_0.2.2.1.1) rfl (by first | exact Nat.le_of_ble_eq_true rfl | omega) (by first | exact Nat.le_of_ble_eq_true rfl | omega) ?_
    exact hQ _ _ (jk_IO J1.1).1 (jk_Xt J1.2 (jk_IO J1.1).2) (by unfold jk_P; intros; omega) (by unfold jk_P; intros; omega) (fun q => absurd rfl q) (fun _ => ⟨jk_oe.trans ev, cf_XF cx (jk_FO J1.1)⟩)
  · have J1 := jk_IY hI (ck_Yz (ck_Y0 hx.1) w1)
    refine st_KX 14 ⟨[], ⟨0, 11, 14, 19⟩, [], e_I, rfl, fun z hz => (nomatch hz), by decide, by decide, cl_L_19, ct_e_I, rfl⟩ (fun q1 => ?_)
    refine st_astore (pc := 14) (dc_L_copy_0.2.1.1.1) (by decide) ?_
    refine st_iconst (pc := 16) (z := 1) (dc_L_copy_0.2.1.1.2) (by decide) ?_
    refine st_iret (pc := 17) (dc_L_copy_0.2.1.2.1) rfl (by first | exact Nat.le_of_ble_eq_true rfl | omega) (by first | exact Nat.le_of_ble_eq_true rfl | omega) ?_
    exact hQ _ _ J1.1 J1.2 (by unfold jk_P; intros; omega) (by unfold jk_P; intros; omega) (fun _ => cf_XF hx jk_Fz) (fun q => absurd q (by decide))

set_option maxRecDepth 100000 in
theorem f_L_raise {w : sg_W} {Q : sg_O → sg_H → Prop} {h : sg_H} (g : sg_G w) {d : Nat} (nc : jk_C w) (hd : 15 ≤ d) {B M O S : Nat} {xs : List Int} {A : fa_A} (hI : jk_I w B M O S xs h) (hx : cf_X h B A) (ok : fa_ok A) {row : Int} {L : List Int} (hL : fa_L A row.toNat = L) (hQ : ∀ (v : Int) (h' : sg_H), jk_I w B M O S xs h' → jk_X (jk_cut B h) (jk_cut B h') → jk_P ((row < 0 ∨ 4 ≤ row) → v = 1) → jk_P (¬ (row < 0 ∨ 4 ≤ row) → v = 0) → (v ≠ 0 → cf_X h' B A) → (v = 0 → jk_o h' O = fs_diff rz L L.length ∧ cf_X h' B (fa_put A row.toNat (L.map rz))) → Q (.inl (some (sg_i v))) h') : sg_D w mi_L_raise hh_L_raise d 8 48 [sg_r B, sg_i row, sg_r O] h Q := by
  refine st_of pn_L cb_L_raise g (Nat.le_of_ble_eq_true rfl) ?_
  obtain ⟨us, hob⟩ := ck_oc hx.1
  refine st_aload_n (pc := 0) (j := 2) (dc_L_raise_0.1.1.1.1) rfl rfl ?_
  refine st_aload_n (pc := 1) (j := 0) (dc_L_raise_0.1.1.1.2) rfl rfl ?_
  refine st_iload_n (pc := 2) (j := 1) (dc_L_raise_0.1.1.2.1) rfl rfl ?_
  refine st_callV (mi' := mi_X5_raise) (as := [sg_i row]) (rest := [sg_r O]) (t := 6) (b := B) (d' := d - 1) (mc' := 8) (ms' := 48) g (dc_L_raise_0.1.1.2.2) cb_X5_raise ml_L_32 mn_X5_raise mv_X5_raise rfl (by decide) rfl hob rfl (Nat.le_of_ble_eq_true rfl) (by omega) (by omega) (by omega) ?_
  refine f_X5_raise g (by first | exact jl_d1 hd rfl | omega) hx ok hL (fun n1 v h1 ev cx F1 => st_K1 ?_) (fun t1 z1 w1 => ?_)
  · have J1 := jk_IY hI (⟨cx.1, F1⟩ : ck_Y h h1 B)
    obtain ⟨z0, r0, hO⟩ := J1.1.2.2.2.2.2.2.2.2.1
    refine st_i2l (pc := 6) (dc_L_raise_0.1.2.1.1) ?_
    refine st_putN (pc := 7) g (dc_L_raise_0.1.2.1.2) fk_L_13 hO sg_ft_l ?_
    refine st_goto (pc := 10) (tgt := 16) (dc_L_raise_0.1.2.2.1) (by decide) ?_
    refine st_iconst (pc := 16) (z := 0) (dc_L_raise_0.2.1.2.1) (by decide) ?_
    refine st_iret (pc := 17) (dc_L_raise_0.2.1.2.2) rfl (by first | exact Nat.le_of_ble_eq_true rfl | omega) (by first | exact Nat.le_of_ble_eq_true rfl | omega) ?_
    exact hQ _ _ (jk_IO J1.1).1 (jk_Xt J1.2 (jk_IO J1.1).2) (by unfold jk_P; intros; omega) (by unfold jk_P; intros; omega) (fun q => absurd rfl q) (fun _ => ⟨jk_oe.trans ev, cf_XF cx (jk_FO J1.1)⟩)
  · have J1 := jk_IY hI (ck_Yz (ck_Y0 hx.1) w1)
    refine st_KX 13 ⟨[], ⟨0, 10, 13, 19⟩, [], e_I, rfl, fun z hz => (nomatch hz), by decide, by decide, cl_L_19, ct_e_I, rfl⟩ (fun q1 => ?_)
    refine st_astore_n (pc := 13) (j := 3) (dc_L_raise_0.1.2.2.2) rfl (by decide) ?_
    refine st_iconst (pc := 14) (z := 1) (dc_L_raise_0.2.1.1.1) (by decide) ?_
    refine st_iret (pc := 15) (dc_L_raise_0.2.1.1.2) rfl (by first | exact Nat.le_of_ble_eq_true rfl | omega) (by first | exact Nat.le_of_ble_eq_true rfl | omega) ?_
    exact hQ _ _ J1.1 J1.2 (by unfold jk_P; intros; omega) (by unfold jk_P; intros; omega) (fun _ => cf_XF hx jk_Fz) (fun q => absurd q (by decide))

set_option maxRecDepth 100000 in
theorem f_L_sink {w : sg_W} {Q : sg_O → sg_H → Prop} {h : sg_H} (g : sg_G w) {d : Nat} (nc : jk_C w) (hd : 15 ≤ d) {B M O S : Nat} {xs : List Int} {A : fa_A} (hI : jk_I w B M O S xs h) (hx : cf_X h B A) (ok : fa_ok A) {row : Int} {L : List Int} (hL : fa_L A row.toNat = L) (hQ : ∀ (v : Int) (h' : sg_H), jk_I w B M O S xs h' → jk_X (jk_cut B h) (jk_cut B h') → jk_P ((row < 0 ∨ 4 ≤ row) → v = 1) → jk_P (¬ (row < 0 ∨ 4 ≤ row) → v = 0) → (v ≠ 0 → cf_X h' B A) → (v = 0 → jk_o h' O = fs_diff fn_lower L L.length ∧ cf_X h' B (fa_put A row.toNat (L.map fn_lower))) → Q (.inl (some (sg_i v))) h') : sg_D w mi_L_sink hh_L_sink d 8 48 [sg_r B, sg_i row, sg_r O] h Q := by
  refine st_of pn_L cb_L_sink g (Nat.le_of_ble_eq_true rfl) ?_
  obtain ⟨us, hob⟩ := ck_oc hx.1
  refine st_aload_n (pc := 0) (j := 2) (dc_L_sink_0.1.1.1.1) rfl rfl ?_
  refine st_aload_n (pc := 1) (j := 0) (dc_L_sink_0.1.1.1.2) rfl rfl ?_
  refine st_iload_n (pc := 2) (j := 1) (dc_L_sink_0.1.1.2.1) rfl rfl ?_
  refine st_callV (mi' := mi_X5_sink) (as := [sg_i row]) (rest := [sg_r O]) (t := 6) (b := B) (d' := d - 1) (mc' := 8) (ms' := 48) g (dc_L_sink_0.1.1.2.2) cb_X5_sink ml_L_36 mn_X5_sink mv_X5_sink rfl (by decide) rfl hob rfl (Nat.le_of_ble_eq_true rfl) (by omega) (by omega) (by omega) ?_
  refine f_X5_sink g (by first | exact jl_d1 hd rfl | omega) hx ok hL (fun n1 v h1 ev cx F1 => st_K1 ?_) (fun t1 z1 w1 => ?_)
  · have J1 := jk_IY hI (⟨cx.1, F1⟩ : ck_Y h h1 B)
    obtain ⟨z0, r0, hO⟩ := J1.1.2.2.2.2.2.2.2.2.1
    refine st_i2l (pc := 6) (dc_L_sink_0.1.2.1.1) ?_
    refine st_putN (pc := 7) g (dc_L_sink_0.1.2.1.2) fk_L_13 hO sg_ft_l ?_
    refine st_goto (pc := 10) (tgt := 16) (dc_L_sink_0.1.2.2.1) (by decide) ?_
    refine st_iconst (pc := 16) (z := 0) (dc_L_sink_0.2.1.2.1) (by decide) ?_
    refine st_iret (pc := 17) (dc_L_sink_0.2.1.2.2) rfl (by first | exact Nat.le_of_ble_eq_true rfl | omega) (by first | exact Nat.le_of_ble_eq_true rfl | omega) ?_
    exact hQ _ _ (jk_IO J1.1).1 (jk_Xt J1.2 (jk_IO J1.1).2) (by unfold jk_P; intros; omega) (by unfold jk_P; intros; omega) (fun q => absurd rfl q) (fun _ => ⟨jk_oe.trans ev, cf_XF cx (jk_FO J1.1)⟩)
  · have J1 := jk_IY hI (ck_Yz (ck_Y0 hx.1) w1)
    refine st_KX 13 ⟨[], ⟨0, 10, 13, 19⟩, [], e_I, rfl, fun z hz => (nomatch hz), by decide, by decide, cl_L_19, ct_e_I, rfl⟩ (fun q1 => ?_)
    refine st_astore_n (pc := 13) (j := 3) (dc_L_sink_0.1.2.2.2) rfl (by decide) ?_
    refine st_iconst (pc := 14) (z := 1) (dc_L_sink_0.2.1.1.1) (by decide) ?_
    refine st_iret (pc := 15) (dc_L_sink_0.2.1.1.2) rfl (by first | exact Nat.le_of_ble_eq_true rfl | omega) (by first | exact Nat.le_of_ble_eq_true rfl | omega) ?_
    exact hQ _ _ J1.1 J1.2 (by unfold jk_P; intros; omega) (by unfold jk_P; intros; omega) (fun _ => cf_XF hx jk_Fz) (fun q => absurd q (by decide))

set_option maxRecDepth 100000 in
theorem f_L_sieve {w : sg_W} {Q : sg_O → sg_H → Prop} {h : sg_H} (g : sg_G w) {d : Nat} (nc : jk_C w) (hd : 15 ≤ d) {B M O S : Nat} {xs : List Int} {A : fa_A} (hI : jk_I w B M O S xs h) (hx : cf_X h B A) (ok : fa_ok A) {row kind isx : Int} {L : List Int} (hL : fa_L A row.toNat = L) (hQ : ∀ (v : Int) (h' : sg_H), jk_I w B M O S xs h' → jk_X (jk_cut B h) (jk_cut B h') → jk_P ((row < 0 ∨ 4 ≤ row) → v = 1) → jk_P (¬ (row < 0 ∨ 4 ≤ row) → (kind < 0 ∨ 4 < kind) → v = 2) → jk_P (¬ (row < 0 ∨ 4 ≤ row) → ¬ (kind < 0 ∨ 4 < kind) → v = 0) → (v ≠ 0 → cf_X h' B A) → (v = 0 → jk_o h' O = (L.length : Int) - ((L.filter (fs_is kind isx)).length : Int) ∧ cf_X h' B (fa_put A row.toNat (L.filter (fs_is kind isx)))) → Q (.inl (some (sg_i v))) h') : sg_D w mi_L_sieve hh_L_sieve d 8 48 [sg_r B, sg_i row, sg_i kind, sg_i isx, sg_r O] h Q := by
  refine st_of pn_L cb_L_sieve g (Nat.le_of_ble_eq_true rfl) ?_
  obtain ⟨us, hob⟩ := ck_oc hx.1
  refine st_aload (pc := 0) (dc_L_sieve_0.1.1.1.1) rfl ?_
  refine st_aload_n (pc := 2) (j := 0) (dc_L_sieve_0.1.1.1.2) rfl rfl ?_
  refine st_iload_n (pc := 3) (j := 1) (dc_L_sieve_0.1.1.2.1) rfl rfl ?_
  refine st_iload_n (pc := 4) (j := 2) (dc_L_sieve_0.1.1.2.2) rfl rfl ?_
  refine st_iload_n (pc := 5) (j := 3) (dc_L_sieve_0.1.2.1.1) rfl rfl ?_
  refine st_callV (mi' := mi_X5_sieve) (as := [sg_i row, sg_i kind, sg_i isx]) (rest := [sg_r O]) (t := 6) (b := B) (d' := d - 1) (mc' := 8) (ms' := 48) g (dc_L_sieve_0.1.2.1.2) cb_X5_sieve ml_L_39 mn_X5_sieve mv_X5_sieve rfl (by decide) rfl hob rfl (Nat.le_of_ble_eq_true rfl) (by omega) (by omega) (by omega) ?_
  refine f_X5_sieve g (by first | exact jl_d1 hd rfl | omega) hx ok hL (fun n1 n2 v h1 ev cx F1 => st_K1 ?_) (fun t1 z1 w1 => ?_) (fun t1 t2 z1 w1 => ?_)
  · have J1 := jk_IY hI (⟨cx.1, F1⟩ : ck_Y h h1 B)
    obtain ⟨z0, r0, hO⟩ := J1.1.2.2.2.2.2.2.2.2.1
    refine st_i2l (pc := 9) (dc_L_sieve_0.1.2.2.1) ?_
    refine st_putN (pc := 10) g (dc_L_sieve_0.1.2.2.2) fk_L_13 hO sg_ft_l ?_
    refine st_goto (pc := 13) (tgt := 24) (dc_L_sieve_0.2.1.1.1) (by decide) ?_
    refine st_iconst (pc := 24) (z := 0) (dc_L_sieve_0.2.2.2.2) (by decide) ?_
    refine st_iret (pc := 25) dc_L_sieve_25 rfl (by first | exact Nat.le_of_ble_eq_true rfl | omega) (by first | exact Nat.le_of_ble_eq_true rfl | omega) ?_
    exact hQ _ _ (jk_IO J1.1).1 (jk_Xt J1.2 (jk_IO J1.1).2) (by unfold jk_P; intros; omega) (by unfold jk_P; intros; omega) (by unfold jk_P; intros; omega) (fun q => absurd rfl q) (fun _ => ⟨jk_oe.trans ev, cf_XF cx (jk_FO J1.1)⟩)
  · have J1 := jk_IY hI (ck_Yz (ck_Y0 hx.1) w1)
    refine st_KX 16 ⟨[], ⟨0, 13, 16, 19⟩, [⟨0, 13, 20, 21⟩], e_I, rfl, fun z hz => (nomatch hz), by decide, by decide, cl_L_19, ct_e_I, rfl⟩ (fun q1 => ?_)
    refine st_astore (pc := 16) (dc_L_sieve_0.2.1.1.2) (by decide) ?_
    refine st_iconst (pc := 18) (z := 1) (dc_L_sieve_0.2.1.2.1) (by decide) ?_
    refine st_iret (pc := 19) (dc_L_sieve_0.2.1.2.2) rfl (by first | exact Nat.le_of_ble_eq_true rfl | omega) (by first | exact Nat.le_of_ble_eq_true rfl | omega) ?_
    exact hQ _ _ J1.1 J1.2 (by unfold jk_P; intros; omega) (by unfold jk_P; intros; omega) (by unfold jk_P; intros; omega) (fun _ => cf_XF hx jk_Fz) (fun q => absurd q (by decide))
  · have J1 := jk_IY hI (ck_Yz (ck_Y0 hx.1) w1)
    refine st_KX 20 ⟨[⟨0, 13, 16, 19⟩], ⟨0, 13, 20, 21⟩, [], e_A, rfl, List.forall_mem_cons.mpr ⟨Or.inr ⟨by decide, _, cl_L_19, nc.1⟩, fun z hz => (nomatch hz)⟩, by decide, by decide, cl_L_21, ct_e_A, rfl⟩ (fun q1 => ?_)
    refine st_astore (pc := 20) (dc_L_sieve_0.2.2.1.1) (by decide) ?_
    refine st_iconst (pc := 22) (z := 2) (dc_L_sieve_0.2.2.1.2) (by decide) ?_
    refine st_iret (pc := 23) (dc_L_sieve_0.2.2.2.1) rfl (by first | exact Nat.le_of_ble_eq_true rfl | omega) (by first | exact Nat.le_of_ble_eq_true rfl | omega) ?_
    exact hQ _ _ J1.1 J1.2 (by unfold jk_P; intros; omega) (by unfold jk_P; intros; omega) (by unfold jk_P; intros; omega) (fun _ => cf_XF hx jk_Fz) (fun q => absurd q (by decide))

set_option maxRecDepth 100000 in
theorem f_L_strip {w : sg_W} {Q : sg_O → sg_H → Prop} {h : sg_H} (g : sg_G w) {d : Nat} (nc : jk_C w) (hd : 15 ≤ d) {B M O S : Nat} {xs : List Int} {A : fa_A} (hI : jk_I w B M O S xs h) (hx : cf_X h B A) (ok : fa_ok A) {row : Int} {L : List Int} (hL : fa_L A row.toNat = L) (hQ : ∀ (v : Int) (h' : sg_H), jk_I w B M O S xs h' → jk_X (jk_cut B h) (jk_cut B h') → jk_P ((row < 0 ∨ 4 ≤ row) → v = 1) → jk_P (¬ (row < 0 ∨ 4 ≤ row) → v = 0) → (v ≠ 0 → cf_X h' B A) → (v = 0 → jk_o h' O = (L.length : Int) - ((fs_strip L).length : Int) ∧ cf_X h' B (fa_put A row.toNat (fs_strip L))) → Q (.inl (some (sg_i v))) h') : sg_D w mi_L_strip hh_L_strip d 8 48 [sg_r B, sg_i row, sg_r O] h Q := by
  refine st_of pn_L cb_L_strip g (Nat.le_of_ble_eq_true rfl) ?_
  obtain ⟨us, hob⟩ := ck_oc hx.1
  refine st_aload_n (pc := 0) (j := 2) (dc_L_strip_0.1.1.1.1) rfl rfl ?_
  refine st_aload_n (pc := 1) (j := 0) (dc_L_strip_0.1.1.1.2) rfl rfl ?_
  refine st_iload_n (pc := 2) (j := 1) (dc_L_strip_0.1.1.2.1) rfl rfl ?_
  refine st_callV (mi' := mi_X5_strip) (as := [sg_i row]) (rest := [sg_r O]) (t := 6) (b := B) (d' := d - 1) (mc' := 8) (ms' := 48) g (dc_L_strip_0.1.1.2.2) cb_X5_strip ml_L_43 mn_X5_strip mv_X5_strip rfl (by decide) rfl hob rfl (Nat.le_of_ble_eq_true rfl) (by omega) (by omega) (by omega) ?_
  refine f_X5_strip g (by first | exact jl_d1 hd rfl | omega) hx ok hL (fun n1 v h1 ev cx F1 => st_K1 ?_) (fun t1 z1 w1 => ?_)
  · have J1 := jk_IY hI (⟨cx.1, F1⟩ : ck_Y h h1 B)
    obtain ⟨z0, r0, hO⟩ := J1.1.2.2.2.2.2.2.2.2.1
    refine st_i2l (pc := 6) (dc_L_strip_0.1.2.1.1) ?_
    refine st_putN (pc := 7) g (dc_L_strip_0.1.2.1.2) fk_L_13 hO sg_ft_l ?_
    refine st_goto (pc := 10) (tgt := 16) (dc_L_strip_0.1.2.2.1) (by decide) ?_
    refine st_iconst (pc := 16) (z := 0) (dc_L_strip_0.2.1.2.1) (by decide) ?_
    refine st_iret (pc := 17) (dc_L_strip_0.2.1.2.2) rfl (by first | exact Nat.le_of_ble_eq_true rfl | omega) (by first | exact Nat.le_of_ble_eq_true rfl | omega) ?_
    exact hQ _ _ (jk_IO J1.1).1 (jk_Xt J1.2 (jk_IO J1.1).2) (by unfold jk_P; intros; omega) (by unfold jk_P; intros; omega) (fun q => absurd rfl q) (fun _ => ⟨jk_oe.trans ev, cf_XF cx (jk_FO J1.1)⟩)
  · have J1 := jk_IY hI (ck_Yz (ck_Y0 hx.1) w1)
    refine st_KX 13 ⟨[], ⟨0, 10, 13, 19⟩, [], e_I, rfl, fun z hz => (nomatch hz), by decide, by decide, cl_L_19, ct_e_I, rfl⟩ (fun q1 => ?_)
    refine st_astore_n (pc := 13) (j := 3) (dc_L_strip_0.1.2.2.2) rfl (by decide) ?_
    refine st_iconst (pc := 14) (z := 1) (dc_L_strip_0.2.1.1.1) (by decide) ?_
    refine st_iret (pc := 15) (dc_L_strip_0.2.1.1.2) rfl (by first | exact Nat.le_of_ble_eq_true rfl | omega) (by first | exact Nat.le_of_ble_eq_true rfl | omega) ?_
    exact hQ _ _ J1.1 J1.2 (by unfold jk_P; intros; omega) (by unfold jk_P; intros; omega) (fun _ => cf_XF hx jk_Fz) (fun q => absurd q (by decide))

set_option maxRecDepth 100000 in
theorem f_L_turn {w : sg_W} {Q : sg_O → sg_H → Prop} {h : sg_H} (g : sg_G w) {d : Nat} (nc : jk_C w) (hd : 15 ≤ d) {B M O S : Nat} {xs : List Int} {A : fa_A} (hI : jk_I w B M O S xs h) (hx : cf_X h B A) (ok : fa_ok A) {row : Int} {L : List Int} (hL : fa_L A row.toNat = L) (hQ : ∀ (v : Int) (h' : sg_H), jk_I w B M O S xs h' → jk_X (jk_cut B h) (jk_cut B h') → jk_P ((row < 0 ∨ 4 ≤ row) → v = 1) → jk_P (¬ (row < 0 ∨ 4 ≤ row) → v = 0) → (v ≠ 0 → cf_X h' B A) → (v = 0 → jk_o h' O = (L.length : Int) ∧ cf_X h' B (fa_put A row.toNat (L.reverse))) → Q (.inl (some (sg_i v))) h') : sg_D w mi_L_turn hh_L_turn d 8 48 [sg_r B, sg_i row, sg_r O] h Q := by
  refine st_of pn_L cb_L_turn g (Nat.le_of_ble_eq_true rfl) ?_
  obtain ⟨us, hob⟩ := ck_oc hx.1
  refine st_aload_n (pc := 0) (j := 2) (dc_L_turn_0.1.1.1.1) rfl rfl ?_
  refine st_aload_n (pc := 1) (j := 0) (dc_L_turn_0.1.1.1.2) rfl rfl ?_
  refine st_iload_n (pc := 2) (j := 1) (dc_L_turn_0.1.1.2.1) rfl rfl ?_
  refine st_callV (mi' := mi_X5_turn) (as := [sg_i row]) (rest := [sg_r O]) (t := 6) (b := B) (d' := d - 1) (mc' := 8) (ms' := 48) g (dc_L_turn_0.1.1.2.2) cb_X5_turn ml_L_46 mn_X5_turn mv_X5_turn rfl (by decide) rfl hob rfl (Nat.le_of_ble_eq_true rfl) (by omega) (by omega) (by omega) ?_
  refine f_X5_turn g (by first | exact jl_d1 hd rfl | omega) hx ok hL (fun n1 v h1 ev cx F1 => st_K1 ?_) (fun t1 z1 w1 => ?_)
  · have J1 := jk_IY hI (⟨cx.1, F1⟩ : ck_Y h h1 B)
    obtain ⟨z0, r0, hO⟩ := J1.1.2.2.2.2.2.2.2.2.1
    refine st_i2l (pc := 6) (dc_L_turn_0.1.2.1.1) ?_
    refine st_putN (pc := 7) g (dc_L_turn_0.1.2.1.2) fk_L_13 hO sg_ft_l ?_
    refine st_goto (pc := 10) (tgt := 16) (dc_L_turn_0.1.2.2.1) (by decide) ?_
    refine st_iconst (pc := 16) (z := 0) (dc_L_turn_0.2.1.2.1) (by decide) ?_
    refine st_iret (pc := 17) (dc_L_turn_0.2.1.2.2) rfl (by first | exact Nat.le_of_ble_eq_true rfl | omega) (by first | exact Nat.le_of_ble_eq_true rfl | omega) ?_
    exact hQ _ _ (jk_IO J1.1).1 (jk_Xt J1.2 (jk_IO J1.1).2) (by unfold jk_P; intros; omega) (by unfold jk_P; intros; omega) (fun q => absurd rfl q) (fun _ => ⟨jk_oe.trans ev, cf_XF cx (jk_FO J1.1)⟩)
  · have J1 := jk_IY hI (ck_Yz (ck_Y0 hx.1) w1)
    refine st_KX 13 ⟨[], ⟨0, 10, 13, 19⟩, [], e_I, rfl, fun z hz => (nomatch hz), by decide, by decide, cl_L_19, ct_e_I, rfl⟩ (fun q1 => ?_)
    refine st_astore_n (pc := 13) (j := 3) (dc_L_turn_0.1.2.2.2) rfl (by decide) ?_
    refine st_iconst (pc := 14) (z := 1) (dc_L_turn_0.2.1.1.1) (by decide) ?_
    refine st_iret (pc := 15) (dc_L_turn_0.2.1.1.2) rfl (by first | exact Nat.le_of_ble_eq_true rfl | omega) (by first | exact Nat.le_of_ble_eq_true rfl | omega) ?_
    exact hQ _ _ J1.1 J1.2 (by unfold jk_P; intros; omega) (by unfold jk_P; intros; omega) (fun _ => cf_XF hx jk_Fz) (fun q => absurd q (by decide))

set_option maxRecDepth 100000 in
theorem f_L_write {w : sg_W} {Q : sg_O → sg_H → Prop} {h : sg_H} (g : sg_G w) {d : Nat} (nc : jk_C w) (hd : 15 ≤ d) {B M O S : Nat} {xs : List Int} {A : fa_A} (hI : jk_I w B M O S xs h) (hx : cf_X h B A) (ok : fa_ok A) {row nr rx : Int} {L : List Int} (hL : fa_L A row.toNat = L) (hQ : ∀ (v : Int) (h' : sg_H), jk_I w B M O S xs h' → jk_X (jk_cut B h) (jk_cut B h') → jk_P ((row < 0 ∨ 4 ≤ row) → v = 1) → jk_P (¬ (row < 0 ∨ 4 ≤ row) → (nr < 0 ∨ 999999 < nr ∨ rx < 2 ∨ 36 < rx) → v = 2) → jk_P (¬ (row < 0 ∨ 4 ≤ row) → ¬ (nr < 0 ∨ 999999 < nr ∨ rx < 2 ∨ 36 < rx) → v = 0) → (v ≠ 0 → cf_X h' B A) → (v = 0 → jk_o h' O = (if 40 < L.length + (fs_digs nr rx).length then (-9 : Int) else ((fs_digs nr rx).length : Int)) ∧ cf_X h' B (if 40 < L.length + (fs_digs nr rx).length then A else fa_put A row.toNat (L ++ (fs_digs nr rx)))) → Q (.inl (some (sg_i v))) h') : sg_D w mi_L_write hh_L_write d 8 48 [sg_r B, sg_i row, sg_i nr, sg_i rx, sg_r O] h Q := by
  refine st_of pn_L cb_L_write g (Nat.le_of_ble_eq_true rfl) ?_
  obtain ⟨us, hob⟩ := ck_oc hx.1
  refine st_aload (pc := 0) (dc_L_write_0.1.1.1.1) rfl ?_
  refine st_aload_n (pc := 2) (j := 0) (dc_L_write_0.1.1.1.2) rfl rfl ?_
  refine st_iload_n (pc := 3) (j := 1) (dc_L_write_0.1.1.2.1) rfl rfl ?_
  refine st_iload_n (pc := 4) (j := 2) (dc_L_write_0.1.1.2.2) rfl rfl ?_
  refine st_iload_n (pc := 5) (j := 3) (dc_L_write_0.1.2.1.1) rfl rfl ?_
  refine st_callV (mi' := mi_X5_write) (as := [sg_i row, sg_i nr, sg_i rx]) (rest := [sg_r O]) (t := 6) (b := B) (d' := d - 1) (mc' := 8) (ms' := 48) g (dc_L_write_0.1.2.1.2) cb_X5_write ml_L_49 mn_X5_write mv_X5_write rfl (by decide) rfl hob rfl (Nat.le_of_ble_eq_true rfl) (by omega) (by omega) (by omega) ?_
  refine f_X5_write g (by first | exact jl_d1 hd rfl | omega) hx ok hL (fun n1 n2 v h1 co F1 => st_K1 ?_) (fun t1 z1 w1 => ?_) (fun t1 t2 z1 w1 => ?_)
  · obtain ⟨ev, cx⟩ : v = (if 40 < L.length + (fs_digs nr rx).length then (-9 : Int) else ((fs_digs nr rx).length : Int)) ∧ cf_X h1 B (if 40 < L.length + (fs_digs nr rx).length then A else fa_put A row.toNat (L ++ (fs_digs nr rx))) := by
      rcases co with ⟨q1, q2, q3⟩ | ⟨q1, q2, q3⟩
      · rw [if_pos (by omega), if_pos (by omega)]; exact ⟨q2, q3⟩
      · rw [if_neg (by omega), if_neg (by omega)]; exact ⟨q2, q3⟩
    have J1 := jk_IY hI (⟨cx.1, F1⟩ : ck_Y h h1 B)
    obtain ⟨z0, r0, hO⟩ := J1.1.2.2.2.2.2.2.2.2.1
    refine st_i2l (pc := 9) (dc_L_write_0.1.2.2.1) ?_
    refine st_putN (pc := 10) g (dc_L_write_0.1.2.2.2) fk_L_13 hO sg_ft_l ?_
    refine st_goto (pc := 13) (tgt := 24) (dc_L_write_0.2.1.1.1) (by decide) ?_
    refine st_iconst (pc := 24) (z := 0) (dc_L_write_0.2.2.2.2) (by decide) ?_
    refine st_iret (pc := 25) dc_L_write_25 rfl (by first | exact Nat.le_of_ble_eq_true rfl | omega) (by first | exact Nat.le_of_ble_eq_true rfl | omega) ?_
    exact hQ _ _ (jk_IO J1.1).1 (jk_Xt J1.2 (jk_IO J1.1).2) (by unfold jk_P; intros; omega) (by unfold jk_P; intros; omega) (by unfold jk_P; intros; omega) (fun q => absurd rfl q) (fun _ => ⟨jk_oe.trans ev, cf_XF cx (jk_FO J1.1)⟩)
  · have J1 := jk_IY hI (ck_Yz (ck_Y0 hx.1) w1)
    refine st_KX 16 ⟨[], ⟨0, 13, 16, 19⟩, [⟨0, 13, 20, 21⟩], e_I, rfl, fun z hz => (nomatch hz), by decide, by decide, cl_L_19, ct_e_I, rfl⟩ (fun q1 => ?_)
    refine st_astore (pc := 16) (dc_L_write_0.2.1.1.2) (by decide) ?_
    refine st_iconst (pc := 18) (z := 1) (dc_L_write_0.2.1.2.1) (by decide) ?_
    refine st_iret (pc := 19) (dc_L_write_0.2.1.2.2) rfl (by first | exact Nat.le_of_ble_eq_true rfl | omega) (by first | exact Nat.le_of_ble_eq_true rfl | omega) ?_
    exact hQ _ _ J1.1 J1.2 (by unfold jk_P; intros; omega) (by unfold jk_P; intros; omega) (by unfold jk_P; intros; omega) (fun _ => cf_XF hx jk_Fz) (fun q => absurd q (by decide))
  · have J1 := jk_IY hI (ck_Yz (ck_Y0 hx.1) w1)
    refine st_KX 20 ⟨[⟨0, 13, 16, 19⟩], ⟨0, 13, 20, 21⟩, [], e_A, rfl, List.forall_mem_cons.mpr ⟨Or.inr ⟨by decide, _, cl_L_19, nc.1⟩, fun z hz => (nomatch hz)⟩, by decide, by decide, cl_L_21, ct_e_A, rfl⟩ (fun q1 => ?_)
    refine st_astore (pc := 20) (dc_L_write_0.2.2.1.1) (by decide) ?_
    refine st_iconst (pc := 22) (z := 2) (dc_L_write_0.2.2.1.2) (by decide) ?_
    refine st_iret (pc := 23) (dc_L_write_0.2.2.2.1) rfl (by first | exact Nat.le_of_ble_eq_true rfl | omega) (by first | exact Nat.le_of_ble_eq_true rfl | omega) ?_
    exact hQ _ _ J1.1 J1.2 (by unfold jk_P; intros; omega) (by unfold jk_P; intros; omega) (by unfold jk_P; intros; omega) (fun _ => cf_XF hx jk_Fz) (fun q => absurd q (by decide))

set_option maxRecDepth 100000 in
theorem f_L_spell {w : sg_W} {Q : sg_O → sg_H → Prop} {h : sg_H} (g : sg_G w) {d : Nat} (nc : jk_C w) (hd : 15 ≤ d) {B M O S : Nat} {xs : List Int} {A : fa_A} (hI : jk_I w B M O S xs h) (hx : cf_X h B A) (ok : fa_ok A) {fr to : Int} {L : List Int} (hL : fa_L A fr.toNat = L) {Z : List Int} (hZ : fa_L A to.toNat = Z) (hQ : ∀ (v : Int) (h' : sg_H), jk_I w B M O S xs h' → jk_X (jk_cut B h) (jk_cut B h') → jk_P ((fr < 0 ∨ 4 ≤ fr ∨ to < 0 ∨ 4 ≤ to) → v = 1) → jk_P (¬ (fr < 0 ∨ 4 ≤ fr ∨ to < 0 ∨ 4 ≤ to) → (fr = to) → v = 2) → jk_P (¬ (fr < 0 ∨ 4 ≤ fr ∨ to < 0 ∨ 4 ≤ to) → ¬ (fr = to) → v = 0) → (v ≠ 0 → cf_X h' B A) → (v = 0 → jk_o h' O = (if 40 < 2 * L.length then (-9 : Int) else 2 * (L.length : Int)) ∧ cf_X h' B (if 40 < 2 * L.length then A else fa_put A to.toNat (fs_spell L))) → Q (.inl (some (sg_i v))) h') : sg_D w mi_L_spell hh_L_spell d 8 48 [sg_r B, sg_i fr, sg_i to, sg_r O] h Q := by
  refine st_of pn_L cb_L_spell g (Nat.le_of_ble_eq_true rfl) ?_
  obtain ⟨us, hob⟩ := ck_oc hx.1
  refine st_aload_n (pc := 0) (j := 3) (dc_L_spell_0.1.1.1.1) rfl rfl ?_
  refine st_aload_n (pc := 1) (j := 0) (dc_L_spell_0.1.1.1.2) rfl rfl ?_
  refine st_iload_n (pc := 2) (j := 1) (dc_L_spell_0.1.1.2.1) rfl rfl ?_
  refine st_iload_n (pc := 3) (j := 2) (dc_L_spell_0.1.1.2.2) rfl rfl ?_
  refine st_callV (mi' := mi_X5_spell) (as := [sg_i fr, sg_i to]) (rest := [sg_r O]) (t := 6) (b := B) (d' := d - 1) (mc' := 8) (ms' := 48) g (dc_L_spell_0.1.2.1.1) cb_X5_spell ml_L_53 mn_X5_spell mv_X5_spell rfl (by decide) rfl hob rfl (Nat.le_of_ble_eq_true rfl) (by omega) (by omega) (by omega) ?_
  refine f_X5_spell g (by first | exact jl_d1 hd rfl | omega) hx ok hL hZ (fun n1 n2 v h1 co F1 => st_K1 ?_) (fun t1 z1 w1 => ?_) (fun t1 t2 z1 w1 => ?_)
  · obtain ⟨ev, cx⟩ : v = (if 40 < 2 * L.length then (-9 : Int) else 2 * (L.length : Int)) ∧ cf_X h1 B (if 40 < 2 * L.length then A else fa_put A to.toNat (fs_spell L)) := by
      rcases co with ⟨q1, q2, q3⟩ | ⟨q1, q2, q3⟩
      · rw [if_pos (by omega), if_pos (by omega)]; exact ⟨q2, q3⟩
      · rw [if_neg (by omega), if_neg (by omega)]; exact ⟨q2, q3⟩
    have J1 := jk_IY hI (⟨cx.1, F1⟩ : ck_Y h h1 B)
    obtain ⟨z0, r0, hO⟩ := J1.1.2.2.2.2.2.2.2.2.1
    refine st_i2l (pc := 7) (dc_L_spell_0.1.2.1.2) ?_
    refine st_putN (pc := 8) g (dc_L_spell_0.1.2.2.1) fk_L_13 hO sg_ft_l ?_
    refine st_goto (pc := 11) (tgt := 22) (dc_L_spell_0.1.2.2.2) (by decide) ?_
    refine st_iconst (pc := 22) (z := 0) (dc_L_spell_0.2.2.2.1) (by decide) ?_
    refine st_iret (pc := 23) (dc_L_spell_0.2.2.2.2) rfl (by first | exact Nat.le_of_ble_eq_true rfl | omega) (by first | exact Nat.le_of_ble_eq_true rfl | omega) ?_
    exact hQ _ _ (jk_IO J1.1).1 (jk_Xt J1.2 (jk_IO J1.1).2) (by unfold jk_P; intros; omega) (by unfold jk_P; intros; omega) (by unfold jk_P; intros; omega) (fun q => absurd rfl q) (fun _ => ⟨jk_oe.trans ev, cf_XF cx (jk_FO J1.1)⟩)
  · have J1 := jk_IY hI (ck_Yz (ck_Y0 hx.1) w1)
    refine st_KX 14 ⟨[], ⟨0, 11, 14, 19⟩, [⟨0, 11, 18, 21⟩], e_I, rfl, fun z hz => (nomatch hz), by decide, by decide, cl_L_19, ct_e_I, rfl⟩ (fun q1 => ?_)
    refine st_astore (pc := 14) (dc_L_spell_0.2.1.1.1) (by decide) ?_
    refine st_iconst (pc := 16) (z := 1) (dc_L_spell_0.2.1.1.2) (by decide) ?_
    refine st_iret (pc := 17) (dc_L_spell_0.2.1.2.1) rfl (by first | exact Nat.le_of_ble_eq_true rfl | omega) (by first | exact Nat.le_of_ble_eq_true rfl | omega) ?_
    exact hQ _ _ J1.1 J1.2 (by unfold jk_P; intros; omega) (by unfold jk_P; intros; omega) (by unfold jk_P; intros; omega) (fun _ => cf_XF hx jk_Fz) (fun q => absurd q (by decide))
  · have J1 := jk_IY hI (ck_Yz (ck_Y0 hx.1) w1)
    refine st_KX 18 ⟨[⟨0, 11, 14, 19⟩], ⟨0, 11, 18, 21⟩, [], e_A, rfl, List.forall_mem_cons.mpr ⟨Or.inr ⟨by decide, _, cl_L_19, nc.1⟩, fun z hz => (nomatch hz)⟩, by decide, by decide, cl_L_21, ct_e_A, rfl⟩ (fun q1 => ?_)
    refine st_astore (pc := 18) (dc_L_spell_0.2.1.2.2) (by decide) ?_
    refine st_iconst (pc := 20) (z := 2) (dc_L_spell_0.2.2.1.1) (by decide) ?_
    refine st_iret (pc := 21) (dc_L_spell_0.2.2.1.2) rfl (by first | exact Nat.le_of_ble_eq_true rfl | omega) (by first | exact Nat.le_of_ble_eq_true rfl | omega) ?_
    exact hQ _ _ J1.1 J1.2 (by unfold jk_P; intros; omega) (by unfold jk_P; intros; omega) (by unfold jk_P; intros; omega) (fun _ => cf_XF hx jk_Fz) (fun q => absurd q (by decide))

set_option maxRecDepth 100000 in
theorem f_L_read {w : sg_W} {Q : sg_O → sg_H → Prop} {h : sg_H} (g : sg_G w) {d : Nat} (nc : jk_C w) (hd : 15 ≤ d) {B M O S : Nat} {xs : List Int} {A : fa_A} (hI : jk_I w B M O S xs h) (hx : cf_X h B A) (ok : fa_ok A) {fr to : Int} {L : List Int} (hL : fa_L A fr.toNat = L) {Z : List Int} (hZ : fa_L A to.toNat = Z) (hQ : ∀ (v : Int) (h' : sg_H), jk_I w B M O S xs h' → jk_X (jk_cut B h) (jk_cut B h') → jk_P ((fr < 0 ∨ 4 ≤ fr ∨ to < 0 ∨ 4 ≤ to) → v = 1) → jk_P (¬ (fr < 0 ∨ 4 ≤ fr ∨ to < 0 ∨ 4 ≤ to) → (fr = to) → v = 2) → jk_P (¬ (fr < 0 ∨ 4 ≤ fr ∨ to < 0 ∨ 4 ≤ to) → ¬ (fr = to) → v = 0) → (v ≠ 0 → cf_X h' B A) → (v = 0 → jk_o h' O = (@ite Int (fs_can L) (Classical.propDecidable _) ((fs_read L).length : Int) (-9)) ∧ cf_X h' B (@ite fa_A (fs_can L) (Classical.propDecidable _) (fa_put A to.toNat (fs_read L)) A)) → Q (.inl (some (sg_i v))) h') : sg_D w mi_L_read hh_L_read d 8 48 [sg_r B, sg_i fr, sg_i to, sg_r O] h Q := by
  refine st_of pn_L cb_L_read g (Nat.le_of_ble_eq_true rfl) ?_
  obtain ⟨us, hob⟩ := ck_oc hx.1
  refine st_aload_n (pc := 0) (j := 3) (dc_L_read_0.1.1.1.1) rfl rfl ?_
  refine st_aload_n (pc := 1) (j := 0) (dc_L_read_0.1.1.1.2) rfl rfl ?_
  refine st_iload_n (pc := 2) (j := 1) (dc_L_read_0.1.1.2.1) rfl rfl ?_
  refine st_iload_n (pc := 3) (j := 2) (dc_L_read_0.1.1.2.2) rfl rfl ?_
  refine st_callV (mi' := mi_X5_read) (as := [sg_i fr, sg_i to]) (rest := [sg_r O]) (t := 6) (b := B) (d' := d - 1) (mc' := 8) (ms' := 48) g (dc_L_read_0.1.2.1.1) cb_X5_read ml_L_56 mn_X5_read mv_X5_read rfl (by decide) rfl hob rfl (Nat.le_of_ble_eq_true rfl) (by omega) (by omega) (by omega) ?_
  refine f_X5_read g (by first | exact jl_d1 hd rfl | omega) hx ok hL hZ (fun n1 n2 v h1 co F1 => st_K1 ?_) (fun t1 z1 w1 => ?_) (fun t1 t2 z1 w1 => ?_)
  · obtain ⟨ev, cx⟩ : v = (@ite Int (fs_can L) (Classical.propDecidable _) ((fs_read L).length : Int) (-9)) ∧ cf_X h1 B (@ite fa_A (fs_can L) (Classical.propDecidable _) (fa_put A to.toNat (fs_read L)) A) := by
      rcases co with ⟨q1, q2, q3⟩ | ⟨q1, q2, q3⟩
      · rw [if_neg q1, if_neg q1]; exact ⟨q2, q3⟩
      · rw [if_pos q1, if_pos q1]; exact ⟨q2, q3⟩
    have J1 := jk_IY hI (⟨cx.1, F1⟩ : ck_Y h h1 B)
    obtain ⟨z0, r0, hO⟩ := J1.1.2.2.2.2.2.2.2.2.1
    refine st_i2l (pc := 7) (dc_L_read_0.1.2.1.2) ?_
    refine st_putN (pc := 8) g (dc_L_read_0.1.2.2.1) fk_L_13 hO sg_ft_l ?_
    refine st_goto (pc := 11) (tgt := 22) (dc_L_read_0.1.2.2.2) (by decide) ?_
    refine st_iconst (pc := 22) (z := 0) (dc_L_read_0.2.2.2.1) (by decide) ?_
    refine st_iret (pc := 23) (dc_L_read_0.2.2.2.2) rfl (by first | exact Nat.le_of_ble_eq_true rfl | omega) (by first | exact Nat.le_of_ble_eq_true rfl | omega) ?_
    exact hQ _ _ (jk_IO J1.1).1 (jk_Xt J1.2 (jk_IO J1.1).2) (by unfold jk_P; intros; omega) (by unfold jk_P; intros; omega) (by unfold jk_P; intros; omega) (fun q => absurd rfl q) (fun _ => ⟨jk_oe.trans ev, cf_XF cx (jk_FO J1.1)⟩)
  · have J1 := jk_IY hI (ck_Yz (ck_Y0 hx.1) w1)
    refine st_KX 14 ⟨[], ⟨0, 11, 14, 19⟩, [⟨0, 11, 18, 21⟩], e_I, rfl, fun z hz => (nomatch hz), by decide, by decide, cl_L_19, ct_e_I, rfl⟩ (fun q1 => ?_)
    refine st_astore (pc := 14) (dc_L_read_0.2.1.1.1) (by decide) ?_
    refine st_iconst (pc := 16) (z := 1) (dc_L_read_0.2.1.1.2) (by decide) ?_
    refine st_iret (pc := 17) (dc_L_read_0.2.1.2.1) rfl (by first | exact Nat.le_of_ble_eq_true rfl | omega) (by first | exact Nat.le_of_ble_eq_true rfl | omega) ?_
    exact hQ _ _ J1.1 J1.2 (by unfold jk_P; intros; omega) (by unfold jk_P; intros; omega) (by unfold jk_P; intros; omega) (fun _ => cf_XF hx jk_Fz) (fun q => absurd q (by decide))
  · have J1 := jk_IY hI (ck_Yz (ck_Y0 hx.1) w1)
    refine st_KX 18 ⟨[⟨0, 11, 14, 19⟩], ⟨0, 11, 18, 21⟩, [], e_A, rfl, List.forall_mem_cons.mpr ⟨Or.inr ⟨by decide, _, cl_L_19, nc.1⟩, fun z hz => (nomatch hz)⟩, by decide, by decide, cl_L_21, ct_e_A, rfl⟩ (fun q1 => ?_)
    refine st_astore (pc := 18) (dc_L_read_0.2.1.2.2) (by decide) ?_
    refine st_iconst (pc := 20) (z := 2) (dc_L_read_0.2.2.1.1) (by decide) ?_
    refine st_iret (pc := 21) (dc_L_read_0.2.2.1.2) rfl (by first | exact Nat.le_of_ble_eq_true rfl | omega) (by first | exact Nat.le_of_ble_eq_true rfl | omega) ?_
    exact hQ _ _ J1.1 J1.2 (by unfold jk_P; intros; omega) (by unfold jk_P; intros; omega) (by unfold jk_P; intros; omega) (fun _ => cf_XF hx jk_Fz) (fun q => absurd q (by decide))

set_option maxRecDepth 100000 in
theorem f_L_send {w : sg_W} {Q : sg_O → sg_H → Prop} {h : sg_H} (g : sg_G w) {d : Nat} (nc : jk_C w) (hd : 15 ≤ d) {B M O S : Nat} {xs : List Int} {A : fa_A} (hI : jk_I w B M O S xs h) (hx : cf_X h B A) (ok : fa_ok A) {trk x : Int} {L : List Int} (hL : fa_L A (4 + trk.toNat) = L) (hQ : ∀ (v : Int) (h' : sg_H), jk_I w B M O S xs h' → jk_X (jk_cut B h) (jk_cut B h') → jk_P ((trk < 0 ∨ 2 ≤ trk) → v = 1) → jk_P (¬ (trk < 0 ∨ 2 ≤ trk) → (x < 0 ∨ 1114111 < x) → v = 2) → jk_P (¬ (trk < 0 ∨ 2 ≤ trk) → ¬ (x < 0 ∨ 1114111 < x) → v = 0) → (v ≠ 0 → cf_X h' B A) → (v = 0 → jk_o h' O = (if 24 < L.length + (fs_sent x).length then (-9 : Int) else (L.length : Int) + ((fs_sent x).length : Nat)) ∧ cf_X h' B (if 24 < L.length + (fs_sent x).length then A else fa_put A (4 + trk.toNat) (L ++ fs_sent x))) → Q (.inl (some (sg_i v))) h') : sg_D w mi_L_send hh_L_send d 8 48 [sg_r B, sg_i trk, sg_i x, sg_r O] h Q := by
  refine st_of pn_L cb_L_send g (Nat.le_of_ble_eq_true rfl) ?_
  obtain ⟨us, hob⟩ := ck_oc hx.1
  refine st_aload_n (pc := 0) (j := 3) (dc_L_send_0.1.1.1.1) rfl rfl ?_
  refine st_aload_n (pc := 1) (j := 0) (dc_L_send_0.1.1.1.2) rfl rfl ?_
  refine st_iload_n (pc := 2) (j := 1) (dc_L_send_0.1.1.2.1) rfl rfl ?_
  refine st_iload_n (pc := 3) (j := 2) (dc_L_send_0.1.1.2.2) rfl rfl ?_
  refine st_callV (mi' := mi_X5_send) (as := [sg_i trk, sg_i x]) (rest := [sg_r O]) (t := 6) (b := B) (d' := d - 1) (mc' := 8) (ms' := 48) g (dc_L_send_0.1.2.1.1) cb_X5_send ml_L_59 mn_X5_send mv_X5_send rfl (by decide) rfl hob rfl (Nat.le_of_ble_eq_true rfl) (by omega) (by omega) (by omega) ?_
  refine f_X5_send g (by first | exact jl_d1 hd rfl | omega) hx ok hL (fun n1 n2 v h1 co F1 => st_K1 ?_) (fun t1 z1 w1 => ?_) (fun t1 t2 z1 w1 => ?_)
  · obtain ⟨ev, cx⟩ : v = (if 24 < L.length + (fs_sent x).length then (-9 : Int) else (L.length : Int) + ((fs_sent x).length : Nat)) ∧ cf_X h1 B (if 24 < L.length + (fs_sent x).length then A else fa_put A (4 + trk.toNat) (L ++ fs_sent x)) := by
      rcases co with ⟨q1, q2, q3⟩ | ⟨q1, q2, q3⟩
      · rw [if_pos (by omega), if_pos (by omega)]; exact ⟨q2, q3⟩
      · rw [if_neg (by omega), if_neg (by omega)]; exact ⟨q2, q3⟩
    have J1 := jk_IY hI (⟨cx.1, F1⟩ : ck_Y h h1 B)
    obtain ⟨z0, r0, hO⟩ := J1.1.2.2.2.2.2.2.2.2.1
    refine st_i2l (pc := 7) (dc_L_send_0.1.2.1.2) ?_
    refine st_putN (pc := 8) g (dc_L_send_0.1.2.2.1) fk_L_13 hO sg_ft_l ?_
    refine st_goto (pc := 11) (tgt := 22) (dc_L_send_0.1.2.2.2) (by decide) ?_
    refine st_iconst (pc := 22) (z := 0) (dc_L_send_0.2.2.2.1) (by decide) ?_
    refine st_iret (pc := 23) (dc_L_send_0.2.2.2.2) rfl (by first | exact Nat.le_of_ble_eq_true rfl | omega) (by first | exact Nat.le_of_ble_eq_true rfl | omega) ?_
    exact hQ _ _ (jk_IO J1.1).1 (jk_Xt J1.2 (jk_IO J1.1).2) (by unfold jk_P; intros; omega) (by unfold jk_P; intros; omega) (by unfold jk_P; intros; omega) (fun q => absurd rfl q) (fun _ => ⟨jk_oe.trans ev, cf_XF cx (jk_FO J1.1)⟩)
  · have J1 := jk_IY hI (ck_Yz (ck_Y0 hx.1) w1)
    refine st_KX 14 ⟨[], ⟨0, 11, 14, 19⟩, [⟨0, 11, 18, 21⟩], e_I, rfl, fun z hz => (nomatch hz), by decide, by decide, cl_L_19, ct_e_I, rfl⟩ (fun q1 => ?_)
    refine st_astore (pc := 14) (dc_L_send_0.2.1.1.1) (by decide) ?_
    refine st_iconst (pc := 16) (z := 1) (dc_L_send_0.2.1.1.2) (by decide) ?_
    refine st_iret (pc := 17) (dc_L_send_0.2.1.2.1) rfl (by first | exact Nat.le_of_ble_eq_true rfl | omega) (by first | exact Nat.le_of_ble_eq_true rfl | omega) ?_
    exact hQ _ _ J1.1 J1.2 (by unfold jk_P; intros; omega) (by unfold jk_P; intros; omega) (by unfold jk_P; intros; omega) (fun _ => cf_XF hx jk_Fz) (fun q => absurd q (by decide))
  · have J1 := jk_IY hI (ck_Yz (ck_Y0 hx.1) w1)
    refine st_KX 18 ⟨[⟨0, 11, 14, 19⟩], ⟨0, 11, 18, 21⟩, [], e_A, rfl, List.forall_mem_cons.mpr ⟨Or.inr ⟨by decide, _, cl_L_19, nc.1⟩, fun z hz => (nomatch hz)⟩, by decide, by decide, cl_L_21, ct_e_A, rfl⟩ (fun q1 => ?_)
    refine st_astore (pc := 18) (dc_L_send_0.2.1.2.2) (by decide) ?_
    refine st_iconst (pc := 20) (z := 2) (dc_L_send_0.2.2.1.1) (by decide) ?_
    refine st_iret (pc := 21) (dc_L_send_0.2.2.1.2) rfl (by first | exact Nat.le_of_ble_eq_true rfl | omega) (by first | exact Nat.le_of_ble_eq_true rfl | omega) ?_
    exact hQ _ _ J1.1 J1.2 (by unfold jk_P; intros; omega) (by unfold jk_P; intros; omega) (by unfold jk_P; intros; omega) (fun _ => cf_XF hx jk_Fz) (fun q => absurd q (by decide))

set_option maxRecDepth 100000 in
theorem f_L_put {w : sg_W} {Q : sg_O → sg_H → Prop} {h : sg_H} (g : sg_G w) {d : Nat} (nc : jk_C w) (hd : 15 ≤ d) {B M O S : Nat} {xs : List Int} {A : fa_A} (hI : jk_I w B M O S xs h) (hx : cf_X h B A) (ok : fa_ok A) {trk x : Int} {L : List Int} (hL : fa_L A (4 + trk.toNat) = L) (hQ : ∀ (v : Int) (h' : sg_H), jk_I w B M O S xs h' → jk_X (jk_cut B h) (jk_cut B h') → jk_P ((trk < 0 ∨ 2 ≤ trk) → v = 1) → jk_P (¬ (trk < 0 ∨ 2 ≤ trk) → (x < 0 ∨ 65535 < x) → v = 2) → jk_P (¬ (trk < 0 ∨ 2 ≤ trk) → ¬ (x < 0 ∨ 65535 < x) → v = 0) → (v ≠ 0 → cf_X h' B A) → (v = 0 → jk_o h' O = (if 24 < L.length + 1 then (-9 : Int) else (L.length : Int) + (1 : Nat)) ∧ cf_X h' B (if 24 < L.length + 1 then A else fa_put A (4 + trk.toNat) (L ++ [x]))) → Q (.inl (some (sg_i v))) h') : sg_D w mi_L_put hh_L_put d 8 48 [sg_r B, sg_i trk, sg_i x, sg_r O] h Q := by
  refine st_of pn_L cb_L_put g (Nat.le_of_ble_eq_true rfl) ?_
  obtain ⟨us, hob⟩ := ck_oc hx.1
  refine st_aload_n (pc := 0) (j := 3) (dc_L_put_0.1.1.1.1) rfl rfl ?_
  refine st_aload_n (pc := 1) (j := 0) (dc_L_put_0.1.1.1.2) rfl rfl ?_
  refine st_iload_n (pc := 2) (j := 1) (dc_L_put_0.1.1.2.1) rfl rfl ?_
  refine st_iload_n (pc := 3) (j := 2) (dc_L_put_0.1.1.2.2) rfl rfl ?_
  refine st_callV (mi' := mi_X5_put) (as := [sg_i trk, sg_i x]) (rest := [sg_r O]) (t := 6) (b := B) (d' := d - 1) (mc' := 8) (ms' := 48) g (dc_L_put_0.1.2.1.1) cb_X5_put ml_L_62 mn_X5_put mv_X5_put rfl (by decide) rfl hob rfl (Nat.le_of_ble_eq_true rfl) (by omega) (by omega) (by omega) ?_
  refine f_X5_put g (by first | exact jl_d1 hd rfl | omega) hx ok hL (fun n1 n2 v h1 co F1 => st_K1 ?_) (fun t1 z1 w1 => ?_) (fun t1 t2 z1 w1 => ?_)
  · obtain ⟨ev, cx⟩ : v = (if 24 < L.length + 1 then (-9 : Int) else (L.length : Int) + (1 : Nat)) ∧ cf_X h1 B (if 24 < L.length + 1 then A else fa_put A (4 + trk.toNat) (L ++ [x])) := by
      rcases co with ⟨q1, q2, q3⟩ | ⟨q1, q2, q3⟩
      · rw [if_pos (by omega), if_pos (by omega)]; exact ⟨q2, q3⟩
      · rw [if_neg (by omega), if_neg (by omega)]; exact ⟨q2, q3⟩
    have J1 := jk_IY hI (⟨cx.1, F1⟩ : ck_Y h h1 B)
    obtain ⟨z0, r0, hO⟩ := J1.1.2.2.2.2.2.2.2.2.1
    refine st_i2l (pc := 7) (dc_L_put_0.1.2.1.2) ?_
    refine st_putN (pc := 8) g (dc_L_put_0.1.2.2.1) fk_L_13 hO sg_ft_l ?_
    refine st_goto (pc := 11) (tgt := 22) (dc_L_put_0.1.2.2.2) (by decide) ?_
    refine st_iconst (pc := 22) (z := 0) (dc_L_put_0.2.2.2.1) (by decide) ?_
    refine st_iret (pc := 23) (dc_L_put_0.2.2.2.2) rfl (by first | exact Nat.le_of_ble_eq_true rfl | omega) (by first | exact Nat.le_of_ble_eq_true rfl | omega) ?_
    exact hQ _ _ (jk_IO J1.1).1 (jk_Xt J1.2 (jk_IO J1.1).2) (by unfold jk_P; intros; omega) (by unfold jk_P; intros; omega) (by unfold jk_P; intros; omega) (fun q => absurd rfl q) (fun _ => ⟨jk_oe.trans ev, cf_XF cx (jk_FO J1.1)⟩)
  · have J1 := jk_IY hI (ck_Yz (ck_Y0 hx.1) w1)
    refine st_KX 14 ⟨[], ⟨0, 11, 14, 19⟩, [⟨0, 11, 18, 21⟩], e_I, rfl, fun z hz => (nomatch hz), by decide, by decide, cl_L_19, ct_e_I, rfl⟩ (fun q1 => ?_)
    refine st_astore (pc := 14) (dc_L_put_0.2.1.1.1) (by decide) ?_
    refine st_iconst (pc := 16) (z := 1) (dc_L_put_0.2.1.1.2) (by decide) ?_
    refine st_iret (pc := 17) (dc_L_put_0.2.1.2.1) rfl (by first | exact Nat.le_of_ble_eq_true rfl | omega) (by first | exact Nat.le_of_ble_eq_true rfl | omega) ?_
    exact hQ _ _ J1.1 J1.2 (by unfold jk_P; intros; omega) (by unfold jk_P; intros; omega) (by unfold jk_P; intros; omega) (fun _ => cf_XF hx jk_Fz) (fun q => absurd q (by decide))
  · have J1 := jk_IY hI (ck_Yz (ck_Y0 hx.1) w1)
    refine st_KX 18 ⟨[⟨0, 11, 14, 19⟩], ⟨0, 11, 18, 21⟩, [], e_A, rfl, List.forall_mem_cons.mpr ⟨Or.inr ⟨by decide, _, cl_L_19, nc.1⟩, fun z hz => (nomatch hz)⟩, by decide, by decide, cl_L_21, ct_e_A, rfl⟩ (fun q1 => ?_)
    refine st_astore (pc := 18) (dc_L_put_0.2.1.2.2) (by decide) ?_
    refine st_iconst (pc := 20) (z := 2) (dc_L_put_0.2.2.1.1) (by decide) ?_
    refine st_iret (pc := 21) (dc_L_put_0.2.2.1.2) rfl (by first | exact Nat.le_of_ble_eq_true rfl | omega) (by first | exact Nat.le_of_ble_eq_true rfl | omega) ?_
    exact hQ _ _ J1.1 J1.2 (by unfold jk_P; intros; omega) (by unfold jk_P; intros; omega) (by unfold jk_P; intros; omega) (fun _ => cf_XF hx jk_Fz) (fun q => absurd q (by decide))

set_option maxRecDepth 100000 in
theorem f_L_cut {w : sg_W} {Q : sg_O → sg_H → Prop} {h : sg_H} (g : sg_G w) {d : Nat} (nc : jk_C w) (hd : 15 ≤ d) {B M O S : Nat} {xs : List Int} {A : fa_A} (hI : jk_I w B M O S xs h) (hx : cf_X h B A) (ok : fa_ok A) {trk many : Int} {L : List Int} (hL : fa_L A (4 + trk.toNat) = L) (hQ : ∀ (v : Int) (h' : sg_H), jk_I w B M O S xs h' → jk_X (jk_cut B h) (jk_cut B h') → jk_P ((trk < 0 ∨ 2 ≤ trk) → v = 1) → jk_P (¬ (trk < 0 ∨ 2 ≤ trk) → (many < 0 ∨ (L.length : Int) < many) → v = 2) → jk_P (¬ (trk < 0 ∨ 2 ≤ trk) → ¬ (many < 0 ∨ (L.length : Int) < many) → v = 0) → (v ≠ 0 → cf_X h' B A) → (v = 0 → jk_o h' O = (L.length : Int) - many ∧ cf_X h' B (fa_put A (4 + trk.toNat) (L.take (L.length - many.toNat)))) → Q (.inl (some (sg_i v))) h') : sg_D w mi_L_cut hh_L_cut d 8 48 [sg_r B, sg_i trk, sg_i many, sg_r O] h Q := by
  refine st_of pn_L cb_L_cut g (Nat.le_of_ble_eq_true rfl) ?_
  obtain ⟨us, hob⟩ := ck_oc hx.1
  refine st_aload_n (pc := 0) (j := 3) (dc_L_cut_0.1.1.1.1) rfl rfl ?_
  refine st_aload_n (pc := 1) (j := 0) (dc_L_cut_0.1.1.1.2) rfl rfl ?_
  refine st_iload_n (pc := 2) (j := 1) (dc_L_cut_0.1.1.2.1) rfl rfl ?_
  refine st_iload_n (pc := 3) (j := 2) (dc_L_cut_0.1.1.2.2) rfl rfl ?_
  refine st_callV (mi' := mi_X5_cut) (as := [sg_i trk, sg_i many]) (rest := [sg_r O]) (t := 6) (b := B) (d' := d - 1) (mc' := 8) (ms' := 48) g (dc_L_cut_0.1.2.1.1) cb_X5_cut ml_L_65 mn_X5_cut mv_X5_cut rfl (by decide) rfl hob rfl (Nat.le_of_ble_eq_true rfl) (by omega) (by omega) (by omega) ?_
  refine f_X5_cut g (by first | exact jl_d1 hd rfl | omega) hx ok hL (fun n1 n2 v h1 ev cx F1 => st_K1 ?_) (fun t1 z1 w1 => ?_) (fun t1 t2 z1 w1 => ?_)
  · have J1 := jk_IY hI (⟨cx.1, F1⟩ : ck_Y h h1 B)
    obtain ⟨z0, r0, hO⟩ := J1.1.2.2.2.2.2.2.2.2.1
    refine st_i2l (pc := 7) (dc_L_cut_0.1.2.1.2) ?_
    refine st_putN (pc := 8) g (dc_L_cut_0.1.2.2.1) fk_L_13 hO sg_ft_l ?_
    refine st_goto (pc := 11) (tgt := 22) (dc_L_cut_0.1.2.2.2) (by decide) ?_
    refine st_iconst (pc := 22) (z := 0) (dc_L_cut_0.2.2.2.1) (by decide) ?_
    refine st_iret (pc := 23) (dc_L_cut_0.2.2.2.2) rfl (by first | exact Nat.le_of_ble_eq_true rfl | omega) (by first | exact Nat.le_of_ble_eq_true rfl | omega) ?_
    exact hQ _ _ (jk_IO J1.1).1 (jk_Xt J1.2 (jk_IO J1.1).2) (by unfold jk_P; intros; omega) (by unfold jk_P; intros; omega) (by unfold jk_P; intros; omega) (fun q => absurd rfl q) (fun _ => ⟨jk_oe.trans ev, cf_XF cx (jk_FO J1.1)⟩)
  · have J1 := jk_IY hI (ck_Yz (ck_Y0 hx.1) w1)
    refine st_KX 14 ⟨[], ⟨0, 11, 14, 19⟩, [⟨0, 11, 18, 21⟩], e_I, rfl, fun z hz => (nomatch hz), by decide, by decide, cl_L_19, ct_e_I, rfl⟩ (fun q1 => ?_)
    refine st_astore (pc := 14) (dc_L_cut_0.2.1.1.1) (by decide) ?_
    refine st_iconst (pc := 16) (z := 1) (dc_L_cut_0.2.1.1.2) (by decide) ?_
    refine st_iret (pc := 17) (dc_L_cut_0.2.1.2.1) rfl (by first | exact Nat.le_of_ble_eq_true rfl | omega) (by first | exact Nat.le_of_ble_eq_true rfl | omega) ?_
    exact hQ _ _ J1.1 J1.2 (by unfold jk_P; intros; omega) (by unfold jk_P; intros; omega) (by unfold jk_P; intros; omega) (fun _ => cf_XF hx jk_Fz) (fun q => absurd q (by decide))
  · have J1 := jk_IY hI (ck_Yz (ck_Y0 hx.1) w1)
    refine st_KX 18 ⟨[⟨0, 11, 14, 19⟩], ⟨0, 11, 18, 21⟩, [], e_A, rfl, List.forall_mem_cons.mpr ⟨Or.inr ⟨by decide, _, cl_L_19, nc.1⟩, fun z hz => (nomatch hz)⟩, by decide, by decide, cl_L_21, ct_e_A, rfl⟩ (fun q1 => ?_)
    refine st_astore (pc := 18) (dc_L_cut_0.2.1.2.2) (by decide) ?_
    refine st_iconst (pc := 20) (z := 2) (dc_L_cut_0.2.2.1.1) (by decide) ?_
    refine st_iret (pc := 21) (dc_L_cut_0.2.2.1.2) rfl (by first | exact Nat.le_of_ble_eq_true rfl | omega) (by first | exact Nat.le_of_ble_eq_true rfl | omega) ?_
    exact hQ _ _ J1.1 J1.2 (by unfold jk_P; intros; omega) (by unfold jk_P; intros; omega) (by unfold jk_P; intros; omega) (fun _ => cf_XF hx jk_Fz) (fun q => absurd q (by decide))

set_option maxRecDepth 100000 in
theorem f_L_flip {w : sg_W} {Q : sg_O → sg_H → Prop} {h : sg_H} (g : sg_G w) {d : Nat} (nc : jk_C w) (hd : 15 ≤ d) {B M O S : Nat} {xs : List Int} {A : fa_A} (hI : jk_I w B M O S xs h) (hx : cf_X h B A) (ok : fa_ok A) {trk : Int} {L : List Int} (hL : fa_L A (4 + trk.toNat) = L) (hQ : ∀ (v : Int) (h' : sg_H), jk_I w B M O S xs h' → jk_X (jk_cut B h) (jk_cut B h') → jk_P ((trk < 0 ∨ 2 ≤ trk) → v = 1) → jk_P (¬ (trk < 0 ∨ 2 ≤ trk) → v = 0) → (v ≠ 0 → cf_X h' B A) → (v = 0 → jk_o h' O = fs_hf L L.length ∧ cf_X h' B (fa_put A (4 + trk.toNat) (L.map fn_turn))) → Q (.inl (some (sg_i v))) h') : sg_D w mi_L_flip hh_L_flip d 8 48 [sg_r B, sg_i trk, sg_r O] h Q := by
  refine st_of pn_L cb_L_flip g (Nat.le_of_ble_eq_true rfl) ?_
  obtain ⟨us, hob⟩ := ck_oc hx.1
  refine st_aload_n (pc := 0) (j := 2) (dc_L_flip_0.1.1.1.1) rfl rfl ?_
  refine st_aload_n (pc := 1) (j := 0) (dc_L_flip_0.1.1.1.2) rfl rfl ?_
  refine st_iload_n (pc := 2) (j := 1) (dc_L_flip_0.1.1.2.1) rfl rfl ?_
  refine st_callV (mi' := mi_X5_flip) (as := [sg_i trk]) (rest := [sg_r O]) (t := 6) (b := B) (d' := d - 1) (mc' := 8) (ms' := 48) g (dc_L_flip_0.1.1.2.2) cb_X5_flip ml_L_68 mn_X5_flip mv_X5_flip rfl (by decide) rfl hob rfl (Nat.le_of_ble_eq_true rfl) (by omega) (by omega) (by omega) ?_
  refine f_X5_flip g (by first | exact jl_d1 hd rfl | omega) hx ok hL (fun n1 v h1 ev cx F1 => st_K1 ?_) (fun t1 z1 w1 => ?_)
  · have J1 := jk_IY hI (⟨cx.1, F1⟩ : ck_Y h h1 B)
    obtain ⟨z0, r0, hO⟩ := J1.1.2.2.2.2.2.2.2.2.1
    refine st_i2l (pc := 6) (dc_L_flip_0.1.2.1.1) ?_
    refine st_putN (pc := 7) g (dc_L_flip_0.1.2.1.2) fk_L_13 hO sg_ft_l ?_
    refine st_goto (pc := 10) (tgt := 16) (dc_L_flip_0.1.2.2.1) (by decide) ?_
    refine st_iconst (pc := 16) (z := 0) (dc_L_flip_0.2.1.2.1) (by decide) ?_
    refine st_iret (pc := 17) (dc_L_flip_0.2.1.2.2) rfl (by first | exact Nat.le_of_ble_eq_true rfl | omega) (by first | exact Nat.le_of_ble_eq_true rfl | omega) ?_
    exact hQ _ _ (jk_IO J1.1).1 (jk_Xt J1.2 (jk_IO J1.1).2) (by unfold jk_P; intros; omega) (by unfold jk_P; intros; omega) (fun q => absurd rfl q) (fun _ => ⟨jk_oe.trans ev, cf_XF cx (jk_FO J1.1)⟩)
  · have J1 := jk_IY hI (ck_Yz (ck_Y0 hx.1) w1)
    refine st_KX 13 ⟨[], ⟨0, 10, 13, 19⟩, [], e_I, rfl, fun z hz => (nomatch hz), by decide, by decide, cl_L_19, ct_e_I, rfl⟩ (fun q1 => ?_)
    refine st_astore_n (pc := 13) (j := 3) (dc_L_flip_0.1.2.2.2) rfl (by decide) ?_
    refine st_iconst (pc := 14) (z := 1) (dc_L_flip_0.2.1.1.1) (by decide) ?_
    refine st_iret (pc := 15) (dc_L_flip_0.2.1.1.2) rfl (by first | exact Nat.le_of_ble_eq_true rfl | omega) (by first | exact Nat.le_of_ble_eq_true rfl | omega) ?_
    exact hQ _ _ J1.1 J1.2 (by unfold jk_P; intros; omega) (by unfold jk_P; intros; omega) (fun _ => cf_XF hx jk_Fz) (fun q => absurd q (by decide))

set_option maxRecDepth 100000 in
theorem f_L_reverse {w : sg_W} {Q : sg_O → sg_H → Prop} {h : sg_H} (g : sg_G w) {d : Nat} (nc : jk_C w) (hd : 15 ≤ d) {B M O S : Nat} {xs : List Int} {A : fa_A} (hI : jk_I w B M O S xs h) (hx : cf_X h B A) (ok : fa_ok A) {trk : Int} {L : List Int} (hL : fa_L A (4 + trk.toNat) = L) (hQ : ∀ (v : Int) (h' : sg_H), jk_I w B M O S xs h' → jk_X (jk_cut B h) (jk_cut B h') → jk_P ((trk < 0 ∨ 2 ≤ trk) → v = 1) → jk_P (¬ (trk < 0 ∨ 2 ≤ trk) → v = 0) → (v ≠ 0 → cf_X h' B A) → (v = 0 → jk_o h' O = ((fs_codes ((fs_codes L).reverse.flatMap fs_sent)).length : Int) ∧ cf_X h' B (fa_put A (4 + trk.toNat) (((fs_codes L).reverse.flatMap fs_sent)))) → Q (.inl (some (sg_i v))) h') : sg_D w mi_L_reverse hh_L_reverse d 8 48 [sg_r B, sg_i trk, sg_r O] h Q := by
  refine st_of pn_L cb_L_reverse g (Nat.le_of_ble_eq_true rfl) ?_
  obtain ⟨us, hob⟩ := ck_oc hx.1
  refine st_aload_n (pc := 0) (j := 2) (dc_L_reverse_0.1.1.1.1) rfl rfl ?_
  refine st_aload_n (pc := 1) (j := 0) (dc_L_reverse_0.1.1.1.2) rfl rfl ?_
  refine st_iload_n (pc := 2) (j := 1) (dc_L_reverse_0.1.1.2.1) rfl rfl ?_
  refine st_callV (mi' := mi_X5_reverse) (as := [sg_i trk]) (rest := [sg_r O]) (t := 6) (b := B) (d' := d - 1) (mc' := 8) (ms' := 48) g (dc_L_reverse_0.1.1.2.2) cb_X5_reverse ml_L_71 mn_X5_reverse mv_X5_reverse rfl (by decide) rfl hob rfl (Nat.le_of_ble_eq_true rfl) (by omega) (by omega) (by omega) ?_
  refine f_X5_reverse g (by first | exact jl_d1 hd rfl | omega) hx ok hL (fun n1 v h1 ev cx F1 => st_K1 ?_) (fun t1 z1 w1 => ?_)
  · have J1 := jk_IY hI (⟨cx.1, F1⟩ : ck_Y h h1 B)
    obtain ⟨z0, r0, hO⟩ := J1.1.2.2.2.2.2.2.2.2.1
    refine st_i2l (pc := 6) (dc_L_reverse_0.1.2.1.1) ?_
    refine st_putN (pc := 7) g (dc_L_reverse_0.1.2.1.2) fk_L_13 hO sg_ft_l ?_
    refine st_goto (pc := 10) (tgt := 16) (dc_L_reverse_0.1.2.2.1) (by decide) ?_
    refine st_iconst (pc := 16) (z := 0) (dc_L_reverse_0.2.1.2.1) (by decide) ?_
    refine st_iret (pc := 17) (dc_L_reverse_0.2.1.2.2) rfl (by first | exact Nat.le_of_ble_eq_true rfl | omega) (by first | exact Nat.le_of_ble_eq_true rfl | omega) ?_
    exact hQ _ _ (jk_IO J1.1).1 (jk_Xt J1.2 (jk_IO J1.1).2) (by unfold jk_P; intros; omega) (by unfold jk_P; intros; omega) (fun q => absurd rfl q) (fun _ => ⟨jk_oe.trans ev, cf_XF cx (jk_FO J1.1)⟩)
  · have J1 := jk_IY hI (ck_Yz (ck_Y0 hx.1) w1)
    refine st_KX 13 ⟨[], ⟨0, 10, 13, 19⟩, [], e_I, rfl, fun z hz => (nomatch hz), by decide, by decide, cl_L_19, ct_e_I, rfl⟩ (fun q1 => ?_)
    refine st_astore_n (pc := 13) (j := 3) (dc_L_reverse_0.1.2.2.2) rfl (by decide) ?_
    refine st_iconst (pc := 14) (z := 1) (dc_L_reverse_0.2.1.1.1) (by decide) ?_
    refine st_iret (pc := 15) (dc_L_reverse_0.2.1.1.2) rfl (by first | exact Nat.le_of_ble_eq_true rfl | omega) (by first | exact Nat.le_of_ble_eq_true rfl | omega) ?_
    exact hQ _ _ J1.1 J1.2 (by unfold jk_P; intros; omega) (by unfold jk_P; intros; omega) (fun _ => cf_XF hx jk_Fz) (fun q => absurd q (by decide))

set_option maxRecDepth 100000 in
theorem f_L_undo {w : sg_W} {Q : sg_O → sg_H → Prop} {h : sg_H} (g : sg_G w) {d : Nat} (nc : jk_C w) (hd : 15 ≤ d) {B M O S : Nat} {xs : List Int} {A : fa_A} (hI : jk_I w B M O S xs h) (hx : cf_X h B A) (ok : fa_ok A) (hQ : ∀ (v : Int) (h' : sg_H), jk_I w B M O S xs h' → jk_X (jk_cut B h) (jk_cut B h') → jk_P ((A.2.1.length = 0) → v = 1) → jk_P (¬ (A.2.1.length = 0) → v = 0) → (v ≠ 0 → cf_X h' B A) → (v = 0 → jk_o h' O = (A.2.1.length : Int) - 1 ∧ cf_X h' B (A.2.1.headD [], (A.2.1.tail, A.2.2))) → Q (.inl (some (sg_i v))) h') : sg_D w mi_L_undo hh_L_undo d 8 48 [sg_r B, sg_r O] h Q := by
  refine st_of pn_L cb_L_undo g (Nat.le_of_ble_eq_true rfl) ?_
  obtain ⟨us, hob⟩ := ck_oc hx.1
  refine st_aload_n (pc := 0) (j := 1) (dc_L_undo_0.1.1.1.1) rfl rfl ?_
  refine st_aload_n (pc := 1) (j := 0) (dc_L_undo_0.1.1.1.2) rfl rfl ?_
  refine st_callV (mi' := mi_X5_undo) (as := []) (rest := [sg_r O]) (t := 6) (b := B) (d' := d - 1) (mc' := 8) (ms' := 48) g (dc_L_undo_0.1.1.2.1) cb_X5_undo ml_L_74 mn_X5_undo mv_X5_undo rfl (by decide) rfl hob rfl (Nat.le_of_ble_eq_true rfl) (by omega) (by omega) (by omega) ?_
  refine f_X5_undo g (by first | exact jl_d1 hd rfl | omega) hx (fun n1 v h1 ev cx F1 => st_K1 ?_) (fun t1 z1 w1 => ?_)
  · have J1 := jk_IY hI (⟨cx.1, F1⟩ : ck_Y h h1 B)
    obtain ⟨z0, r0, hO⟩ := J1.1.2.2.2.2.2.2.2.2.1
    refine st_i2l (pc := 5) (dc_L_undo_0.1.1.2.2) ?_
    refine st_putN (pc := 6) g (dc_L_undo_0.1.2.1.1) fk_L_13 hO sg_ft_l ?_
    refine st_goto (pc := 9) (tgt := 15) (dc_L_undo_0.1.2.1.2) (by decide) ?_
    refine st_iconst (pc := 15) (z := 0) (dc_L_undo_0.2.1.1.2) (by decide) ?_
    refine st_iret (pc := 16) (dc_L_undo_0.2.1.2.1) rfl (by first | exact Nat.le_of_ble_eq_true rfl | omega) (by first | exact Nat.le_of_ble_eq_true rfl | omega) ?_
    exact hQ _ _ (jk_IO J1.1).1 (jk_Xt J1.2 (jk_IO J1.1).2) (by unfold jk_P; intros; omega) (by unfold jk_P; intros; omega) (fun q => absurd rfl q) (fun _ => ⟨jk_oe.trans ev, cf_XF cx (jk_FO J1.1)⟩)
  · have J1 := jk_IY hI (ck_Yz (ck_Y0 hx.1) w1)
    refine st_KX 12 ⟨[], ⟨0, 9, 12, 23⟩, [], e_S, rfl, fun z hz => (nomatch hz), by decide, by decide, cl_L_23, ct_e_S, rfl⟩ (fun q1 => ?_)
    refine st_astore_n (pc := 12) (j := 2) (dc_L_undo_0.1.2.2.1) rfl (by decide) ?_
    refine st_iconst (pc := 13) (z := 1) (dc_L_undo_0.1.2.2.2) (by decide) ?_
    refine st_iret (pc := 14) (dc_L_undo_0.2.1.1.1) rfl (by first | exact Nat.le_of_ble_eq_true rfl | omega) (by first | exact Nat.le_of_ble_eq_true rfl | omega) ?_
    exact hQ _ _ J1.1 J1.2 (by unfold jk_P; intros; omega) (by unfold jk_P; intros; omega) (fun _ => cf_XF hx jk_Fz) (fun q => absurd q (by decide))

set_option maxRecDepth 100000 in
theorem f_L_length {w : sg_W} {Q : sg_O → sg_H → Prop} {h : sg_H} (g : sg_G w) {d : Nat} (nc : jk_C w) (hd : 15 ≤ d) {B M O S : Nat} {xs : List Int} {A : fa_A} (hI : jk_I w B M O S xs h) (hx : cf_X h B A) (ok : fa_ok A) {row : Int} {L : List Int} (hL : fa_L A row.toNat = L) (hQ : ∀ (v : Int) (h' : sg_H), jk_I w B M O S xs h' → jk_X (jk_cut B h) (jk_cut B h') → jk_P ((row < 0 ∨ 4 ≤ row) → v = 1) → jk_P (¬ (row < 0 ∨ 4 ≤ row) → v = 0) → jk_F B h h' → (v = 0 → (jk_o h' O) = (L.length : Int)) → Q (.inl (some (sg_i v))) h') : sg_D w mi_L_length hh_L_length d 8 48 [sg_r B, sg_i row, sg_r O] h Q := by
  refine st_of pn_L cb_L_length g (Nat.le_of_ble_eq_true rfl) ?_
  obtain ⟨us, hob⟩ := ck_oc hx.1
  refine st_aload_n (pc := 0) (j := 2) (dc_L_length_0.1.1.1.1) rfl rfl ?_
  refine st_aload_n (pc := 1) (j := 0) (dc_L_length_0.1.1.1.2) rfl rfl ?_
  refine st_iload_n (pc := 2) (j := 1) (dc_L_length_0.1.1.2.1) rfl rfl ?_
  refine st_callV (mi' := mi_X5_length) (as := [sg_i row]) (rest := [sg_r O]) (t := 6) (b := B) (d' := d - 1) (mc' := 8) (ms' := 48) g (dc_L_length_0.1.1.2.2) cb_X5_length ml_L_110 mn_X5_length mv_X5_length rfl (by decide) rfl hob rfl (Nat.le_of_ble_eq_true rfl) (by omega) (by omega) (by omega) ?_
  refine f_X5_length g (by first | exact jl_d1 hd rfl | omega) hx ok hL (fun n1 v ev => st_K1 ?_) (fun t1 z1 w1 => ?_)
  · have J1 : jk_I w B M O S xs h ∧ jk_X (jk_cut B h) (jk_cut B h) := ⟨hI, jk_X0⟩
    obtain ⟨z0, r0, hO⟩ := J1.1.2.2.2.2.2.2.2.2.1
    refine st_i2l (pc := 6) (dc_L_length_0.1.2.1.1) ?_
    refine st_putN (pc := 7) g (dc_L_length_0.1.2.1.2) fk_L_13 hO sg_ft_l ?_
    refine st_goto (pc := 10) (tgt := 16) (dc_L_length_0.1.2.2.1) (by decide) ?_
    refine st_iconst (pc := 16) (z := 0) (dc_L_length_0.2.1.2.1) (by decide) ?_
    refine st_iret (pc := 17) (dc_L_length_0.2.1.2.2) rfl (by first | exact Nat.le_of_ble_eq_true rfl | omega) (by first | exact Nat.le_of_ble_eq_true rfl | omega) ?_
    exact hQ _ _ (jk_IO J1.1).1 (jk_Xt J1.2 (jk_IO J1.1).2) (by unfold jk_P; intros; omega) (by unfold jk_P; intros; omega) (jk_FO J1.1) (fun _ => jk_oe.trans ev)
  · have J1 := jk_IY hI (ck_Yz (ck_Y0 hx.1) w1)
    refine st_KX 13 ⟨[], ⟨0, 10, 13, 19⟩, [], e_I, rfl, fun z hz => (nomatch hz), by decide, by decide, cl_L_19, ct_e_I, rfl⟩ (fun q1 => ?_)
    refine st_astore_n (pc := 13) (j := 3) (dc_L_length_0.1.2.2.2) rfl (by decide) ?_
    refine st_iconst (pc := 14) (z := 1) (dc_L_length_0.2.1.1.1) (by decide) ?_
    refine st_iret (pc := 15) (dc_L_length_0.2.1.1.2) rfl (by first | exact Nat.le_of_ble_eq_true rfl | omega) (by first | exact Nat.le_of_ble_eq_true rfl | omega) ?_
    exact hQ _ _ J1.1 J1.2 (by unfold jk_P; intros; omega) (by unfold jk_P; intros; omega) jk_Fz (fun q => absurd q (by decide))

set_option maxRecDepth 100000 in
theorem f_L_at {w : sg_W} {Q : sg_O → sg_H → Prop} {h : sg_H} (g : sg_G w) {d : Nat} (nc : jk_C w) (hd : 15 ≤ d) {B M O S : Nat} {xs : List Int} {A : fa_A} (hI : jk_I w B M O S xs h) (hx : cf_X h B A) (ok : fa_ok A) {row p : Int} {L : List Int} (hL : fa_L A row.toNat = L) (hQ : ∀ (v : Int) (h' : sg_H), jk_I w B M O S xs h' → jk_X (jk_cut B h) (jk_cut B h') → jk_P ((row < 0 ∨ 4 ≤ row ∨ p < 0 ∨ (L.length : Int) ≤ p) → v = 1) → jk_P (¬ (row < 0 ∨ 4 ≤ row ∨ p < 0 ∨ (L.length : Int) ≤ p) → v = 0) → jk_F B h h' → (v = 0 → (jk_o h' O) = L.getD p.toNat 0) → Q (.inl (some (sg_i v))) h') : sg_D w mi_L_at hh_L_at d 8 48 [sg_r B, sg_i row, sg_i p, sg_r O] h Q := by
  refine st_of pn_L cb_L_at g (Nat.le_of_ble_eq_true rfl) ?_
  obtain ⟨us, hob⟩ := ck_oc hx.1
  refine st_aload_n (pc := 0) (j := 3) (dc_L_at_0.1.1.1.1) rfl rfl ?_
  refine st_aload_n (pc := 1) (j := 0) (dc_L_at_0.1.1.1.2) rfl rfl ?_
  refine st_iload_n (pc := 2) (j := 1) (dc_L_at_0.1.1.2.1) rfl rfl ?_
  refine st_iload_n (pc := 3) (j := 2) (dc_L_at_0.1.1.2.2) rfl rfl ?_
  refine st_callV (mi' := mi_X5_at) (as := [sg_i row, sg_i p]) (rest := [sg_r O]) (t := 6) (b := B) (d' := d - 1) (mc' := 8) (ms' := 48) g (dc_L_at_0.1.2.1.1) cb_X5_at ml_L_113 mn_X5_at mv_X5_at rfl (by decide) rfl hob rfl (Nat.le_of_ble_eq_true rfl) (by omega) (by omega) (by omega) ?_
  refine f_X5_at g (by first | exact jl_d1 hd rfl | omega) hx ok hL (fun n1 v ev => st_K1 ?_) (fun t1 z1 w1 => ?_)
  · have J1 : jk_I w B M O S xs h ∧ jk_X (jk_cut B h) (jk_cut B h) := ⟨hI, jk_X0⟩
    obtain ⟨z0, r0, hO⟩ := J1.1.2.2.2.2.2.2.2.2.1
    refine st_i2l (pc := 7) (dc_L_at_0.1.2.1.2) ?_
    refine st_putN (pc := 8) g (dc_L_at_0.1.2.2.1) fk_L_13 hO sg_ft_l ?_
    refine st_goto (pc := 11) (tgt := 18) (dc_L_at_0.1.2.2.2) (by decide) ?_
    refine st_iconst (pc := 18) (z := 0) (dc_L_at_0.2.1.2.2) (by decide) ?_
    refine st_iret (pc := 19) (dc_L_at_0.2.2.1.1) rfl (by first | exact Nat.le_of_ble_eq_true rfl | omega) (by first | exact Nat.le_of_ble_eq_true rfl | omega) ?_
    exact hQ _ _ (jk_IO J1.1).1 (jk_Xt J1.2 (jk_IO J1.1).2) (by unfold jk_P; intros; omega) (by unfold jk_P; intros; omega) (jk_FO J1.1) (fun _ => jk_oe.trans ev)
  · have J1 := jk_IY hI (ck_Yz (ck_Y0 hx.1) w1)
    refine st_KX 14 ⟨[], ⟨0, 11, 14, 19⟩, [], e_I, rfl, fun z hz => (nomatch hz), by decide, by decide, cl_L_19, ct_e_I, rfl⟩ (fun q1 => ?_)
    refine st_astore (pc := 14) (dc_L_at_0.2.1.1.1) (by decide) ?_
    refine st_iconst (pc := 16) (z := 1) (dc_L_at_0.2.1.1.2) (by decide) ?_
    refine st_iret (pc := 17) (dc_L_at_0.2.1.2.1) rfl (by first | exact Nat.le_of_ble_eq_true rfl | omega) (by first | exact Nat.le_of_ble_eq_true rfl | omega) ?_
    exact hQ _ _ J1.1 J1.2 (by unfold jk_P; intros; omega) (by unfold jk_P; intros; omega) jk_Fz (fun q => absurd q (by decide))

set_option maxRecDepth 100000 in
theorem f_L_count {w : sg_W} {Q : sg_O → sg_H → Prop} {h : sg_H} (g : sg_G w) {d : Nat} (nc : jk_C w) (hd : 15 ≤ d) {B M O S : Nat} {xs : List Int} {A : fa_A} (hI : jk_I w B M O S xs h) (hx : cf_X h B A) (ok : fa_ok A) {row kind : Int} {L : List Int} (hL : fa_L A row.toNat = L) (hQ : ∀ (v : Int) (h' : sg_H), jk_I w B M O S xs h' → jk_X (jk_cut B h) (jk_cut B h') → jk_P ((row < 0 ∨ 4 ≤ row) → v = 1) → jk_P (¬ (row < 0 ∨ 4 ≤ row) → (kind < 0 ∨ 4 < kind) → v = 2) → jk_P (¬ (row < 0 ∨ 4 ≤ row) → ¬ (kind < 0 ∨ 4 < kind) → v = 0) → jk_F B h h' → (v = 0 → (jk_o h' O) = fs_cnt L kind L.length) → Q (.inl (some (sg_i v))) h') : sg_D w mi_L_count hh_L_count d 8 48 [sg_r B, sg_i row, sg_i kind, sg_r O] h Q := by
  refine st_of pn_L cb_L_count g (Nat.le_of_ble_eq_true rfl) ?_
  obtain ⟨us, hob⟩ := ck_oc hx.1
  refine st_aload_n (pc := 0) (j := 3) (dc_L_count_0.1.1.1.1) rfl rfl ?_
  refine st_aload_n (pc := 1) (j := 0) (dc_L_count_0.1.1.1.2) rfl rfl ?_
  refine st_iload_n (pc := 2) (j := 1) (dc_L_count_0.1.1.2.1) rfl rfl ?_
  refine st_iload_n (pc := 3) (j := 2) (dc_L_count_0.1.1.2.2) rfl rfl ?_
  refine st_callV (mi' := mi_X5_count) (as := [sg_i row, sg_i kind]) (rest := [sg_r O]) (t := 6) (b := B) (d' := d - 1) (mc' := 8) (ms' := 48) g (dc_L_count_0.1.2.1.1) cb_X5_count ml_L_116 mn_X5_count mv_X5_count rfl (by decide) rfl hob rfl (Nat.le_of_ble_eq_true rfl) (by omega) (by omega) (by omega) ?_
  refine f_X5_count g (by first | exact jl_d1 hd rfl | omega) hx ok hL (fun n1 n2 v ev => st_K1 ?_) (fun t1 z1 w1 => ?_) (fun t1 t2 z1 w1 => ?_)
  · have J1 : jk_I w B M O S xs h ∧ jk_X (jk_cut B h) (jk_cut B h) := ⟨hI, jk_X0⟩
    obtain ⟨z0, r0, hO⟩ := J1.1.2.2.2.2.2.2.2.2.1
    refine st_i2l (pc := 7) (dc_L_count_0.1.2.1.2) ?_
    refine st_putN (pc := 8) g (dc_L_count_0.1.2.2.1) fk_L_13 hO sg_ft_l ?_
    refine st_goto (pc := 11) (tgt := 22) (dc_L_count_0.1.2.2.2) (by decide) ?_
    refine st_iconst (pc := 22) (z := 0) (dc_L_count_0.2.2.2.1) (by decide) ?_
    refine st_iret (pc := 23) (dc_L_count_0.2.2.2.2) rfl (by first | exact Nat.le_of_ble_eq_true rfl | omega) (by first | exact Nat.le_of_ble_eq_true rfl | omega) ?_
    exact hQ _ _ (jk_IO J1.1).1 (jk_Xt J1.2 (jk_IO J1.1).2) (by unfold jk_P; intros; omega) (by unfold jk_P; intros; omega) (by unfold jk_P; intros; omega) (jk_FO J1.1) (fun _ => jk_oe.trans ev)
  · have J1 := jk_IY hI (ck_Yz (ck_Y0 hx.1) w1)
    refine st_KX 14 ⟨[], ⟨0, 11, 14, 19⟩, [⟨0, 11, 18, 21⟩], e_I, rfl, fun z hz => (nomatch hz), by decide, by decide, cl_L_19, ct_e_I, rfl⟩ (fun q1 => ?_)
    refine st_astore (pc := 14) (dc_L_count_0.2.1.1.1) (by decide) ?_
    refine st_iconst (pc := 16) (z := 1) (dc_L_count_0.2.1.1.2) (by decide) ?_
    refine st_iret (pc := 17) (dc_L_count_0.2.1.2.1) rfl (by first | exact Nat.le_of_ble_eq_true rfl | omega) (by first | exact Nat.le_of_ble_eq_true rfl | omega) ?_
    exact hQ _ _ J1.1 J1.2 (by unfold jk_P; intros; omega) (by unfold jk_P; intros; omega) (by unfold jk_P; intros; omega) jk_Fz (fun q => absurd q (by decide))
  · have J1 := jk_IY hI (ck_Yz (ck_Y0 hx.1) w1)
    refine st_KX 18 ⟨[⟨0, 11, 14, 19⟩], ⟨0, 11, 18, 21⟩, [], e_A, rfl, List.forall_mem_cons.mpr ⟨Or.inr ⟨by decide, _, cl_L_19, nc.1⟩, fun z hz => (nomatch hz)⟩, by decide, by decide, cl_L_21, ct_e_A, rfl⟩ (fun q1 => ?_)
    refine st_astore (pc := 18) (dc_L_count_0.2.1.2.2) (by decide) ?_
    refine st_iconst (pc := 20) (z := 2) (dc_L_count_0.2.2.1.1) (by decide) ?_
    refine st_iret (pc := 21) (dc_L_count_0.2.2.1.2) rfl (by first | exact Nat.le_of_ble_eq_true rfl | omega) (by first | exact Nat.le_of_ble_eq_true rfl | omega) ?_
    exact hQ _ _ J1.1 J1.2 (by unfold jk_P; intros; omega) (by unfold jk_P; intros; omega) (by unfold jk_P; intros; omega) jk_Fz (fun q => absurd q (by decide))

set_option maxRecDepth 100000 in
theorem f_L_first {w : sg_W} {Q : sg_O → sg_H → Prop} {h : sg_H} (g : sg_G w) {d : Nat} (nc : jk_C w) (hd : 15 ≤ d) {B M O S : Nat} {xs : List Int} {A : fa_A} (hI : jk_I w B M O S xs h) (hx : cf_X h B A) (ok : fa_ok A) {row kind fr : Int} {L : List Int} (hL : fa_L A row.toNat = L) (hQ : ∀ (v : Int) (h' : sg_H), jk_I w B M O S xs h' → jk_X (jk_cut B h) (jk_cut B h') → jk_P ((row < 0 ∨ 4 ≤ row) → v = 1) → jk_P (¬ (row < 0 ∨ 4 ≤ row) → (kind < 0 ∨ 4 < kind ∨ fr < 0) → v = 2) → jk_P (¬ (row < 0 ∨ 4 ≤ row) → ¬ (kind < 0 ∨ 4 < kind ∨ fr < 0) → v = 0) → jk_F B h h' → (v = 0 → (jk_o h' O) = fs_first L kind fr) → Q (.inl (some (sg_i v))) h') : sg_D w mi_L_first hh_L_first d 8 48 [sg_r B, sg_i row, sg_i kind, sg_i fr, sg_r O] h Q := by
  refine st_of pn_L cb_L_first g (Nat.le_of_ble_eq_true rfl) ?_
  obtain ⟨us, hob⟩ := ck_oc hx.1
  refine st_aload (pc := 0) (dc_L_first_0.1.1.1.1) rfl ?_
  refine st_aload_n (pc := 2) (j := 0) (dc_L_first_0.1.1.1.2) rfl rfl ?_
  refine st_iload_n (pc := 3) (j := 1) (dc_L_first_0.1.1.2.1) rfl rfl ?_
  refine st_iload_n (pc := 4) (j := 2) (dc_L_first_0.1.1.2.2) rfl rfl ?_
  refine st_iload_n (pc := 5) (j := 3) (dc_L_first_0.1.2.1.1) rfl rfl ?_
  refine st_callV (mi' := mi_X5_first) (as := [sg_i row, sg_i kind, sg_i fr]) (rest := [sg_r O]) (t := 6) (b := B) (d' := d - 1) (mc' := 8) (ms' := 48) g (dc_L_first_0.1.2.1.2) cb_X5_first ml_L_119 mn_X5_first mv_X5_first rfl (by decide) rfl hob rfl (Nat.le_of_ble_eq_true rfl) (by omega) (by omega) (by omega) ?_
  refine f_X5_first g (by first | exact jl_d1 hd rfl | omega) hx ok hL (fun n1 n2 v ev => st_K1 ?_) (fun t1 z1 w1 => ?_) (fun t1 t2 z1 w1 => ?_)
  · have J1 : jk_I w B M O S xs h ∧ jk_X (jk_cut B h) (jk_cut B h) := ⟨hI, jk_X0⟩
    obtain ⟨z0, r0, hO⟩ := J1.1.2.2.2.2.2.2.2.2.1
    refine st_i2l (pc := 9) (dc_L_first_0.1.2.2.1) ?_
    refine st_putN (pc := 10) g (dc_L_first_0.1.2.2.2) fk_L_13 hO sg_ft_l ?_
    refine st_goto (pc := 13) (tgt := 24) (dc_L_first_0.2.1.1.1) (by decide) ?_
    refine st_iconst (pc := 24) (z := 0) (dc_L_first_0.2.2.2.2) (by decide) ?_
    refine st_iret (pc := 25) dc_L_first_25 rfl (by first | exact Nat.le_of_ble_eq_true rfl | omega) (by first | exact Nat.le_of_ble_eq_true rfl | omega) ?_
    exact hQ _ _ (jk_IO J1.1).1 (jk_Xt J1.2 (jk_IO J1.1).2) (by unfold jk_P; intros; omega) (by unfold jk_P; intros; omega) (by unfold jk_P; intros; omega) (jk_FO J1.1) (fun _ => jk_oe.trans ev)
  · have J1 := jk_IY hI (ck_Yz (ck_Y0 hx.1) w1)
    refine st_KX 16 ⟨[], ⟨0, 13, 16, 19⟩, [⟨0, 13, 20, 21⟩], e_I, rfl, fun z hz => (nomatch hz), by decide, by decide, cl_L_19, ct_e_I, rfl⟩ (fun q1 => ?_)
    refine st_astore (pc := 16) (dc_L_first_0.2.1.1.2) (by decide) ?_
    refine st_iconst (pc := 18) (z := 1) (dc_L_first_0.2.1.2.1) (by decide) ?_
    refine st_iret (pc := 19) (dc_L_first_0.2.1.2.2) rfl (by first | exact Nat.le_of_ble_eq_true rfl | omega) (by first | exact Nat.le_of_ble_eq_true rfl | omega) ?_
    exact hQ _ _ J1.1 J1.2 (by unfold jk_P; intros; omega) (by unfold jk_P; intros; omega) (by unfold jk_P; intros; omega) jk_Fz (fun q => absurd q (by decide))
  · have J1 := jk_IY hI (ck_Yz (ck_Y0 hx.1) w1)
    refine st_KX 20 ⟨[⟨0, 13, 16, 19⟩], ⟨0, 13, 20, 21⟩, [], e_A, rfl, List.forall_mem_cons.mpr ⟨Or.inr ⟨by decide, _, cl_L_19, nc.1⟩, fun z hz => (nomatch hz)⟩, by decide, by decide, cl_L_21, ct_e_A, rfl⟩ (fun q1 => ?_)
    refine st_astore (pc := 20) (dc_L_first_0.2.2.1.1) (by decide) ?_
    refine st_iconst (pc := 22) (z := 2) (dc_L_first_0.2.2.1.2) (by decide) ?_
    refine st_iret (pc := 23) (dc_L_first_0.2.2.2.1) rfl (by first | exact Nat.le_of_ble_eq_true rfl | omega) (by first | exact Nat.le_of_ble_eq_true rfl | omega) ?_
    exact hQ _ _ J1.1 J1.2 (by unfold jk_P; intros; omega) (by unfold jk_P; intros; omega) (by unfold jk_P; intros; omega) jk_Fz (fun q => absurd q (by decide))

set_option maxRecDepth 100000 in
theorem f_L_last {w : sg_W} {Q : sg_O → sg_H → Prop} {h : sg_H} (g : sg_G w) {d : Nat} (nc : jk_C w) (hd : 15 ≤ d) {B M O S : Nat} {xs : List Int} {A : fa_A} (hI : jk_I w B M O S xs h) (hx : cf_X h B A) (ok : fa_ok A) {row kind : Int} {L : List Int} (hL : fa_L A row.toNat = L) (hQ : ∀ (v : Int) (h' : sg_H), jk_I w B M O S xs h' → jk_X (jk_cut B h) (jk_cut B h') → jk_P ((row < 0 ∨ 4 ≤ row) → v = 1) → jk_P (¬ (row < 0 ∨ 4 ≤ row) → (kind < 0 ∨ 4 < kind) → v = 2) → jk_P (¬ (row < 0 ∨ 4 ≤ row) → ¬ (kind < 0 ∨ 4 < kind) → v = 0) → jk_F B h h' → (v = 0 → (jk_o h' O) = fs_last L kind) → Q (.inl (some (sg_i v))) h') : sg_D w mi_L_last hh_L_last d 8 48 [sg_r B, sg_i row, sg_i kind, sg_r O] h Q := by
  refine st_of pn_L cb_L_last g (Nat.le_of_ble_eq_true rfl) ?_
  obtain ⟨us, hob⟩ := ck_oc hx.1
  refine st_aload_n (pc := 0) (j := 3) (dc_L_last_0.1.1.1.1) rfl rfl ?_
  refine st_aload_n (pc := 1) (j := 0) (dc_L_last_0.1.1.1.2) rfl rfl ?_
  refine st_iload_n (pc := 2) (j := 1) (dc_L_last_0.1.1.2.1) rfl rfl ?_
  refine st_iload_n (pc := 3) (j := 2) (dc_L_last_0.1.1.2.2) rfl rfl ?_
  refine st_callV (mi' := mi_X5_last) (as := [sg_i row, sg_i kind]) (rest := [sg_r O]) (t := 6) (b := B) (d' := d - 1) (mc' := 8) (ms' := 48) g (dc_L_last_0.1.2.1.1) cb_X5_last ml_L_122 mn_X5_last mv_X5_last rfl (by decide) rfl hob rfl (Nat.le_of_ble_eq_true rfl) (by omega) (by omega) (by omega) ?_
  refine f_X5_last g (by first | exact jl_d1 hd rfl | omega) hx ok hL (fun n1 n2 v ev => st_K1 ?_) (fun t1 z1 w1 => ?_) (fun t1 t2 z1 w1 => ?_)
  · have J1 : jk_I w B M O S xs h ∧ jk_X (jk_cut B h) (jk_cut B h) := ⟨hI, jk_X0⟩
    obtain ⟨z0, r0, hO⟩ := J1.1.2.2.2.2.2.2.2.2.1
    refine st_i2l (pc := 7) (dc_L_last_0.1.2.1.2) ?_
    refine st_putN (pc := 8) g (dc_L_last_0.1.2.2.1) fk_L_13 hO sg_ft_l ?_
    refine st_goto (pc := 11) (tgt := 22) (dc_L_last_0.1.2.2.2) (by decide) ?_
    refine st_iconst (pc := 22) (z := 0) (dc_L_last_0.2.2.2.1) (by decide) ?_
    refine st_iret (pc := 23) (dc_L_last_0.2.2.2.2) rfl (by first | exact Nat.le_of_ble_eq_true rfl | omega) (by first | exact Nat.le_of_ble_eq_true rfl | omega) ?_
    exact hQ _ _ (jk_IO J1.1).1 (jk_Xt J1.2 (jk_IO J1.1).2) (by unfold jk_P; intros; omega) (by unfold jk_P; intros; omega) (by unfold jk_P; intros; omega) (jk_FO J1.1) (fun _ => jk_oe.trans ev)
  · have J1 := jk_IY hI (ck_Yz (ck_Y0 hx.1) w1)
    refine st_KX 14 ⟨[], ⟨0, 11, 14, 19⟩, [⟨0, 11, 18, 21⟩], e_I, rfl, fun z hz => (nomatch hz), by decide, by decide, cl_L_19, ct_e_I, rfl⟩ (fun q1 => ?_)
    refine st_astore (pc := 14) (dc_L_last_0.2.1.1.1) (by decide) ?_
    refine st_iconst (pc := 16) (z := 1) (dc_L_last_0.2.1.1.2) (by decide) ?_
    refine st_iret (pc := 17) (dc_L_last_0.2.1.2.1) rfl (by first | exact Nat.le_of_ble_eq_true rfl | omega) (by first | exact Nat.le_of_ble_eq_true rfl | omega) ?_
    exact hQ _ _ J1.1 J1.2 (by unfold jk_P; intros; omega) (by unfold jk_P; intros; omega) (by unfold jk_P; intros; omega) jk_Fz (fun q => absurd q (by decide))
  · have J1 := jk_IY hI (ck_Yz (ck_Y0 hx.1) w1)
    refine st_KX 18 ⟨[⟨0, 11, 14, 19⟩], ⟨0, 11, 18, 21⟩, [], e_A, rfl, List.forall_mem_cons.mpr ⟨Or.inr ⟨by decide, _, cl_L_19, nc.1⟩, fun z hz => (nomatch hz)⟩, by decide, by decide, cl_L_21, ct_e_A, rfl⟩ (fun q1 => ?_)
    refine st_astore (pc := 18) (dc_L_last_0.2.1.2.2) (by decide) ?_
    refine st_iconst (pc := 20) (z := 2) (dc_L_last_0.2.2.1.1) (by decide) ?_
    refine st_iret (pc := 21) (dc_L_last_0.2.2.1.2) rfl (by first | exact Nat.le_of_ble_eq_true rfl | omega) (by first | exact Nat.le_of_ble_eq_true rfl | omega) ?_
    exact hQ _ _ J1.1 J1.2 (by unfold jk_P; intros; omega) (by unfold jk_P; intros; omega) (by unfold jk_P; intros; omega) jk_Fz (fun q => absurd q (by decide))

set_option maxRecDepth 100000 in
theorem f_L_told {w : sg_W} {Q : sg_O → sg_H → Prop} {h : sg_H} (g : sg_G w) {d : Nat} (nc : jk_C w) (hd : 15 ≤ d) {B M O S : Nat} {xs : List Int} {A : fa_A} (hI : jk_I w B M O S xs h) (hx : cf_X h B A) (ok : fa_ok A) {row radix : Int} {L : List Int} (hL : fa_L A row.toNat = L) (hQ : ∀ (v : Int) (h' : sg_H), jk_I w B M O S xs h' → jk_X (jk_cut B h) (jk_cut B h') → jk_P ((row < 0 ∨ 4 ≤ row) → v = 1) → jk_P (¬ (row < 0 ∨ 4 ≤ row) → (radix < 2 ∨ 36 < radix) → v = 2) → jk_P (¬ (row < 0 ∨ 4 ≤ row) → ¬ (radix < 2 ∨ 36 < radix) → v = 0) → jk_F B h h' → (v = 0 → (jk_o h' O) = fs_told L radix) → Q (.inl (some (sg_i v))) h') : sg_D w mi_L_told hh_L_told d 8 48 [sg_r B, sg_i row, sg_i radix, sg_r O] h Q := by
  refine st_of pn_L cb_L_told g (Nat.le_of_ble_eq_true rfl) ?_
  obtain ⟨us, hob⟩ := ck_oc hx.1
  refine st_aload_n (pc := 0) (j := 3) (dc_L_told_0.1.1.1.1) rfl rfl ?_
  refine st_aload_n (pc := 1) (j := 0) (dc_L_told_0.1.1.1.2) rfl rfl ?_
  refine st_iload_n (pc := 2) (j := 1) (dc_L_told_0.1.1.2.1) rfl rfl ?_
  refine st_iload_n (pc := 3) (j := 2) (dc_L_told_0.1.1.2.2) rfl rfl ?_
  refine st_callV (mi' := mi_X5_told) (as := [sg_i row, sg_i radix]) (rest := [sg_r O]) (t := 6) (b := B) (d' := d - 1) (mc' := 8) (ms' := 48) g (dc_L_told_0.1.2.1.1) cb_X5_told ml_L_136 mn_X5_told mv_X5_told rfl (by decide) rfl hob rfl (Nat.le_of_ble_eq_true rfl) (by omega) (by omega) (by omega) ?_
  refine f_X5_told g (by first | exact jl_d1 hd rfl | omega) hx ok hL (fun n1 n2 v ev => st_K1 ?_) (fun t1 z1 w1 => ?_) (fun t1 t2 z1 w1 => ?_)
  · have J1 : jk_I w B M O S xs h ∧ jk_X (jk_cut B h) (jk_cut B h) := ⟨hI, jk_X0⟩
    obtain ⟨z0, r0, hO⟩ := J1.1.2.2.2.2.2.2.2.2.1
    refine st_i2l (pc := 7) (dc_L_told_0.1.2.1.2) ?_
    refine st_putN (pc := 8) g (dc_L_told_0.1.2.2.1) fk_L_13 hO sg_ft_l ?_
    refine st_goto (pc := 11) (tgt := 22) (dc_L_told_0.1.2.2.2) (by decide) ?_
    refine st_iconst (pc := 22) (z := 0) (dc_L_told_0.2.2.2.1) (by decide) ?_
    refine st_iret (pc := 23) (dc_L_told_0.2.2.2.2) rfl (by first | exact Nat.le_of_ble_eq_true rfl | omega) (by first | exact Nat.le_of_ble_eq_true rfl | omega) ?_
    exact hQ _ _ (jk_IO J1.1).1 (jk_Xt J1.2 (jk_IO J1.1).2) (by unfold jk_P; intros; omega) (by unfold jk_P; intros; omega) (by unfold jk_P; intros; omega) (jk_FO J1.1) (fun _ => jk_oe.trans ev)
  · have J1 := jk_IY hI (ck_Yz (ck_Y0 hx.1) w1)
    refine st_KX 14 ⟨[], ⟨0, 11, 14, 19⟩, [⟨0, 11, 18, 21⟩], e_I, rfl, fun z hz => (nomatch hz), by decide, by decide, cl_L_19, ct_e_I, rfl⟩ (fun q1 => ?_)
    refine st_astore (pc := 14) (dc_L_told_0.2.1.1.1) (by decide) ?_
    refine st_iconst (pc := 16) (z := 1) (dc_L_told_0.2.1.1.2) (by decide) ?_
    refine st_iret (pc := 17) (dc_L_told_0.2.1.2.1) rfl (by first | exact Nat.le_of_ble_eq_true rfl | omega) (by first | exact Nat.le_of_ble_eq_true rfl | omega) ?_
    exact hQ _ _ J1.1 J1.2 (by unfold jk_P; intros; omega) (by unfold jk_P; intros; omega) (by unfold jk_P; intros; omega) jk_Fz (fun q => absurd q (by decide))
  · have J1 := jk_IY hI (ck_Yz (ck_Y0 hx.1) w1)
    refine st_KX 18 ⟨[⟨0, 11, 14, 19⟩], ⟨0, 11, 18, 21⟩, [], e_A, rfl, List.forall_mem_cons.mpr ⟨Or.inr ⟨by decide, _, cl_L_19, nc.1⟩, fun z hz => (nomatch hz)⟩, by decide, by decide, cl_L_21, ct_e_A, rfl⟩ (fun q1 => ?_)
    refine st_astore (pc := 18) (dc_L_told_0.2.1.2.2) (by decide) ?_
    refine st_iconst (pc := 20) (z := 2) (dc_L_told_0.2.2.1.1) (by decide) ?_
    refine st_iret (pc := 21) (dc_L_told_0.2.2.1.2) rfl (by first | exact Nat.le_of_ble_eq_true rfl | omega) (by first | exact Nat.le_of_ble_eq_true rfl | omega) ?_
    exact hQ _ _ J1.1 J1.2 (by unfold jk_P; intros; omega) (by unfold jk_P; intros; omega) (by unfold jk_P; intros; omega) jk_Fz (fun q => absurd q (by decide))

set_option maxRecDepth 100000 in
theorem f_L_sum {w : sg_W} {Q : sg_O → sg_H → Prop} {h : sg_H} (g : sg_G w) {d : Nat} (nc : jk_C w) (hd : 15 ≤ d) {B M O S : Nat} {xs : List Int} {A : fa_A} (hI : jk_I w B M O S xs h) (hx : cf_X h B A) (ok : fa_ok A) {row radix : Int} {L : List Int} (hL : fa_L A row.toNat = L) (hQ : ∀ (v : Int) (h' : sg_H), jk_I w B M O S xs h' → jk_X (jk_cut B h) (jk_cut B h') → jk_P ((row < 0 ∨ 4 ≤ row) → v = 1) → jk_P (¬ (row < 0 ∨ 4 ≤ row) → v = 0) → jk_F B h h' → (v = 0 → (jk_o h' O) = fs_sm L radix L.length) → Q (.inl (some (sg_i v))) h') : sg_D w mi_L_sum hh_L_sum d 8 48 [sg_r B, sg_i row, sg_i radix, sg_r O] h Q := by
  refine st_of pn_L cb_L_sum g (Nat.le_of_ble_eq_true rfl) ?_
  obtain ⟨us, hob⟩ := ck_oc hx.1
  refine st_aload_n (pc := 0) (j := 3) (dc_L_sum_0.1.1.1.1) rfl rfl ?_
  refine st_aload_n (pc := 1) (j := 0) (dc_L_sum_0.1.1.1.2) rfl rfl ?_
  refine st_iload_n (pc := 2) (j := 1) (dc_L_sum_0.1.1.2.1) rfl rfl ?_
  refine st_iload_n (pc := 3) (j := 2) (dc_L_sum_0.1.1.2.2) rfl rfl ?_
  refine st_callV (mi' := mi_X5_sum) (as := [sg_i row, sg_i radix]) (rest := [sg_r O]) (t := 6) (b := B) (d' := d - 1) (mc' := 8) (ms' := 48) g (dc_L_sum_0.1.2.1.1) cb_X5_sum ml_L_139 mn_X5_sum mv_X5_sum rfl (by decide) rfl hob rfl (Nat.le_of_ble_eq_true rfl) (by omega) (by omega) (by omega) ?_
  refine f_X5_sum g (by first | exact jl_d1 hd rfl | omega) hx ok hL (fun n1 v ev => st_K1 ?_) (fun t1 z1 w1 => ?_)
  · have J1 : jk_I w B M O S xs h ∧ jk_X (jk_cut B h) (jk_cut B h) := ⟨hI, jk_X0⟩
    obtain ⟨z0, r0, hO⟩ := J1.1.2.2.2.2.2.2.2.2.1
    refine st_i2l (pc := 7) (dc_L_sum_0.1.2.1.2) ?_
    refine st_putN (pc := 8) g (dc_L_sum_0.1.2.2.1) fk_L_13 hO sg_ft_l ?_
    refine st_goto (pc := 11) (tgt := 18) (dc_L_sum_0.1.2.2.2) (by decide) ?_
    refine st_iconst (pc := 18) (z := 0) (dc_L_sum_0.2.1.2.2) (by decide) ?_
    refine st_iret (pc := 19) (dc_L_sum_0.2.2.1.1) rfl (by first | exact Nat.le_of_ble_eq_true rfl | omega) (by first | exact Nat.le_of_ble_eq_true rfl | omega) ?_
    exact hQ _ _ (jk_IO J1.1).1 (jk_Xt J1.2 (jk_IO J1.1).2) (by unfold jk_P; intros; omega) (by unfold jk_P; intros; omega) (jk_FO J1.1) (fun _ => jk_oe.trans ev)
  · have J1 := jk_IY hI (ck_Yz (ck_Y0 hx.1) w1)
    refine st_KX 14 ⟨[], ⟨0, 11, 14, 19⟩, [], e_I, rfl, fun z hz => (nomatch hz), by decide, by decide, cl_L_19, ct_e_I, rfl⟩ (fun q1 => ?_)
    refine st_astore (pc := 14) (dc_L_sum_0.2.1.1.1) (by decide) ?_
    refine st_iconst (pc := 16) (z := 1) (dc_L_sum_0.2.1.1.2) (by decide) ?_
    refine st_iret (pc := 17) (dc_L_sum_0.2.1.2.1) rfl (by first | exact Nat.le_of_ble_eq_true rfl | omega) (by first | exact Nat.le_of_ble_eq_true rfl | omega) ?_
    exact hQ _ _ J1.1 J1.2 (by unfold jk_P; intros; omega) (by unfold jk_P; intros; omega) jk_Fz (fun q => absurd q (by decide))

set_option maxRecDepth 100000 in
theorem f_L_values {w : sg_W} {Q : sg_O → sg_H → Prop} {h : sg_H} (g : sg_G w) {d : Nat} (nc : jk_C w) (hd : 15 ≤ d) {B M O S : Nat} {xs : List Int} {A : fa_A} (hI : jk_I w B M O S xs h) (hx : cf_X h B A) (ok : fa_ok A) {row : Int} {L : List Int} (hL : fa_L A row.toNat = L) (hQ : ∀ (v : Int) (h' : sg_H), jk_I w B M O S xs h' → jk_X (jk_cut B h) (jk_cut B h') → jk_P ((row < 0 ∨ 4 ≤ row) → v = 1) → jk_P (¬ (row < 0 ∨ 4 ≤ row) → v = 0) → jk_F B h h' → (v = 0 → (jk_o h' O) = fs_vs L L.length) → Q (.inl (some (sg_i v))) h') : sg_D w mi_L_values hh_L_values d 8 48 [sg_r B, sg_i row, sg_r O] h Q := by
  refine st_of pn_L cb_L_values g (Nat.le_of_ble_eq_true rfl) ?_
  obtain ⟨us, hob⟩ := ck_oc hx.1
  refine st_aload_n (pc := 0) (j := 2) (dc_L_values_0.1.1.1.1) rfl rfl ?_
  refine st_aload_n (pc := 1) (j := 0) (dc_L_values_0.1.1.1.2) rfl rfl ?_
  refine st_iload_n (pc := 2) (j := 1) (dc_L_values_0.1.1.2.1) rfl rfl ?_
  refine st_callV (mi' := mi_X5_values) (as := [sg_i row]) (rest := [sg_r O]) (t := 6) (b := B) (d' := d - 1) (mc' := 8) (ms' := 48) g (dc_L_values_0.1.1.2.2) cb_X5_values ml_L_142 mn_X5_values mv_X5_values rfl (by decide) rfl hob rfl (Nat.le_of_ble_eq_true rfl) (by omega) (by omega) (by omega) ?_
  refine f_X5_values g (by first | exact jl_d1 hd rfl | omega) hx ok hL (fun n1 v ev => st_K1 ?_) (fun t1 z1 w1 => ?_)
  · have J1 : jk_I w B M O S xs h ∧ jk_X (jk_cut B h) (jk_cut B h) := ⟨hI, jk_X0⟩
    obtain ⟨z0, r0, hO⟩ := J1.1.2.2.2.2.2.2.2.2.1
    refine st_i2l (pc := 6) (dc_L_values_0.1.2.1.1) ?_
    refine st_putN (pc := 7) g (dc_L_values_0.1.2.1.2) fk_L_13 hO sg_ft_l ?_
    refine st_goto (pc := 10) (tgt := 16) (dc_L_values_0.1.2.2.1) (by decide) ?_
    refine st_iconst (pc := 16) (z := 0) (dc_L_values_0.2.1.2.1) (by decide) ?_
    refine st_iret (pc := 17) (dc_L_values_0.2.1.2.2) rfl (by first | exact Nat.le_of_ble_eq_true rfl | omega) (by first | exact Nat.le_of_ble_eq_true rfl | omega) ?_
    exact hQ _ _ (jk_IO J1.1).1 (jk_Xt J1.2 (jk_IO J1.1).2) (by unfold jk_P; intros; omega) (by unfold jk_P; intros; omega) (jk_FO J1.1) (fun _ => jk_oe.trans ev)
  · have J1 := jk_IY hI (ck_Yz (ck_Y0 hx.1) w1)
    refine st_KX 13 ⟨[], ⟨0, 10, 13, 19⟩, [], e_I, rfl, fun z hz => (nomatch hz), by decide, by decide, cl_L_19, ct_e_I, rfl⟩ (fun q1 => ?_)
    refine st_astore_n (pc := 13) (j := 3) (dc_L_values_0.1.2.2.2) rfl (by decide) ?_
    refine st_iconst (pc := 14) (z := 1) (dc_L_values_0.2.1.1.1) (by decide) ?_
    refine st_iret (pc := 15) (dc_L_values_0.2.1.1.2) rfl (by first | exact Nat.le_of_ble_eq_true rfl | omega) (by first | exact Nat.le_of_ble_eq_true rfl | omega) ?_
    exact hQ _ _ J1.1 J1.2 (by unfold jk_P; intros; omega) (by unfold jk_P; intros; omega) jk_Fz (fun q => absurd q (by decide))

set_option maxRecDepth 100000 in
theorem f_L_words {w : sg_W} {Q : sg_O → sg_H → Prop} {h : sg_H} (g : sg_G w) {d : Nat} (nc : jk_C w) (hd : 15 ≤ d) {B M O S : Nat} {xs : List Int} {A : fa_A} (hI : jk_I w B M O S xs h) (hx : cf_X h B A) (ok : fa_ok A) {row : Int} {L : List Int} (hL : fa_L A row.toNat = L) (hQ : ∀ (v : Int) (h' : sg_H), jk_I w B M O S xs h' → jk_X (jk_cut B h) (jk_cut B h') → jk_P ((row < 0 ∨ 4 ≤ row) → v = 1) → jk_P (¬ (row < 0 ∨ 4 ≤ row) → v = 0) → jk_F B h h' → (v = 0 → (jk_o h' O) = fs_wn L L.length) → Q (.inl (some (sg_i v))) h') : sg_D w mi_L_words hh_L_words d 8 48 [sg_r B, sg_i row, sg_r O] h Q := by
  refine st_of pn_L cb_L_words g (Nat.le_of_ble_eq_true rfl) ?_
  obtain ⟨us, hob⟩ := ck_oc hx.1
  refine st_aload_n (pc := 0) (j := 2) (dc_L_words_0.1.1.1.1) rfl rfl ?_
  refine st_aload_n (pc := 1) (j := 0) (dc_L_words_0.1.1.1.2) rfl rfl ?_
  refine st_iload_n (pc := 2) (j := 1) (dc_L_words_0.1.1.2.1) rfl rfl ?_
  refine st_callV (mi' := mi_X5_words) (as := [sg_i row]) (rest := [sg_r O]) (t := 6) (b := B) (d' := d - 1) (mc' := 8) (ms' := 48) g (dc_L_words_0.1.1.2.2) cb_X5_words ml_L_145 mn_X5_words mv_X5_words rfl (by decide) rfl hob rfl (Nat.le_of_ble_eq_true rfl) (by omega) (by omega) (by omega) ?_
  refine f_X5_words g (by first | exact jl_d1 hd rfl | omega) hx ok hL (fun n1 v ev => st_K1 ?_) (fun t1 z1 w1 => ?_)
  · have J1 : jk_I w B M O S xs h ∧ jk_X (jk_cut B h) (jk_cut B h) := ⟨hI, jk_X0⟩
    obtain ⟨z0, r0, hO⟩ := J1.1.2.2.2.2.2.2.2.2.1
    refine st_i2l (pc := 6) (dc_L_words_0.1.2.1.1) ?_
    refine st_putN (pc := 7) g (dc_L_words_0.1.2.1.2) fk_L_13 hO sg_ft_l ?_
    refine st_goto (pc := 10) (tgt := 16) (dc_L_words_0.1.2.2.1) (by decide) ?_
    refine st_iconst (pc := 16) (z := 0) (dc_L_words_0.2.1.2.1) (by decide) ?_
    refine st_iret (pc := 17) (dc_L_words_0.2.1.2.2) rfl (by first | exact Nat.le_of_ble_eq_true rfl | omega) (by first | exact Nat.le_of_ble_eq_true rfl | omega) ?_
    exact hQ _ _ (jk_IO J1.1).1 (jk_Xt J1.2 (jk_IO J1.1).2) (by unfold jk_P; intros; omega) (by unfold jk_P; intros; omega) (jk_FO J1.1) (fun _ => jk_oe.trans ev)
  · have J1 := jk_IY hI (ck_Yz (ck_Y0 hx.1) w1)
    refine st_KX 13 ⟨[], ⟨0, 10, 13, 19⟩, [], e_I, rfl, fun z hz => (nomatch hz), by decide, by decide, cl_L_19, ct_e_I, rfl⟩ (fun q1 => ?_)
    refine st_astore_n (pc := 13) (j := 3) (dc_L_words_0.1.2.2.2) rfl (by decide) ?_
    refine st_iconst (pc := 14) (z := 1) (dc_L_words_0.2.1.1.1) (by decide) ?_
    refine st_iret (pc := 15) (dc_L_words_0.2.1.1.2) rfl (by first | exact Nat.le_of_ble_eq_true rfl | omega) (by first | exact Nat.le_of_ble_eq_true rfl | omega) ?_
    exact hQ _ _ J1.1 J1.2 (by unfold jk_P; intros; omega) (by unfold jk_P; intros; omega) jk_Fz (fun q => absurd q (by decide))

set_option maxRecDepth 100000 in
theorem f_L_word {w : sg_W} {Q : sg_O → sg_H → Prop} {h : sg_H} (g : sg_G w) {d : Nat} (nc : jk_C w) (hd : 15 ≤ d) {B M O S : Nat} {xs : List Int} {A : fa_A} (hI : jk_I w B M O S xs h) (hx : cf_X h B A) (ok : fa_ok A) {row k isl : Int} {L : List Int} (hL : fa_L A row.toNat = L) (hQ : ∀ (v : Int) (h' : sg_H), jk_I w B M O S xs h' → jk_X (jk_cut B h) (jk_cut B h') → jk_P ((row < 0 ∨ 4 ≤ row ∨ fs_wat L k = -1) → v = 1) → jk_P (¬ (row < 0 ∨ 4 ≤ row ∨ fs_wat L k = -1) → v = 0) → jk_F B h h' → (v = 0 → (jk_o h' O) = (if isl = 0 then fs_wat L k else fs_end L (fs_wat L k) - fs_wat L k)) → Q (.inl (some (sg_i v))) h') : sg_D w mi_L_word hh_L_word d 8 48 [sg_r B, sg_i row, sg_i k, sg_i isl, sg_r O] h Q := by
  refine st_of pn_L cb_L_word g (Nat.le_of_ble_eq_true rfl) ?_
  obtain ⟨us, hob⟩ := ck_oc hx.1
  refine st_aload (pc := 0) (dc_L_word_0.1.1.1.1) rfl ?_
  refine st_aload_n (pc := 2) (j := 0) (dc_L_word_0.1.1.1.2) rfl rfl ?_
  refine st_iload_n (pc := 3) (j := 1) (dc_L_word_0.1.1.2.1) rfl rfl ?_
  refine st_iload_n (pc := 4) (j := 2) (dc_L_word_0.1.1.2.2) rfl rfl ?_
  refine st_iload_n (pc := 5) (j := 3) (dc_L_word_0.1.2.1.1) rfl rfl ?_
  refine st_callV (mi' := mi_X5_word) (as := [sg_i row, sg_i k, sg_i isl]) (rest := [sg_r O]) (t := 6) (b := B) (d' := d - 1) (mc' := 8) (ms' := 48) g (dc_L_word_0.1.2.1.2) cb_X5_word ml_L_148 mn_X5_word mv_X5_word rfl (by decide) rfl hob rfl (Nat.le_of_ble_eq_true rfl) (by omega) (by omega) (by omega) ?_
  refine f_X5_word g (by first | exact jl_d1 hd rfl | omega) hx ok hL (fun n1 v ev => st_K1 ?_) (fun t1 z1 w1 => ?_)
  · have J1 : jk_I w B M O S xs h ∧ jk_X (jk_cut B h) (jk_cut B h) := ⟨hI, jk_X0⟩
    obtain ⟨z0, r0, hO⟩ := J1.1.2.2.2.2.2.2.2.2.1
    refine st_i2l (pc := 9) (dc_L_word_0.1.2.2.1) ?_
    refine st_putN (pc := 10) g (dc_L_word_0.1.2.2.2) fk_L_13 hO sg_ft_l ?_
    refine st_goto (pc := 13) (tgt := 20) (dc_L_word_0.2.1.1.1) (by decide) ?_
    refine st_iconst (pc := 20) (z := 0) (dc_L_word_0.2.2.1.1) (by decide) ?_
    refine st_iret (pc := 21) (dc_L_word_0.2.2.1.2) rfl (by first | exact Nat.le_of_ble_eq_true rfl | omega) (by first | exact Nat.le_of_ble_eq_true rfl | omega) ?_
    exact hQ _ _ (jk_IO J1.1).1 (jk_Xt J1.2 (jk_IO J1.1).2) (by unfold jk_P; intros; omega) (by unfold jk_P; intros; omega) (jk_FO J1.1) (fun _ => jk_oe.trans ev)
  · have J1 := jk_IY hI (ck_Yz (ck_Y0 hx.1) w1)
    refine st_KX 16 ⟨[], ⟨0, 13, 16, 19⟩, [], e_I, rfl, fun z hz => (nomatch hz), by decide, by decide, cl_L_19, ct_e_I, rfl⟩ (fun q1 => ?_)
    refine st_astore (pc := 16) (dc_L_word_0.2.1.1.2) (by decide) ?_
    refine st_iconst (pc := 18) (z := 1) (dc_L_word_0.2.1.2.1) (by decide) ?_
    refine st_iret (pc := 19) (dc_L_word_0.2.1.2.2) rfl (by first | exact Nat.le_of_ble_eq_true rfl | omega) (by first | exact Nat.le_of_ble_eq_true rfl | omega) ?_
    exact hQ _ _ J1.1 J1.2 (by unfold jk_P; intros; omega) (by unfold jk_P; intros; omega) jk_Fz (fun q => absurd q (by decide))

set_option maxRecDepth 100000 in
theorem f_L_isAlike {w : sg_W} {Q : sg_O → sg_H → Prop} {h : sg_H} (g : sg_G w) {d : Nat} (nc : jk_C w) (hd : 15 ≤ d) {B M O S : Nat} {xs : List Int} {A : fa_A} (hI : jk_I w B M O S xs h) (hx : cf_X h B A) (ok : fa_ok A) {row other : Int} {L : List Int} (hL : fa_L A row.toNat = L) {Z : List Int} (hZ : fa_L A other.toNat = Z) (hQ : ∀ (v : Int) (h' : sg_H), jk_I w B M O S xs h' → jk_X (jk_cut B h) (jk_cut B h') → jk_P ((row < 0 ∨ 4 ≤ row ∨ other < 0 ∨ 4 ≤ other) → v = 1) → jk_P (¬ (row < 0 ∨ 4 ≤ row ∨ other < 0 ∨ 4 ≤ other) → v = 0) → jk_F B h h' → (v = 0 → (((jk_o h' O) = 0 ∧ ¬ fs_al L Z) ∨ ((jk_o h' O) = 1 ∧ fs_al L Z))) → Q (.inl (some (sg_i v))) h') : sg_D w mi_L_isAlike hh_L_isAlike d 8 48 [sg_r B, sg_i row, sg_i other, sg_r O] h Q := by
  refine st_of pn_L cb_L_isAlike g (Nat.le_of_ble_eq_true rfl) ?_
  obtain ⟨us, hob⟩ := ck_oc hx.1
  refine st_aload_n (pc := 0) (j := 3) (dc_L_isAlike_0.1.1.1.1) rfl rfl ?_
  refine st_aload_n (pc := 1) (j := 0) (dc_L_isAlike_0.1.1.1.2) rfl rfl ?_
  refine st_iload_n (pc := 2) (j := 1) (dc_L_isAlike_0.1.1.2.1) rfl rfl ?_
  refine st_iload_n (pc := 3) (j := 2) (dc_L_isAlike_0.1.1.2.2) rfl rfl ?_
  refine st_callV (mi' := mi_X5_isAlike) (as := [sg_i row, sg_i other]) (rest := [sg_r O]) (t := 6) (b := B) (d' := d - 1) (mc' := 8) (ms' := 48) g (dc_L_isAlike_0.1.2.1.1) cb_X5_isAlike ml_L_151 mn_X5_isAlike mv_X5_isAlike rfl (by decide) rfl hob rfl (Nat.le_of_ble_eq_true rfl) (by omega) (by omega) (by omega) ?_
  refine f_X5_isAlike g (by first | exact jl_d1 hd rfl | omega) hx ok hL hZ (fun n1 v ev => st_K1 ?_) (fun t1 z1 w1 => ?_)
  · have J1 : jk_I w B M O S xs h ∧ jk_X (jk_cut B h) (jk_cut B h) := ⟨hI, jk_X0⟩
    obtain ⟨z0, r0, hO⟩ := J1.1.2.2.2.2.2.2.2.2.1
    refine st_if_eq (pc := 7) (tgt := 14) (dc_L_isAlike_0.1.2.1.2) (by decide) (fun c7 => ?_) (fun c7 => ?_)
    · refine st_lconst (pc := 14) (z := 0) (dc_L_isAlike_0.2.1.1.1) (by decide) ?_
      refine st_putN (pc := 15) g (dc_L_isAlike_0.2.1.1.2) fk_L_13 hO sg_ft_l ?_
      refine st_goto (pc := 18) (tgt := 25) (dc_L_isAlike_0.2.1.2.1) (by decide) ?_
      refine st_iconst (pc := 25) (z := 0) (dc_L_isAlike_0.2.2.2.1) (by decide) ?_
      refine st_iret (pc := 26) (dc_L_isAlike_0.2.2.2.2) rfl (by first | exact Nat.le_of_ble_eq_true rfl | omega) (by first | exact Nat.le_of_ble_eq_true rfl | omega) ?_
      exact hQ _ _ (jk_IO J1.1).1 (jk_Xt J1.2 (jk_IO J1.1).2) (by unfold jk_P; intros; omega) (by unfold jk_P; intros; omega) (jk_FO J1.1) (fun _ => jk_ov (P := fun v => ((v = 0 ∧ ¬ fs_al L Z) ∨ (v = 1 ∧ fs_al L Z))) jk_oe (ev.elim (fun u => by first | exact Or.inl ⟨rfl, u.2⟩ | exact absurd u.1 (by omega)) (fun u => by first | exact Or.inr ⟨rfl, u.2⟩ | exact absurd u.1 (by omega))))
    · refine st_lconst (pc := 10) (z := 1) (dc_L_isAlike_0.1.2.2.1) (by decide) ?_
      refine st_goto (pc := 11) (tgt := 15) (dc_L_isAlike_0.1.2.2.2) (by decide) ?_
      refine st_putN (pc := 15) g (dc_L_isAlike_0.2.1.1.2) fk_L_13 hO sg_ft_l ?_
      refine st_goto (pc := 18) (tgt := 25) (dc_L_isAlike_0.2.1.2.1) (by decide) ?_
      refine st_iconst (pc := 25) (z := 0) (dc_L_isAlike_0.2.2.2.1) (by decide) ?_
      refine st_iret (pc := 26) (dc_L_isAlike_0.2.2.2.2) rfl (by first | exact Nat.le_of_ble_eq_true rfl | omega) (by first | exact Nat.le_of_ble_eq_true rfl | omega) ?_
      exact hQ _ _ (jk_IO J1.1).1 (jk_Xt J1.2 (jk_IO J1.1).2) (by unfold jk_P; intros; omega) (by unfold jk_P; intros; omega) (jk_FO J1.1) (fun _ => jk_ov (P := fun v => ((v = 0 ∧ ¬ fs_al L Z) ∨ (v = 1 ∧ fs_al L Z))) jk_oe (ev.elim (fun u => by first | exact Or.inl ⟨rfl, u.2⟩ | exact absurd u.1 (by omega)) (fun u => by first | exact Or.inr ⟨rfl, u.2⟩ | exact absurd u.1 (by omega))))
  · have J1 := jk_IY hI (ck_Yz (ck_Y0 hx.1) w1)
    refine st_KX 21 ⟨[], ⟨0, 18, 21, 19⟩, [], e_I, rfl, fun z hz => (nomatch hz), by decide, by decide, cl_L_19, ct_e_I, rfl⟩ (fun q1 => ?_)
    refine st_astore (pc := 21) (dc_L_isAlike_0.2.1.2.2) (by decide) ?_
    refine st_iconst (pc := 23) (z := 1) (dc_L_isAlike_0.2.2.1.1) (by decide) ?_
    refine st_iret (pc := 24) (dc_L_isAlike_0.2.2.1.2) rfl (by first | exact Nat.le_of_ble_eq_true rfl | omega) (by first | exact Nat.le_of_ble_eq_true rfl | omega) ?_
    exact hQ _ _ J1.1 J1.2 (by unfold jk_P; intros; omega) (by unfold jk_P; intros; omega) jk_Fz (fun q => absurd q (by decide))

set_option maxRecDepth 100000 in
theorem f_L_order {w : sg_W} {Q : sg_O → sg_H → Prop} {h : sg_H} (g : sg_G w) {d : Nat} (nc : jk_C w) (hd : 15 ≤ d) {B M O S : Nat} {xs : List Int} {A : fa_A} (hI : jk_I w B M O S xs h) (hx : cf_X h B A) (ok : fa_ok A) {row other : Int} {L : List Int} (hL : fa_L A row.toNat = L) {Z : List Int} (hZ : fa_L A other.toNat = Z) (hQ : ∀ (v : Int) (h' : sg_H), jk_I w B M O S xs h' → jk_X (jk_cut B h) (jk_cut B h') → jk_P ((row < 0 ∨ 4 ≤ row ∨ other < 0 ∨ 4 ≤ other) → v = 1) → jk_P (¬ (row < 0 ∨ 4 ≤ row ∨ other < 0 ∨ 4 ≤ other) → v = 0) → jk_F B h h' → (v = 0 → (jk_o h' O) = fs_ord L Z) → Q (.inl (some (sg_i v))) h') : sg_D w mi_L_order hh_L_order d 8 48 [sg_r B, sg_i row, sg_i other, sg_r O] h Q := by
  refine st_of pn_L cb_L_order g (Nat.le_of_ble_eq_true rfl) ?_
  obtain ⟨us, hob⟩ := ck_oc hx.1
  refine st_aload_n (pc := 0) (j := 3) (dc_L_order_0.1.1.1.1) rfl rfl ?_
  refine st_aload_n (pc := 1) (j := 0) (dc_L_order_0.1.1.1.2) rfl rfl ?_
  refine st_iload_n (pc := 2) (j := 1) (dc_L_order_0.1.1.2.1) rfl rfl ?_
  refine st_iload_n (pc := 3) (j := 2) (dc_L_order_0.1.1.2.2) rfl rfl ?_
  refine st_callV (mi' := mi_X5_order) (as := [sg_i row, sg_i other]) (rest := [sg_r O]) (t := 6) (b := B) (d' := d - 1) (mc' := 8) (ms' := 48) g (dc_L_order_0.1.2.1.1) cb_X5_order ml_L_155 mn_X5_order mv_X5_order rfl (by decide) rfl hob rfl (Nat.le_of_ble_eq_true rfl) (by omega) (by omega) (by omega) ?_
  refine f_X5_order g (by first | exact jl_d1 hd rfl | omega) hx ok hL hZ (fun n1 v ev => st_K1 ?_) (fun t1 z1 w1 => ?_)
  · have J1 : jk_I w B M O S xs h ∧ jk_X (jk_cut B h) (jk_cut B h) := ⟨hI, jk_X0⟩
    obtain ⟨z0, r0, hO⟩ := J1.1.2.2.2.2.2.2.2.2.1
    refine st_i2l (pc := 7) (dc_L_order_0.1.2.1.2) ?_
    refine st_putN (pc := 8) g (dc_L_order_0.1.2.2.1) fk_L_13 hO sg_ft_l ?_
    refine st_goto (pc := 11) (tgt := 18) (dc_L_order_0.1.2.2.2) (by decide) ?_
    refine st_iconst (pc := 18) (z := 0) (dc_L_order_0.2.1.2.2) (by decide) ?_
    refine st_iret (pc := 19) (dc_L_order_0.2.2.1.1) rfl (by first | exact Nat.le_of_ble_eq_true rfl | omega) (by first | exact Nat.le_of_ble_eq_true rfl | omega) ?_
    exact hQ _ _ (jk_IO J1.1).1 (jk_Xt J1.2 (jk_IO J1.1).2) (by unfold jk_P; intros; omega) (by unfold jk_P; intros; omega) (jk_FO J1.1) (fun _ => jk_oe.trans ev)
  · have J1 := jk_IY hI (ck_Yz (ck_Y0 hx.1) w1)
    refine st_KX 14 ⟨[], ⟨0, 11, 14, 19⟩, [], e_I, rfl, fun z hz => (nomatch hz), by decide, by decide, cl_L_19, ct_e_I, rfl⟩ (fun q1 => ?_)
    refine st_astore (pc := 14) (dc_L_order_0.2.1.1.1) (by decide) ?_
    refine st_iconst (pc := 16) (z := 1) (dc_L_order_0.2.1.1.2) (by decide) ?_
    refine st_iret (pc := 17) (dc_L_order_0.2.1.2.1) rfl (by first | exact Nat.le_of_ble_eq_true rfl | omega) (by first | exact Nat.le_of_ble_eq_true rfl | omega) ?_
    exact hQ _ _ J1.1 J1.2 (by unfold jk_P; intros; omega) (by unfold jk_P; intros; omega) jk_Fz (fun q => absurd q (by decide))

set_option maxRecDepth 100000 in
theorem f_L_ofTrack {w : sg_W} {Q : sg_O → sg_H → Prop} {h : sg_H} (g : sg_G w) {d : Nat} (nc : jk_C w) (hd : 15 ≤ d) {B M O S : Nat} {xs : List Int} {A : fa_A} (hI : jk_I w B M O S xs h) (hx : cf_X h B A) (ok : fa_ok A) {trk what : Int} {L : List Int} (hL : fa_L A (4 + trk.toNat) = L) (hQ : ∀ (v : Int) (h' : sg_H), jk_I w B M O S xs h' → jk_X (jk_cut B h) (jk_cut B h') → jk_P ((trk < 0 ∨ 2 ≤ trk) → v = 1) → jk_P (¬ (trk < 0 ∨ 2 ≤ trk) → (what < 0 ∨ 3 < what) → v = 2) → jk_P (¬ (trk < 0 ∨ 2 ≤ trk) → ¬ (what < 0 ∨ 3 < what) → v = 0) → jk_F B h h' → (v = 0 → (jk_o h' O) = fs_how L what) → Q (.inl (some (sg_i v))) h') : sg_D w mi_L_ofTrack hh_L_ofTrack d 8 48 [sg_r B, sg_i trk, sg_i what, sg_r O] h Q := by
  refine st_of pn_L cb_L_ofTrack g (Nat.le_of_ble_eq_true rfl) ?_
  obtain ⟨us, hob⟩ := ck_oc hx.1
  refine st_aload_n (pc := 0) (j := 3) (dc_L_ofTrack_0.1.1.1.1) rfl rfl ?_
  refine st_aload_n (pc := 1) (j := 0) (dc_L_ofTrack_0.1.1.1.2) rfl rfl ?_
  refine st_iload_n (pc := 2) (j := 1) (dc_L_ofTrack_0.1.1.2.1) rfl rfl ?_
  refine st_iload_n (pc := 3) (j := 2) (dc_L_ofTrack_0.1.1.2.2) rfl rfl ?_
  refine st_callV (mi' := mi_X5_ofTrack) (as := [sg_i trk, sg_i what]) (rest := [sg_r O]) (t := 6) (b := B) (d' := d - 1) (mc' := 8) (ms' := 48) g (dc_L_ofTrack_0.1.2.1.1) cb_X5_ofTrack ml_L_170 mn_X5_ofTrack mv_X5_ofTrack rfl (by decide) rfl hob rfl (Nat.le_of_ble_eq_true rfl) (by omega) (by omega) (by omega) ?_
  refine f_X5_ofTrack g (by first | exact jl_d1 hd rfl | omega) hx ok hL (fun n1 n2 v ev => st_K1 ?_) (fun t1 z1 w1 => ?_) (fun t1 t2 z1 w1 => ?_)
  · have J1 : jk_I w B M O S xs h ∧ jk_X (jk_cut B h) (jk_cut B h) := ⟨hI, jk_X0⟩
    obtain ⟨z0, r0, hO⟩ := J1.1.2.2.2.2.2.2.2.2.1
    refine st_i2l (pc := 7) (dc_L_ofTrack_0.1.2.1.2) ?_
    refine st_putN (pc := 8) g (dc_L_ofTrack_0.1.2.2.1) fk_L_13 hO sg_ft_l ?_
    refine st_goto (pc := 11) (tgt := 22) (dc_L_ofTrack_0.1.2.2.2) (by decide) ?_
    refine st_iconst (pc := 22) (z := 0) (dc_L_ofTrack_0.2.2.2.1) (by decide) ?_
    refine st_iret (pc := 23) (dc_L_ofTrack_0.2.2.2.2) rfl (by first | exact Nat.le_of_ble_eq_true rfl | omega) (by first | exact Nat.le_of_ble_eq_true rfl | omega) ?_
    exact hQ _ _ (jk_IO J1.1).1 (jk_Xt J1.2 (jk_IO J1.1).2) (by unfold jk_P; intros; omega) (by unfold jk_P; intros; omega) (by unfold jk_P; intros; omega) (jk_FO J1.1) (fun _ => jk_oe.trans ev)
  · have J1 := jk_IY hI (ck_Yz (ck_Y0 hx.1) w1)
    refine st_KX 14 ⟨[], ⟨0, 11, 14, 19⟩, [⟨0, 11, 18, 21⟩], e_I, rfl, fun z hz => (nomatch hz), by decide, by decide, cl_L_19, ct_e_I, rfl⟩ (fun q1 => ?_)
    refine st_astore (pc := 14) (dc_L_ofTrack_0.2.1.1.1) (by decide) ?_
    refine st_iconst (pc := 16) (z := 1) (dc_L_ofTrack_0.2.1.1.2) (by decide) ?_
    refine st_iret (pc := 17) (dc_L_ofTrack_0.2.1.2.1) rfl (by first | exact Nat.le_of_ble_eq_true rfl | omega) (by first | exact Nat.le_of_ble_eq_true rfl | omega) ?_
    exact hQ _ _ J1.1 J1.2 (by unfold jk_P; intros; omega) (by unfold jk_P; intros; omega) (by unfold jk_P; intros; omega) jk_Fz (fun q => absurd q (by decide))
  · have J1 := jk_IY hI (ck_Yz (ck_Y0 hx.1) w1)
    refine st_KX 18 ⟨[⟨0, 11, 14, 19⟩], ⟨0, 11, 18, 21⟩, [], e_A, rfl, List.forall_mem_cons.mpr ⟨Or.inr ⟨by decide, _, cl_L_19, nc.1⟩, fun z hz => (nomatch hz)⟩, by decide, by decide, cl_L_21, ct_e_A, rfl⟩ (fun q1 => ?_)
    refine st_astore (pc := 18) (dc_L_ofTrack_0.2.1.2.2) (by decide) ?_
    refine st_iconst (pc := 20) (z := 2) (dc_L_ofTrack_0.2.2.1.1) (by decide) ?_
    refine st_iret (pc := 21) (dc_L_ofTrack_0.2.2.1.2) rfl (by first | exact Nat.le_of_ble_eq_true rfl | omega) (by first | exact Nat.le_of_ble_eq_true rfl | omega) ?_
    exact hQ _ _ J1.1 J1.2 (by unfold jk_P; intros; omega) (by unfold jk_P; intros; omega) (by unfold jk_P; intros; omega) jk_Fz (fun q => absurd q (by decide))

set_option maxRecDepth 100000 in
theorem f_L_unit {w : sg_W} {Q : sg_O → sg_H → Prop} {h : sg_H} (g : sg_G w) {d : Nat} (nc : jk_C w) (hd : 15 ≤ d) {B M O S : Nat} {xs : List Int} {A : fa_A} (hI : jk_I w B M O S xs h) (hx : cf_X h B A) (ok : fa_ok A) {trk p : Int} {L : List Int} (hL : fa_L A (4 + trk.toNat) = L) (hQ : ∀ (v : Int) (h' : sg_H), jk_I w B M O S xs h' → jk_X (jk_cut B h) (jk_cut B h') → jk_P ((trk < 0 ∨ 2 ≤ trk ∨ p < 0 ∨ (L.length : Int) ≤ p) → v = 1) → jk_P (¬ (trk < 0 ∨ 2 ≤ trk ∨ p < 0 ∨ (L.length : Int) ≤ p) → v = 0) → jk_F B h h' → (v = 0 → (jk_o h' O) = L.getD p.toNat 0) → Q (.inl (some (sg_i v))) h') : sg_D w mi_L_unit hh_L_unit d 8 48 [sg_r B, sg_i trk, sg_i p, sg_r O] h Q := by
  refine st_of pn_L cb_L_unit g (Nat.le_of_ble_eq_true rfl) ?_
  obtain ⟨us, hob⟩ := ck_oc hx.1
  refine st_aload_n (pc := 0) (j := 3) (dc_L_unit_0.1.1.1.1) rfl rfl ?_
  refine st_aload_n (pc := 1) (j := 0) (dc_L_unit_0.1.1.1.2) rfl rfl ?_
  refine st_iload_n (pc := 2) (j := 1) (dc_L_unit_0.1.1.2.1) rfl rfl ?_
  refine st_iload_n (pc := 3) (j := 2) (dc_L_unit_0.1.1.2.2) rfl rfl ?_
  refine st_callV (mi' := mi_X5_unit) (as := [sg_i trk, sg_i p]) (rest := [sg_r O]) (t := 6) (b := B) (d' := d - 1) (mc' := 8) (ms' := 48) g (dc_L_unit_0.1.2.1.1) cb_X5_unit ml_L_173 mn_X5_unit mv_X5_unit rfl (by decide) rfl hob rfl (Nat.le_of_ble_eq_true rfl) (by omega) (by omega) (by omega) ?_
  refine f_X5_unit g (by first | exact jl_d1 hd rfl | omega) hx ok hL (fun n1 v ev => st_K1 ?_) (fun t1 z1 w1 => ?_)
  · have J1 : jk_I w B M O S xs h ∧ jk_X (jk_cut B h) (jk_cut B h) := ⟨hI, jk_X0⟩
    obtain ⟨z0, r0, hO⟩ := J1.1.2.2.2.2.2.2.2.2.1
    refine st_i2l (pc := 7) (dc_L_unit_0.1.2.1.2) ?_
    refine st_putN (pc := 8) g (dc_L_unit_0.1.2.2.1) fk_L_13 hO sg_ft_l ?_
    refine st_goto (pc := 11) (tgt := 18) (dc_L_unit_0.1.2.2.2) (by decide) ?_
    refine st_iconst (pc := 18) (z := 0) (dc_L_unit_0.2.1.2.2) (by decide) ?_
    refine st_iret (pc := 19) (dc_L_unit_0.2.2.1.1) rfl (by first | exact Nat.le_of_ble_eq_true rfl | omega) (by first | exact Nat.le_of_ble_eq_true rfl | omega) ?_
    exact hQ _ _ (jk_IO J1.1).1 (jk_Xt J1.2 (jk_IO J1.1).2) (by unfold jk_P; intros; omega) (by unfold jk_P; intros; omega) (jk_FO J1.1) (fun _ => jk_oe.trans ev)
  · have J1 := jk_IY hI (ck_Yz (ck_Y0 hx.1) w1)
    refine st_KX 14 ⟨[], ⟨0, 11, 14, 19⟩, [], e_I, rfl, fun z hz => (nomatch hz), by decide, by decide, cl_L_19, ct_e_I, rfl⟩ (fun q1 => ?_)
    refine st_astore (pc := 14) (dc_L_unit_0.2.1.1.1) (by decide) ?_
    refine st_iconst (pc := 16) (z := 1) (dc_L_unit_0.2.1.1.2) (by decide) ?_
    refine st_iret (pc := 17) (dc_L_unit_0.2.1.2.1) rfl (by first | exact Nat.le_of_ble_eq_true rfl | omega) (by first | exact Nat.le_of_ble_eq_true rfl | omega) ?_
    exact hQ _ _ J1.1 J1.2 (by unfold jk_P; intros; omega) (by unfold jk_P; intros; omega) jk_Fz (fun q => absurd q (by decide))

set_option maxRecDepth 100000 in
theorem f_L_codeAt {w : sg_W} {Q : sg_O → sg_H → Prop} {h : sg_H} (g : sg_G w) {d : Nat} (nc : jk_C w) (hd : 15 ≤ d) {B M O S : Nat} {xs : List Int} {A : fa_A} (hI : jk_I w B M O S xs h) (hx : cf_X h B A) (ok : fa_ok A) {trk p : Int} {L : List Int} (hL : fa_L A (4 + trk.toNat) = L) (hQ : ∀ (v : Int) (h' : sg_H), jk_I w B M O S xs h' → jk_X (jk_cut B h) (jk_cut B h') → jk_P ((trk < 0 ∨ 2 ≤ trk ∨ p < 0 ∨ (L.length : Int) ≤ p) → v = 1) → jk_P (¬ (trk < 0 ∨ 2 ≤ trk ∨ p < 0 ∨ (L.length : Int) ≤ p) → v = 0) → jk_F B h h' → (v = 0 → (jk_o h' O) = fs_cd L p.toNat) → Q (.inl (some (sg_i v))) h') : sg_D w mi_L_codeAt hh_L_codeAt d 8 48 [sg_r B, sg_i trk, sg_i p, sg_r O] h Q := by
  refine st_of pn_L cb_L_codeAt g (Nat.le_of_ble_eq_true rfl) ?_
  obtain ⟨us, hob⟩ := ck_oc hx.1
  refine st_aload_n (pc := 0) (j := 3) (dc_L_codeAt_0.1.1.1.1) rfl rfl ?_
  refine st_aload_n (pc := 1) (j := 0) (dc_L_codeAt_0.1.1.1.2) rfl rfl ?_
  refine st_iload_n (pc := 2) (j := 1) (dc_L_codeAt_0.1.1.2.1) rfl rfl ?_
  refine st_iload_n (pc := 3) (j := 2) (dc_L_codeAt_0.1.1.2.2) rfl rfl ?_
  refine st_callV (mi' := mi_X5_codeAt) (as := [sg_i trk, sg_i p]) (rest := [sg_r O]) (t := 6) (b := B) (d' := d - 1) (mc' := 8) (ms' := 48) g (dc_L_codeAt_0.1.2.1.1) cb_X5_codeAt ml_L_176 mn_X5_codeAt mv_X5_codeAt rfl (by decide) rfl hob rfl (Nat.le_of_ble_eq_true rfl) (by omega) (by omega) (by omega) ?_
  refine f_X5_codeAt g (by first | exact jl_d1 hd rfl | omega) hx ok hL (fun n1 v ev => st_K1 ?_) (fun t1 z1 w1 => ?_)
  · have J1 : jk_I w B M O S xs h ∧ jk_X (jk_cut B h) (jk_cut B h) := ⟨hI, jk_X0⟩
    obtain ⟨z0, r0, hO⟩ := J1.1.2.2.2.2.2.2.2.2.1
    refine st_i2l (pc := 7) (dc_L_codeAt_0.1.2.1.2) ?_
    refine st_putN (pc := 8) g (dc_L_codeAt_0.1.2.2.1) fk_L_13 hO sg_ft_l ?_
    refine st_goto (pc := 11) (tgt := 18) (dc_L_codeAt_0.1.2.2.2) (by decide) ?_
    refine st_iconst (pc := 18) (z := 0) (dc_L_codeAt_0.2.1.2.2) (by decide) ?_
    refine st_iret (pc := 19) (dc_L_codeAt_0.2.2.1.1) rfl (by first | exact Nat.le_of_ble_eq_true rfl | omega) (by first | exact Nat.le_of_ble_eq_true rfl | omega) ?_
    exact hQ _ _ (jk_IO J1.1).1 (jk_Xt J1.2 (jk_IO J1.1).2) (by unfold jk_P; intros; omega) (by unfold jk_P; intros; omega) (jk_FO J1.1) (fun _ => jk_oe.trans ev)
  · have J1 := jk_IY hI (ck_Yz (ck_Y0 hx.1) w1)
    refine st_KX 14 ⟨[], ⟨0, 11, 14, 19⟩, [], e_I, rfl, fun z hz => (nomatch hz), by decide, by decide, cl_L_19, ct_e_I, rfl⟩ (fun q1 => ?_)
    refine st_astore (pc := 14) (dc_L_codeAt_0.2.1.1.1) (by decide) ?_
    refine st_iconst (pc := 16) (z := 1) (dc_L_codeAt_0.2.1.1.2) (by decide) ?_
    refine st_iret (pc := 17) (dc_L_codeAt_0.2.1.2.1) rfl (by first | exact Nat.le_of_ble_eq_true rfl | omega) (by first | exact Nat.le_of_ble_eq_true rfl | omega) ?_
    exact hQ _ _ J1.1 J1.2 (by unfold jk_P; intros; omega) (by unfold jk_P; intros; omega) jk_Fz (fun q => absurd q (by decide))

set_option maxRecDepth 100000 in
theorem f_L_nth {w : sg_W} {Q : sg_O → sg_H → Prop} {h : sg_H} (g : sg_G w) {d : Nat} (nc : jk_C w) (hd : 15 ≤ d) {B M O S : Nat} {xs : List Int} {A : fa_A} (hI : jk_I w B M O S xs h) (hx : cf_X h B A) (ok : fa_ok A) {trk k : Int} {L : List Int} (hL : fa_L A (4 + trk.toNat) = L) (hQ : ∀ (v : Int) (h' : sg_H), jk_I w B M O S xs h' → jk_X (jk_cut B h) (jk_cut B h') → jk_P ((trk < 0 ∨ 2 ≤ trk ∨ k < 0 ∨ ((fs_codes L).length : Int) ≤ k) → v = 1) → jk_P (¬ (trk < 0 ∨ 2 ≤ trk ∨ k < 0 ∨ ((fs_codes L).length : Int) ≤ k) → v = 0) → jk_F B h h' → (v = 0 → (jk_o h' O) = (fs_codes L).getD k.toNat 0) → Q (.inl (some (sg_i v))) h') : sg_D w mi_L_nth hh_L_nth d 8 48 [sg_r B, sg_i trk, sg_i k, sg_r O] h Q := by
  refine st_of pn_L cb_L_nth g (Nat.le_of_ble_eq_true rfl) ?_
  obtain ⟨us, hob⟩ := ck_oc hx.1
  refine st_aload_n (pc := 0) (j := 3) (dc_L_nth_0.1.1.1.1) rfl rfl ?_
  refine st_aload_n (pc := 1) (j := 0) (dc_L_nth_0.1.1.1.2) rfl rfl ?_
  refine st_iload_n (pc := 2) (j := 1) (dc_L_nth_0.1.1.2.1) rfl rfl ?_
  refine st_iload_n (pc := 3) (j := 2) (dc_L_nth_0.1.1.2.2) rfl rfl ?_
  refine st_callV (mi' := mi_X5_nth) (as := [sg_i trk, sg_i k]) (rest := [sg_r O]) (t := 6) (b := B) (d' := d - 1) (mc' := 8) (ms' := 48) g (dc_L_nth_0.1.2.1.1) cb_X5_nth ml_L_179 mn_X5_nth mv_X5_nth rfl (by decide) rfl hob rfl (Nat.le_of_ble_eq_true rfl) (by omega) (by omega) (by omega) ?_
  refine f_X5_nth g (by first | exact jl_d1 hd rfl | omega) hx ok hL (fun n1 v ev => st_K1 ?_) (fun t1 z1 w1 => ?_)
  · have J1 : jk_I w B M O S xs h ∧ jk_X (jk_cut B h) (jk_cut B h) := ⟨hI, jk_X0⟩
    obtain ⟨z0, r0, hO⟩ := J1.1.2.2.2.2.2.2.2.2.1
    refine st_i2l (pc := 7) (dc_L_nth_0.1.2.1.2) ?_
    refine st_putN (pc := 8) g (dc_L_nth_0.1.2.2.1) fk_L_13 hO sg_ft_l ?_
    refine st_goto (pc := 11) (tgt := 18) (dc_L_nth_0.1.2.2.2) (by decide) ?_
    refine st_iconst (pc := 18) (z := 0) (dc_L_nth_0.2.1.2.2) (by decide) ?_
    refine st_iret (pc := 19) (dc_L_nth_0.2.2.1.1) rfl (by first | exact Nat.le_of_ble_eq_true rfl | omega) (by first | exact Nat.le_of_ble_eq_true rfl | omega) ?_
    exact hQ _ _ (jk_IO J1.1).1 (jk_Xt J1.2 (jk_IO J1.1).2) (by unfold jk_P; intros; omega) (by unfold jk_P; intros; omega) (jk_FO J1.1) (fun _ => jk_oe.trans ev)
  · have J1 := jk_IY hI (ck_Yz (ck_Y0 hx.1) w1)
    refine st_KX 14 ⟨[], ⟨0, 11, 14, 19⟩, [], e_I, rfl, fun z hz => (nomatch hz), by decide, by decide, cl_L_19, ct_e_I, rfl⟩ (fun q1 => ?_)
    refine st_astore (pc := 14) (dc_L_nth_0.2.1.1.1) (by decide) ?_
    refine st_iconst (pc := 16) (z := 1) (dc_L_nth_0.2.1.1.2) (by decide) ?_
    refine st_iret (pc := 17) (dc_L_nth_0.2.1.2.1) rfl (by first | exact Nat.le_of_ble_eq_true rfl | omega) (by first | exact Nat.le_of_ble_eq_true rfl | omega) ?_
    exact hQ _ _ J1.1 J1.2 (by unfold jk_P; intros; omega) (by unfold jk_P; intros; omega) jk_Fz (fun q => absurd q (by decide))

set_option maxRecDepth 100000 in
theorem f_L_house {w : sg_W} {Q : sg_O → sg_H → Prop} {h : sg_H} (g : sg_G w) {d : Nat} (nc : jk_C w) (hd : 15 ≤ d) {B M O S : Nat} {xs : List Int} {A : fa_A} (hI : jk_I w B M O S xs h) (hx : cf_X h B A) (ok : fa_ok A) {what : Int} (hQ : ∀ (v : Int) (h' : sg_H), jk_I w B M O S xs h' → jk_X (jk_cut B h) (jk_cut B h') → jk_P ((what < 0 ∨ 3 < what) → v = 1) → jk_P (¬ (what < 0 ∨ 3 < what) → v = 0) → jk_F B h h' → (v = 0 → (jk_o h' O) = fs_house A what) → Q (.inl (some (sg_i v))) h') : sg_D w mi_L_house hh_L_house d 8 48 [sg_r B, sg_i what, sg_r O] h Q := by
  refine st_of pn_L cb_L_house g (Nat.le_of_ble_eq_true rfl) ?_
  obtain ⟨us, hob⟩ := ck_oc hx.1
  refine st_aload_n (pc := 0) (j := 2) (dc_L_house_0.1.1.1.1) rfl rfl ?_
  refine st_aload_n (pc := 1) (j := 0) (dc_L_house_0.1.1.1.2) rfl rfl ?_
  refine st_iload_n (pc := 2) (j := 1) (dc_L_house_0.1.1.2.1) rfl rfl ?_
  refine st_callV (mi' := mi_X5_house) (as := [sg_i what]) (rest := [sg_r O]) (t := 6) (b := B) (d' := d - 1) (mc' := 8) (ms' := 48) g (dc_L_house_0.1.1.2.2) cb_X5_house ml_L_182 mn_X5_house mv_X5_house rfl (by decide) rfl hob rfl (Nat.le_of_ble_eq_true rfl) (by omega) (by omega) (by omega) ?_
  refine f_X5_house g (by first | exact jl_d1 hd rfl | omega) hx ok (fun n1 v ev => st_K1 ?_) (fun t1 z1 w1 => ?_)
  · have J1 : jk_I w B M O S xs h ∧ jk_X (jk_cut B h) (jk_cut B h) := ⟨hI, jk_X0⟩
    obtain ⟨z0, r0, hO⟩ := J1.1.2.2.2.2.2.2.2.2.1
    refine st_i2l (pc := 6) (dc_L_house_0.1.2.1.1) ?_
    refine st_putN (pc := 7) g (dc_L_house_0.1.2.1.2) fk_L_13 hO sg_ft_l ?_
    refine st_goto (pc := 10) (tgt := 16) (dc_L_house_0.1.2.2.1) (by decide) ?_
    refine st_iconst (pc := 16) (z := 0) (dc_L_house_0.2.1.2.1) (by decide) ?_
    refine st_iret (pc := 17) (dc_L_house_0.2.1.2.2) rfl (by first | exact Nat.le_of_ble_eq_true rfl | omega) (by first | exact Nat.le_of_ble_eq_true rfl | omega) ?_
    exact hQ _ _ (jk_IO J1.1).1 (jk_Xt J1.2 (jk_IO J1.1).2) (by unfold jk_P; intros; omega) (by unfold jk_P; intros; omega) (jk_FO J1.1) (fun _ => jk_oe.trans ev)
  · have J1 := jk_IY hI (ck_Yz (ck_Y0 hx.1) w1)
    refine st_KX 13 ⟨[], ⟨0, 10, 13, 21⟩, [], e_A, rfl, fun z hz => (nomatch hz), by decide, by decide, cl_L_21, ct_e_A, rfl⟩ (fun q1 => ?_)
    refine st_astore_n (pc := 13) (j := 3) (dc_L_house_0.1.2.2.2) rfl (by decide) ?_
    refine st_iconst (pc := 14) (z := 1) (dc_L_house_0.2.1.1.1) (by decide) ?_
    refine st_iret (pc := 15) (dc_L_house_0.2.1.1.2) rfl (by first | exact Nat.le_of_ble_eq_true rfl | omega) (by first | exact Nat.le_of_ble_eq_true rfl | omega) ?_
    exact hQ _ _ J1.1 J1.2 (by unfold jk_P; intros; omega) (by unfold jk_P; intros; omega) jk_Fz (fun q => absurd q (by decide))

