set_option maxRecDepth 100000 in
theorem s_J8_newLength_cabcc {w : sg_W} {Q : sg_O → sg_H → Prop} {h : sg_H} (g : sg_G w) {d : Nat} (hd : 3 ≤ d) {a b c : Int} (hv : 0 ≤ a ∧ a ≤ 100000 ∧ 0 < b ∧ b ≤ 100000 ∧ 0 ≤ c ∧ c ≤ 200000) (hQ : ∀ z : Int, z = a + (if c ≤ b then b else c) → Q (.inl (some (sg_i z))) h) : sg_C w mi_J8_newLength_cabcc d 0 0 [sg_i a, sg_i b, sg_i c] h Q := by
  refine sg_of pn_J8 (Nat.le_of_ble_eq_true rfl) ?_
  refine sg_iload_n (pc := 0) (j := 0) (dc_J8_newLength_cabcc_0.1.1.1.1) rfl rfl ?_
  refine sg_iload_n (pc := 1) (j := 1) (dc_J8_newLength_cabcc_0.1.1.1.2) rfl rfl ?_
  refine sg_iload_n (pc := 2) (j := 2) (dc_J8_newLength_cabcc_0.1.1.2.1) rfl rfl ?_
  refine sg_mmax (pc := 3) g (dc_J8_newLength_cabcc_0.1.1.2.2) mx_J8_194 mx_st mx_in mx_co (Nat.le_of_ble_eq_true rfl) (by omega) (by omega) (by omega) (fun z3 e3 => ?_)
  first | refine sg_iaddB (pc := 6) (dc_J8_newLength_cabcc_0.1.2.1.1) (by omega) (by omega) ?_ | refine sg_iadd (pc := 6) (dc_J8_newLength_cabcc_0.1.2.1.1) ?_
  refine sg_istore_n (pc := 7) (j := 3) (dc_J8_newLength_cabcc_0.1.2.1.2) rfl (by decide) ?_
  refine sg_iconst (pc := 8) (z := 0) (dc_J8_newLength_cabcc_0.1.2.2.1) (by decide) ?_
  refine sg_iload_n (pc := 9) (j := 3) (dc_J8_newLength_cabcc_0.1.2.2.2) rfl rfl ?_
  refine sg_icmp_ge (pc := 10) (tgt := 21) (dc_J8_newLength_cabcc_0.2.1.1.1) (by decide) (fun c10 => ?_) (fun c10 => ?_)
  · exfalso; omega
  · refine sg_iload_n (pc := 13) (j := 3) (dc_J8_newLength_cabcc_0.2.1.1.2) rfl rfl ?_
    refine sg_ldc (pc := 14) (z := 2147483639) g (dc_J8_newLength_cabcc_0.2.1.2.1) cn_J8_200 (by decide) ?_
    refine sg_icmp_gt (pc := 16) (tgt := 21) (dc_J8_newLength_cabcc_0.2.1.2.2) (by decide) (fun c16 => ?_) (fun c16 => ?_)
    · exfalso; omega
    · refine sg_iload_n (pc := 19) (j := 3) (dc_J8_newLength_cabcc_0.2.2.1.1) rfl rfl ?_
      refine sg_iret (pc := 20) (dc_J8_newLength_cabcc_0.2.2.1.2) rfl (by first | exact Nat.le_of_ble_eq_true rfl | omega) (by first | exact Nat.le_of_ble_eq_true rfl | omega) ?_
      exact hQ _ (by first | rfl | omega | ((repeat' split) <;> omega))

set_option maxRecDepth 100000 in
theorem s_J3_checkIndex_8e157 {w : sg_W} {Q : sg_O → sg_H → Prop} {h : sg_H} (g : sg_G w) {d : Nat} (hd : 1 ≤ d) {i n : Int} (i0 : 0 ≤ i) (i1 : i < n) (hQ : Q (.inl (some (sg_i i))) h) : sg_C w mi_J3_checkIndex_8e157 d 0 0 [sg_i i, sg_i n, sg_n] h Q := by
  refine sg_of pn_J3 (Nat.le_of_ble_eq_true rfl) ?_
  refine sg_iload_n (pc := 0) (j := 0) (dc_J3_checkIndex_8e157_0.1.1.1.1) rfl rfl ?_
  refine sg_if_lt (pc := 1) (tgt := 9) (dc_J3_checkIndex_8e157_0.1.1.1.2) (by decide) (fun c1 => ?_) (fun c1 => ?_)
  · exfalso; omega
  · refine sg_iload_n (pc := 4) (j := 0) (dc_J3_checkIndex_8e157_0.1.1.2.1) rfl rfl ?_
    refine sg_iload_n (pc := 5) (j := 1) (dc_J3_checkIndex_8e157_0.1.1.2.2) rfl rfl ?_
    refine sg_icmp_lt (pc := 6) (tgt := 16) (dc_J3_checkIndex_8e157_0.1.2.1.1) (by decide) (fun c6 => ?_) (fun c6 => ?_)
    · refine sg_iload_n (pc := 16) (j := 0) (dc_J3_checkIndex_8e157_0.2.1.2.1) rfl rfl ?_
      refine sg_iret (pc := 17) (dc_J3_checkIndex_8e157_0.2.1.2.2) rfl (by first | exact Nat.le_of_ble_eq_true rfl | omega) (by first | exact Nat.le_of_ble_eq_true rfl | omega) ?_
      exact hQ
    · exfalso; omega

set_option maxRecDepth 100000 in
theorem s_J15_checkIndex_7cf53 {w : sg_W} {Q : sg_O → sg_H → Prop} {h : sg_H} (g : sg_G w) {d : Nat} (hd : 2 ≤ d) {i n : Int} (i0 : 0 ≤ i) (i1 : i < n) (hQ : Q (.inl (some (sg_i i))) h) : sg_C w mi_J15_checkIndex_7cf53 d 0 0 [sg_i i, sg_i n] h Q := by
  refine sg_of pn_J15 (Nat.le_of_ble_eq_true rfl) ?_
  refine sg_iload_n (pc := 0) (j := 0) (dc_J15_checkIndex_7cf53_0.1.1.1) rfl rfl ?_
  refine sg_iload_n (pc := 1) (j := 1) (dc_J15_checkIndex_7cf53_0.1.1.2) rfl rfl ?_
  refine sg_null (pc := 2) (dc_J15_checkIndex_7cf53_0.1.2.1) ?_
  refine sg_cS3 (pc := 3) (d' := d - 1) (mc' := 0) (ms' := 0) g (dc_J15_checkIndex_7cf53_0.1.2.2) cb_J3_checkIndex_8e157 ml_J15_105 ms_J3_checkIndex_8e157 (Nat.le_of_ble_eq_true rfl) (by first | exact jl_d0 hd rfl | omega) (by first | exact Nat.le_of_ble_eq_true rfl | omega) (by first | exact Nat.le_of_ble_eq_true rfl | omega) ?_
  refine s_J3_checkIndex_8e157 g (by first | exact jl_d1 hd rfl | omega) (by omega) (by omega) ?_
  refine sg_K1 ?_
  refine sg_iret (pc := 6) (dc_J15_checkIndex_7cf53_0.2.1.1) rfl (by first | exact Nat.le_of_ble_eq_true rfl | omega) (by first | exact Nat.le_of_ble_eq_true rfl | omega) ?_
  exact hQ

set_option maxRecDepth 100000 in
theorem s_Jxa1e45_init_da8c8 {w : sg_W} {Q : sg_O → sg_H → Prop} {h : sg_H} (g : sg_G w) {d : Nat} (hd : 2 ≤ d) {b : Nat} (hQ : Q (.inl none) h) : sg_C w mi_Jxa1e45_init_da8c8 d 0 0 [sg_r b] h Q := by
  refine sg_of pn_Jxa1e45 (Nat.le_of_ble_eq_true rfl) ?_
  refine sg_aload_n (pc := 0) (j := 0) (dc_Jxa1e45_init_da8c8_0.1.1) rfl rfl ?_
  refine sg_objInit (pc := 1) g (dc_Jxa1e45_init_da8c8_0.1.2) mo_Jxa1e45_1 mo_in mo_co (Nat.le_of_ble_eq_true rfl) (by omega) ?_
  refine sg_vret (pc := 4) (dc_Jxa1e45_init_da8c8_0.2.1) rfl (by first | exact Nat.le_of_ble_eq_true rfl | omega) (by first | exact Nat.le_of_ble_eq_true rfl | omega) ?_
  exact hQ

set_option maxRecDepth 100000 in
theorem s_Jxc12de_init_da8c8 {w : sg_W} {Q : sg_O → sg_H → Prop} {h : sg_H} (g : sg_G w) {d : Nat} (hd : 3 ≤ d) {b : Nat} {m sz : Int} {v : sg_V} (hb : h.2 b = some (2, [sg_i m, v, sg_i sz])) (hQ : Q (.inl none) (h.1, sg_up h.2 b (2, [sg_i 0, v, sg_i sz]))) : sg_C w mi_Jxc12de_init_da8c8 d 0 0 [sg_r b] h Q := by
  refine sg_of pn_Jxc12de (Nat.le_of_ble_eq_true rfl) ?_
  refine sg_aload_n (pc := 0) (j := 0) (dc_Jxc12de_init_da8c8_0.1.1.1) rfl rfl ?_
  refine sg_cI0 (pc := 1) (d' := d - 1) (mc' := 0) (ms' := 0) g (dc_Jxc12de_init_da8c8_0.1.1.2) cb_Jxa1e45_init_da8c8 rfl rfl ml_Jxc12de_1 mn_Jxa1e45_init_da8c8 (Nat.le_of_ble_eq_true rfl) (by first | exact jl_d0 hd rfl | omega) (by first | exact Nat.le_of_ble_eq_true rfl | omega) (by first | exact Nat.le_of_ble_eq_true rfl | omega) ?_
  refine s_Jxa1e45_init_da8c8 g (by first | exact jl_d1 hd rfl | omega) ?_
  refine sg_K0 ?_
  refine sg_aload_n (pc := 4) (j := 0) (dc_Jxc12de_init_da8c8_0.1.2.1) rfl rfl ?_
  refine sg_iconst (pc := 5) (z := 0) (dc_Jxc12de_init_da8c8_0.1.2.2) (by decide) ?_
  refine sg_putf (pc := 6) g (dc_Jxc12de_init_da8c8_0.2.1.1) fk_Jxc12de_7 hb sg_ft_i ?_
  try dsimp only
  refine sg_vret (pc := 9) (dc_Jxc12de_init_da8c8_0.2.1.2) rfl (by first | exact Nat.le_of_ble_eq_true rfl | omega) (by first | exact Nat.le_of_ble_eq_true rfl | omega) ?_
  exact hQ

set_option maxRecDepth 100000 in
theorem s_al_init {w : sg_W} {Q : sg_O → sg_H → Prop} {h : sg_H} (g : sg_G w) {d : Nat} (hd : 4 ≤ d) {b E : Nat} {m sz : Int} {v : sg_V} (hZ : va_Z "java/util/ArrayList" "DEFAULTCAPACITY_EMPTY_ELEMENTDATA" "[Ljava/lang/Object;" (.ref E) (fun q => sg_b w ≤ q) w.2.1 w.2.1.heap) (hb : h.2 b = some (2, [sg_i m, v, sg_i sz])) (hQ : ∀ f : Nat → Option sg_E, f b = some (2, [sg_i 0, sg_r E, sg_i sz]) → (∀ q, q ≠ b → f q = h.2 q) → Q (.inl none) (h.1, f)) : sg_C w mi_Jx4a65c_init_da8c8 d 0 0 [sg_r b] h Q := by
  refine sg_of pn_Jx4a65c (Nat.le_of_ble_eq_true rfl) ?_
  refine sg_aload_n (pc := 0) (j := 0) (dc_Jx4a65c_init_da8c8_0.1.1.1) rfl rfl ?_
  refine sg_cI0 (pc := 1) (d' := d - 1) (mc' := 0) (ms' := 0) g (dc_Jx4a65c_init_da8c8_0.1.1.2) cb_Jxc12de_init_da8c8 rfl rfl ml_Jx4a65c_1 mn_Jxc12de_init_da8c8 (Nat.le_of_ble_eq_true rfl) (by first | exact jl_d0 hd rfl | omega) (by first | exact Nat.le_of_ble_eq_true rfl | omega) (by first | exact Nat.le_of_ble_eq_true rfl | omega) ?_
  refine s_Jxc12de_init_da8c8 g (by first | exact jl_d1 hd rfl | omega) hb ?_
  refine sg_K0 ?_
  try dsimp only
  refine sg_aload_n (pc := 4) (j := 0) (dc_Jx4a65c_init_da8c8_0.1.2.1) rfl rfl ?_
  refine sg_gets (v := sg_r E) (pc := 5) g (dc_Jx4a65c_init_da8c8_0.1.2.2) hZ rfl kl_Jx4a65c_39 ?_
  refine sg_putf (pc := 8) g (dc_Jx4a65c_init_da8c8_0.2.1.1) fk_Jx4a65c_9 sg_up_s sg_ft_a ?_
  try dsimp only
  refine sg_vret (pc := 11) (dc_Jx4a65c_init_da8c8_0.2.1.2) rfl (by first | exact Nat.le_of_ble_eq_true rfl | omega) (by first | exact Nat.le_of_ble_eq_true rfl | omega) ?_
  exact hQ _ sg_up_s (fun q hq => (sg_up_n hq).trans (sg_up_n hq))

set_option maxRecDepth 100000 in
theorem s_al_size {w : sg_W} {Q : sg_O → sg_H → Prop} {h : sg_H} (g : sg_G w) {d : Nat} (hd : 1 ≤ d) {b E : Nat} {m sz : Int} (hb : h.2 b = some (2, [sg_i m, sg_r E, sg_i sz])) (hQ : Q (.inl (some (sg_i sz))) h) : sg_C w mi_Jx4a65c_size_8abf5 d 0 0 [sg_r b] h Q := by
  refine sg_of pn_Jx4a65c (Nat.le_of_ble_eq_true rfl) ?_
  refine sg_aload_n (pc := 0) (j := 0) (dc_Jx4a65c_size_8abf5_0.1.1) rfl rfl ?_
  refine sg_getf (pc := 1) g (dc_Jx4a65c_size_8abf5_0.1.2) fk_Jx4a65c_48 hb rfl rfl ?_
  refine sg_iret (pc := 4) (dc_Jx4a65c_size_8abf5_0.2.1) rfl (by first | exact Nat.le_of_ble_eq_true rfl | omega) (by first | exact Nat.le_of_ble_eq_true rfl | omega) ?_
  exact hQ

set_option maxRecDepth 100000 in
theorem s_al_elementData {w : sg_W} {Q : sg_O → sg_H → Prop} {h : sg_H} (g : sg_G w) {d : Nat} (hd : 1 ≤ d) {b E : Nat} {m sz : Int} (hb : h.2 b = some (2, [sg_i m, sg_r E, sg_i sz])) {xs : List sg_V} (hE : h.2 E = some (113, xs)) {i : Int} {v : sg_V} (i0 : 0 ≤ i) (hv : xs[i.toNat]? = some v) (hr : ∃ R, v = sg_r R) (hQ : Q (.inl (some v)) h) : sg_C w mi_Jx4a65c_elementData_915e3 d 0 0 [sg_r b, sg_i i] h Q := by
  refine sg_of pn_Jx4a65c (Nat.le_of_ble_eq_true rfl) ?_
  obtain ⟨R, rfl⟩ := hr
  refine sg_aload_n (pc := 0) (j := 0) (dc_Jx4a65c_elementData_915e3_0.1.1.1) rfl rfl ?_
  refine sg_getf (pc := 1) g (dc_Jx4a65c_elementData_915e3_0.1.1.2) fk_Jx4a65c_9 hb rfl rfl ?_
  refine sg_iload_n (pc := 4) (j := 1) (dc_Jx4a65c_elementData_915e3_0.1.2.1) rfl rfl ?_
  refine sg_aald (pc := 5) (dc_Jx4a65c_elementData_915e3_0.1.2.2) hE (by decide) (by omega) hv ?_
  refine sg_aret (pc := 6) (dc_Jx4a65c_elementData_915e3_0.2.1.1) rfl (by first | exact Or.inl ⟨_, rfl⟩ | exact Or.inr ⟨_, rfl⟩) (by first | exact Nat.le_of_ble_eq_true rfl | omega) (by first | exact Nat.le_of_ble_eq_true rfl | omega) ?_
  exact hQ

set_option maxRecDepth 100000 in
theorem s_al_get {w : sg_W} {Q : sg_O → sg_H → Prop} {h : sg_H} (g : sg_G w) {d : Nat} (hd : 3 ≤ d) {b E : Nat} {m sz : Int} (hb : h.2 b = some (2, [sg_i m, sg_r E, sg_i sz])) {xs : List sg_V} (hE : h.2 E = some (113, xs)) {i : Int} {R : Nat} (i0 : 0 ≤ i) (i1 : i < sz) (hv : xs[i.toNat]? = some (sg_r R)) (hQ : Q (.inl (some (sg_r R))) h) : sg_C w mi_Jx4a65c_get_915e3 d 0 0 [sg_r b, sg_i i] h Q := by
  refine sg_of pn_Jx4a65c (Nat.le_of_ble_eq_true rfl) ?_
  refine sg_iload_n (pc := 0) (j := 1) (dc_Jx4a65c_get_915e3_0.1.1.1.1) rfl rfl ?_
  refine sg_aload_n (pc := 1) (j := 0) (dc_Jx4a65c_get_915e3_0.1.1.1.2) rfl rfl ?_
  refine sg_getf (pc := 2) g (dc_Jx4a65c_get_915e3_0.1.1.2.1) fk_Jx4a65c_48 hb rfl rfl ?_
  refine sg_cS2 (pc := 5) (d' := d - 1) (mc' := 0) (ms' := 0) g (dc_Jx4a65c_get_915e3_0.1.1.2.2) cb_J15_checkIndex_7cf53 ml_Jx4a65c_118 ms_J15_checkIndex_7cf53 (Nat.le_of_ble_eq_true rfl) (by first | exact jl_d0 hd rfl | omega) (by first | exact Nat.le_of_ble_eq_true rfl | omega) (by first | exact Nat.le_of_ble_eq_true rfl | omega) ?_
  refine s_J15_checkIndex_7cf53 g (by first | exact jl_d1 hd rfl | omega) (by omega) (by omega) ?_
  refine sg_K1 ?_
  refine sg_pop (pc := 8) (dc_Jx4a65c_get_915e3_0.1.2.1.1) rfl ?_
  refine sg_aload_n (pc := 9) (j := 0) (dc_Jx4a65c_get_915e3_0.1.2.1.2) rfl rfl ?_
  refine sg_iload_n (pc := 10) (j := 1) (dc_Jx4a65c_get_915e3_0.1.2.2.1) rfl rfl ?_
  refine sg_cV1 (pc := 11) (d' := d - 1) (mc' := 0) (ms' := 0) g (dc_Jx4a65c_get_915e3_0.1.2.2.2) cb_Jx4a65c_elementData_915e3 ml_Jx4a65c_123 mn_Jx4a65c_elementData_915e3 mv_Jx4a65c_elementData_915e3 hb (Nat.le_of_ble_eq_true rfl) rfl (Nat.le_of_ble_eq_true rfl) (by first | exact jl_d0 hd rfl | omega) (by first | exact Nat.le_of_ble_eq_true rfl | omega) (by first | exact Nat.le_of_ble_eq_true rfl | omega) ?_
  refine s_al_elementData g (by first | exact jl_d1 hd rfl | omega) hb hE (by omega) hv ⟨_, rfl⟩ ?_
  refine sg_K1 ?_
  refine sg_aret (pc := 14) (dc_Jx4a65c_get_915e3_0.2.1.1.1) rfl (by first | exact Or.inl ⟨_, rfl⟩ | exact Or.inr ⟨_, rfl⟩) (by first | exact Nat.le_of_ble_eq_true rfl | omega) (by first | exact Nat.le_of_ble_eq_true rfl | omega) ?_
  exact hQ

set_option maxRecDepth 100000 in
theorem s_cp6 {w : sg_W} {Q : sg_O → sg_H → Prop} {h : sg_H} (g : sg_G w) {d : Nat} (hd : 3 ≤ d) {E q N : Nat} {z : Int} {xs : List sg_V} (hM : va_Mi "[Ljava/lang/Object;" q w.2.1) (hE : h.2 E = some (113, xs)) (hEl : E < h.1) (hnew : ∀ y e, h.2 y = some e → y ≠ h.1) (hel : ∀ i : Nat, i < xs.length → sg_el h 113 (xs.getD i sg_n)) (hz : z = (N : Int)) (hN : N ≤ 1000) (hl : xs.length ≤ 1000) (hQ : Q (.inl (some (sg_r h.1))) (h.1 + 1, sg_up (sg_up h.2 h.1 (113, List.replicate N sg_n)) h.1 (113, sg_cp xs (List.replicate N sg_n) 0 0 (min xs.length N)))) : sg_C w mi_J7_copyOf_6403c d 1 N [sg_r E, sg_i z, sg_r q] h Q := by
  refine sg_of pn_J7 (Nat.le_of_ble_eq_true rfl) ?_
  refine sg_aload_n (pc := 0) (j := 2) (dc_J7_copyOf_6403c_0.1.1.1.1) rfl rfl ?_
  refine sg_ldcM (pc := 1) g (dc_J7_copyOf_6403c_0.1.1.1.2) cl_J7_110 hM ?_
  refine sg_acmp_ne (pc := 3) (tgt := 13) (dc_J7_copyOf_6403c_0.1.1.2.1) (by decide) (fun c3 => ?_) (fun c3 => ?_)
  · exact absurd rfl c3
  · refine sg_iload_n (pc := 6) (j := 1) (dc_J7_copyOf_6403c_0.1.1.2.2) rfl rfl ?_
    refine sg_anew (t := 113) (N := N) (pc := 7) g (dc_J7_copyOf_6403c_0.1.2.1.1) cl_J7_2 av_113 rfl (by decide) (by decide) (by omega) (by omega) (by omega) (by omega) ?_
    try dsimp only
    refine sg_goto (pc := 10) (tgt := 24) (dc_J7_copyOf_6403c_0.1.2.1.2) (by decide) ?_
    refine sg_astore_n (pc := 24) (j := 3) (dc_J7_copyOf_6403c_0.2.1.2.2) rfl (by decide) ?_
    refine sg_aload_n (pc := 25) (j := 0) (dc_J7_copyOf_6403c_0.2.2.1.1) rfl rfl ?_
    refine sg_iconst (pc := 26) (z := 0) (dc_J7_copyOf_6403c_0.2.2.1.2) (by decide) ?_
    refine sg_aload_n (pc := 27) (j := 3) (dc_J7_copyOf_6403c_0.2.2.2.1) rfl rfl ?_
    refine sg_iconst (pc := 28) (z := 0) (dc_J7_copyOf_6403c_0.2.2.2.2) (by decide) ?_
    refine sg_aload_n (pc := 29) (j := 0) (dc_J7_copyOf_6403c_29.1.1.1) rfl rfl ?_
    refine sg_alen (pc := 30) (dc_J7_copyOf_6403c_29.1.1.2) ((sg_up_n (by omega)).trans hE) (Nat.le_of_ble_eq_true rfl) (by omega) ?_
    refine sg_iload_n (pc := 31) (j := 1) (dc_J7_copyOf_6403c_29.1.2.1) rfl rfl ?_
    refine sg_mmin (pc := 32) g (dc_J7_copyOf_6403c_29.1.2.2) mm_J7_304 mm_st mx_in mm_co (Nat.le_of_ble_eq_true rfl) (by omega) (by omega) (by omega) (fun z32 e32 => ?_)
    have e9 : z32.toNat = min xs.length N := by omega
    refine sg_copy (pc := 35) g (dc_J7_copyOf_6403c_29.2.1.1) ml_J7_150 ma_st ma_na ma_in ((sg_up_n (by omega)).trans hE) sg_up_s (by decide) (by decide) (by decide) (by omega) (by omega) (by omega) (by omega) (by rw [List.length_replicate]; omega) (fun i hi => ?_) (Nat.le_of_ble_eq_true rfl) (by omega) ?_
    · have h9 := hel (0 + i) (by omega)
      rcases h9 with ⟨q1, q2⟩ | ⟨q1, q2 | ⟨y, u, us, q2, q3, q4⟩⟩
      · exact Or.inl ⟨q1, q2⟩
      · exact Or.inr ⟨q1, Or.inl q2⟩
      · exact Or.inr ⟨q1, Or.inr ⟨y, u, us, q2, (sg_up_n (hnew _ _ q3)).trans q3, q4⟩⟩
    rw [e9]
    try dsimp only
    refine sg_aload_n (pc := 38) (j := 3) (dc_J7_copyOf_6403c_29.2.1.2) rfl rfl ?_
    refine sg_aret (pc := 39) (dc_J7_copyOf_6403c_29.2.2.1) rfl (by first | exact Or.inl ⟨_, rfl⟩ | exact Or.inr ⟨_, rfl⟩) (by first | exact Nat.le_of_ble_eq_true rfl | omega) (by first | exact Nat.le_of_ble_eq_true rfl | omega) ?_
    exact hQ

set_option maxRecDepth 100000 in
theorem s_cp1 {w : sg_W} {Q : sg_O → sg_H → Prop} {h : sg_H} (g : sg_G w) {d : Nat} (hd : 4 ≤ d) {E q N : Nat} {z : Int} {xs : List sg_V} (hM : va_Mi "[Ljava/lang/Object;" q w.2.1) (hE : h.2 E = some (113, xs)) (hEl : E < h.1) (hnew : ∀ y e, h.2 y = some e → y ≠ h.1) (hel : ∀ i : Nat, i < xs.length → sg_el h 113 (xs.getD i sg_n)) (hz : z = (N : Int)) (hN : N ≤ 1000) (hl : xs.length ≤ 1000) (hQ : Q (.inl (some (sg_r h.1))) (h.1 + 1, sg_up (sg_up h.2 h.1 (113, List.replicate N sg_n)) h.1 (113, sg_cp xs (List.replicate N sg_n) 0 0 (min xs.length N)))) : sg_C w mi_J7_copyOf_1904c d 1 N [sg_r E, sg_i z] h Q := by
  refine sg_of pn_J7 (Nat.le_of_ble_eq_true rfl) ?_
  refine sg_aload_n (pc := 0) (j := 0) (dc_J7_copyOf_1904c_0.1.1.1) rfl rfl ?_
  refine sg_iload_n (pc := 1) (j := 1) (dc_J7_copyOf_1904c_0.1.1.2) rfl rfl ?_
  refine sg_aload_n (pc := 2) (j := 0) (dc_J7_copyOf_1904c_0.1.2.1) rfl rfl ?_
  refine sg_getC (pc := 3) g (dc_J7_copyOf_1904c_0.1.2.2) ml_J7_86 gc_de gc_se gc_in gc_na hM hE (by decide) (by decide +kernel) (Nat.le_of_ble_eq_true rfl) (by omega) ?_
  refine sg_cS3 (pc := 6) (d' := d - 1) (mc' := 1) (ms' := N) g (dc_J7_copyOf_1904c_0.2.1.1) cb_J7_copyOf_6403c ml_J7_300 ms_J7_copyOf_6403c (Nat.le_of_ble_eq_true rfl) (by first | exact jl_d0 hd rfl | omega) (by first | exact Nat.le_of_ble_eq_true rfl | omega) (by first | exact Nat.le_of_ble_eq_true rfl | omega) ?_
  refine s_cp6 (N := N) g (by first | exact jl_d1 hd rfl | omega) hM hE hEl hnew hel hz hN hl ?_
  refine sg_K1 ?_
  try dsimp only
  refine sg_aret (pc := 9) (dc_J7_copyOf_1904c_0.2.1.2) rfl (by first | exact Or.inl ⟨_, rfl⟩ | exact Or.inr ⟨_, rfl⟩) (by first | exact Nat.le_of_ble_eq_true rfl | omega) (by first | exact Nat.le_of_ble_eq_true rfl | omega) ?_
  exact hQ

