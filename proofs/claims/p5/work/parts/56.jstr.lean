/-! texts and their builders: bytes, cells, what an append costs -/
theorem jy_cp {xs ys : List sg_V} {sp dp n : Nat} (hx : jy xs) (hy : jy ys) (h : sp + n ≤ xs.length) : jy (sg_cp xs ys sp dp n) := by
  intro v hv
  obtain ⟨k, hk, rfl⟩ := List.mem_map.mp hv
  have hk' := List.mem_range.mp hk
  by_cases c : dp ≤ k ∧ k < dp + n
  · rw [if_pos c, List.getD_eq_getElem?_getD, List.getElem?_eq_getElem (by omega)]
    exact hx _ (List.getElem_mem _)
  · rw [if_neg c, List.getD_eq_getElem?_getD, List.getElem?_eq_getElem hk']
    exact hy _ (List.getElem_mem _)
theorem jy_rep {N : Nat} : jy (List.replicate N (sg_i 0)) := fun v hv => ⟨0, List.eq_of_mem_replicate hv, by decide, by decide⟩
theorem jy_set {xs : List sg_V} {i : Nat} {z : Int} (hx : jy xs) : jy (xs.set i (sg_i (sg_byt z))) := fun v hv => by
  rcases List.mem_or_eq_of_mem_set hv with q | rfl
  · exact hx v q
  · exact ⟨_, rfl, (sg_bytr z).1, (sg_bytr z).2⟩
theorem jy_el {h : sg_H} {xs : List sg_V} {i : Nat} (hx : jy xs) (hi : i < xs.length) : sg_el h 102 (xs.getD i sg_n) := by
  refine Or.inl ⟨rfl, ?_⟩
  rw [List.getD_eq_getElem?_getD, List.getElem?_eq_getElem hi]
  exact hx _ (List.getElem_mem _)
/-- what it costs to have room for q letters where there is room for m: the new room, cells, slots -/
def jb_c (q m m' mc ms : Nat) : Prop := (q ≤ m ∧ m' = m ∧ mc = 0 ∧ ms = 0) ∨ (m < q ∧ ((m + 2 ≤ q - m ∧ m' = q) ∨ (q - m < m + 2 ∧ m' = 2 * m + 2)) ∧ mc = 1 ∧ ms = m')
theorem jb_cx (q m : Nat) : ∃ m' mc ms : Nat, jb_c q m m' mc ms := by
  by_cases c : q ≤ m
  · exact ⟨m, 0, 0, Or.inl ⟨c, rfl, rfl, rfl⟩⟩
  · by_cases e : m + 2 ≤ q - m
    · exact ⟨_, 1, _, Or.inr ⟨by omega, Or.inl ⟨e, rfl⟩, rfl, rfl⟩⟩
    · exact ⟨_, 1, _, Or.inr ⟨by omega, Or.inr ⟨by omega, rfl⟩, rfl, rfl⟩⟩
/-- a builder at b, made since h0: room for cap letters, c of them there -/
def jb_B (h0 h : sg_H) (b cap : Nat) (c : Int) : Prop := h0.1 ≤ b ∧ md_E h0 h ∧ 0 ≤ c ∧ c ≤ (cap : Int) ∧ cap ≤ 1000 ∧ ∃ (v : Nat) (xs : List sg_V) (x : Int), h0.1 ≤ v ∧ h.2 b = some (1, [sg_r v, sg_i 0, sg_i x, sg_i c]) ∧ h.2 v = some (102, xs) ∧ xs.length = cap ∧ jy xs
theorem jb_E {h0 h h' : sg_H} {b cap : Nat} {c : Int} (x : jb_B h0 h b cap c) : md_E h0 h := x.2.1
abbrev jz (w : sg_W) : Prop := va_Z "java/lang/String" "COMPACT_STRINGS" "Z" (.int 1) (fun q => sg_b w ≤ q) w.2.1 w.2.1.heap
set_option maxRecDepth 100000 in
theorem s_isLatin1 {w : sg_W} {Q : sg_O → sg_H → Prop} {h : sg_H} (g : sg_G w) {d : Nat} (hd : 1 ≤ d) (hJ : jz w) {b v : Nat} {c x : Int} (hb : h.2 b = some (1, [sg_r v, sg_i 0, sg_i x, sg_i c])) (hQ : Q (.inl (some (sg_i 1))) h) : sg_C w mi_J5_isLatin1_aae02 d 0 0 [sg_r b] h Q := by
  refine sg_of pn_J5 (Nat.le_of_ble_eq_true rfl) ?_
  refine sg_gets (v := sg_i 1) (pc := 0) g (dc_J5_isLatin1_aae02_0.1.1.1.1) hJ ⟨1, rfl, rfl⟩ kl_J5_18 ?_
  refine sg_if_eq (pc := 3) (tgt := 17) (dc_J5_isLatin1_aae02_0.1.1.1.2) (by decide) (fun cu => absurd cu (by omega)) (fun cu => ?_)
  refine sg_aload_n (pc := 6) (j := 0) (dc_J5_isLatin1_aae02_0.1.1.2.1) rfl rfl ?_
  refine sg_getf (pc := 7) g (dc_J5_isLatin1_aae02_0.1.1.2.2) fk_J5_22 hb rfl rfl ?_
  refine sg_if_ne (pc := 10) (tgt := 17) (dc_J5_isLatin1_aae02_0.1.2.1.1) (by decide) (fun cu => absurd cu (by omega)) (fun cu => ?_)
  refine sg_iconst (pc := 13) (z := 1) (dc_J5_isLatin1_aae02_0.1.2.1.2) (by decide) ?_
  refine sg_goto (pc := 14) (tgt := 18) (dc_J5_isLatin1_aae02_0.1.2.2.1) (by decide) ?_
  refine sg_zret (pc := 18) (dc_J5_isLatin1_aae02_0.2.1.1.1) rfl (by first | exact Or.inl rfl | exact Or.inr rfl | omega | assumption) (by first | exact Nat.le_of_ble_eq_true rfl | omega) (by first | exact Nat.le_of_ble_eq_true rfl | omega) ?_
  exact hQ

set_option maxRecDepth 100000 in
theorem s_canEncode {w : sg_W} {Q : sg_O → sg_H → Prop} {h : sg_H} (g : sg_G w) {d : Nat} (hd : 1 ≤ d) {z : Int} (z0 : 0 ≤ z) (z1 : z ≤ 255) (hQ : Q (.inl (some (sg_i 1))) h) : sg_C w mi_J1_canEncode_fc78d d 0 0 [sg_i z] h Q := by
  refine sg_of pn_J1 (Nat.le_of_ble_eq_true rfl) ?_
  refine sg_iload_n (pc := 0) (j := 0) (dc_J1_canEncode_fc78d_0.1.1.1) rfl rfl ?_
  refine sg_sipush (pc := 1) (z := 255) (dc_J1_canEncode_fc78d_0.1.1.2) (by decide) ?_
  refine sg_icmp_gt (pc := 4) (tgt := 11) (dc_J1_canEncode_fc78d_0.1.2.1) (by decide) (fun cu => absurd cu (by omega)) (fun cu => ?_)
  refine sg_iconst (pc := 7) (z := 1) (dc_J1_canEncode_fc78d_0.1.2.2) (by decide) ?_
  refine sg_goto (pc := 8) (tgt := 12) (dc_J1_canEncode_fc78d_0.2.1.1) (by decide) ?_
  refine sg_zret (pc := 12) (dc_J1_canEncode_fc78d_0.2.2.1) rfl (by first | exact Or.inl rfl | exact Or.inr rfl | omega | assumption) (by first | exact Nat.le_of_ble_eq_true rfl | omega) (by first | exact Nat.le_of_ble_eq_true rfl | omega) ?_
  exact hQ

set_option maxRecDepth 100000 in
theorem s_coder {w : sg_W} {Q : sg_O → sg_H → Prop} {h : sg_H} (g : sg_G w) {d : Nat} (hd : 1 ≤ d) (hJ : jz w) {a t v : Nat} {ps : List sg_V} (ha : h.2 a = some (t, sg_r v :: sg_i 0 :: ps)) (ht : t % 200 = 0) (hQ : Q (.inl (some (sg_i 0))) h) : sg_C w mi_J0_coder_7d493 d 0 0 [sg_r a] h Q := by
  refine sg_of pn_J0 (Nat.le_of_ble_eq_true rfl) ?_
  refine sg_gets (v := sg_i 1) (pc := 0) g (dc_J0_coder_7d493_0.1.1.1) hJ ⟨1, rfl, rfl⟩ kl_J0_38 ?_
  refine sg_if_eq (pc := 3) (tgt := 13) (dc_J0_coder_7d493_0.1.1.2) (by decide) (fun cu => absurd cu (by omega)) (fun cu => ?_)
  refine sg_aload_n (pc := 6) (j := 0) (dc_J0_coder_7d493_0.1.2.1) rfl rfl ?_
  refine sg_getf (pc := 7) g (dc_J0_coder_7d493_0.1.2.2) fk_J0_15 ha ht rfl ?_
  refine sg_goto (pc := 10) (tgt := 14) (dc_J0_coder_7d493_0.2.1.1) (by decide) ?_
  refine sg_bret (pc := 14) (dc_J0_coder_7d493_0.2.2.1) rfl (by omega) (by first | exact Nat.le_of_ble_eq_true rfl | omega) (by first | exact Nat.le_of_ble_eq_true rfl | omega) ?_
  exact hQ

set_option maxRecDepth 100000 in
theorem s_strlen {w : sg_W} {Q : sg_O → sg_H → Prop} {h : sg_H} (g : sg_G w) {d : Nat} (hd : 2 ≤ d) (hJ : jz w) {a t v : Nat} {ps : List sg_V} (ha : h.2 a = some (t, sg_r v :: sg_i 0 :: ps)) (ht : t % 200 = 0) {tv : Nat} {xs : List sg_V} (hv : h.2 v = some (tv, xs)) (htv : tv % 200 = 102) (hl : xs.length ≤ 1000) (hQ : Q (.inl (some (sg_i (xs.length : Int)))) h) : sg_C w mi_J0_length_8abf5 d 0 0 [sg_r a] h Q := by
  refine sg_of pn_J0 (Nat.le_of_ble_eq_true rfl) ?_
  refine sg_aload_n (pc := 0) (j := 0) (dc_J0_length_8abf5_0.1.1.1) rfl rfl ?_
  refine sg_getf (pc := 1) g (dc_J0_length_8abf5_0.1.1.2) fk_J0_9 ha ht rfl ?_
  refine sg_alen (pc := 4) (dc_J0_length_8abf5_0.1.2.1) hv (by omega) (by omega) ?_
  refine sg_aload_n (pc := 5) (j := 0) (dc_J0_length_8abf5_0.1.2.2) rfl rfl ?_
  refine sg_callV (q := (RJ0, TJ0, 4)) (as := []) (d' := d - 1) (mc' := 0) (ms' := 0) (pc := 6) g (dc_J0_length_8abf5_0.2.1.1) cb_J0_coder_7d493 ml_J0_335 mn_J0_coder_7d493 mv_J0_coder_7d493 (by rw [ht]; rfl) (by omega) rfl ha rfl (Nat.le_of_ble_eq_true rfl) (by omega) (by omega) (by omega) ?_
  refine s_coder g (by first | exact jl_d1 hd rfl | omega) hJ ha ht ?_
  refine sg_K1 ?_
  first | refine sg_ishr0 (pc := 9) (dc_J0_length_8abf5_0.2.1.2) (by omega) (by omega) ?_ | refine sg_ishr1 (pc := 9) (dc_J0_length_8abf5_0.2.1.2) (by omega) (by omega) ?_ | refine sg_ishr (pc := 9) (dc_J0_length_8abf5_0.2.1.2) ?_
  refine sg_iret (pc := 10) (dc_J0_length_8abf5_0.2.2.1) rfl (by first | exact Nat.le_of_ble_eq_true rfl | omega) (by first | exact Nat.le_of_ble_eq_true rfl | omega) ?_
  exact hQ

set_option maxRecDepth 100000 in
theorem s_getBytes {w : sg_W} {Q : sg_O → sg_H → Prop} {h : sg_H} (g : sg_G w) {d : Nat} (hd : 2 ≤ d) (hJ : jz w) {a t v : Nat} {ps : List sg_V} (ha : h.2 a = some (t, sg_r v :: sg_i 0 :: ps)) (ht : t % 200 = 0) {tv : Nat} {xs : List sg_V} (hv : h.2 v = some (tv, xs)) (htv : tv % 200 = 102) (hl : xs.length ≤ 1000) (hy : jy xs) {D : Nat} {ds : List sg_V} {z : Int} (hD : h.2 D = some (102, ds)) (z0 : 0 ≤ z) (z1 : z + (xs.length : Int) ≤ (ds.length : Int)) (z2 : ds.length ≤ 2000) (hQ : Q (.inl none) (h.1, sg_up h.2 D (102, sg_cp xs ds 0 z.toNat xs.length))) : sg_C w mi_J0_getBytes_840e7 d 0 0 [sg_r a, sg_r D, sg_i z, sg_i 0] h Q := by
  refine sg_of pn_J0 (Nat.le_of_ble_eq_true rfl) ?_
  refine sg_aload_n (pc := 0) (j := 0) (dc_J0_getBytes_840e7_0.1.1.1.1) rfl rfl ?_
  refine sg_callV (q := (RJ0, TJ0, 4)) (as := []) (d' := d - 1) (mc' := 0) (ms' := 0) (pc := 1) g (dc_J0_getBytes_840e7_0.1.1.1.2) cb_J0_coder_7d493 ml_J0_335 mn_J0_coder_7d493 mv_J0_coder_7d493 (by rw [ht]; rfl) (by omega) rfl ha rfl (Nat.le_of_ble_eq_true rfl) (by omega) (by omega) (by omega) ?_
  refine s_coder g (by first | exact jl_d1 hd rfl | omega) hJ ha ht ?_
  refine sg_K1 ?_
  refine sg_iload_n (pc := 4) (j := 3) (dc_J0_getBytes_840e7_0.1.1.2.1) rfl rfl ?_
  refine sg_icmp_ne (pc := 5) (tgt := 28) (dc_J0_getBytes_840e7_0.1.1.2.2) (by decide) (fun cu => absurd cu (by omega)) (fun cu => ?_)
  refine sg_aload_n (pc := 8) (j := 0) (dc_J0_getBytes_840e7_0.1.2.1.1) rfl rfl ?_
  refine sg_getf (pc := 9) g (dc_J0_getBytes_840e7_0.1.2.1.2) fk_J0_9 ha ht rfl ?_
  refine sg_iconst (pc := 12) (z := 0) (dc_J0_getBytes_840e7_0.1.2.2.1) (by decide) ?_
  refine sg_aload_n (pc := 13) (j := 1) (dc_J0_getBytes_840e7_0.1.2.2.2) rfl rfl ?_
  refine sg_iload_n (pc := 14) (j := 2) (dc_J0_getBytes_840e7_0.2.1.1.1) rfl rfl ?_
  refine sg_iload_n (pc := 15) (j := 3) (dc_J0_getBytes_840e7_0.2.1.1.2) rfl rfl ?_
  first | refine sg_ishl0 (pc := 16) (dc_J0_getBytes_840e7_0.2.1.2.1) (by omega) (by omega) ?_ | refine sg_ishl1 (pc := 16) (dc_J0_getBytes_840e7_0.2.1.2.1) (by omega) (by omega) ?_ | refine sg_ishl (pc := 16) (dc_J0_getBytes_840e7_0.2.1.2.1) ?_
  refine sg_aload_n (pc := 17) (j := 0) (dc_J0_getBytes_840e7_0.2.1.2.2) rfl rfl ?_
  refine sg_getf (pc := 18) g (dc_J0_getBytes_840e7_0.2.2.1.1) fk_J0_9 ha ht rfl ?_
  refine sg_alen (pc := 21) (dc_J0_getBytes_840e7_0.2.2.1.2) hv (by omega) (by omega) ?_
  refine sg_copy (pc := 22) g (dc_J0_getBytes_840e7_0.2.2.2.1) ml_J0_212 ma_st ma_na ma_in hv hD (by first | assumption | decide) (by decide) (by decide) (by omega) (by omega) (by omega) (by first | omega | (simp only [List.length_replicate]; omega)) (by first | omega | (simp only [List.length_replicate]; omega)) (fun i hi => jy_el hy (by omega)) (Nat.le_of_ble_eq_true rfl) (by omega) ?_
  try dsimp only
  refine sg_goto (pc := 25) (tgt := 43) (dc_J0_getBytes_840e7_0.2.2.2.2) (by decide) ?_
  refine sg_vret (pc := 43) (dc_J0_getBytes_840e7_28.2.1.1.2) rfl (by first | exact Nat.le_of_ble_eq_true rfl | omega) (by first | exact Nat.le_of_ble_eq_true rfl | omega) ?_
  exact hQ

set_option maxRecDepth 100000 in
theorem s_cpB {w : sg_W} {Q : sg_O → sg_H → Prop} {h : sg_H} (g : sg_G w) {d : Nat} (hd : 2 ≤ d) {v N : Nat} {z : Int} {xs : List sg_V} (hv : h.2 v = some (102, xs)) (hl : xs.length ≤ 1000) (hy : jy xs) (hz : z = (N : Int)) (hN : xs.length < N) (hN2 : N ≤ 2000) (hQ : ∀ ys : List sg_V, ys.length = N → jy ys → Q (.inl (some (sg_r h.1))) (h.1 + 1, sg_up (sg_up h.2 h.1 (102, List.replicate N (sg_i 0))) h.1 (102, ys))) : sg_C w mi_J7_copyOf_9075b d 1 N [sg_r v, sg_i z] h Q := by
  refine sg_of pn_J7 (Nat.le_of_ble_eq_true rfl) ?_
  refine sg_frs (fun hf => ?_)
  have hvl := hf _ _ hv
  refine sg_iload_n (pc := 0) (j := 1) (dc_J7_copyOf_9075b_0.1.1.1.1) rfl rfl ?_
  refine sg_aload_n (pc := 1) (j := 0) (dc_J7_copyOf_9075b_0.1.1.1.2) rfl rfl ?_
  refine sg_alen (pc := 2) (dc_J7_copyOf_9075b_0.1.1.2.1) hv (by decide) (by omega) ?_
  refine sg_icmp_ne (pc := 3) (tgt := 14) (dc_J7_copyOf_9075b_0.1.1.2.2) (by decide) (fun cu => ?_) (fun cu => absurd cu (by omega))
  refine sg_iload_n (pc := 14) (j := 1) (dc_J7_copyOf_9075b_0.2.1.1.1) rfl rfl ?_
  refine sg_newa (t := 102) (N := N) (pc := 15) g (dc_J7_copyOf_9075b_0.2.1.1.2) ac_byte rfl (by decide) (by decide) rfl rfl (by decide) (by omega) (by omega) (by omega) (by omega) ?_
  try dsimp only
  refine sg_astore_n (pc := 17) (j := 2) (dc_J7_copyOf_9075b_0.2.1.2.1) rfl (by decide) ?_
  refine sg_aload_n (pc := 18) (j := 0) (dc_J7_copyOf_9075b_0.2.1.2.2) rfl rfl ?_
  refine sg_iconst (pc := 19) (z := 0) (dc_J7_copyOf_9075b_0.2.2.1.1) (by decide) ?_
  refine sg_aload_n (pc := 20) (j := 2) (dc_J7_copyOf_9075b_0.2.2.1.2) rfl rfl ?_
  refine sg_iconst (pc := 21) (z := 0) (dc_J7_copyOf_9075b_0.2.2.2.1) (by decide) ?_
  refine sg_aload_n (pc := 22) (j := 0) (dc_J7_copyOf_9075b_0.2.2.2.2) rfl rfl ?_
  refine sg_alen (pc := 23) (dc_J7_copyOf_9075b_23.1.1.1) ((sg_up_n (by omega)).trans hv) (Nat.le_of_ble_eq_true rfl) (by omega) ?_
  refine sg_iload_n (pc := 24) (j := 1) (dc_J7_copyOf_9075b_23.1.1.2) rfl rfl ?_
  refine sg_mmin (pc := 25) g (dc_J7_copyOf_9075b_23.1.2.1) mm_J7_304 mm_st mx_in mm_co (Nat.le_of_ble_eq_true rfl) (by omega) (by omega) (by omega) (fun z25 e25 => ?_)
  refine sg_copy (pc := 28) g (dc_J7_copyOf_9075b_23.1.2.2) ml_J7_150 ma_st ma_na ma_in ((sg_up_n (by omega)).trans hv) sg_up_s (by first | assumption | decide) (by decide) (by decide) (by omega) (by omega) (by omega) (by omega) (by rw [List.length_replicate]; omega) (fun i hi => jy_el hy (by omega)) (Nat.le_of_ble_eq_true rfl) (by omega) ?_
  try dsimp only
  refine sg_aload_n (pc := 31) (j := 2) (dc_J7_copyOf_9075b_23.2.1.1) rfl rfl ?_
  refine sg_aret (pc := 32) (dc_J7_copyOf_9075b_23.2.1.2) rfl (by first | exact Or.inl ⟨_, rfl⟩ | exact Or.inr ⟨_, rfl⟩) (by first | exact Nat.le_of_ble_eq_true rfl | omega) (by first | exact Nat.le_of_ble_eq_true rfl | omega) ?_
  exact hQ _ (by rw [sg_cp_len, List.length_replicate]) (jy_cp hy jy_rep (by omega))

set_option maxRecDepth 100000 in
theorem s_ckl {w : sg_W} {Q : sg_O → sg_H → Prop} {h : sg_H} (g : sg_G w) {d : Nat} (hd : 1 ≤ d) {a b : Int} (hab : a ≤ b) (hQ : Q (.inl none) h) : sg_C w mi_J7_checkLength_df160 d 0 0 [sg_i a, sg_i b] h Q := by
  refine sg_of pn_J7 (Nat.le_of_ble_eq_true rfl) ?_
  refine sg_iload_n (pc := 0) (j := 1) (dc_J7_checkLength_df160_0.1.1.1.1) rfl rfl ?_
  refine sg_iload_n (pc := 1) (j := 0) (dc_J7_checkLength_df160_0.1.1.1.2) rfl rfl ?_
  refine sg_icmp_ge (pc := 2) (tgt := 37) (dc_J7_checkLength_df160_0.1.1.2.1) (by decide) (fun cu => ?_) (fun cu => absurd cu (by omega))
  refine sg_vret (pc := 37) (dc_J7_checkLength_df160_36.2) rfl (by first | exact Nat.le_of_ble_eq_true rfl | omega) (by first | exact Nat.le_of_ble_eq_true rfl | omega) ?_
  exact hQ

set_option maxRecDepth 100000 in
theorem s_crB {w : sg_W} {Q : sg_O → sg_H → Prop} {h : sg_H} (g : sg_G w) {d : Nat} (hd : 2 ≤ d) {v N : Nat} {z : Int} {xs : List sg_V} (hv : h.2 v = some (102, xs)) (hl : xs.length ≤ 1000) (hy : jy xs) (hz : z = (N : Int)) (hN : N ≤ xs.length) (hQ : ∀ (f : Nat → Option sg_E) (ys : List sg_V), ys.length = N → jy ys → f h.1 = some (102, ys) → (∀ q, q ≠ h.1 → f q = h.2 q) → Q (.inl (some (sg_r h.1))) (h.1 + 1, f)) : sg_C w mi_J7_copyOfRangeByte_39247 d 1 N [sg_r v, sg_i 0, sg_i z] h Q := by
  refine sg_of pn_J7 (Nat.le_of_ble_eq_true rfl) ?_
  refine sg_frs (fun hf => ?_)
  have hvl := hf _ _ hv
  refine sg_iload_n (pc := 0) (j := 1) (dc_J7_copyOfRangeByte_39247_0.1.1.1.1) rfl rfl ?_
  refine sg_iload_n (pc := 1) (j := 2) (dc_J7_copyOfRangeByte_39247_0.1.1.1.2) rfl rfl ?_
  refine sg_cS2 (pc := 2) (d' := d - 1) (mc' := 0) (ms' := 0) g (dc_J7_copyOfRangeByte_39247_0.1.1.2.1) cb_J7_checkLength_df160 ml_J7_343 ms_J7_checkLength_df160 (Nat.le_of_ble_eq_true rfl) (by first | exact jl_d0 hd rfl | omega) (by first | exact Nat.le_of_ble_eq_true rfl | omega) (by first | exact Nat.le_of_ble_eq_true rfl | omega) ?_
  refine s_ckl g (by first | exact jl_d1 hd rfl | omega) (by omega) ?_
  refine sg_K0 ?_
  refine sg_iload_n (pc := 5) (j := 2) (dc_J7_copyOfRangeByte_39247_0.1.1.2.2) rfl rfl ?_
  refine sg_iload_n (pc := 6) (j := 1) (dc_J7_copyOfRangeByte_39247_0.1.2.1.1) rfl rfl ?_
  first | refine sg_isubB (pc := 7) (dc_J7_copyOfRangeByte_39247_0.1.2.1.2) (by omega) (by omega) ?_ | refine sg_isub (pc := 7) (dc_J7_copyOfRangeByte_39247_0.1.2.1.2) ?_
  refine sg_istore_n (pc := 8) (j := 3) (dc_J7_copyOfRangeByte_39247_0.1.2.2.1) rfl (by decide) ?_
  refine sg_iload_n (pc := 9) (j := 3) (dc_J7_copyOfRangeByte_39247_0.1.2.2.2) rfl rfl ?_
  refine sg_newa (t := 102) (N := N) (pc := 10) g (dc_J7_copyOfRangeByte_39247_0.2.1.1.1) ac_byte rfl (by decide) (by decide) rfl rfl (by decide) (by omega) (by omega) (by omega) (by omega) ?_
  try dsimp only
  refine sg_astore (pc := 12) (dc_J7_copyOfRangeByte_39247_0.2.1.1.2) (by decide) ?_
  refine sg_aload_n (pc := 14) (j := 0) (dc_J7_copyOfRangeByte_39247_0.2.1.2.1) rfl rfl ?_
  refine sg_iload_n (pc := 15) (j := 1) (dc_J7_copyOfRangeByte_39247_0.2.1.2.2) rfl rfl ?_
  refine sg_aload (pc := 16) (dc_J7_copyOfRangeByte_39247_0.2.2.1.1) rfl ?_
  refine sg_iconst (pc := 18) (z := 0) (dc_J7_copyOfRangeByte_39247_0.2.2.1.2) (by decide) ?_
  refine sg_aload_n (pc := 19) (j := 0) (dc_J7_copyOfRangeByte_39247_0.2.2.2.1) rfl rfl ?_
  refine sg_alen (pc := 20) (dc_J7_copyOfRangeByte_39247_0.2.2.2.2) ((sg_up_n (by omega)).trans hv) (Nat.le_of_ble_eq_true rfl) (by omega) ?_
  refine sg_iload_n (pc := 21) (j := 1) (dc_J7_copyOfRangeByte_39247_21.1.1.1) rfl rfl ?_
  first | refine sg_isubB (pc := 22) (dc_J7_copyOfRangeByte_39247_21.1.1.2) (by omega) (by omega) ?_ | refine sg_isub (pc := 22) (dc_J7_copyOfRangeByte_39247_21.1.1.2) ?_
  refine sg_iload_n (pc := 23) (j := 3) (dc_J7_copyOfRangeByte_39247_21.1.2.1) rfl rfl ?_
  refine sg_mmin (pc := 24) g (dc_J7_copyOfRangeByte_39247_21.1.2.2) mm_J7_304 mm_st mx_in mm_co (Nat.le_of_ble_eq_true rfl) (by omega) (by omega) (by omega) (fun z24 e24 => ?_)
  refine sg_copy (pc := 27) g (dc_J7_copyOfRangeByte_39247_21.2.1.1) ml_J7_150 ma_st ma_na ma_in ((sg_up_n (by omega)).trans hv) sg_up_s (by first | assumption | decide) (by decide) (by decide) (by omega) (by omega) (by omega) (by omega) (by rw [List.length_replicate]; omega) (fun i hi => jy_el hy (by omega)) (Nat.le_of_ble_eq_true rfl) (by omega) ?_
  try dsimp only
  refine sg_aload (pc := 30) (dc_J7_copyOfRangeByte_39247_21.2.1.2) rfl ?_
  refine sg_aret (pc := 32) (dc_J7_copyOfRangeByte_39247_21.2.2.1) rfl (by first | exact Or.inl ⟨_, rfl⟩ | exact Or.inr ⟨_, rfl⟩) (by first | exact Nat.le_of_ble_eq_true rfl | omega) (by first | exact Nat.le_of_ble_eq_true rfl | omega) ?_
  exact hQ _ _ (by rw [sg_cp_len, List.length_replicate]) (jy_cp hy jy_rep (by omega)) sg_up_s (fun q hq => (sg_up_n hq).trans (sg_up_n hq))

set_option maxRecDepth 100000 in
theorem s_cr {w : sg_W} {Q : sg_O → sg_H → Prop} {h : sg_H} (g : sg_G w) {d : Nat} (hd : 3 ≤ d) {v N : Nat} {z : Int} {xs : List sg_V} (hv : h.2 v = some (102, xs)) (hl : xs.length ≤ 1000) (hy : jy xs) (hz : z = (N : Int)) (hN : N ≤ xs.length) (hQ : ∀ (f : Nat → Option sg_E) (ys : List sg_V), ys.length = N → jy ys → f h.1 = some (102, ys) → (∀ q, q ≠ h.1 → f q = h.2 q) → Q (.inl (some (sg_r h.1))) (h.1 + 1, f)) : sg_C w mi_J7_copyOfRange_39247 d 1 N [sg_r v, sg_i 0, sg_i z] h Q := by
  refine sg_of pn_J7 (Nat.le_of_ble_eq_true rfl) ?_
  refine sg_iload_n (pc := 0) (j := 1) (dc_J7_copyOfRange_39247_0.1.1.1.1) rfl rfl ?_
  refine sg_if_ne (pc := 1) (tgt := 10) (dc_J7_copyOfRange_39247_0.1.1.1.2) (by decide) (fun cu => absurd cu (by omega)) (fun cu => ?_)
  refine sg_iload_n (pc := 4) (j := 2) (dc_J7_copyOfRange_39247_0.1.1.2.1) rfl rfl ?_
  refine sg_aload_n (pc := 5) (j := 0) (dc_J7_copyOfRange_39247_0.1.1.2.2) rfl rfl ?_
  refine sg_alen (pc := 6) (dc_J7_copyOfRange_39247_0.1.2.1.1) hv (by decide) (by omega) ?_
  refine sg_icmp_eq (pc := 7) (tgt := 17) (dc_J7_copyOfRange_39247_0.1.2.1.2) (by decide) (fun c7 => ?_) (fun c7 => ?_)
  · refine sg_aload_n (pc := 17) (j := 0) (dc_J7_copyOfRange_39247_0.2.1.2.2) rfl rfl ?_
    have eN : xs.length = N := by omega
    subst eN
    refine sg_clone (pc := 18) g (dc_J7_copyOfRange_39247_0.2.2.1.1) ml_J7_310 cl_sm cl_na cl_in cl_se cl_ca hv (by decide) hy (Nat.le_of_ble_eq_true rfl) (by omega) (by omega) (by omega) ?_
    try dsimp only
    refine sg_castA (pc := 21) g (dc_J7_copyOfRange_39247_0.2.2.1.2) cl_J7_311 sg_up_s (by decide) (by decide +kernel) ?_
    refine sg_aret (pc := 24) (dc_J7_copyOfRange_39247_0.2.2.2.1) rfl (by first | exact Or.inl ⟨_, rfl⟩ | exact Or.inr ⟨_, rfl⟩) (by first | exact Nat.le_of_ble_eq_true rfl | omega) (by first | exact Nat.le_of_ble_eq_true rfl | omega) ?_
    exact hQ _ _ rfl hy sg_up_s (fun q hq => sg_up_n hq)
  · refine sg_aload_n (pc := 10) (j := 0) (dc_J7_copyOfRange_39247_0.1.2.2.1) rfl rfl ?_
    refine sg_iload_n (pc := 11) (j := 1) (dc_J7_copyOfRange_39247_0.1.2.2.2) rfl rfl ?_
    refine sg_iload_n (pc := 12) (j := 2) (dc_J7_copyOfRange_39247_0.2.1.1.1) rfl rfl ?_
    refine sg_cS3 (pc := 13) (d' := d - 1) (mc' := 1) (ms' := N) g (dc_J7_copyOfRange_39247_0.2.1.1.2) cb_J7_copyOfRangeByte_39247 ml_J7_339 ms_J7_copyOfRangeByte_39247 (Nat.le_of_ble_eq_true rfl) (by first | exact jl_d0 hd rfl | omega) (by first | exact Nat.le_of_ble_eq_true rfl | omega) (by first | exact Nat.le_of_ble_eq_true rfl | omega) ?_
    refine s_crB (N := N) g (by first | exact jl_d1 hd rfl | omega) hv hl hy hz hN (fun f ys y1 y2 y3 y4 => ?_)
    refine sg_K1 ?_
    try dsimp only
    refine sg_aret (pc := 16) (dc_J7_copyOfRange_39247_0.2.1.2.1) rfl (by first | exact Or.inl ⟨_, rfl⟩ | exact Or.inr ⟨_, rfl⟩) (by first | exact Nat.le_of_ble_eq_true rfl | omega) (by first | exact Nat.le_of_ble_eq_true rfl | omega) ?_
    exact hQ _ _ y1 y2 y3 y4

set_option maxRecDepth 100000 in
theorem s_getValue {w : sg_W} {Q : sg_O → sg_H → Prop} {h : sg_H} (g : sg_G w) {d : Nat} (hd : 1 ≤ d) {b v : Nat} {c x : Int} (hb : h.2 b = some (1, [sg_r v, sg_i 0, sg_i x, sg_i c])) (hQ : Q (.inl (some (sg_r v))) h) : sg_C w mi_J5_getValue_6d5f1 d 0 0 [sg_r b] h Q := by
  refine sg_of pn_J5 (Nat.le_of_ble_eq_true rfl) ?_
  refine sg_aload_n (pc := 0) (j := 0) (dc_J5_getValue_6d5f1_0.1.1) rfl rfl ?_
  refine sg_getf (pc := 1) g (dc_J5_getValue_6d5f1_0.1.2) fk_J5_15 hb rfl rfl ?_
  refine sg_aret (pc := 4) (dc_J5_getValue_6d5f1_0.2.1) rfl (by first | exact Or.inl ⟨_, rfl⟩ | exact Or.inr ⟨_, rfl⟩) (by first | exact Nat.le_of_ble_eq_true rfl | omega) (by first | exact Nat.le_of_ble_eq_true rfl | omega) ?_
  exact hQ

set_option maxRecDepth 100000 in
theorem s_blen {w : sg_W} {Q : sg_O → sg_H → Prop} {h : sg_H} (g : sg_G w) {d : Nat} (hd : 1 ≤ d) {b v : Nat} {c x : Int} (hb : h.2 b = some (1, [sg_r v, sg_i 0, sg_i x, sg_i c])) (hQ : Q (.inl (some (sg_i c))) h) : sg_C w mi_J5_length_8abf5 d 0 0 [sg_r b] h Q := by
  refine sg_of pn_J5 (Nat.le_of_ble_eq_true rfl) ?_
  refine sg_aload_n (pc := 0) (j := 0) (dc_J5_length_8abf5_0.1.1) rfl rfl ?_
  refine sg_getf (pc := 1) g (dc_J5_length_8abf5_0.1.2) fk_J5_79 hb rfl rfl ?_
  refine sg_iret (pc := 4) (dc_J5_length_8abf5_0.2.1) rfl (by first | exact Nat.le_of_ble_eq_true rfl | omega) (by first | exact Nat.le_of_ble_eq_true rfl | omega) ?_
  exact hQ

set_option maxRecDepth 100000 in
theorem s_blen2 {w : sg_W} {Q : sg_O → sg_H → Prop} {h : sg_H} (g : sg_G w) {d : Nat} (hd : 2 ≤ d) {b v : Nat} {c x : Int} (hb : h.2 b = some (1, [sg_r v, sg_i 0, sg_i x, sg_i c])) (hQ : Q (.inl (some (sg_i c))) h) : sg_C w mi_J4_length_8abf5 d 0 0 [sg_r b] h Q := by
  refine sg_of pn_J4 (Nat.le_of_ble_eq_true rfl) ?_
  refine sg_aload_n (pc := 0) (j := 0) (dc_J4_length_8abf5_0.1.1) rfl rfl ?_
  refine sg_cU0 (pc := 1) (d' := d - 1) (mc' := 0) (ms' := 0) g (dc_J4_length_8abf5_0.1.2) cb_J5_length_8abf5 ml_J4_343 mn_J5_length_8abf5 mq_J5_length_8abf5 su_J4 (by decide +kernel) hb (Nat.le_of_ble_eq_true rfl) rfl (Nat.le_of_ble_eq_true rfl) (by first | exact jl_d0 hd rfl | omega) (by first | exact Nat.le_of_ble_eq_true rfl | omega) (by first | exact Nat.le_of_ble_eq_true rfl | omega) ?_
  refine s_blen g (by first | exact jl_d1 hd rfl | omega) hb ?_
  refine sg_K1 ?_
  refine sg_iret (pc := 4) (dc_J4_length_8abf5_0.2.1) rfl (by first | exact Nat.le_of_ble_eq_true rfl | omega) (by first | exact Nat.le_of_ble_eq_true rfl | omega) ?_
  exact hQ

set_option maxRecDepth 100000 in
theorem s_newCap {w : sg_W} {Q : sg_O → sg_H → Prop} {h : sg_H} (g : sg_G w) {d : Nat} (hd : 4 ≤ d) {b v : Nat} {c x : Int} (hb : h.2 b = some (1, [sg_r v, sg_i 0, sg_i x, sg_i c])) {xs : List sg_V} (hv : h.2 v = some (102, xs)) (hl : xs.length ≤ 1000) {z : Int} (z0 : (xs.length : Int) < z) (z1 : z ≤ 2000) (hQ : ∀ y : Int, y = (xs.length : Int) + (if (xs.length : Int) + 2 ≤ z - xs.length then z - xs.length else (xs.length : Int) + 2) → Q (.inl (some (sg_i y))) h) : sg_C w mi_J5_newCapacity_0f7a4 d 0 0 [sg_r b, sg_i z] h Q := by
  refine sg_of pn_J5 (Nat.le_of_ble_eq_true rfl) ?_
  refine sg_aload_n (pc := 0) (j := 0) (dc_J5_newCapacity_0f7a4_0.1.1.1.1) rfl rfl ?_
  refine sg_getf (pc := 1) g (dc_J5_newCapacity_0f7a4_0.1.1.1.2) fk_J5_15 hb rfl rfl ?_
  refine sg_alen (pc := 4) (dc_J5_newCapacity_0f7a4_0.1.1.2.1) hv (by decide) (by omega) ?_
  refine sg_istore_n (pc := 5) (j := 2) (dc_J5_newCapacity_0f7a4_0.1.1.2.2) rfl (by decide) ?_
  refine sg_iload_n (pc := 6) (j := 1) (dc_J5_newCapacity_0f7a4_0.1.2.1.1) rfl rfl ?_
  refine sg_aload_n (pc := 7) (j := 0) (dc_J5_newCapacity_0f7a4_0.1.2.1.2) rfl rfl ?_
  refine sg_getf (pc := 8) g (dc_J5_newCapacity_0f7a4_0.1.2.2.1) fk_J5_22 hb rfl rfl ?_
  first | refine sg_ishl0 (pc := 11) (dc_J5_newCapacity_0f7a4_0.1.2.2.2) (by omega) (by omega) ?_ | refine sg_ishl1 (pc := 11) (dc_J5_newCapacity_0f7a4_0.1.2.2.2) (by omega) (by omega) ?_ | refine sg_ishl (pc := 11) (dc_J5_newCapacity_0f7a4_0.1.2.2.2) ?_
  refine sg_istore_n (pc := 12) (j := 3) (dc_J5_newCapacity_0f7a4_0.2.1.1.1) rfl (by decide) ?_
  refine sg_iload_n (pc := 13) (j := 3) (dc_J5_newCapacity_0f7a4_0.2.1.1.2) rfl rfl ?_
  refine sg_iload_n (pc := 14) (j := 2) (dc_J5_newCapacity_0f7a4_0.2.1.2.1) rfl rfl ?_
  first | refine sg_isubB (pc := 15) (dc_J5_newCapacity_0f7a4_0.2.1.2.2) (by omega) (by omega) ?_ | refine sg_isub (pc := 15) (dc_J5_newCapacity_0f7a4_0.2.1.2.2) ?_
  refine sg_istore (pc := 16) (dc_J5_newCapacity_0f7a4_0.2.2.1.1) (by decide) ?_
  refine sg_iload_n (pc := 18) (j := 2) (dc_J5_newCapacity_0f7a4_0.2.2.1.2) rfl rfl ?_
  refine sg_iload (pc := 19) (dc_J5_newCapacity_0f7a4_0.2.2.2.1) rfl ?_
  refine sg_iload_n (pc := 21) (j := 2) (dc_J5_newCapacity_0f7a4_0.2.2.2.2) rfl rfl ?_
  refine sg_iconst (pc := 22) (z := 2) (dc_J5_newCapacity_0f7a4_22.1.1.1.1) (by decide) ?_
  refine sg_aload_n (pc := 23) (j := 0) (dc_J5_newCapacity_0f7a4_22.1.1.1.2) rfl rfl ?_
  refine sg_getf (pc := 24) g (dc_J5_newCapacity_0f7a4_22.1.1.2.1) fk_J5_22 hb rfl rfl ?_
  first | refine sg_ishl0 (pc := 27) (dc_J5_newCapacity_0f7a4_22.1.1.2.2) (by omega) (by omega) ?_ | refine sg_ishl1 (pc := 27) (dc_J5_newCapacity_0f7a4_22.1.1.2.2) (by omega) (by omega) ?_ | refine sg_ishl (pc := 27) (dc_J5_newCapacity_0f7a4_22.1.1.2.2) ?_
  first | refine sg_iaddB (pc := 28) (dc_J5_newCapacity_0f7a4_22.1.2.1.1) (by omega) (by omega) ?_ | refine sg_iadd (pc := 28) (dc_J5_newCapacity_0f7a4_22.1.2.1.1) ?_
  refine sg_cS3 (pc := 29) (d' := d - 1) (mc' := 0) (ms' := 0) g (dc_J5_newCapacity_0f7a4_22.1.2.1.2) cb_J8_newLength_cabcc ml_J5_114 ms_J8_newLength_cabcc (Nat.le_of_ble_eq_true rfl) (by first | exact jl_d0 hd rfl | omega) (by first | exact Nat.le_of_ble_eq_true rfl | omega) (by first | exact Nat.le_of_ble_eq_true rfl | omega) ?_
  refine s_J8_newLength_cabcc g (by first | exact jl_d1 hd rfl | omega) (by omega) (fun z29 e29 => sg_K1 ?_)
  refine sg_istore (pc := 32) (dc_J5_newCapacity_0f7a4_22.1.2.2.1) (by decide) ?_
  refine sg_iload (pc := 34) (dc_J5_newCapacity_0f7a4_22.1.2.2.2) rfl ?_
  refine sg_ldc (pc := 36) (z := 2147483647) g (dc_J5_newCapacity_0f7a4_22.2.1.1.1) cn_J5_39 (by decide) ?_
  refine sg_icmp_ne (pc := 38) (tgt := 51) (dc_J5_newCapacity_0f7a4_22.2.1.1.2) (by decide) (fun c38 => ?_) (fun c38 => ?_)
  · refine sg_iload (pc := 51) (dc_J5_newCapacity_0f7a4_22.2.2.2.2) rfl ?_
    refine sg_aload_n (pc := 53) (j := 0) (dc_J5_newCapacity_0f7a4_53.1.1) rfl rfl ?_
    refine sg_getf (pc := 54) g (dc_J5_newCapacity_0f7a4_53.1.2) fk_J5_22 hb rfl rfl ?_
    first | refine sg_ishr0 (pc := 57) (dc_J5_newCapacity_0f7a4_53.2.1) (by omega) (by omega) ?_ | refine sg_ishr1 (pc := 57) (dc_J5_newCapacity_0f7a4_53.2.1) (by omega) (by omega) ?_ | refine sg_ishr (pc := 57) (dc_J5_newCapacity_0f7a4_53.2.1) ?_
    refine sg_iret (pc := 58) (dc_J5_newCapacity_0f7a4_53.2.2) rfl (by first | exact Nat.le_of_ble_eq_true rfl | omega) (by first | exact Nat.le_of_ble_eq_true rfl | omega) ?_
    exact hQ _ (by omega)
  · exfalso; omega

