set_option maxRecDepth 100000 in
theorem s_X0_size {w : sg_W} {Q : sg_O → sg_H → Prop} {h : sg_H} (g : sg_G w) {d : Nat} (hd : 1 ≤ d) {B a c : Nat} (hx : ck_X h B) (hl : ck_L B a c) (hQ : ∀ z : Int, 0 ≤ z → z ≤ 40 → ck_N h a z → Q (.inl (some (sg_i z))) h) : sg_C w mi_X0_size d 0 0 [sg_r a] h Q := by
  refine sg_of pn_X0 (Nat.le_of_ble_eq_true rfl) ?_
  obtain ⟨n, zs, n0, n1, c40, hz, hzm, hA, hN, hvs⟩ := ck_ln hx hl
  refine sg_aload_n (pc := 0) (j := 0) (dc_X0_size_0.1.1) rfl rfl ?_
  refine sg_getf (pc := 1) g (dc_X0_size_0.1.2) fk_X0_15 hA rfl rfl ?_
  refine sg_iret (pc := 4) (dc_X0_size_0.2.1) rfl (by first | exact Nat.le_of_ble_eq_true rfl | omega) (by first | exact Nat.le_of_ble_eq_true rfl | omega) ?_
  exact hQ _ n0 (by omega) hA

set_option maxRecDepth 100000 in
theorem s_X0_hasPlace {w : sg_W} {Q : sg_O → sg_H → Prop} {h : sg_H} (g : sg_G w) {d : Nat} (hd : 1 ≤ d) {B a c : Nat} (hx : ck_X h B) (hl : ck_L B a c) {p : Int} (hQ : ∀ z : Int, (z = 0 ∨ z = 1) → (z ≠ 0 → 0 ≤ p ∧ p < (ck_cap c : Int)) → (∀ n, ck_N h a n → z = 0 → 0 ≤ p → p < n → False) → (∀ n, ck_N h a n → z ≠ 0 → p < n) → Q (.inl (some (sg_i z))) h) : sg_C w mi_X0_hasPlace d 0 0 [sg_r a, sg_i p] h Q := by
  refine sg_of pn_X0 (Nat.le_of_ble_eq_true rfl) ?_
  obtain ⟨n, zs, n0, n1, c40, hz, hzm, hA, hN, hvs⟩ := ck_ln hx hl
  refine sg_iload_n (pc := 0) (j := 1) (dc_X0_hasPlace_0.1.1.1.1) rfl rfl ?_
  refine sg_if_lt (pc := 1) (tgt := 25) (dc_X0_hasPlace_0.1.1.1.2) (by decide) (fun c1 => ?_) (fun c1 => ?_)
  · refine sg_iconst (pc := 25) (z := 0) (dc_X0_hasPlace_0.2.2.1.2) (by decide) ?_
    refine sg_zret (pc := 26) (dc_X0_hasPlace_0.2.2.2.1) rfl (by first | exact Or.inl rfl | exact Or.inr rfl | omega | assumption) (by first | exact Nat.le_of_ble_eq_true rfl | omega) (by first | exact Nat.le_of_ble_eq_true rfl | omega) ?_
    exact hQ _ (by omega) (by omega) (fun n2 q1 q2 q3 q4 => by have q5 := ck_Nu q1 hA; omega) (fun n2 q1 q2 => by have q5 := ck_Nu q1 hA; omega)
  · refine sg_iload_n (pc := 4) (j := 1) (dc_X0_hasPlace_0.1.1.2.1) rfl rfl ?_
    refine sg_aload_n (pc := 5) (j := 0) (dc_X0_hasPlace_0.1.1.2.2) rfl rfl ?_
    refine sg_getf (pc := 6) g (dc_X0_hasPlace_0.1.2.1.1) fk_X0_15 hA rfl rfl ?_
    refine sg_icmp_ge (pc := 9) (tgt := 25) (dc_X0_hasPlace_0.1.2.1.2) (by decide) (fun c9 => ?_) (fun c9 => ?_)
    · refine sg_iconst (pc := 25) (z := 0) (dc_X0_hasPlace_0.2.2.1.2) (by decide) ?_
      refine sg_zret (pc := 26) (dc_X0_hasPlace_0.2.2.2.1) rfl (by first | exact Or.inl rfl | exact Or.inr rfl | omega | assumption) (by first | exact Nat.le_of_ble_eq_true rfl | omega) (by first | exact Nat.le_of_ble_eq_true rfl | omega) ?_
      exact hQ _ (by omega) (by omega) (fun n2 q1 q2 q3 q4 => by have q5 := ck_Nu q1 hA; omega) (fun n2 q1 q2 => by have q5 := ck_Nu q1 hA; omega)
    · refine sg_iload_n (pc := 12) (j := 1) (dc_X0_hasPlace_0.1.2.2.1) rfl rfl ?_
      refine sg_aload_n (pc := 13) (j := 0) (dc_X0_hasPlace_0.1.2.2.2) rfl rfl ?_
      refine sg_getf (pc := 14) g (dc_X0_hasPlace_0.2.1.1.1) fk_X0_9 hA rfl rfl ?_
      refine sg_alenN (pc := 17) (dc_X0_hasPlace_0.2.1.1.2) hN (Nat.le_of_ble_eq_true rfl) hzm (by omega) ?_
      refine sg_icmp_ge (pc := 18) (tgt := 25) (dc_X0_hasPlace_0.2.1.2.1) (by decide) (fun c18 => ?_) (fun c18 => ?_)
      · refine sg_iconst (pc := 25) (z := 0) (dc_X0_hasPlace_0.2.2.1.2) (by decide) ?_
        refine sg_zret (pc := 26) (dc_X0_hasPlace_0.2.2.2.1) rfl (by first | exact Or.inl rfl | exact Or.inr rfl | omega | assumption) (by first | exact Nat.le_of_ble_eq_true rfl | omega) (by first | exact Nat.le_of_ble_eq_true rfl | omega) ?_
        exact hQ _ (by omega) (by omega) (fun n2 q1 q2 q3 q4 => by have q5 := ck_Nu q1 hA; omega) (fun n2 q1 q2 => by have q5 := ck_Nu q1 hA; omega)
      · refine sg_iconst (pc := 21) (z := 1) (dc_X0_hasPlace_0.2.1.2.2) (by decide) ?_
        refine sg_goto (pc := 22) (tgt := 26) (dc_X0_hasPlace_0.2.2.1.1) (by decide) ?_
        refine sg_zret (pc := 26) (dc_X0_hasPlace_0.2.2.2.1) rfl (by first | exact Or.inl rfl | exact Or.inr rfl | omega | assumption) (by first | exact Nat.le_of_ble_eq_true rfl | omega) (by first | exact Nat.le_of_ble_eq_true rfl | omega) ?_
        exact hQ _ (by omega) (by omega) (fun n2 q1 q2 q3 q4 => by have q5 := ck_Nu q1 hA; omega) (fun n2 q1 q2 => by have q5 := ck_Nu q1 hA; omega)

set_option maxRecDepth 100000 in
theorem s_X0_hasRoomFor {w : sg_W} {Q : sg_O → sg_H → Prop} {h : sg_H} (g : sg_G w) {d : Nat} (hd : 1 ≤ d) {B a c : Nat} (hx : ck_X h B) (hl : ck_L B a c) {p : Int} (hQ : ∀ z : Int, (z = 0 ∨ z = 1) → Q (.inl (some (sg_i z))) h) : sg_C w mi_X0_hasRoomFor d 0 0 [sg_r a, sg_i p] h Q := by
  refine sg_of pn_X0 (Nat.le_of_ble_eq_true rfl) ?_
  obtain ⟨n, zs, n0, n1, c40, hz, hzm, hA, hN, hvs⟩ := ck_ln hx hl
  refine sg_iload_n (pc := 0) (j := 1) (dc_X0_hasRoomFor_0.1.1.1.1) rfl rfl ?_
  refine sg_aload_n (pc := 1) (j := 0) (dc_X0_hasRoomFor_0.1.1.1.2) rfl rfl ?_
  refine sg_getf (pc := 2) g (dc_X0_hasRoomFor_0.1.1.2.1) fk_X0_9 hA rfl rfl ?_
  refine sg_alenN (pc := 5) (dc_X0_hasRoomFor_0.1.1.2.2) hN (Nat.le_of_ble_eq_true rfl) hzm (by omega) ?_
  refine sg_aload_n (pc := 6) (j := 0) (dc_X0_hasRoomFor_0.1.2.1.1) rfl rfl ?_
  refine sg_getf (pc := 7) g (dc_X0_hasRoomFor_0.1.2.1.2) fk_X0_15 hA rfl rfl ?_
  first | refine sg_isubB (pc := 10) (dc_X0_hasRoomFor_0.1.2.2.1) (by omega) (by omega) ?_ | refine sg_isub (pc := 10) (dc_X0_hasRoomFor_0.1.2.2.1) ?_
  refine sg_icmp_gt (pc := 11) (tgt := 18) (dc_X0_hasRoomFor_0.1.2.2.2) (by decide) (fun c11 => ?_) (fun c11 => ?_)
  · refine sg_iconst (pc := 18) (z := 0) (dc_X0_hasRoomFor_0.2.1.2.1) (by decide) ?_
    refine sg_zret (pc := 19) (dc_X0_hasRoomFor_0.2.1.2.2) rfl (by first | exact Or.inl rfl | exact Or.inr rfl | omega | assumption) (by first | exact Nat.le_of_ble_eq_true rfl | omega) (by first | exact Nat.le_of_ble_eq_true rfl | omega) ?_
    exact hQ _ (by omega)
  · refine sg_iconst (pc := 14) (z := 1) (dc_X0_hasRoomFor_0.2.1.1.1) (by decide) ?_
    refine sg_goto (pc := 15) (tgt := 19) (dc_X0_hasRoomFor_0.2.1.1.2) (by decide) ?_
    refine sg_zret (pc := 19) (dc_X0_hasRoomFor_0.2.1.2.2) rfl (by first | exact Or.inl rfl | exact Or.inr rfl | omega | assumption) (by first | exact Nat.le_of_ble_eq_true rfl | omega) (by first | exact Nat.le_of_ble_eq_true rfl | omega) ?_
    exact hQ _ (by omega)

set_option maxRecDepth 100000 in
theorem s_X0_get {w : sg_W} {Q : sg_O → sg_H → Prop} {h : sg_H} (g : sg_G w) {d : Nat} (hd : 2 ≤ d) {B a c : Nat} (hx : ck_X h B) (hl : ck_L B a c) {p : Int} (hQ : ∀ z : Int, z = ck_g h a p → (∀ n, ck_N h a n → 0 ≤ p → p < n → ck_v c z) → Q (.inl (some (sg_i z))) h) : sg_C w mi_X0_get d 0 0 [sg_r a, sg_i p] h Q := by
  refine sg_of pn_X0 (Nat.le_of_ble_eq_true rfl) ?_
  obtain ⟨n, zs, n0, n1, c40, hz, hzm, hA, hN, hvs⟩ := ck_ln hx hl
  refine sg_aload_n (pc := 0) (j := 0) (dc_X0_get_0.1.1.1.1) rfl rfl ?_
  refine sg_iload_n (pc := 1) (j := 1) (dc_X0_get_0.1.1.1.2) rfl rfl ?_
  refine sg_cV1 (pc := 2) (d' := d - 1) (mc' := 0) (ms' := 0) g (dc_X0_get_0.1.1.2.1) cb_X0_hasPlace ml_X0_19 mn_X0_hasPlace mv_X0_hasPlace hA (Nat.le_of_ble_eq_true rfl) rfl (Nat.le_of_ble_eq_true rfl) (by first | exact jl_d0 hd rfl | omega) (by first | exact Nat.le_of_ble_eq_true rfl | omega) (by first | exact Nat.le_of_ble_eq_true rfl | omega) ?_
  refine s_X0_hasPlace g (by first | exact jl_d1 hd rfl | omega) hx hl (fun z2 b2 i2 j2 k2 => sg_K1 ?_)
  refine sg_if_eq (pc := 5) (tgt := 17) (dc_X0_get_0.1.1.2.2) (by decide) (fun c5 => ?_) (fun c5 => ?_)
  · refine sg_iconst (pc := 17) (z := -1) (dc_X0_get_0.2.1.1.2) (by decide) ?_
    refine sg_iret (pc := 18) (dc_X0_get_0.2.1.2.1) rfl (by first | exact Nat.le_of_ble_eq_true rfl | omega) (by first | exact Nat.le_of_ble_eq_true rfl | omega) ?_
    first | exact hQ _ (ck_gv hA hN (by omega) (k2 n hA (by omega)) (by omega)) (fun n2 q1 q2 q3 => hvs _ (List.getElem_mem _)) | exact hQ _ (ck_g1 hA (fun q => j2 n hA (by omega) q.1 q.2)) (fun n2 q1 q2 q3 => (j2 n2 q1 (by omega) q2 q3).elim)
  · refine sg_aload_n (pc := 8) (j := 0) (dc_X0_get_0.1.2.1.1) rfl rfl ?_
    refine sg_getf (pc := 9) g (dc_X0_get_0.1.2.1.2) fk_X0_9 hA rfl rfl ?_
    refine sg_iload_n (pc := 12) (j := 1) (dc_X0_get_0.1.2.2.1) rfl rfl ?_
    refine sg_iald (pc := 13) (dc_X0_get_0.1.2.2.2) hN rfl (by omega) (ck_at (by rw [hz]; omega)) ?_
    refine sg_goto (pc := 14) (tgt := 18) (dc_X0_get_0.2.1.1.1) (by decide) ?_
    refine sg_iret (pc := 18) (dc_X0_get_0.2.1.2.1) rfl (by first | exact Nat.le_of_ble_eq_true rfl | omega) (by first | exact Nat.le_of_ble_eq_true rfl | omega) ?_
    first | exact hQ _ (ck_gv hA hN (by omega) (k2 n hA (by omega)) (by omega)) (fun n2 q1 q2 q3 => hvs _ (List.getElem_mem _)) | exact hQ _ (ck_g1 hA (fun q => j2 n hA (by omega) q.1 q.2)) (fun n2 q1 q2 q3 => (j2 n2 q1 (by omega) q2 q3).elim)

set_option maxRecDepth 100000 in
theorem s_X0_set {w : sg_W} {Q : sg_O → sg_H → Prop} {h : sg_H} (g : sg_G w) {d : Nat} (hd : 2 ≤ d) {B a c : Nat} (hx : ck_X h B) (hl : ck_L B a c) {p v : Int} (hv : ck_v c v) (hQ : ∀ h' : sg_H, ck_X h' B → ck_G B a h h' → Q (.inl none) h') : sg_C w mi_X0_set d 0 0 [sg_r a, sg_i p, sg_i v] h Q := by
  refine sg_of pn_X0 (Nat.le_of_ble_eq_true rfl) ?_
  obtain ⟨n, zs, n0, n1, c40, hz, hzm, hA, hN, hvs⟩ := ck_ln hx hl
  refine sg_aload_n (pc := 0) (j := 0) (dc_X0_set_0.1.1.1.1) rfl rfl ?_
  refine sg_iload_n (pc := 1) (j := 1) (dc_X0_set_0.1.1.1.2) rfl rfl ?_
  refine sg_cV1 (pc := 2) (d' := d - 1) (mc' := 0) (ms' := 0) g (dc_X0_set_0.1.1.2.1) cb_X0_hasPlace ml_X0_19 mn_X0_hasPlace mv_X0_hasPlace hA (Nat.le_of_ble_eq_true rfl) rfl (Nat.le_of_ble_eq_true rfl) (by first | exact jl_d0 hd rfl | omega) (by first | exact Nat.le_of_ble_eq_true rfl | omega) (by first | exact Nat.le_of_ble_eq_true rfl | omega) ?_
  refine s_X0_hasPlace g (by first | exact jl_d1 hd rfl | omega) hx hl (fun z2 b2 i2 j2 k2 => sg_K1 ?_)
  refine sg_if_eq (pc := 5) (tgt := 15) (dc_X0_set_0.1.1.2.2) (by decide) (fun c5 => ?_) (fun c5 => ?_)
  · refine sg_vret (pc := 15) (dc_X0_set_0.2.1.1.2) rfl (by first | exact Nat.le_of_ble_eq_true rfl | omega) (by first | exact Nat.le_of_ble_eq_true rfl | omega) ?_
    exact hQ _ (by assumption) (by first | assumption | exact ck_G0)
  · refine sg_aload_n (pc := 8) (j := 0) (dc_X0_set_0.1.2.1.1) rfl rfl ?_
    refine sg_getf (pc := 9) g (dc_X0_set_0.1.2.1.2) fk_X0_9 hA rfl rfl ?_
    refine sg_iload_n (pc := 12) (j := 1) (dc_X0_set_0.1.2.2.1) rfl rfl ?_
    refine sg_iload_n (pc := 13) (j := 2) (dc_X0_set_0.1.2.2.2) rfl rfl ?_
    refine ck_ast (pc := 14) (dc_X0_set_0.2.1.1.1) hx hl hA hN hz hvs hv (by omega) (by omega) (fun h' hx' hf' hA' => ?_)
    refine sg_vret (pc := 15) (dc_X0_set_0.2.1.1.2) rfl (by first | exact Nat.le_of_ble_eq_true rfl | omega) (by first | exact Nat.le_of_ble_eq_true rfl | omega) ?_
    exact hQ _ (by assumption) (by first | assumption | exact ck_G0)

set_option maxRecDepth 100000 in
theorem s_X0_add {w : sg_W} {Q : sg_O → sg_H → Prop} {h : sg_H} (g : sg_G w) {d : Nat} (hd : 1 ≤ d) {B a c : Nat} (hx : ck_X h B) (hl : ck_L B a c) {v : Int} (hv : ck_v c v) (hQ : ∀ h' : sg_H, ck_X h' B → ck_G B a h h' → Q (.inl none) h') : sg_C w mi_X0_add d 0 0 [sg_r a, sg_i v] h Q := by
  refine sg_of pn_X0 (Nat.le_of_ble_eq_true rfl) ?_
  obtain ⟨n, zs, n0, n1, c40, hz, hzm, hA, hN, hvs⟩ := ck_ln hx hl
  refine sg_aload_n (pc := 0) (j := 0) (dc_X0_add_0.1.1.1.1) rfl rfl ?_
  refine sg_getf (pc := 1) g (dc_X0_add_0.1.1.1.2) fk_X0_15 hA rfl rfl ?_
  refine sg_if_lt (pc := 4) (tgt := 39) (dc_X0_add_0.1.1.2.1) (by decide) (fun c4 => ?_) (fun c4 => ?_)
  · refine sg_vret (pc := 39) (dc_X0_add_30.2.1.2) rfl (by first | exact Nat.le_of_ble_eq_true rfl | omega) (by first | exact Nat.le_of_ble_eq_true rfl | omega) ?_
    first | exact hQ _ hx2 (ck_Gt hf' hf2) | exact hQ _ hx ck_G0
  · refine sg_aload_n (pc := 7) (j := 0) (dc_X0_add_0.1.1.2.2) rfl rfl ?_
    refine sg_getf (pc := 8) g (dc_X0_add_0.1.2.1.1) fk_X0_15 hA rfl rfl ?_
    refine sg_aload_n (pc := 11) (j := 0) (dc_X0_add_0.1.2.1.2) rfl rfl ?_
    refine sg_getf (pc := 12) g (dc_X0_add_0.1.2.2.1) fk_X0_9 hA rfl rfl ?_
    refine sg_alenN (pc := 15) (dc_X0_add_0.1.2.2.2) hN (Nat.le_of_ble_eq_true rfl) hzm (by omega) ?_
    refine sg_icmp_ge (pc := 16) (tgt := 39) (dc_X0_add_0.2.1.1.1) (by decide) (fun c16 => ?_) (fun c16 => ?_)
    · refine sg_vret (pc := 39) (dc_X0_add_30.2.1.2) rfl (by first | exact Nat.le_of_ble_eq_true rfl | omega) (by first | exact Nat.le_of_ble_eq_true rfl | omega) ?_
      first | exact hQ _ hx2 (ck_Gt hf' hf2) | exact hQ _ hx ck_G0
    · refine sg_aload_n (pc := 19) (j := 0) (dc_X0_add_0.2.1.1.2) rfl rfl ?_
      refine sg_getf (pc := 20) g (dc_X0_add_0.2.1.2.1) fk_X0_9 hA rfl rfl ?_
      refine sg_aload_n (pc := 23) (j := 0) (dc_X0_add_0.2.1.2.2) rfl rfl ?_
      refine sg_getf (pc := 24) g (dc_X0_add_0.2.2.1.1) fk_X0_15 hA rfl rfl ?_
      refine sg_iload_n (pc := 27) (j := 1) (dc_X0_add_0.2.2.1.2) rfl rfl ?_
      refine ck_ast (pc := 28) (dc_X0_add_0.2.2.2.1) hx hl hA hN hz hvs hv (by omega) (by omega) (fun h' hx' hf' hA' => ?_)
      refine sg_aload_n (pc := 29) (j := 0) (dc_X0_add_0.2.2.2.2) rfl rfl ?_
      refine sg_dup (pc := 30) (dc_X0_add_30.1.1.1) rfl ?_
      refine sg_getf (pc := 31) g (dc_X0_add_30.1.1.2) fk_X0_15 hA' rfl rfl ?_
      refine sg_iconst (pc := 34) (z := 1) (dc_X0_add_30.1.2.1) (by decide) ?_
      first | refine sg_iaddB (pc := 35) (dc_X0_add_30.1.2.2) (by omega) (by omega) ?_ | refine sg_iadd (pc := 35) (dc_X0_add_30.1.2.2) ?_
      refine ck_psz (pc := 36) g (dc_X0_add_30.2.1.1) fk_X0_15 hx' hl hA' (by omega) (by omega) (fun h2 hx2 hf2 => ?_)
      refine sg_vret (pc := 39) (dc_X0_add_30.2.1.2) rfl (by first | exact Nat.le_of_ble_eq_true rfl | omega) (by first | exact Nat.le_of_ble_eq_true rfl | omega) ?_
      first | exact hQ _ hx2 (ck_Gt hf' hf2) | exact hQ _ hx ck_G0

set_option maxRecDepth 100000 in
theorem s_X0_clear {w : sg_W} {Q : sg_O → sg_H → Prop} {h : sg_H} (g : sg_G w) {d : Nat} (hd : 1 ≤ d) {B a c : Nat} (hx : ck_X h B) (hl : ck_L B a c) (hQ : ∀ h' : sg_H, ck_X h' B → ck_G B a h h' → Q (.inl none) h') : sg_C w mi_X0_clear d 0 0 [sg_r a] h Q := by
  refine sg_of pn_X0 (Nat.le_of_ble_eq_true rfl) ?_
  obtain ⟨n, zs, n0, n1, c40, hz, hzm, hA, hN, hvs⟩ := ck_ln hx hl
  refine sg_aload_n (pc := 0) (j := 0) (dc_X0_clear_0.1.1) rfl rfl ?_
  refine sg_iconst (pc := 1) (z := 0) (dc_X0_clear_0.1.2) (by decide) ?_
  refine ck_psz (pc := 2) g (dc_X0_clear_0.2.1) fk_X0_15 hx hl hA (by omega) (by omega) (fun h2 hx2 hf2 => ?_)
  refine sg_vret (pc := 5) (dc_X0_clear_0.2.2) rfl (by first | exact Nat.le_of_ble_eq_true rfl | omega) (by first | exact Nat.le_of_ble_eq_true rfl | omega) ?_
  exact hQ _ hx2 hf2

set_option maxRecDepth 100000 in
theorem s_X0_takeAway {w : sg_W} {Q : sg_O → sg_H → Prop} {h : sg_H} (g : sg_G w) {d : Nat} (hd : 1 ≤ d) {B a c : Nat} (hx : ck_X h B) (hl : ck_L B a c) {v : Int} (hQ : ∀ h' : sg_H, ck_X h' B → ck_G B a h h' → Q (.inl none) h') : sg_C w mi_X0_takeAway d 0 0 [sg_r a, sg_i v] h Q := by
  refine sg_of pn_X0 (Nat.le_of_ble_eq_true rfl) ?_
  obtain ⟨n, zs, n0, n1, c40, hz, hzm, hA, hN, hvs⟩ := ck_ln hx hl
  refine sg_iload_n (pc := 0) (j := 1) (dc_X0_takeAway_0.1.1.1.1) rfl rfl ?_
  refine sg_if_lt (pc := 1) (tgt := 22) (dc_X0_takeAway_0.1.1.1.2) (by decide) (fun c1 => ?_) (fun c1 => ?_)
  · refine sg_vret (pc := 22) (dc_X0_takeAway_0.2.2.1.1) rfl (by first | exact Nat.le_of_ble_eq_true rfl | omega) (by first | exact Nat.le_of_ble_eq_true rfl | omega) ?_
    first | exact hQ _ hx2 hf2 | exact hQ _ hx ck_G0
  · refine sg_iload_n (pc := 4) (j := 1) (dc_X0_takeAway_0.1.1.2.1) rfl rfl ?_
    refine sg_aload_n (pc := 5) (j := 0) (dc_X0_takeAway_0.1.1.2.2) rfl rfl ?_
    refine sg_getf (pc := 6) g (dc_X0_takeAway_0.1.2.1.1) fk_X0_15 hA rfl rfl ?_
    refine sg_icmp_gt (pc := 9) (tgt := 22) (dc_X0_takeAway_0.1.2.1.2) (by decide) (fun c9 => ?_) (fun c9 => ?_)
    · refine sg_vret (pc := 22) (dc_X0_takeAway_0.2.2.1.1) rfl (by first | exact Nat.le_of_ble_eq_true rfl | omega) (by first | exact Nat.le_of_ble_eq_true rfl | omega) ?_
      first | exact hQ _ hx2 hf2 | exact hQ _ hx ck_G0
    · refine sg_aload_n (pc := 12) (j := 0) (dc_X0_takeAway_0.1.2.2.1) rfl rfl ?_
      refine sg_dup (pc := 13) (dc_X0_takeAway_0.1.2.2.2) rfl ?_
      refine sg_getf (pc := 14) g (dc_X0_takeAway_0.2.1.1.1) fk_X0_15 hA rfl rfl ?_
      refine sg_iload_n (pc := 17) (j := 1) (dc_X0_takeAway_0.2.1.1.2) rfl rfl ?_
      first | refine sg_isubB (pc := 18) (dc_X0_takeAway_0.2.1.2.1) (by omega) (by omega) ?_ | refine sg_isub (pc := 18) (dc_X0_takeAway_0.2.1.2.1) ?_
      refine ck_psz (pc := 19) g (dc_X0_takeAway_0.2.1.2.2) fk_X0_15 hx hl hA (by omega) (by omega) (fun h2 hx2 hf2 => ?_)
      refine sg_vret (pc := 22) (dc_X0_takeAway_0.2.2.1.1) rfl (by first | exact Nat.le_of_ble_eq_true rfl | omega) (by first | exact Nat.le_of_ble_eq_true rfl | omega) ?_
      first | exact hQ _ hx2 hf2 | exact hQ _ hx ck_G0

set_option maxRecDepth 100000 in
theorem s_X0_narrow {w : sg_W} {Q : sg_O → sg_H → Prop} {h : sg_H} (g : sg_G w) {d : Nat} (hd : 2 ≤ d) {B a c : Nat} (hx : ck_X h B) (hl : ck_L B a c) {b e : Int} (hQ : ∀ h' : sg_H, ck_X h' B → ck_G B a h h' → Q (.inl none) h') : sg_C w mi_X0_narrow d 0 0 [sg_r a, sg_i b, sg_i e] h Q := by
  refine sg_of pn_X0 (Nat.le_of_ble_eq_true rfl) ?_
  obtain ⟨n, zs, n0, n1, c40, hz, hzm, hA, hN, hvs⟩ := ck_ln hx hl
  refine sg_aload_n (pc := 0) (j := 0) (dc_X0_narrow_0.1.1.1.1) rfl rfl ?_
  refine sg_iconst (pc := 1) (z := 0) (dc_X0_narrow_0.1.1.1.2) (by decide) ?_
  refine ck_psz (pc := 2) g (dc_X0_narrow_0.1.1.2.1) fk_X0_15 hx hl hA (by omega) (by omega) (fun h2 hx2 hf2 => ?_)
  refine sg_iload_n (pc := 5) (j := 1) (dc_X0_narrow_0.1.1.2.2) rfl rfl ?_
  refine sg_istore_n (pc := 6) (j := 3) (dc_X0_narrow_0.1.2.1.1) rfl (by decide) ?_
  have loop7 : ∀ (N : Nat) (h1 : sg_H) (p : Int), ck_X h1 B → ck_G B a h h1 → ((ck_cap c : Int) - p).toNat < N → sg_R w mi_X0_narrow d 0 0 Q 7 [(3, sg_i p), (0, sg_r a), (1, sg_i b), (2, sg_i e)] [] h1 0 0 := by
    intro N
    induction N with
    | zero => intro h1 p hx1 hf1 hm; exact absurd hm (Nat.not_lt_zero _)
    | succ N ih =>
      intro h1 p hx1 hf1 hm
      obtain ⟨n, zs, n0, n1, c40, hz, hzm, hA, hN, hvs⟩ := ck_ln hx1 hl
      refine sg_iload_n (pc := 7) (j := 3) (dc_X0_narrow_0.1.2.1.2) rfl rfl ?_
      refine sg_if_lt (pc := 8) (tgt := 41) (dc_X0_narrow_0.1.2.2.1) (by decide) (fun c8 => ?_) (fun c8 => ?_)
      · refine sg_vret (pc := 41) (dc_X0_narrow_26.2.2.2) rfl (by first | exact Nat.le_of_ble_eq_true rfl | omega) (by first | exact Nat.le_of_ble_eq_true rfl | omega) ?_
        exact hQ _ hx1 hf1
      · refine sg_iload_n (pc := 11) (j := 3) (dc_X0_narrow_0.1.2.2.2) rfl rfl ?_
        refine sg_iload_n (pc := 12) (j := 2) (dc_X0_narrow_0.2.1.1.1) rfl rfl ?_
        refine sg_icmp_ge (pc := 13) (tgt := 41) (dc_X0_narrow_0.2.1.1.2) (by decide) (fun c13 => ?_) (fun c13 => ?_)
        · refine sg_vret (pc := 41) (dc_X0_narrow_26.2.2.2) rfl (by first | exact Nat.le_of_ble_eq_true rfl | omega) (by first | exact Nat.le_of_ble_eq_true rfl | omega) ?_
          exact hQ _ hx1 hf1
        · refine sg_iload_n (pc := 16) (j := 3) (dc_X0_narrow_0.2.1.2.1) rfl rfl ?_
          refine sg_aload_n (pc := 17) (j := 0) (dc_X0_narrow_0.2.1.2.2) rfl rfl ?_
          refine sg_getf (pc := 18) g (dc_X0_narrow_0.2.2.1.1) fk_X0_9 hA rfl rfl ?_
          refine sg_alenN (pc := 21) (dc_X0_narrow_0.2.2.1.2) hN (Nat.le_of_ble_eq_true rfl) hzm (by omega) ?_
          refine sg_icmp_ge (pc := 22) (tgt := 41) (dc_X0_narrow_0.2.2.2.1) (by decide) (fun c22 => ?_) (fun c22 => ?_)
          · refine sg_vret (pc := 41) (dc_X0_narrow_26.2.2.2) rfl (by first | exact Nat.le_of_ble_eq_true rfl | omega) (by first | exact Nat.le_of_ble_eq_true rfl | omega) ?_
            exact hQ _ hx1 hf1
          · refine sg_aload_n (pc := 25) (j := 0) (dc_X0_narrow_0.2.2.2.2) rfl rfl ?_
            refine sg_aload_n (pc := 26) (j := 0) (dc_X0_narrow_26.1.1.1) rfl rfl ?_
            refine sg_getf (pc := 27) g (dc_X0_narrow_26.1.1.2) fk_X0_9 hA rfl rfl ?_
            refine sg_iload_n (pc := 30) (j := 3) (dc_X0_narrow_26.1.2.1) rfl rfl ?_
            refine sg_iald (pc := 31) (dc_X0_narrow_26.1.2.2) hN rfl (by omega) (ck_at (by rw [hz]; omega)) ?_
            have hv32 := hvs _ (List.getElem_mem (l := zs) (n := p.toNat) (by omega))
            refine sg_cV1 (pc := 32) (d' := d - 1) (mc' := 0) (ms' := 0) g (dc_X0_narrow_26.2.1.1) cb_X0_add ml_X0_23 mn_X0_add mv_X0_add hA (Nat.le_of_ble_eq_true rfl) rfl (Nat.le_of_ble_eq_true rfl) (by first | exact jl_d0 hd rfl | omega) (by first | exact Nat.le_of_ble_eq_true rfl | omega) (by first | exact Nat.le_of_ble_eq_true rfl | omega) ?_
            refine s_X0_add g (by first | exact jl_d1 hd rfl | omega) hx1 hl hv32 (fun h32 x32 f32 => sg_K0 ?_)
            first | refine sg_iincB (pc := 35) (dc_X0_narrow_26.2.1.2) rfl (by decide) (by decide) (by omega) (by omega) ?_ | refine sg_iinc (pc := 35) (dc_X0_narrow_26.2.1.2) rfl (by decide) (by decide) ?_
            refine sg_goto (pc := 38) (tgt := 7) (dc_X0_narrow_26.2.2.1) (by decide) ?_
            refine sg_lsub (lv' := [(3, _), (0, _), (1, _), (2, _)]) ⟨rfl, rfl, rfl, rfl, trivial⟩ ?_
            exact ih _ _ x32 (ck_Gt hf1 f32) (by omega)
  refine sg_lsub (lv' := [(3, _), (0, _), (1, _), (2, _)]) ⟨rfl, rfl, rfl, rfl, trivial⟩ ?_
  exact loop7 _ _ _ hx2 hf2 (Nat.lt_succ_self _)

set_option maxRecDepth 100000 in
theorem s_X0_turnRound {w : sg_W} {Q : sg_O → sg_H → Prop} {h : sg_H} (g : sg_G w) {d : Nat} (hd : 3 ≤ d) {B a : Nat} (hx : ck_X h B) (hl : ck_L B a 0) (hQ : ∀ h' : sg_H, ck_X h' B → ck_G B a h h' → Q (.inl none) h') : sg_C w mi_X0_turnRound d 0 0 [sg_r a] h Q := by
  refine sg_of pn_X0 (Nat.le_of_ble_eq_true rfl) ?_
  obtain ⟨n, zs, n0, n1, c40, hz, hzm, hA, hN, hvs⟩ := ck_ln hx hl
  refine sg_iconst (pc := 0) (z := 0) (dc_X0_turnRound_0.1.1.1.1) (by decide) ?_
  refine sg_istore_n (pc := 1) (j := 1) (dc_X0_turnRound_0.1.1.1.2) rfl (by decide) ?_
  refine sg_aload_n (pc := 2) (j := 0) (dc_X0_turnRound_0.1.1.2.1) rfl rfl ?_
  refine sg_getf (pc := 3) g (dc_X0_turnRound_0.1.1.2.2) fk_X0_15 hA rfl rfl ?_
  refine sg_iconst (pc := 6) (z := 1) (dc_X0_turnRound_0.1.2.1.1) (by decide) ?_
  first | refine sg_isubB (pc := 7) (dc_X0_turnRound_0.1.2.1.2) (by omega) (by omega) ?_ | refine sg_isub (pc := 7) (dc_X0_turnRound_0.1.2.1.2) ?_
  refine sg_istore_n (pc := 8) (j := 2) (dc_X0_turnRound_0.1.2.2.1) rfl (by decide) ?_
  have loop9 : ∀ (N : Nat) (h1 : sg_H) (p e : Int), ck_X h1 B → ck_G B a h h1 → 0 ≤ p → e ≤ 40 → (e - p + 100).toNat < N → sg_R w mi_X0_turnRound d 0 0 Q 9 [(1, sg_i p), (2, sg_i e), (0, sg_r a)] [] h1 0 0 := by
    intro N
    induction N with
    | zero => intro h1 p e hx1 hf1 hp he hm; exact absurd hm (Nat.not_lt_zero _)
    | succ N ih =>
      intro h1 p e hx1 hf1 hp he hm
      obtain ⟨n, zs, n0, n1, c40, hz, hzm, hA, hN, hvs⟩ := ck_ln hx1 hl
      refine sg_iload_n (pc := 9) (j := 1) (dc_X0_turnRound_0.1.2.2.2) rfl rfl ?_
      refine sg_iload_n (pc := 10) (j := 2) (dc_X0_turnRound_0.2.1.1.1) rfl rfl ?_
      refine sg_icmp_ge (pc := 11) (tgt := 45) (dc_X0_turnRound_0.2.1.1.2) (by decide) (fun c11 => ?_) (fun c11 => ?_)
      · refine sg_vret (pc := 45) (dc_X0_turnRound_22.2.1.2.2) rfl (by first | exact Nat.le_of_ble_eq_true rfl | omega) (by first | exact Nat.le_of_ble_eq_true rfl | omega) ?_
        exact hQ _ hx1 hf1
      · refine sg_aload_n (pc := 14) (j := 0) (dc_X0_turnRound_0.2.1.2.1) rfl rfl ?_
        refine sg_iload_n (pc := 15) (j := 1) (dc_X0_turnRound_0.2.1.2.2) rfl rfl ?_
        refine sg_cV1 (pc := 16) (d' := d - 1) (mc' := 0) (ms' := 0) g (dc_X0_turnRound_0.2.2.1.1) cb_X0_get ml_X0_27 mn_X0_get mv_X0_get hA (Nat.le_of_ble_eq_true rfl) rfl (Nat.le_of_ble_eq_true rfl) (by first | exact jl_d0 hd rfl | omega) (by first | exact Nat.le_of_ble_eq_true rfl | omega) (by first | exact Nat.le_of_ble_eq_true rfl | omega) ?_
        refine s_X0_get g (by first | exact jl_d1 hd rfl | omega) hx1 hl (fun z16 G16 v16 => sg_K1 ?_)
        refine sg_istore_n (pc := 19) (j := 3) (dc_X0_turnRound_0.2.2.1.2) rfl (by decide) ?_
        refine sg_aload_n (pc := 20) (j := 0) (dc_X0_turnRound_0.2.2.2.1) rfl rfl ?_
        refine sg_iload_n (pc := 21) (j := 1) (dc_X0_turnRound_0.2.2.2.2) rfl rfl ?_
        refine sg_aload_n (pc := 22) (j := 0) (dc_X0_turnRound_22.1.1.1.1) rfl rfl ?_
        refine sg_iload_n (pc := 23) (j := 2) (dc_X0_turnRound_22.1.1.1.2) rfl rfl ?_
        refine sg_cV1 (pc := 24) (d' := d - 1) (mc' := 0) (ms' := 0) g (dc_X0_turnRound_22.1.1.2.1) cb_X0_get ml_X0_27 mn_X0_get mv_X0_get hA (Nat.le_of_ble_eq_true rfl) rfl (Nat.le_of_ble_eq_true rfl) (by first | exact jl_d0 hd rfl | omega) (by first | exact Nat.le_of_ble_eq_true rfl | omega) (by first | exact Nat.le_of_ble_eq_true rfl | omega) ?_
        refine s_X0_get g (by first | exact jl_d1 hd rfl | omega) hx1 hl (fun z24 G24 v24 => sg_K1 ?_)
        have hv27 : ck_v 0 z24 := ck_v0
        refine sg_cV2 (pc := 27) (d' := d - 1) (mc' := 0) (ms' := 0) g (dc_X0_turnRound_22.1.1.2.2) cb_X0_set ml_X0_31 mn_X0_set mv_X0_set hA (Nat.le_of_ble_eq_true rfl) rfl (Nat.le_of_ble_eq_true rfl) (by first | exact jl_d0 hd rfl | omega) (by first | exact Nat.le_of_ble_eq_true rfl | omega) (by first | exact Nat.le_of_ble_eq_true rfl | omega) ?_
        refine s_X0_set g (by first | exact jl_d1 hd rfl | omega) hx1 hl hv27 (fun h27 x27 f27 => sg_K0 ?_)
        refine sg_aload_n (pc := 30) (j := 0) (dc_X0_turnRound_22.1.2.1.1) rfl rfl ?_
        refine sg_iload_n (pc := 31) (j := 2) (dc_X0_turnRound_22.1.2.1.2) rfl rfl ?_
        refine sg_iload_n (pc := 32) (j := 3) (dc_X0_turnRound_22.1.2.2.1) rfl rfl ?_
        have hv33 : ck_v 0 z16 := ck_v0
        obtain ⟨n3, zs3, -, -, -, -, -, hA33, -, -⟩ := ck_ln x27 hl
        refine sg_cV2 (pc := 33) (d' := d - 1) (mc' := 0) (ms' := 0) g (dc_X0_turnRound_22.1.2.2.2) cb_X0_set ml_X0_31 mn_X0_set mv_X0_set hA33 (Nat.le_of_ble_eq_true rfl) rfl (Nat.le_of_ble_eq_true rfl) (by first | exact jl_d0 hd rfl | omega) (by first | exact Nat.le_of_ble_eq_true rfl | omega) (by first | exact Nat.le_of_ble_eq_true rfl | omega) ?_
        refine s_X0_set g (by first | exact jl_d1 hd rfl | omega) x27 hl hv33 (fun h33 x33 f33 => sg_K0 ?_)
        first | refine sg_iincB (pc := 36) (dc_X0_turnRound_22.2.1.1.1) rfl (by decide) (by decide) (by omega) (by omega) ?_ | refine sg_iinc (pc := 36) (dc_X0_turnRound_22.2.1.1.1) rfl (by decide) (by decide) ?_
        first | refine sg_iincB (pc := 39) (dc_X0_turnRound_22.2.1.1.2) rfl (by decide) (by decide) (by omega) (by omega) ?_ | refine sg_iinc (pc := 39) (dc_X0_turnRound_22.2.1.1.2) rfl (by decide) (by decide) ?_
        refine sg_goto (pc := 42) (tgt := 9) (dc_X0_turnRound_22.2.1.2.1) (by decide) ?_
        refine sg_lsub (lv' := [(1, _), (2, _), (0, _)]) ⟨rfl, rfl, rfl, trivial⟩ ?_
        exact ih _ _ _ x33 (ck_Gt (ck_Gt hf1 f27) f33) (by omega) (by omega) (by omega)
  refine sg_lsub (lv' := [(1, _), (2, _), (0, _)]) ⟨rfl, rfl, rfl, trivial⟩ ?_
  exact loop9 _ _ _ _ hx ck_G0 (by omega) (by omega) (Nat.lt_succ_self _)

set_option maxRecDepth 100000 in
theorem s_X0_become {w : sg_W} {Q : sg_O → sg_H → Prop} {h : sg_H} (g : sg_G w) {d : Nat} (hd : 3 ≤ d) {B a c b : Nat} (hx : ck_X h B) (hl : ck_L B a c) (hl2 : ck_L B b c) (hQ : ∀ h' : sg_H, ck_X h' B → ck_G B a h h' → Q (.inl none) h') : sg_C w mi_X0_become d 0 0 [sg_r a, sg_r b] h Q := by
  refine sg_of pn_X0 (Nat.le_of_ble_eq_true rfl) ?_
  obtain ⟨n, zs, n0, n1, c40, hz, hzm, hA, hN, hvs⟩ := ck_ln hx hl
  refine sg_aload_n (pc := 0) (j := 0) (dc_X0_become_0.1.1.1.1) rfl rfl ?_
  refine sg_iconst (pc := 1) (z := 0) (dc_X0_become_0.1.1.1.2) (by decide) ?_
  refine ck_psz (pc := 2) g (dc_X0_become_0.1.1.2.1) fk_X0_15 hx hl hA (by omega) (by omega) (fun h2 hx2 hf2 => ?_)
  refine sg_iconst (pc := 5) (z := 0) (dc_X0_become_0.1.1.2.2) (by decide) ?_
  refine sg_istore_n (pc := 6) (j := 2) (dc_X0_become_0.1.2.1.1) rfl (by decide) ?_
  have loop7 : ∀ (N : Nat) (h1 : sg_H) (p : Int), ck_X h1 B → ck_G B a h h1 → 0 ≤ p → (40 - p).toNat < N → sg_R w mi_X0_become d 0 0 Q 7 [(2, sg_i p), (0, sg_r a), (1, sg_r b)] [] h1 0 0 := by
    intro N
    induction N with
    | zero => intro h1 p hx1 hf1 hp hm; exact absurd hm (Nat.not_lt_zero _)
    | succ N ih =>
      intro h1 p hx1 hf1 hp hm
      obtain ⟨n, zs, n0, n1, c40, hz, hzm, hA, hN, hvs⟩ := ck_ln hx1 hl
      obtain ⟨n9, zs9, n09, n19, c409, hz9, hzm9, hA9, hN9, hvs9⟩ := ck_ln hx1 hl2
      refine sg_iload_n (pc := 7) (j := 2) (dc_X0_become_0.1.2.1.2) rfl rfl ?_
      refine sg_aload_n (pc := 8) (j := 1) (dc_X0_become_0.1.2.2.1) rfl rfl ?_
      refine sg_getf (pc := 9) g (dc_X0_become_0.1.2.2.2) fk_X0_15 hA9 rfl rfl ?_
      refine sg_icmp_ge (pc := 12) (tgt := 30) (dc_X0_become_0.2.1.1.1) (by decide) (fun c12 => ?_) (fun c12 => ?_)
      · refine sg_vret (pc := 30) dc_X0_become_30 rfl (by first | exact Nat.le_of_ble_eq_true rfl | omega) (by first | exact Nat.le_of_ble_eq_true rfl | omega) ?_
        exact hQ _ hx1 hf1
      · refine sg_aload_n (pc := 15) (j := 0) (dc_X0_become_0.2.1.1.2) rfl rfl ?_
        refine sg_aload_n (pc := 16) (j := 1) (dc_X0_become_0.2.1.2.1) rfl rfl ?_
        refine sg_iload_n (pc := 17) (j := 2) (dc_X0_become_0.2.1.2.2) rfl rfl ?_
        refine sg_cV1 (pc := 18) (d' := d - 1) (mc' := 0) (ms' := 0) g (dc_X0_become_0.2.2.1.1) cb_X0_get ml_X0_27 mn_X0_get mv_X0_get hA9 (Nat.le_of_ble_eq_true rfl) rfl (Nat.le_of_ble_eq_true rfl) (by first | exact jl_d0 hd rfl | omega) (by first | exact Nat.le_of_ble_eq_true rfl | omega) (by first | exact Nat.le_of_ble_eq_true rfl | omega) ?_
        refine s_X0_get g (by first | exact jl_d1 hd rfl | omega) hx1 hl2 (fun z18 G18 v18 => sg_K1 ?_)
        have hv21 := v18 n9 hA9 hp (by omega)
        refine sg_cV1 (pc := 21) (d' := d - 1) (mc' := 0) (ms' := 0) g (dc_X0_become_0.2.2.1.2) cb_X0_add ml_X0_23 mn_X0_add mv_X0_add hA (Nat.le_of_ble_eq_true rfl) rfl (Nat.le_of_ble_eq_true rfl) (by first | exact jl_d0 hd rfl | omega) (by first | exact Nat.le_of_ble_eq_true rfl | omega) (by first | exact Nat.le_of_ble_eq_true rfl | omega) ?_
        refine s_X0_add g (by first | exact jl_d1 hd rfl | omega) hx1 hl hv21 (fun h21 x21 f21 => sg_K0 ?_)
        first | refine sg_iincB (pc := 24) (dc_X0_become_0.2.2.2.1) rfl (by decide) (by decide) (by omega) (by omega) ?_ | refine sg_iinc (pc := 24) (dc_X0_become_0.2.2.2.1) rfl (by decide) (by decide) ?_
        refine sg_goto (pc := 27) (tgt := 7) (dc_X0_become_0.2.2.2.2) (by decide) ?_
        refine sg_lsub (lv' := [(2, _), (0, _), (1, _)]) ⟨rfl, rfl, rfl, trivial⟩ ?_
        exact ih _ _ x21 (ck_Gt hf1 f21) (by omega) (by omega)
  refine sg_lsub (lv' := [(2, _), (0, _), (1, _)]) ⟨rfl, rfl, rfl, trivial⟩ ?_
  exact loop7 _ _ _ hx2 hf2 (by omega) (Nat.lt_succ_self _)

