set_option maxRecDepth 100000 in
theorem s_X0_size {w : sg_W} {Q : sg_O → sg_H → Prop} {h : sg_H} (g : sg_G w) {d : Nat} (hd : 1 ≤ d) {B a c : Nat} (hx : ck_X h B) (hl : ck_L B a c) (hQ : ∀ z : Int, 0 ≤ z → z ≤ 40 → ck_N h a z → Q (.inl (some (sg_i z))) h) : sg_C w mi_X0_size d 0 0 [sg_r a] h Q := by
  refine sg_of pn_X0 (Nat.le_of_ble_eq_true rfl) ?_
  obtain ⟨n, zs, n0, n1, c40, hz, hzm, hA, hN, hvs⟩ := ck_ln hx hl
  refine sg_aload_n (pc := 0) (j := 0) (dc_X0_size_0.1.1) rfl rfl ?_
  refine sg_getf (pc := 1) g (dc_X0_size_0.1.2) fk_X0_15 hA rfl rfl ?_
  refine sg_iret (pc := 4) (dc_X0_size_0.2.1) rfl (by first | exact Nat.le_of_ble_eq_true rfl | omega) (by first | exact Nat.le_of_ble_eq_true rfl | omega) ?_
  exact hQ _ n0 (by omega) hA

set_option maxRecDepth 100000 in
theorem s_X0_hasPlace {w : sg_W} {Q : sg_O → sg_H → Prop} {h : sg_H} (g : sg_G w) {d : Nat} (hd : 1 ≤ d) {B a c : Nat} (hx : ck_X h B) (hl : ck_L B a c) {p : Int} (hQ : ∀ z : Int, (z = 0 ∨ z = 1) → (z ≠ 0 → 0 ≤ p ∧ p < (ck_cap c : Int)) → (∀ n, ck_N h a n → z = 0 → 0 ≤ p → p < n → False) → (∀ n, ck_N h a n → z ≠ 0 → p < n) → Q (.inl (some (sg_i z))) h) : sg_C w mi_X0_hasPlace d 0 0 [sg_r a, sg_i p] h Q := by
  refine sg_of pn_X0 (Nat.le_of_ble_eq_true rfl) ?_
  obtain ⟨n, zs, n0, n1, c40, hz, hzm, hA, hN, hvs⟩ := ck_ln hx hl
  refine sg_iload_n (pc := 0) (j := 1) (dc_X0_hasPlace_0.1.1.1.1) rfl rfl ?_
  refine sg_if_lt (pc := 1) (tgt := 25) (dc_X0_hasPlace_0.1.1.1.2) (by decide) (fun c1 => ?_) (fun c1 => ?_)
  · refine sg_iconst (pc := 25) (z := 0) (dc_X0_hasPlace_0.2.2.1.2) (by decide) ?_
    refine sg_zret (pc := 26) (dc_X0_hasPlace_0.2.2.2.1) rfl (by first | exact Or.inl rfl | exact Or.inr rfl | omega | assumption) (by first | exact Nat.le_of_ble_eq_true rfl | omega) (by first | exact Nat.le_of_ble_eq_true rfl | omega) ?_
    exact hQ _ (by omega) (by omega) (fun n2 q1 q2 q3 q4 => by have q5 := ck_Nu q1 hA; omega) (fun n2 q1 q2 => by have q5 := ck_Nu q1 hA; omega)
  · refine sg_iload_n (pc := 4) (j := 1) (dc_X0_hasPlace_0.1.1.2.1) rfl rfl ?_
    refine sg_aload_n (pc := 5) (j := 0) (dc_X0_hasPlace_0.1.1.2.2) rfl rfl ?_
    refine sg_getf (pc := 6) g (dc_X0_hasPlace_0.1.2.1.1) fk_X0_15 hA rfl rfl ?_
    refine sg_icmp_ge (pc := 9) (tgt := 25) (dc_X0_hasPlace_0.1.2.1.2) (by decide) (fun c9 => ?_) (fun c9 => ?_)
    · refine sg_iconst (pc := 25) (z := 0) (dc_X0_hasPlace_0.2.2.1.2) (by decide) ?_
      refine sg_zret (pc := 26) (dc_X0_hasPlace_0.2.2.2.1) rfl (by first | exact Or.inl rfl | exact Or.inr rfl | omega | assumption) (by first | exact Nat.le_of_ble_eq_true rfl | omega) (by first | exact Nat.le_of_ble_eq_true rfl | omega) ?_
      exact hQ _ (by omega) (by omega) (fun n2 q1 q2 q3 q4 => by have q5 := ck_Nu q1 hA; omega) (fun n2 q1 q2 => by have q5 := ck_Nu q1 hA; omega)
    · refine sg_iload_n (pc := 12) (j := 1) (dc_X0_hasPlace_0.1.2.2.1) rfl rfl ?_
      refine sg_aload_n (pc := 13) (j := 0) (dc_X0_hasPlace_0.1.2.2.2) rfl rfl ?_
      refine sg_getf (pc := 14) g (dc_X0_hasPlace_0.2.1.1.1) fk_X0_9 hA rfl rfl ?_
      refine sg_alenN (pc := 17) (dc_X0_hasPlace_0.2.1.1.2) hN (Nat.le_of_ble_eq_true rfl) hzm (by omega) ?_
      refine sg_icmp_ge (pc := 18) (tgt := 25) (dc_X0_hasPlace_0.2.1.2.1) (by decide) (fun c18 => ?_) (fun c18 => ?_)
      · refine sg_iconst (pc := 25) (z := 0) (dc_X0_hasPlace_0.2.2.1.2) (by decide) ?_
        refine sg_zret (pc := 26) (dc_X0_hasPlace_0.2.2.2.1) rfl (by first | exact Or.inl rfl | exact Or.inr rfl | omega | assumption) (by first | exact Nat.le_of_ble_eq_true rfl | omega) (by first | exact Nat.le_of_ble_eq_true rfl | omega) ?_
        exact hQ _ (by omega) (by omega) (fun n2 q1 q2 q3 q4 => by have q5 := ck_Nu q1 hA; omega) (fun n2 q1 q2 => by have q5 := ck_Nu q1 hA; omega)
      · refine sg_iconst (pc := 21) (z := 1) (dc_X0_hasPlace_0.2.1.2.2) (by decide) ?_
        refine sg_goto (pc := 22) (tgt := 26) (dc_X0_hasPlace_0.2.2.1.1) (by decide) ?_
        refine sg_zret (pc := 26) (dc_X0_hasPlace_0.2.2.2.1) rfl (by first | exact Or.inl rfl | exact Or.inr rfl | omega | assumption) (by first | exact Nat.le_of_ble_eq_true rfl | omega) (by first | exact Nat.le_of_ble_eq_true rfl | omega) ?_
        exact hQ _ (by omega) (by omega) (fun n2 q1 q2 q3 q4 => by have q5 := ck_Nu q1 hA; omega) (fun n2 q1 q2 => by have q5 := ck_Nu q1 hA; omega)

set_option maxRecDepth 100000 in
theorem s_X0_get {w : sg_W} {Q : sg_O → sg_H → Prop} {h : sg_H} (g : sg_G w) {d : Nat} (hd : 2 ≤ d) {B a c : Nat} (hx : ck_X h B) (hl : ck_L B a c) {p : Int} (hQ : ∀ z : Int, z = ck_g h a p → (∀ n, ck_N h a n → 0 ≤ p → p < n → ck_v c z) → Q (.inl (some (sg_i z))) h) : sg_C w mi_X0_get d 0 0 [sg_r a, sg_i p] h Q := by
  refine sg_of pn_X0 (Nat.le_of_ble_eq_true rfl) ?_
  obtain ⟨n, zs, n0, n1, c40, hz, hzm, hA, hN, hvs⟩ := ck_ln hx hl
  refine sg_aload_n (pc := 0) (j := 0) (dc_X0_get_0.1.1.1.1) rfl rfl ?_
  refine sg_iload_n (pc := 1) (j := 1) (dc_X0_get_0.1.1.1.2) rfl rfl ?_
  refine sg_cV1 (pc := 2) (d' := d - 1) (mc' := 0) (ms' := 0) g (dc_X0_get_0.1.1.2.1) cb_X0_hasPlace ml_X0_19 mn_X0_hasPlace mv_X0_hasPlace hA (Nat.le_of_ble_eq_true rfl) rfl (Nat.le_of_ble_eq_true rfl) (by first | exact jl_d0 hd rfl | omega) (by first | exact Nat.le_of_ble_eq_true rfl | omega) (by first | exact Nat.le_of_ble_eq_true rfl | omega) ?_
  refine s_X0_hasPlace g (by first | exact jl_d1 hd rfl | omega) hx hl (fun z2 b2 i2 j2 k2 => sg_K1 ?_)
  refine sg_if_eq (pc := 5) (tgt := 17) (dc_X0_get_0.1.1.2.2) (by decide) (fun c5 => ?_) (fun c5 => ?_)
  · refine sg_iconst (pc := 17) (z := -1) (dc_X0_get_0.2.1.1.2) (by decide) ?_
    refine sg_iret (pc := 18) (dc_X0_get_0.2.1.2.1) rfl (by first | exact Nat.le_of_ble_eq_true rfl | omega) (by first | exact Nat.le_of_ble_eq_true rfl | omega) ?_
    first | exact hQ _ (ck_gv hA hN (by omega) (k2 n hA (by omega)) (by omega)) (fun n2 q1 q2 q3 => hvs _ (List.getElem_mem _)) | exact hQ _ (ck_g1 hA (fun q => j2 n hA (by omega) q.1 q.2)) (fun n2 q1 q2 q3 => (j2 n2 q1 (by omega) q2 q3).elim)
  · refine sg_aload_n (pc := 8) (j := 0) (dc_X0_get_0.1.2.1.1) rfl rfl ?_
    refine sg_getf (pc := 9) g (dc_X0_get_0.1.2.1.2) fk_X0_9 hA rfl rfl ?_
    refine sg_iload_n (pc := 12) (j := 1) (dc_X0_get_0.1.2.2.1) rfl rfl ?_
    refine sg_iald (pc := 13) (dc_X0_get_0.1.2.2.2) hN rfl (by omega) (ck_at (by rw [hz]; omega)) ?_
    refine sg_goto (pc := 14) (tgt := 18) (dc_X0_get_0.2.1.1.1) (by decide) ?_
    refine sg_iret (pc := 18) (dc_X0_get_0.2.1.2.1) rfl (by first | exact Nat.le_of_ble_eq_true rfl | omega) (by first | exact Nat.le_of_ble_eq_true rfl | omega) ?_
    first | exact hQ _ (ck_gv hA hN (by omega) (k2 n hA (by omega)) (by omega)) (fun n2 q1 q2 q3 => hvs _ (List.getElem_mem _)) | exact hQ _ (ck_g1 hA (fun q => j2 n hA (by omega) q.1 q.2)) (fun n2 q1 q2 q3 => (j2 n2 q1 (by omega) q2 q3).elim)

