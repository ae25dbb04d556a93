set_option maxRecDepth 100000 in
theorem s_al_remove {w : sg_W} {Q : sg_O → sg_H → Prop} {h : sg_H} (g : sg_G w) {d : Nat} (hd : 4 ≤ d) {b E : Nat} {m sz : Int} (hb : h.2 b = some (2, [sg_i m, sg_r E, sg_i sz])) {xs : List sg_V} (hE : h.2 E = some (113, xs)) {i : Int} (i0 : 0 ≤ i) (i1 : i < sz) (i2 : sz ≤ (xs.length : Int)) (l3 : xs.length ≤ 200) (hel : ∀ i : Nat, (i : Int) < sz → sg_el h 113 (xs.getD i sg_n)) {R : Nat} (hv : xs[i.toNat]? = some (sg_r R)) (hQ : ∀ (m1 : Int) (f : Nat → Option sg_E) (ys : List sg_V), f b = some (2, [sg_i m1, sg_r E, sg_i (sz - 1)]) → f E = some (113, ys) → ys.length = xs.length → (∀ j : Nat, (j : Int) < sz - 1 → ys[j]? = xs[if (j : Int) < i then j else j + 1]?) → (∀ q, q ≠ b → q ≠ E → f q = h.2 q) → Q (.inl (some (sg_r R))) (h.1, f)) : sg_C w mi_Jx4a65c_remove_915e3 d 0 0 [sg_r b, sg_i i] h Q := by
  refine sg_of pn_Jx4a65c (Nat.le_of_ble_eq_true rfl) ?_
  refine sg_iload_n (pc := 0) (j := 1) (dc_Jx4a65c_remove_915e3_0.1.1.1.1) rfl rfl ?_
  refine sg_aload_n (pc := 1) (j := 0) (dc_Jx4a65c_remove_915e3_0.1.1.1.2) rfl rfl ?_
  refine sg_getf (pc := 2) g (dc_Jx4a65c_remove_915e3_0.1.1.2.1) fk_Jx4a65c_48 hb rfl rfl ?_
  refine sg_cS2 (pc := 5) (d' := d - 1) (mc' := 0) (ms' := 0) g (dc_Jx4a65c_remove_915e3_0.1.1.2.2) cb_J15_checkIndex_7cf53 ml_Jx4a65c_118 ms_J15_checkIndex_7cf53 (Nat.le_of_ble_eq_true rfl) (by first | exact jl_d0 hd rfl | omega) (by first | exact Nat.le_of_ble_eq_true rfl | omega) (by first | exact Nat.le_of_ble_eq_true rfl | omega) ?_
  refine s_J15_checkIndex_7cf53 g (by first | exact jl_d1 hd rfl | omega) (by omega) (by omega) ?_
  refine sg_K1 ?_
  refine sg_pop (pc := 8) (dc_Jx4a65c_remove_915e3_0.1.2.1.1) rfl ?_
  refine sg_aload_n (pc := 9) (j := 0) (dc_Jx4a65c_remove_915e3_0.1.2.1.2) rfl rfl ?_
  refine sg_getf (pc := 10) g (dc_Jx4a65c_remove_915e3_0.1.2.2.1) fk_Jx4a65c_9 hb rfl rfl ?_
  refine sg_astore_n (pc := 13) (j := 2) (dc_Jx4a65c_remove_915e3_0.1.2.2.2) rfl (by decide) ?_
  refine sg_aload_n (pc := 14) (j := 2) (dc_Jx4a65c_remove_915e3_0.2.1.1.1) rfl rfl ?_
  refine sg_iload_n (pc := 15) (j := 1) (dc_Jx4a65c_remove_915e3_0.2.1.1.2) rfl rfl ?_
  refine sg_aald (pc := 16) (dc_Jx4a65c_remove_915e3_0.2.1.2.1) hE (by decide) (by omega) hv ?_
  refine sg_astore_n (pc := 17) (j := 3) (dc_Jx4a65c_remove_915e3_0.2.1.2.2) rfl (by decide) ?_
  refine sg_aload_n (pc := 18) (j := 0) (dc_Jx4a65c_remove_915e3_0.2.2.1.1) rfl rfl ?_
  refine sg_aload_n (pc := 19) (j := 2) (dc_Jx4a65c_remove_915e3_0.2.2.1.2) rfl rfl ?_
  refine sg_iload_n (pc := 20) (j := 1) (dc_Jx4a65c_remove_915e3_0.2.2.2.1) rfl rfl ?_
  refine sg_cV2 (pc := 21) (d' := d - 1) (mc' := 0) (ms' := 0) g (dc_Jx4a65c_remove_915e3_0.2.2.2.2) cb_Jx4a65c_fastRemove_b59b0 ml_Jx4a65c_144 mn_Jx4a65c_fastRemove_b59b0 mv_Jx4a65c_fastRemove_b59b0 hb (Nat.le_of_ble_eq_true rfl) rfl (Nat.le_of_ble_eq_true rfl) (by first | exact jl_d0 hd rfl | omega) (by first | exact Nat.le_of_ble_eq_true rfl | omega) (by first | exact Nat.le_of_ble_eq_true rfl | omega) ?_
  refine s_fr g (by first | exact jl_d1 hd rfl | omega) hb hE i0 i1 i2 l3 hel (fun m1 f ys f1 f2 f3 f4 f5 => ?_)
  refine sg_K0 ?_
  try dsimp only
  refine sg_aload_n (pc := 24) (j := 3) (dc_Jx4a65c_remove_915e3_24.1) rfl rfl ?_
  refine sg_aret (pc := 25) (dc_Jx4a65c_remove_915e3_24.2) rfl (by first | exact Or.inl ⟨_, rfl⟩ | exact Or.inr ⟨_, rfl⟩) (by first | exact Nat.le_of_ble_eq_true rfl | omega) (by first | exact Nat.le_of_ble_eq_true rfl | omega) ?_
  exact hQ m1 f ys f1 f2 f3 f4 f5


