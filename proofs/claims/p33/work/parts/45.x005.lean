theorem s_X7_isKind {w : sg_W} {Q : sg_O → sg_H → Prop} {h : sg_H} (g : sg_G w) {d : Nat} (hd : 3 ≤ d) {x y : Int} (hk : md_K w h) (y0 : 0 ≤ y) (y1 : y ≤ 4) (hQ : ∀ z : Int, z = fn_isOf x y → (z = 0 ∨ z = 1) → Q (.inl (some (sg_i z))) h) : sg_C w mi_X7_isKind d 0 0 [sg_i x, sg_i y] h Q := by
  by_cases c : y = 2
  · subst c
    exact s_X7_isKind_2 g hd hk hQ
  · exact s_X7_isKind1 g (by first | exact jl_d1 hd rfl | omega) hk y0 y1 c hQ

set_option maxRecDepth 100000 in
theorem s_X7_lowerOf {w : sg_W} {Q : sg_O → sg_H → Prop} {h : sg_H} (g : sg_G w) {d : Nat} (hd : 4 ≤ d) {x : Int} (hk : md_K w h) (hQ : ∀ z : Int, z = fn_lower x → Q (.inl (some (sg_i z))) h) : sg_C w mi_X7_lowerOf d 0 0 [sg_i x] h Q := by
  refine sg_of pn_X7 (Nat.le_of_ble_eq_true rfl) ?_
  refine sg_iload_n (pc := 0) (j := 0) (dc_X7_lowerOf_0.1.1.1.1) rfl rfl ?_
  refine sg_iconst (pc := 1) (z := 4) (dc_X7_lowerOf_0.1.1.1.2) (by decide) ?_
  refine sg_cS2 (pc := 2) (d' := d - 1) (mc' := 0) (ms' := 0) g (dc_X7_lowerOf_0.1.1.2.1) cb_X7_isKind ml_X7_26 ms_X7_isKind (Nat.le_of_ble_eq_true rfl) (by first | exact jl_d0 hd rfl | omega) (by first | exact Nat.le_of_ble_eq_true rfl | omega) (by first | exact Nat.le_of_ble_eq_true rfl | omega) ?_
  refine s_X7_isKind g (by first | exact jl_d1 hd rfl | omega) (by assumption) (by omega) (by omega) (fun z2 e2 b2 => sg_K1 ?_)
  refine sg_if_eq (pc := 5) (tgt := 15) (dc_X7_lowerOf_0.1.1.2.2) (by decide) (fun c5 => ?_) (fun c5 => ?_)
  · refine sg_iload_n (pc := 15) (j := 0) (dc_X7_lowerOf_0.2.1.1.1) rfl rfl ?_
    refine sg_iret (pc := 16) (dc_X7_lowerOf_0.2.1.1.2) rfl (by first | exact Nat.le_of_ble_eq_true rfl | omega) (by first | exact Nat.le_of_ble_eq_true rfl | omega) ?_
    exact hQ _ (by have e1 := fk_4 x; unfold fn_lower; split <;> omega)
  · have rg : 65 ≤ x ∧ x ≤ 222 := by have e1 := fk_4 x; unfold fn_great at e1; split at e1 <;> omega
    refine sg_iload_n (pc := 8) (j := 0) (dc_X7_lowerOf_0.1.2.1.1) rfl rfl ?_
    refine sg_bipush (pc := 9) (z := 32) (dc_X7_lowerOf_0.1.2.1.2) (by decide) ?_
    first | refine sg_iaddB (pc := 11) (dc_X7_lowerOf_0.1.2.2.1) (by omega) (by omega) ?_ | refine sg_iadd (pc := 11) (dc_X7_lowerOf_0.1.2.2.1) ?_
    refine sg_goto (pc := 12) (tgt := 16) (dc_X7_lowerOf_0.1.2.2.2) (by decide) ?_
    refine sg_iret (pc := 16) (dc_X7_lowerOf_0.2.1.1.2) rfl (by first | exact Nat.le_of_ble_eq_true rfl | omega) (by first | exact Nat.le_of_ble_eq_true rfl | omega) ?_
    exact hQ _ (by have e1 := fk_4 x; unfold fn_lower; split <;> omega)

