theorem s_X7_isKind1 {w : sg_W} {Q : sg_O → sg_H → Prop} {h : sg_H} (g : sg_G w) {d : Nat} (hd : 2 ≤ d) {x y : Int} (hk : md_K w h) (y0 : 0 ≤ y) (y1 : y ≤ 4) (y2 : y ≠ 2) (hQ : ∀ z : Int, z = fn_isOf x y → (z = 0 ∨ z = 1) → Q (.inl (some (sg_i z))) h) : sg_C w mi_X7_isKind d 0 0 [sg_i x, sg_i y] h Q := by
  rcases (show y = 0 ∨ y = 1 ∨ y = 3 ∨ y = 4 by omega) with rfl | rfl | rfl | rfl
  · exact s_X7_isKind_0 g hd hk hQ
  · exact s_X7_isKind_1 g hd hk hQ
  · exact s_X7_isKind_3 g hd hk hQ
  · exact s_X7_isKind_4 g hd hk hQ

set_option maxRecDepth 100000 in
theorem s_X7_isKind_2 {w : sg_W} {Q : sg_O → sg_H → Prop} {h : sg_H} (g : sg_G w) {d : Nat} (hd : 3 ≤ d) {x : Int} (hk : md_K w h) (hQ : ∀ z : Int, z = fn_isOf x 2 → (z = 0 ∨ z = 1) → Q (.inl (some (sg_i z))) h) : sg_C w mi_X7_isKind d 0 0 [sg_i x, sg_i 2] h Q := by
  refine sg_of pn_X7 (Nat.le_of_ble_eq_true rfl) ?_
  refine sg_iload_n (pc := 0) (j := 1) (dc_X7_isKind_0.1.1.1.1) rfl rfl ?_
  refine sg_iconst (pc := 1) (z := 2) (dc_X7_isKind_0.1.1.1.2) (by decide) ?_
  refine sg_icmp_ne (pc := 2) (tgt := 27) (dc_X7_isKind_0.1.1.2.1) (by decide) (fun cu => absurd cu (by omega)) (fun cu => ?_)
  refine sg_iload_n (pc := 5) (j := 0) (dc_X7_isKind_0.1.1.2.2) rfl rfl ?_
  refine sg_iconst (pc := 6) (z := 0) (dc_X7_isKind_0.1.2.1.1) (by decide) ?_
  refine sg_cS2 (pc := 7) (d' := d - 1) (mc' := 0) (ms' := 0) g (dc_X7_isKind_0.1.2.1.2) cb_X7_isKind ml_X7_26 ms_X7_isKind (Nat.le_of_ble_eq_true rfl) (by first | exact jl_d0 hd rfl | omega) (by first | exact Nat.le_of_ble_eq_true rfl | omega) (by first | exact Nat.le_of_ble_eq_true rfl | omega) ?_
  refine s_X7_isKind1 g (by first | exact jl_d1 hd rfl | omega) hk (by decide) (by decide) (by decide) (fun z7 e7 b7 => sg_K1 ?_)
  refine sg_if_ne (pc := 10) (tgt := 21) (dc_X7_isKind_0.1.2.2.1) (by decide) (fun c10 => ?_) (fun c10 => ?_)
  · refine sg_iconst (pc := 21) (z := 1) (dc_X7_isKind_0.2.1.2.2) (by decide) ?_
    refine sg_goto (pc := 22) (tgt := 26) (dc_X7_isKind_0.2.2.1.1) (by decide) ?_
    refine sg_zret (pc := 26) (dc_X7_isKind_0.2.2.2.1) rfl (by first | exact Or.inl rfl | exact Or.inr rfl | omega | assumption) (by first | exact Nat.le_of_ble_eq_true rfl | omega) (by first | exact Nat.le_of_ble_eq_true rfl | omega) ?_
    exact hQ _ (by have e1 := fk_0 x; have e2 := fk_1 x; have e3 := fk_2 x; unfold fn_lod at e3; split at e3 <;> omega) (by first | exact Or.inl rfl | exact Or.inr rfl | omega | assumption)
  · refine sg_iload_n (pc := 13) (j := 0) (dc_X7_isKind_0.1.2.2.2) rfl rfl ?_
    refine sg_iconst (pc := 14) (z := 1) (dc_X7_isKind_0.2.1.1.1) (by decide) ?_
    refine sg_cS2 (pc := 15) (d' := d - 1) (mc' := 0) (ms' := 0) g (dc_X7_isKind_0.2.1.1.2) cb_X7_isKind ml_X7_26 ms_X7_isKind (Nat.le_of_ble_eq_true rfl) (by first | exact jl_d0 hd rfl | omega) (by first | exact Nat.le_of_ble_eq_true rfl | omega) (by first | exact Nat.le_of_ble_eq_true rfl | omega) ?_
    refine s_X7_isKind1 g (by first | exact jl_d1 hd rfl | omega) hk (by decide) (by decide) (by decide) (fun z15 e15 b15 => sg_K1 ?_)
    refine sg_if_eq (pc := 18) (tgt := 25) (dc_X7_isKind_0.2.1.2.1) (by decide) (fun c18 => ?_) (fun c18 => ?_)
    · refine sg_iconst (pc := 25) (z := 0) (dc_X7_isKind_0.2.2.1.2) (by decide) ?_
      refine sg_zret (pc := 26) (dc_X7_isKind_0.2.2.2.1) rfl (by first | exact Or.inl rfl | exact Or.inr rfl | omega | assumption) (by first | exact Nat.le_of_ble_eq_true rfl | omega) (by first | exact Nat.le_of_ble_eq_true rfl | omega) ?_
      exact hQ _ (by have e1 := fk_0 x; have e2 := fk_1 x; have e3 := fk_2 x; unfold fn_lod at e3; split at e3 <;> omega) (by first | exact Or.inl rfl | exact Or.inr rfl | omega | assumption)
    · refine sg_iconst (pc := 21) (z := 1) (dc_X7_isKind_0.2.1.2.2) (by decide) ?_
      refine sg_goto (pc := 22) (tgt := 26) (dc_X7_isKind_0.2.2.1.1) (by decide) ?_
      refine sg_zret (pc := 26) (dc_X7_isKind_0.2.2.2.1) rfl (by first | exact Or.inl rfl | exact Or.inr rfl | omega | assumption) (by first | exact Nat.le_of_ble_eq_true rfl | omega) (by first | exact Nat.le_of_ble_eq_true rfl | omega) ?_
      exact hQ _ (by have e1 := fk_0 x; have e2 := fk_1 x; have e3 := fk_2 x; unfold fn_lod at e3; split at e3 <;> omega) (by first | exact Or.inl rfl | exact Or.inr rfl | omega | assumption)

