set_option maxRecDepth 100000 in
theorem f_X5_at {w : sg_W} {Q : sg_O → sg_H → Prop} {h : sg_H} (g : sg_G w) {d : Nat} (hd : 14 ≤ d) {B : Nat} {A : fa_A} (hx : cf_X h B A) (ok : fa_ok A) {row p : Int} {L : List Int} (hL : fa_L A row.toNat = L) (hQ : ¬ (row < 0 ∨ 4 ≤ row ∨ p < 0 ∨ (L.length : Int) ≤ p) → ∀ v : Int, v = L.getD p.toNat 0 → Q (.inl (some (sg_i v))) h) (hXI : (row < 0 ∨ 4 ≤ row ∨ p < 0 ∨ (L.length : Int) ≤ p) → ∀ z, h.1 ≤ z → Q (.inr e_I) (z, h.2)) : sg_C w mi_X5_at d 8 48 [sg_r B, sg_i row, sg_i p] h Q := by
  refine sg_of pn_X5 (Nat.le_of_ble_eq_true rfl) ?_
  obtain ⟨x0, ho, hS, hP, hK⟩ := id hx
  have y0 := ck_Y0 x0
  refine sg_aload_n (pc := 0) (j := 0) (dc_X5_at_0.1.1.1) rfl rfl ?_
  refine sg_iload_n (pc := 1) (j := 1) (dc_X5_at_0.1.1.2) rfl rfl ?_
  refine sg_cE1 (pc := 2) (d' := d - 1) (mc' := 1) (ms' := 6) 6 g (dc_X5_at_0.1.2.1) cb_X5_rowOf ml_X5_36 mn_X5_rowOf rfl mv_X5_rowOf (Nat.le_of_ble_eq_true rfl) (ck_oc (by assumption)) (Nat.le_of_ble_eq_true rfl) (by first | exact jl_d0 hd rfl | omega) (by first | exact Nat.le_of_ble_eq_true rfl | omega) (by first | exact Nat.le_of_ble_eq_true rfl | omega) ?_
  refine f_X5_rowOf g (by first | exact jl_d1 hd rfl | omega) (by assumption) (fun l2 r2 L2 => sg_K1 ?_) (fun t2 z2 w2 => sg_KX (by first | exact Nat.le_of_ble_eq_true rfl | omega) (by first | exact Nat.le_of_ble_eq_true rfl | omega) (hXI (by omega) z2 w2))
  obtain ⟨a2, ea2⟩ : ∃ a, a = B + 1 + 3 + 2 * row.toNat := ⟨_, rfl⟩
  rw [← ea2] at L2 ⊢
  have k2 : cf_l h a2 = L := by rw [ea2, cf_rl hx (by omega)]; exact hL
  have r42 := fa_row ok (i := row.toNat) (by omega)
  rw [hL] at r42
  refine sg_iload_n (pc := 5) (j := 2) (dc_X5_at_0.1.2.2) rfl rfl ?_
  refine sg_cS2 (pc := 6) (d' := d - 1) (mc' := 1) (ms' := 6) g (dc_X5_at_0.2.1.1) cb_X5_numberAt ml_X5_198 ms_X5_numberAt (Nat.le_of_ble_eq_true rfl) (by first | exact jl_d0 hd rfl | omega) (by first | exact Nat.le_of_ble_eq_true rfl | omega) (by first | exact Nat.le_of_ble_eq_true rfl | omega) ?_
  refine f_X5_numberAt g (by first | exact jl_d1 hd rfl | omega) x0 L2 k2 (fun r6 R6 z6 e6 => sg_K1 ?_) (fun t6 z6 w6 => sg_KX (by first | exact Nat.le_of_ble_eq_true rfl | omega) (by first | exact Nat.le_of_ble_eq_true rfl | omega) (hXI (by omega) z6 w6))
  refine sg_iret (pc := 9) (dc_X5_at_0.2.1.2) rfl (by first | exact Nat.le_of_ble_eq_true rfl | omega) (by first | exact Nat.le_of_ble_eq_true rfl | omega) ?_
  exact hQ (by omega) _ e6

