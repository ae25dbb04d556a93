set_option maxRecDepth 100000 in
theorem s_J5i {w : sg_W} {Q : sg_O → sg_H → Prop} {h : sg_H} (g : sg_G w) {d : Nat} (hd : 2 ≤ d) (hJ : jz w) {b : Nat} {v : sg_V} {y c : Int} (hb : h.2 b = some (1, [v, sg_i 0, sg_i y, sg_i c])) (hQ : ∀ f : Nat → Option sg_E, f b = some (1, [sg_r h.1, sg_i 0, sg_i y, sg_i c]) → f h.1 = some (102, List.replicate 16 (sg_i 0)) → (∀ q, q ≠ b → q ≠ h.1 → f q = h.2 q) → Q (.inl none) (h.1 + 1, f)) : sg_C w mi_J5_init_d00df d 1 16 [sg_r b, sg_i 16] h Q := by
  refine sg_of pn_J5 (Nat.le_of_ble_eq_true rfl) ?_
  refine sg_frs (fun hf => ?_)
  have hbl := hf _ _ hb
  refine sg_aload_n (pc := 0) (j := 0) (dc_J5_init_d00df_0.1.1.1.1) rfl rfl ?_
  refine sg_objInit (pc := 1) g (dc_J5_init_d00df_0.1.1.1.2) mo_J5_3 mo_in mo_co (Nat.le_of_ble_eq_true rfl) (by omega) ?_
  refine sg_gets (v := sg_i 1) (pc := 4) g (dc_J5_init_d00df_0.1.1.2.1) hJ ⟨1, rfl, rfl⟩ kl_J5_18 ?_
  refine sg_if_eq (pc := 7) (tgt := 25) (dc_J5_init_d00df_0.1.1.2.2) (by decide) (fun cu => absurd cu (by omega)) (fun cu => ?_)
  refine sg_aload_n (pc := 10) (j := 0) (dc_J5_init_d00df_0.1.2.1.1) rfl rfl ?_
  refine sg_iload_n (pc := 11) (j := 1) (dc_J5_init_d00df_0.1.2.1.2) rfl rfl ?_
  refine sg_newa (t := 102) (N := 16) (pc := 12) g (dc_J5_init_d00df_0.1.2.2.1) ac_byte rfl (by decide) (by decide) rfl rfl (by decide) (by omega) (by omega) (by omega) (by omega) ?_
  try dsimp only
  refine sg_putf (pc := 14) g (dc_J5_init_d00df_0.1.2.2.2) fk_J5_15 (by first | assumption | (repeat (first | with_reducible exact sg_up_s | with_reducible refine (sg_up_n (by omega)).trans ?_)) <;> assumption) sg_ft_a ?_
  try dsimp only
  refine sg_aload_n (pc := 17) (j := 0) (dc_J5_init_d00df_0.2.1.1.1) rfl rfl ?_
  refine sg_iconst (pc := 18) (z := 0) (dc_J5_init_d00df_0.2.1.1.2) (by decide) ?_
  refine sg_putf (pc := 19) g (dc_J5_init_d00df_0.2.1.2.1) fk_J5_22 (by first | assumption | (repeat (first | with_reducible exact sg_up_s | with_reducible refine (sg_up_n (by omega)).trans ?_)) <;> assumption) sg_ft_b0 ?_
  try dsimp only
  refine sg_goto (pc := 22) (tgt := 38) (dc_J5_init_d00df_0.2.1.2.2) (by decide) ?_
  refine sg_vret (pc := 38) (dc_J5_init_d00df_33.2.2) rfl (by first | exact Nat.le_of_ble_eq_true rfl | omega) (by first | exact Nat.le_of_ble_eq_true rfl | omega) ?_
  refine hQ _ sg_up_s ?_ (fun q h1 h2 => ?_)
  · (repeat (with_reducible refine (sg_up_n (by omega)).trans ?_))
    exact sg_up_s
  · (repeat (with_reducible refine (sg_up_n (by omega)).trans ?_))
    rfl

