theorem nv_L_186 : ∀ (j : Nat) (v : sg_V), ([sg_i 0, sg_n, sg_n, sg_i 0] : List sg_V)[j]? = some v → sg_v v (defaultValue (tyX7 j)) := fun j v hv => by
  have hj : j < 4 := (List.getElem?_eq_some_iff.mp hv).1
  rcases (show j = 0 ∨ j = 1 ∨ j = 2 ∨ j = 3 by omega) with rfl | rfl | rfl | rfl
  · cases Option.some.inj hv; exact ⟨0, rfl, rfl⟩
  · cases Option.some.inj hv; exact rfl
  · cases Option.some.inj hv; exact rfl
  · cases Option.some.inj hv; exact ⟨0, rfl, rfl⟩
set_option maxRecDepth 100000 in
theorem nk_L_186 : sg_nk RL 186 8 [sg_i 0, sg_n, sg_n, sg_i 0] 4 := ⟨by decide +kernel, (RX7, TX7, 4), tyX7, rfl, sgo_8, rfl, rfl, nv_L_186, ⟨ts_5_208.1.2.2.2.1, rfl⟩, ⟨ts_5_208.1.2.2.2.2, rfl⟩, ⟨ts_1_0.1.1.2.1.2, rfl⟩⟩
theorem nv_X7_15 : ∀ (j : Nat) (v : sg_V), ([sg_i 0, sg_n, sg_i 0] : List sg_V)[j]? = some v → sg_v v (defaultValue (tyJx4a65c j)) := fun j v hv => by
  have hj : j < 3 := (List.getElem?_eq_some_iff.mp hv).1
  rcases (show j = 0 ∨ j = 1 ∨ j = 2 by omega) with rfl | rfl | rfl
  · cases Option.some.inj hv; exact ⟨0, rfl, rfl⟩
  · cases Option.some.inj hv; exact rfl
  · cases Option.some.inj hv; exact ⟨0, rfl, rfl⟩
set_option maxRecDepth 100000 in
theorem nk_X7_15 : sg_nk RX7 15 2 [sg_i 0, sg_n, sg_i 0] 3 := ⟨by decide +kernel, (RJx4a65c, TJx4a65c, 3), tyJx4a65c, rfl, sgo_2, rfl, rfl, nv_X7_15, ⟨ts_5_224.1.1.2.2.1, rfl⟩, ⟨ts_5_224.1.1.2.2.2, rfl⟩, ⟨ts_1_0.1.2.1.1.1, rfl⟩⟩
theorem nv_X7_175 : ∀ (j : Nat) (v : sg_V), ([sg_n, sg_i 0, sg_i 0, sg_i 0] : List sg_V)[j]? = some v → sg_v v (defaultValue (tyJ4 j)) := fun j v hv => by
  have hj : j < 4 := (List.getElem?_eq_some_iff.mp hv).1
  rcases (show j = 0 ∨ j = 1 ∨ j = 2 ∨ j = 3 by omega) with rfl | rfl | rfl | rfl
  · cases Option.some.inj hv; exact rfl
  · cases Option.some.inj hv; exact ⟨0, rfl, rfl⟩
  · cases Option.some.inj hv; exact ⟨0, rfl, rfl⟩
  · cases Option.some.inj hv; exact ⟨0, rfl, rfl⟩
