theorem nv_L_8 : ∀ (j : Nat) (v : sg_V), ([sg_n, sg_n, sg_n, sg_i 0] : List sg_V)[j]? = some v → sg_v v (defaultValue (tyX5 j)) := fun j v hv => by
  have hj : j < 4 := (List.getElem?_eq_some_iff.mp hv).1
  rcases (show j = 0 ∨ j = 1 ∨ j = 2 ∨ j = 3 by omega) with rfl | rfl | rfl | rfl
  · cases Option.some.inj hv; exact rfl
  · cases Option.some.inj hv; exact rfl
  · cases Option.some.inj hv; exact rfl
  · cases Option.some.inj hv; exact ⟨0, rfl, rfl⟩
set_option maxRecDepth 100000 in
theorem nk_L_8 : sg_nk RL 8 6 [sg_n, sg_n, sg_n, sg_i 0] 4 := ⟨by decide +kernel, (RX5, TX5, 4), tyX5, rfl, sgo_6, rfl, rfl, nv_L_8, ⟨ts_1_16.1.2.2.2.2, rfl⟩, ⟨ts_1_32.1.1.1.1.1, rfl⟩, ⟨ts_1_0.1.1.1.1.2, rfl⟩⟩
theorem nv_X5_7 : ∀ (j : Nat) (v : sg_V), ([sg_n, sg_n] : List sg_V)[j]? = some v → sg_v v (defaultValue (tyX3 j)) := fun j v hv => by
  have hj : j < 2 := (List.getElem?_eq_some_iff.mp hv).1
  rcases (show j = 0 ∨ j = 1 by omega) with rfl | rfl
  · cases Option.some.inj hv; exact rfl
  · cases Option.some.inj hv; exact rfl
set_option maxRecDepth 100000 in
theorem nk_X5_7 : sg_nk RX5 7 5 [sg_n, sg_n] 2 := ⟨by decide +kernel, (RX3, TX3, 2), tyX3, rfl, sgo_5, rfl, rfl, nv_X5_7, ⟨ts_1_32.1.1.2.2.2, rfl⟩, ⟨ts_1_32.1.2.1.1.1, rfl⟩, ⟨ts_1_0.1.1.1.2.1, rfl⟩⟩
theorem nv_X3_9 : ∀ (j : Nat) (v : sg_V), ([sg_n, sg_i 0] : List sg_V)[j]? = some v → sg_v v (defaultValue (tyX0 j)) := fun j v hv => by
  have hj : j < 2 := (List.getElem?_eq_some_iff.mp hv).1
  rcases (show j = 0 ∨ j = 1 by omega) with rfl | rfl
  · cases Option.some.inj hv; exact rfl
  · cases Option.some.inj hv; exact ⟨0, rfl, rfl⟩
