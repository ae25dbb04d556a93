set_option maxRecDepth 100000 in
theorem nk_X3_9 : sg_nk RX3 9 3 [sg_n, sg_i 0] 2 := ⟨by decide +kernel, (RX0, TX0, 2), tyX0, rfl, sgo_3, rfl, rfl, nv_X3_9, ⟨ts_1_32.1.2.2.1.2, rfl⟩, ⟨ts_1_32.1.2.2.2.2, rfl⟩, ⟨ts_1_0.1.1.1.2.2, rfl⟩⟩
theorem nv_X5_16 : ∀ (j : Nat) (v : sg_V), ([sg_n, sg_i 0] : List sg_V)[j]? = some v → sg_v v (defaultValue (tyX1 j)) := fun j v hv => by
  have hj : j < 2 := (List.getElem?_eq_some_iff.mp hv).1
  rcases (show j = 0 ∨ j = 1 by omega) with rfl | rfl
  · cases Option.some.inj hv; exact rfl
  · cases Option.some.inj hv; exact ⟨0, rfl, rfl⟩
set_option maxRecDepth 100000 in
theorem nk_X5_16 : sg_nk RX5 16 4 [sg_n, sg_i 0] 2 := ⟨by decide +kernel, (RX1, TX1, 2), tyX1, rfl, sgo_4, rfl, rfl, nv_X5_16, ⟨ts_1_64.1.1.2.1.2, rfl⟩, ⟨ts_1_64.1.1.2.2.1, rfl⟩, ⟨ts_1_0.1.1.2.1.1, rfl⟩⟩
theorem nv_X1_9 : ∀ (j : Nat) (v : sg_V), ([sg_n, sg_n] : List sg_V)[j]? = some v → sg_v v (defaultValue (tyX3 j)) := fun j v hv => by
  have hj : j < 2 := (List.getElem?_eq_some_iff.mp hv).1
  rcases (show j = 0 ∨ j = 1 by omega) with rfl | rfl
  · cases Option.some.inj hv; exact rfl
  · cases Option.some.inj hv; exact rfl
set_option maxRecDepth 100000 in
theorem nk_X1_9 : sg_nk RX1 9 5 [sg_n, sg_n] 2 := ⟨by decide +kernel, (RX3, TX3, 2), tyX3, rfl, sgo_5, rfl, rfl, nv_X1_9, ⟨ts_1_64.1.2.1.2.2, rfl⟩, ⟨ts_1_32.1.2.1.1.1, rfl⟩, ⟨ts_1_0.1.1.1.2.1, rfl⟩⟩
theorem nv_X5_23 : ∀ (j : Nat) (v : sg_V), ([sg_n, sg_i 0] : List sg_V)[j]? = some v → sg_v v (defaultValue (tyX0 j)) := fun j v hv => by
  have hj : j < 2 := (List.getElem?_eq_some_iff.mp hv).1
  rcases (show j = 0 ∨ j = 1 by omega) with rfl | rfl
  · cases Option.some.inj hv; exact rfl
  · cases Option.some.inj hv; exact ⟨0, rfl, rfl⟩
