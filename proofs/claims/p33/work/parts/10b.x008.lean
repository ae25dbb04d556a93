set_option maxRecDepth 100000 in
theorem nk_X5_23 : sg_nk RX5 23 3 [sg_n, sg_i 0] 2 := ⟨by decide +kernel, (RX0, TX0, 2), tyX0, rfl, sgo_3, rfl, rfl, nv_X5_23, ⟨ts_1_80.1.1.2.1.2, rfl⟩, ⟨ts_1_32.1.2.2.2.2, rfl⟩, ⟨ts_1_0.1.1.1.2.2, rfl⟩⟩
theorem nv_L_14 : ∀ (j : Nat) (v : sg_V), ([sg_l 0, sg_n] : List sg_V)[j]? = some v → sg_v v (defaultValue (tyX6 j)) := fun j v hv => by
  have hj : j < 2 := (List.getElem?_eq_some_iff.mp hv).1
  rcases (show j = 0 ∨ j = 1 by omega) with rfl | rfl
  · cases Option.some.inj hv; exact ⟨0, rfl, rfl⟩
  · cases Option.some.inj hv; exact rfl
set_option maxRecDepth 100000 in
theorem nk_L_14 : sg_nk RL 14 7 [sg_l 0, sg_n] 2 := ⟨by decide +kernel, (RX6, TX6, 2), tyX6, rfl, sgo_7, rfl, rfl, nv_L_14, ⟨ts_2_192.1.1.2.2.2, rfl⟩, ⟨ts_2_192.1.2.1.1.1, rfl⟩, ⟨ts_1_0.1.2.1.1.2, rfl⟩⟩
theorem nv_X5_203 : ∀ (j : Nat) (v : sg_V), ([sg_n, sg_i 0, sg_i 0, sg_i 0] : List sg_V)[j]? = some v → sg_v v (defaultValue (tyJ4 j)) := fun j v hv => by
  have hj : j < 4 := (List.getElem?_eq_some_iff.mp hv).1
  rcases (show j = 0 ∨ j = 1 ∨ j = 2 ∨ j = 3 by omega) with rfl | rfl | rfl | rfl
  · cases Option.some.inj hv; exact rfl
  · cases Option.some.inj hv; exact ⟨0, rfl, rfl⟩
  · cases Option.some.inj hv; exact ⟨0, rfl, rfl⟩
  · cases Option.some.inj hv; exact ⟨0, rfl, rfl⟩
set_option maxRecDepth 100000 in
theorem nk_X5_203 : sg_nk RX5 203 1 [sg_n, sg_i 0, sg_i 0, sg_i 0] 4 := ⟨by decide +kernel, (RJ4, TJ4, 4), tyJ4, rfl, sgo_1, rfl, rfl, nv_X5_203, ⟨ts_4_80.1.1.2.1.2, rfl⟩, ⟨ts_4_80.1.1.2.2.1, rfl⟩, ⟨ts_1_16.1.2.1.1.2, rfl⟩⟩
