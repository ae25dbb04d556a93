set_option maxRecDepth 100000 in
theorem fk_X7_161 : sg_fk RX7 161 8 3 false .int := ⟨by decide +kernel, (RX7, TX7, 4), tyX7, "SignkindsModel", rfl, by decide +kernel, sgo_8, rfl, rfl, fun h => (nomatch h), ⟨ts_6_16.1.1.1.2.2, rfl⟩, Or.inl rfl⟩
set_option maxRecDepth 100000 in
theorem fk_X5_312 : sg_fkN RX5 312 5 0 true (.array (.object "Signkinds$Line")) := ⟨by decide +kernel, (RX3, TX3, 2), tyX3, "Signkinds", rfl, by decide +kernel, sgo_5, rfl, rfl, ts_1_48.1.2.2.1.2⟩
set_option maxRecDepth 100000 in
theorem fk_X5_318 : sg_fkN RX5 318 5 1 true (.array (.object "Signkinds$Line")) := ⟨by decide +kernel, (RX3, TX3, 2), tyX3, "Signkinds", rfl, by decide +kernel, sgo_5, rfl, rfl, ts_1_48.1.2.2.2.2⟩
set_option maxRecDepth 100000 in
theorem fk_L_13 : sg_fkN RL 13 7 0 false .long := ⟨by decide +kernel, (RX6, TX6, 2), tyX6, "SignkindsLaw", rfl, by decide +kernel, sgo_7, rfl, rfl, ts_2_192.1.2.2.1.2⟩
set_option maxRecDepth 100000 in
theorem fk_L_129 : sg_fkN RL 129 7 1 false (.object "java/lang/String") := ⟨by decide +kernel, (RX6, TX6, 2), tyX6, "SignkindsLaw", rfl, by decide +kernel, sgo_7, rfl, rfl, ts_2_192.1.2.2.2.1⟩
theorem nv_L_8 : ∀ (j : Nat) (v : sg_V), ([sg_n, sg_n, sg_n, sg_i 0] : List sg_V)[j]? = some v → sg_v v (defaultValue (tyX5 j)) := fun j v hv => by
  have hj : j < 4 := (List.getElem?_eq_some_iff.mp hv).1
  rcases (show j = 0 ∨ j = 1 ∨ j = 2 ∨ j = 3 by omega) with rfl | rfl | rfl | rfl
  · cases Option.some.inj hv; exact rfl
  · cases Option.some.inj hv; exact rfl
  · cases Option.some.inj hv; exact rfl
  · cases Option.some.inj hv; exact ⟨0, rfl, rfl⟩
set_option maxRecDepth 100000 in
theorem nk_L_8 : sg_nk RL 8 6 [sg_n, sg_n, sg_n, sg_i 0] 4 := ⟨by decide +kernel, (RX5, TX5, 4), tyX5, rfl, sgo_6, rfl, rfl, nv_L_8, ⟨ts_1_16.1.2.2.2.2, rfl⟩, ⟨ts_1_32.1.1.1.1.1, rfl⟩, ⟨ts_1_0.1.1.1.1.2, rfl⟩⟩
