theorem sgo_7 : sg_co (RX6, TX6, 2) tyX6 := ⟨cw_7, nmX6, tyX6_ok⟩
set_option maxRecDepth 100000 in
theorem cw_8 : ∀ x ∈ u_ws RX7 TX7 4, sg_ok x := fun x hx => by
  rcases List.mem_map.mp hx with ⟨j, hj, rfl⟩
  have hj := List.mem_range.mp hj
  rcases (show j = 0 ∨ j = 1 ∨ j = 2 ∨ j = 3 by omega) with rfl | rfl | rfl | rfl
  · exact ⟨ts_6_16.1.1.2.1.1, rfl⟩
  · exact ⟨ts_6_16.1.1.2.2.1, rfl⟩
  · exact ⟨ts_6_16.1.2.1.1.1, rfl⟩
  · exact ⟨ts_6_16.1.2.1.2.1, rfl⟩
theorem sgo_8 : sg_co (RX7, TX7, 4) tyX7 := ⟨cw_8, nmX7, tyX7_ok⟩
set_option maxRecDepth 100000 in
theorem fk_X0_9 : sg_fk RX0 9 3 0 true (.array .int) := ⟨by decide +kernel, (RX0, TX0, 2), tyX0, "Signkinds$Line", rfl, by decide +kernel, sgo_3, rfl, rfl, fun _ => rfl, ⟨ts_1_48.1.1.2.1.1, rfl⟩, Or.inl rfl⟩
set_option maxRecDepth 100000 in
theorem fk_X0_15 : sg_fk RX0 15 3 1 false .int := ⟨by decide +kernel, (RX0, TX0, 2), tyX0, "Signkinds$Line", rfl, by decide +kernel, sgo_3, rfl, rfl, fun h => (nomatch h), ⟨ts_1_48.1.1.2.1.2, rfl⟩, Or.inl rfl⟩
set_option maxRecDepth 100000 in
theorem fk_X3_11 : sg_fk RX3 11 5 0 true (.array (.object "Signkinds$Line")) := ⟨by decide +kernel, (RX3, TX3, 2), tyX3, "Signkinds$State", rfl, by decide +kernel, sgo_5, rfl, rfl, fun _ => rfl, ⟨ts_1_48.1.2.2.1.1, rfl⟩, Or.inl rfl⟩
set_option maxRecDepth 100000 in
theorem fk_X3_17 : sg_fk RX3 17 5 1 true (.array (.object "Signkinds$Line")) := ⟨by decide +kernel, (RX3, TX3, 2), tyX3, "Signkinds$State", rfl, by decide +kernel, sgo_5, rfl, rfl, fun _ => rfl, ⟨ts_1_48.1.2.2.2.1, rfl⟩, Or.inl rfl⟩
