set_option maxRecDepth 100000 in
theorem cw_4 : ∀ x ∈ u_ws RX1 TX1 2, sg_ok x := fun x hx => by
  rcases List.mem_map.mp hx with ⟨j, hj, rfl⟩
  have hj := List.mem_range.mp hj
  rcases (show j = 0 ∨ j = 1 by omega) with rfl | rfl
  · exact ⟨ts_1_80.1.1.1.1.1, rfl⟩
  · exact ⟨ts_1_80.1.1.1.2.1, rfl⟩
theorem sgo_4 : sg_co (RX1, TX1, 2) tyX1 := ⟨cw_4, nmX1, tyX1_ok⟩
set_option maxRecDepth 100000 in
theorem cw_5 : ∀ x ∈ u_ws RX3 TX3 2, sg_ok x := fun x hx => by
  rcases List.mem_map.mp hx with ⟨j, hj, rfl⟩
  have hj := List.mem_range.mp hj
  rcases (show j = 0 ∨ j = 1 by omega) with rfl | rfl
  · exact ⟨ts_1_64.1.1.1.1.1, rfl⟩
  · exact ⟨ts_1_64.1.1.1.2.1, rfl⟩
theorem sgo_5 : sg_co (RX3, TX3, 2) tyX3 := ⟨cw_5, nmX3, tyX3_ok⟩
set_option maxRecDepth 100000 in
theorem cw_6 : ∀ x ∈ u_ws RX5 TX5 4, sg_ok x := fun x hx => by
  rcases List.mem_map.mp hx with ⟨j, hj, rfl⟩
  have hj := List.mem_range.mp hj
  rcases (show j = 0 ∨ j = 1 ∨ j = 2 ∨ j = 3 by omega) with rfl | rfl | rfl | rfl
  · exact ⟨ts_1_80.1.2.1.2.2, rfl⟩
  · exact ⟨ts_1_80.1.2.2.1.2, rfl⟩
  · exact ⟨ts_1_80.1.2.2.2.2, rfl⟩
  · exact ⟨ts_1_96.1.1.1.1.2, rfl⟩
