theorem sgo_6 : sg_co (RX5, TX5, 4) tyX5 := ⟨cw_6, nmX5, tyX5_ok⟩
set_option maxRecDepth 100000 in
theorem cw_7 : ∀ x ∈ u_ws RX6 TX6 2, sg_ok x := fun x hx => by
  rcases List.mem_map.mp hx with ⟨j, hj, rfl⟩
  have hj := List.mem_range.mp hj
  rcases (show j = 0 ∨ j = 1 by omega) with rfl | rfl
  · exact ⟨ts_2_192.1.2.2.2.2, rfl⟩
  · exact ⟨ts_2_208.1.1.1.1.2, rfl⟩
theorem sgo_7 : sg_co (RX6, TX6, 2) tyX6 := ⟨cw_7, nmX6, tyX6_ok⟩
set_option maxRecDepth 100000 in
theorem cw_8 : ∀ x ∈ u_ws RX7 TX7 4, sg_ok x := fun x hx => by
  rcases List.mem_map.mp hx with ⟨j, hj, rfl⟩
  have hj := List.mem_range.mp hj
  rcases (show j = 0 ∨ j = 1 ∨ j = 2 ∨ j = 3 by omega) with rfl | rfl | rfl | rfl
  · exact ⟨ts_6_16.1.1.2.1.1, rfl⟩
  · exact ⟨ts_6_16.1.1.2.2.1, rfl⟩
  · exact ⟨ts_6_16.1.2.1.1.1, rfl⟩
  · exact ⟨ts_6_16.1.2.1.2.1, rfl⟩
