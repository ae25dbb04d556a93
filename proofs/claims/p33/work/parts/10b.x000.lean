set_option maxRecDepth 100000 in
theorem cw_0 : ∀ x ∈ u_ws RJ0 TJ0 4, sg_ok x := fun x hx => by
  rcases List.mem_map.mp hx with ⟨j, hj, rfl⟩
  have hj := List.mem_range.mp hj
  rcases (show j = 0 ∨ j = 1 ∨ j = 2 ∨ j = 3 by omega) with rfl | rfl | rfl | rfl
  · exact ⟨ts_5_96.1.1.2.2.2, rfl⟩
  · exact ⟨ts_5_96.1.2.1.1.2, rfl⟩
  · exact ⟨ts_5_96.1.2.1.2.2, rfl⟩
  · exact ⟨ts_5_96.1.2.2.1.2, rfl⟩
theorem sgo_0 : sg_co (RJ0, TJ0, 4) tyJ0 := ⟨cw_0, nmJ0, tyJ0_ok⟩
set_option maxRecDepth 100000 in
theorem cw_1 : ∀ x ∈ u_ws RJ4 TJ4 4, sg_ok x := fun x hx => by
  rcases List.mem_map.mp hx with ⟨j, hj, rfl⟩
  have hj := List.mem_range.mp hj
  rcases (show j = 0 ∨ j = 1 ∨ j = 2 ∨ j = 3 by omega) with rfl | rfl | rfl | rfl
  · exact ⟨ts_4_96.1.2.1.2.2, rfl⟩
  · exact ⟨ts_4_96.1.2.2.1.2, rfl⟩
  · exact ⟨ts_4_96.1.2.2.2.2, rfl⟩
  · exact ⟨ts_4_112.1.1.1.1.2, rfl⟩
