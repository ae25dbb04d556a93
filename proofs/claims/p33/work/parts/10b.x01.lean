theorem sgo_0 : sg_co (RJ0, TJ0, 4) tyJ0 := ⟨cw_0, nmJ0, tyJ0_ok⟩
set_option maxRecDepth 100000 in
theorem cw_1 : ∀ x ∈ u_ws RJ4 TJ4 4, sg_ok x := fun x hx => by
  rcases List.mem_map.mp hx with ⟨j, hj, rfl⟩
  have hj := List.mem_range.mp hj
  rcases (show j = 0 ∨ j = 1 ∨ j = 2 ∨ j = 3 by omega) with rfl | rfl | rfl | rfl
  · exact ⟨ts_4_96.1.2.1.2.2, rfl⟩
  · exact ⟨ts_4_96.1.2.2.1.2, rfl⟩
  · exact ⟨ts_4_96.1.2.2.2.2, rfl⟩
  · exact ⟨ts_4_112.1.1.1.1.2, rfl⟩
theorem sgo_1 : sg_co (RJ4, TJ4, 4) tyJ4 := ⟨cw_1, nmJ4, tyJ4_ok⟩
set_option maxRecDepth 100000 in
theorem cw_2 : ∀ x ∈ u_ws RJx4a65c TJx4a65c 3, sg_ok x := fun x hx => by
  rcases List.mem_map.mp hx with ⟨j, hj, rfl⟩
  have hj := List.mem_range.mp hj
  rcases (show j = 0 ∨ j = 1 ∨ j = 2 by omega) with rfl | rfl | rfl
  · exact ⟨ts_6_0.1.2.2.1.2, rfl⟩
  · exact ⟨ts_6_0.1.2.1.1.2, rfl⟩
  · exact ⟨ts_6_0.1.2.1.2.2, rfl⟩
