theorem sgo_1 : sg_co (RJ4, TJ4, 4) tyJ4 := ⟨cw_1, nmJ4, tyJ4_ok⟩
set_option maxRecDepth 100000 in
theorem cw_2 : ∀ x ∈ u_ws RJx4a65c TJx4a65c 3, sg_ok x := fun x hx => by
  rcases List.mem_map.mp hx with ⟨j, hj, rfl⟩
  have hj := List.mem_range.mp hj
  rcases (show j = 0 ∨ j = 1 ∨ j = 2 by omega) with rfl | rfl | rfl
  · exact ⟨ts_6_0.1.2.2.1.2, rfl⟩
  · exact ⟨ts_6_0.1.2.1.1.2, rfl⟩
  · exact ⟨ts_6_0.1.2.1.2.2, rfl⟩
theorem sgo_2 : sg_co (RJx4a65c, TJx4a65c, 3) tyJx4a65c := ⟨cw_2, nmJx4a65c, tyJx4a65c_ok⟩
set_option maxRecDepth 100000 in
theorem cw_3 : ∀ x ∈ u_ws RX0 TX0 2, sg_ok x := fun x hx => by
  rcases List.mem_map.mp hx with ⟨j, hj, rfl⟩
  have hj := List.mem_range.mp hj
  rcases (show j = 0 ∨ j = 1 by omega) with rfl | rfl
  · exact ⟨ts_1_48.1.1.2.2.1, rfl⟩
  · exact ⟨ts_1_48.1.2.1.1.1, rfl⟩
theorem sgo_3 : sg_co (RX0, TX0, 2) tyX0 := ⟨cw_3, nmX0, tyX0_ok⟩
