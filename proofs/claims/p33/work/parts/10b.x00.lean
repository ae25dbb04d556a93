set_option maxRecDepth 100000 in
theorem bf_0 : Bundle.fit "java/lang/IllegalArgumentException" = true := by decide +kernel
set_option maxRecDepth 100000 in
theorem bf_1 : Bundle.fit "java/lang/IllegalStateException" = true := by decide +kernel
set_option maxRecDepth 100000 in
theorem bf_2 : Bundle.fit "java/lang/IndexOutOfBoundsException" = true := by decide +kernel
set_option maxRecDepth 100000 in
theorem bn_0 : ∀ n ∈ (["java/lang/RuntimeException", "java/lang/Exception"] : List String), Bundle.fit n = true := by decide +kernel
set_option maxRecDepth 100000 in
theorem bl_0 : (["java/lang/RuntimeException", "java/lang/Exception"] : List String).length ≤ 6 := by decide
set_option maxRecDepth 100000 in
theorem cw_0 : ∀ x ∈ u_ws RJ0 TJ0 4, sg_ok x := fun x hx => by
  rcases List.mem_map.mp hx with ⟨j, hj, rfl⟩
  have hj := List.mem_range.mp hj
  rcases (show j = 0 ∨ j = 1 ∨ j = 2 ∨ j = 3 by omega) with rfl | rfl | rfl | rfl
  · exact ⟨ts_5_96.1.1.2.2.2, rfl⟩
  · exact ⟨ts_5_96.1.2.1.1.2, rfl⟩
  · exact ⟨ts_5_96.1.2.1.2.2, rfl⟩
  · exact ⟨ts_5_96.1.2.2.1.2, rfl⟩
