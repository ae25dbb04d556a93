set_option maxRecDepth 100000 in
theorem cb_L_kinds : sg_ok (.codeWith yL_kinds cL_kinds 4 (some .int) hh_L_kinds) := ⟨ts_4_0.1.1.2.2.2, rfl⟩
set_option maxRecDepth 100000 in
theorem cb_L_upper : sg_ok (.codeWith yL_upper cL_upper 5 (some .int) hh_L_upper) := ⟨ts_4_0.1.2.2.2.1, rfl⟩
set_option maxRecDepth 100000 in
theorem cb_L_lower : sg_ok (.codeWith yL_lower cL_lower 5 (some .int) hh_L_lower) := ⟨ts_4_16.1.1.2.1.2, rfl⟩
set_option maxRecDepth 100000 in
theorem cb_L_value : sg_ok (.codeWith yL_value cL_value 5 (some .int) hh_L_value) := ⟨ts_4_16.1.2.2.1.1, rfl⟩
set_option maxRecDepth 100000 in
theorem cb_L_number : sg_ok (.codeWith yL_number cL_number 6 (some .int) hh_L_number) := ⟨ts_4_32.1.1.1.2.2, rfl⟩
set_option maxRecDepth 100000 in
theorem cb_L_length : sg_ok (.codeWith yL_length cL_length 4 (some .int) hh_L_length) := ⟨ts_4_32.1.2.1.2.1, rfl⟩
set_option maxRecDepth 100000 in
theorem cb_L_at : sg_ok (.codeWith yL_at cL_at 5 (some .int) hh_L_at) := ⟨ts_4_48.1.1.1.1.2, rfl⟩
set_option maxRecDepth 100000 in
theorem cb_L_count : sg_ok (.codeWith yL_count cL_count 5 (some .int) hh_L_count) := ⟨ts_4_48.1.2.2.1.2, rfl⟩
set_option maxRecDepth 100000 in
theorem cb_L_first : sg_ok (.codeWith yL_first cL_first 6 (some .int) hh_L_first) := ⟨ts_4_64.1.1.1.1.2, rfl⟩
