set_option maxRecDepth 100000 in
theorem cb_L_last : sg_ok (.codeWith yL_last cL_last 5 (some .int) hh_L_last) := ⟨ts_4_64.1.2.1.1.2, rfl⟩
set_option maxRecDepth 100000 in
theorem cb_L_forms : sg_ok (.codeWith yL_forms cL_forms 4 (some .int) hh_L_forms) := ⟨ts_4_80.1.1.1.1.1, rfl⟩
set_option maxRecDepth 100000 in
theorem cb_L_spelled : sg_ok (.codeWith yL_spelled cL_spelled 4 (some .int) hh_L_spelled) := ⟨ts_5_112.1.1.1.2.1, rfl⟩
set_option maxRecDepth 100000 in
theorem cb_L_told : sg_ok (.codeWith yL_told cL_told 5 (some .int) hh_L_told) := ⟨ts_5_112.1.2.1.1.2, rfl⟩
set_option maxRecDepth 100000 in
theorem cb_L_sum : sg_ok (.codeWith yL_sum cL_sum 5 (some .int) hh_L_sum) := ⟨ts_5_112.1.2.2.1.2, rfl⟩
set_option maxRecDepth 100000 in
theorem cb_L_values : sg_ok (.codeWith yL_values cL_values 4 (some .int) hh_L_values) := ⟨ts_5_128.1.1.2.1.1, rfl⟩
set_option maxRecDepth 100000 in
theorem cb_L_words : sg_ok (.codeWith yL_words cL_words 4 (some .int) hh_L_words) := ⟨ts_5_128.1.2.1.1.1, rfl⟩
set_option maxRecDepth 100000 in
theorem cb_L_word : sg_ok (.codeWith yL_word cL_word 6 (some .int) hh_L_word) := ⟨ts_5_128.1.2.2.1.1, rfl⟩
set_option maxRecDepth 100000 in
theorem cb_L_isAlike : sg_ok (.codeWith yL_isAlike cL_isAlike 5 (some .int) hh_L_isAlike) := ⟨ts_5_144.1.1.2.2.2, rfl⟩
