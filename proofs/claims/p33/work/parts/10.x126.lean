set_option maxRecDepth 100000 in
theorem cb_L_order : sg_ok (.codeWith yL_order cL_order 5 (some .int) hh_L_order) := ⟨ts_5_144.1.2.1.2.2, rfl⟩
set_option maxRecDepth 100000 in
theorem cb_L_half : sg_ok (.codeWith yL_half cL_half 5 (some .int) hh_L_half) := ⟨ts_5_144.1.2.2.2.2, rfl⟩
set_option maxRecDepth 100000 in
theorem cb_L_code : sg_ok (.codeWith yL_code cL_code 5 (some .int) hh_L_code) := ⟨ts_5_160.1.2.1.1.2, rfl⟩
set_option maxRecDepth 100000 in
theorem cb_L_ofUnit : sg_ok (.codeWith yL_ofUnit cL_ofUnit 5 (some .int) hh_L_ofUnit) := ⟨ts_5_176.1.1.1.2.1, rfl⟩
set_option maxRecDepth 100000 in
theorem cb_L_compare : sg_ok (.codeWith yL_compare cL_compare 5 (some .int) hh_L_compare) := ⟨ts_5_176.1.1.2.2.1, rfl⟩
set_option maxRecDepth 100000 in
theorem cb_L_ofTrack : sg_ok (.codeWith yL_ofTrack cL_ofTrack 5 (some .int) hh_L_ofTrack) := ⟨ts_5_176.1.2.2.1.2, rfl⟩
set_option maxRecDepth 100000 in
theorem cb_L_unit : sg_ok (.codeWith yL_unit cL_unit 5 (some .int) hh_L_unit) := ⟨ts_5_192.1.1.2.1.1, rfl⟩
set_option maxRecDepth 100000 in
theorem cb_L_codeAt : sg_ok (.codeWith yL_codeAt cL_codeAt 5 (some .int) hh_L_codeAt) := ⟨ts_5_192.1.2.1.2.2, rfl⟩
set_option maxRecDepth 100000 in
theorem cb_L_nth : sg_ok (.codeWith yL_nth cL_nth 5 (some .int) hh_L_nth) := ⟨ts_5_208.1.1.1.2.1, rfl⟩
