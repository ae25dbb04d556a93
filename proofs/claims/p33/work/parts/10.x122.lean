set_option maxRecDepth 100000 in
theorem cb_L_sink : sg_ok (.codeWith yL_sink cL_sink 4 (some .int) hh_L_sink) := ⟨ts_3_64.1.1.2.2.1, rfl⟩
set_option maxRecDepth 100000 in
theorem cb_L_sieve : sg_ok (.codeWith yL_sieve cL_sieve 6 (some .int) hh_L_sieve) := ⟨ts_3_64.1.2.2.1.2, rfl⟩
set_option maxRecDepth 100000 in
theorem cb_L_strip : sg_ok (.codeWith yL_strip cL_strip 4 (some .int) hh_L_strip) := ⟨ts_3_80.1.1.2.1.1, rfl⟩
set_option maxRecDepth 100000 in
theorem cb_L_turn : sg_ok (.codeWith yL_turn cL_turn 4 (some .int) hh_L_turn) := ⟨ts_3_80.1.2.2.2.2, rfl⟩
set_option maxRecDepth 100000 in
theorem cb_L_write : sg_ok (.codeWith yL_write cL_write 6 (some .int) hh_L_write) := ⟨ts_3_96.1.2.1.2.2, rfl⟩
set_option maxRecDepth 100000 in
theorem cb_L_spell : sg_ok (.codeWith yL_spell cL_spell 5 (some .int) hh_L_spell) := ⟨ts_3_112.1.2.2.1.2, rfl⟩
set_option maxRecDepth 100000 in
theorem cb_L_read : sg_ok (.codeWith yL_read cL_read 5 (some .int) hh_L_read) := ⟨ts_3_144.1.1.1.2.1, rfl⟩
set_option maxRecDepth 100000 in
theorem cb_L_send : sg_ok (.codeWith yL_send cL_send 5 (some .int) hh_L_send) := ⟨ts_3_144.1.2.2.1.1, rfl⟩
set_option maxRecDepth 100000 in
theorem cb_L_put : sg_ok (.codeWith yL_put cL_put 5 (some .int) hh_L_put) := ⟨ts_3_160.1.2.1.1.1, rfl⟩
