set_option maxRecDepth 100000 in
theorem cb_L_cut : sg_ok (.codeWith yL_cut cL_cut 5 (some .int) hh_L_cut) := ⟨ts_3_160.1.2.2.2.2, rfl⟩
set_option maxRecDepth 100000 in
theorem cb_L_flip : sg_ok (.codeWith yL_flip cL_flip 4 (some .int) hh_L_flip) := ⟨ts_3_176.1.1.2.2.1, rfl⟩
set_option maxRecDepth 100000 in
theorem cb_L_reverse : sg_ok (.codeWith yL_reverse cL_reverse 4 (some .int) hh_L_reverse) := ⟨ts_3_176.1.2.2.1.2, rfl⟩
set_option maxRecDepth 100000 in
theorem cb_L_undo : sg_ok (.codeWith yL_undo cL_undo 3 (some .int) hh_L_undo) := ⟨ts_3_192.1.2.1.1.1, rfl⟩
set_option maxRecDepth 100000 in
theorem cb_L_isDigit : sg_ok (.codeWith yL_isDigit cL_isDigit 4 (some .int) hh_L_isDigit) := ⟨ts_3_208.1.1.2.1.1, rfl⟩
set_option maxRecDepth 100000 in
theorem cb_L_isLetter : sg_ok (.codeWith yL_isLetter cL_isLetter 4 (some .int) hh_L_isLetter) := ⟨ts_3_208.1.2.1.2.2, rfl⟩
set_option maxRecDepth 100000 in
theorem cb_L_isLetterOrDigit : sg_ok (.codeWith yL_isLetterOrDigit cL_isLetterOrDigit 4 (some .int) hh_L_isLetterOrDigit) := ⟨ts_3_224.1.1.1.2.1, rfl⟩
set_option maxRecDepth 100000 in
theorem cb_L_isWhite : sg_ok (.codeWith yL_isWhite cL_isWhite 4 (some .int) hh_L_isWhite) := ⟨ts_3_224.1.2.1.1.2, rfl⟩
set_option maxRecDepth 100000 in
theorem cb_L_isGreat : sg_ok (.codeWith yL_isGreat cL_isGreat 4 (some .int) hh_L_isGreat) := ⟨ts_4_0.1.1.1.1.1, rfl⟩
