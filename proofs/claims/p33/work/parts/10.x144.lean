set_option maxRecDepth 100000 in
theorem ml_L_74 : sg_ok (.methodLink RL 74 yX5_undo) := ⟨ts_3_192.1.2.1.1.2, rfl⟩
set_option maxRecDepth 100000 in
theorem ml_X5_186 : sg_ok (.methodLink RX5 186 yX1_bringBack) := ⟨ts_3_192.1.2.2.2.1, rfl⟩
set_option maxRecDepth 100000 in
theorem ml_L_253 : sg_ok (.methodLink RL 253 yL_isDigit) := ⟨ts_3_208.1.1.1.2.1, rfl⟩
set_option maxRecDepth 100000 in
theorem ml_L_78 : sg_ok (.methodLink RL 78 yX5_isDigit) := ⟨ts_3_208.1.1.2.1.2, rfl⟩
set_option maxRecDepth 100000 in
theorem ml_L_256 : sg_ok (.methodLink RL 256 yL_isLetter) := ⟨ts_3_208.1.2.1.1.2, rfl⟩
set_option maxRecDepth 100000 in
theorem ml_L_82 : sg_ok (.methodLink RL 82 yX5_isLetter) := ⟨ts_3_208.1.2.2.1.1, rfl⟩
set_option maxRecDepth 100000 in
theorem ml_L_259 : sg_ok (.methodLink RL 259 yL_isLetterOrDigit) := ⟨ts_3_224.1.1.1.1.1, rfl⟩
set_option maxRecDepth 100000 in
theorem ml_L_85 : sg_ok (.methodLink RL 85 yX5_isLetterOrDigit) := ⟨ts_3_224.1.1.1.2.2, rfl⟩
set_option maxRecDepth 100000 in
theorem ml_L_262 : sg_ok (.methodLink RL 262 yL_isWhite) := ⟨ts_3_224.1.1.2.2.2, rfl⟩
