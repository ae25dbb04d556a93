set_option maxRecDepth 100000 in
theorem ml_L_255 : sg_ok (.methodLink RL 255 yX7_isDigit) := ⟨ts_7_32.1.2.1.2.1, rfl⟩
set_option maxRecDepth 100000 in
theorem ml_X7_164 : sg_ok (.methodLink RX7 164 yX7_kindTold) := ⟨ts_7_32.1.2.2.2.1, rfl⟩
set_option maxRecDepth 100000 in
theorem ml_L_258 : sg_ok (.methodLink RL 258 yX7_isLetter) := ⟨ts_7_48.1.1.1.2.1, rfl⟩
set_option maxRecDepth 100000 in
theorem ml_L_261 : sg_ok (.methodLink RL 261 yX7_isLetterOrDigit) := ⟨ts_7_48.1.1.2.2.1, rfl⟩
set_option maxRecDepth 100000 in
theorem ml_L_264 : sg_ok (.methodLink RL 264 yX7_isWhite) := ⟨ts_7_48.1.2.1.2.1, rfl⟩
set_option maxRecDepth 100000 in
theorem ml_L_267 : sg_ok (.methodLink RL 267 yX7_isGreat) := ⟨ts_7_48.1.2.2.2.1, rfl⟩
set_option maxRecDepth 100000 in
theorem ml_L_270 : sg_ok (.methodLink RL 270 yX7_kinds) := ⟨ts_7_64.1.1.1.2.1, rfl⟩
set_option maxRecDepth 100000 in
theorem ml_X7_167 : sg_ok (.methodLink RX7 167 yX7_kindsOf) := ⟨ts_7_64.1.1.2.2.1, rfl⟩
set_option maxRecDepth 100000 in
theorem ml_L_274 : sg_ok (.methodLink RL 274 yX7_upper) := ⟨ts_7_64.1.2.1.1.2, rfl⟩
