set_option maxRecDepth 100000 in
theorem ml_X7_122 : sg_ok (.methodLink RX7 122 yX7_isHigh) := ⟨ts_7_0.1.1.2.2.1, rfl⟩
set_option maxRecDepth 100000 in
theorem ml_X7_125 : sg_ok (.methodLink RX7 125 yX7_isLow) := ⟨ts_7_0.1.2.1.2.1, rfl⟩
set_option maxRecDepth 100000 in
theorem ml_L_244 : sg_ok (.methodLink RL 244 yX7_reverse) := ⟨ts_7_0.1.2.2.2.1, rfl⟩
set_option maxRecDepth 100000 in
theorem ml_X7_153 : sg_ok (.methodLink RX7 153 yX7_codes) := ⟨ts_7_16.1.1.1.2.1, rfl⟩
set_option maxRecDepth 100000 in
theorem ml_X7_150 : sg_ok (.methodLink RX7 150 yX7_codeOf) := ⟨ts_7_16.1.1.2.2.1, rfl⟩
set_option maxRecDepth 100000 in
theorem ml_X7_147 : sg_ok (.methodLink RX7 147 yX7_both) := ⟨ts_7_16.1.2.1.2.1, rfl⟩
set_option maxRecDepth 100000 in
theorem ml_L_248 : sg_ok (.methodLink RL 248 yX7_undo) := ⟨ts_7_16.1.2.2.1.2, rfl⟩
set_option maxRecDepth 100000 in
theorem ml_X7_156 : sg_ok (.methodLink RX7 156 yJx4a65c_isEmpty_aae02) := ⟨ts_7_32.1.1.1.1.2, rfl⟩
set_option maxRecDepth 100000 in
theorem ml_L_252 : sg_ok (.methodLink RL 252 yX7_knock) := ⟨ts_7_32.1.1.2.2.1, rfl⟩
