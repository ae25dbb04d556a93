set_option maxRecDepth 100000 in
theorem cb_L_house : sg_ok (.codeWith yL_house cL_house 4 (some .int) hh_L_house) := ⟨ts_5_208.1.2.2.1.1, rfl⟩
set_option maxRecDepth 100000 in
theorem ml_L_185 : sg_ok (.methodLink RL 185 yX5_init) := ⟨ts_1_32.1.1.1.1.2, rfl⟩
set_option maxRecDepth 100000 in
theorem ml_X5_9 : sg_ok (.methodLink RX5 9 yX3_init) := ⟨ts_1_32.1.2.1.1.2, rfl⟩
set_option maxRecDepth 100000 in
theorem ml_X3_20 : sg_ok (.methodLink RX3 20 yX0_init) := ⟨ts_1_48.1.1.1.1.1, rfl⟩
set_option maxRecDepth 100000 in
theorem ml_X5_18 : sg_ok (.methodLink RX5 18 yX1_init) := ⟨ts_1_64.1.1.2.2.2, rfl⟩
set_option maxRecDepth 100000 in
theorem ml_X1_17 : sg_ok (.methodLink RX1 17 yX3_init) := ⟨ts_1_64.1.2.2.1.2, rfl⟩
set_option maxRecDepth 100000 in
theorem ml_X5_25 : sg_ok (.methodLink RX5 25 yX0_init) := ⟨ts_1_80.1.1.2.2.1, rfl⟩
set_option maxRecDepth 100000 in
theorem ml_L_249 : sg_ok (.methodLink RL 249 yX5_knock) := ⟨ts_1_96.1.1.2.1.1, rfl⟩
set_option maxRecDepth 100000 in
theorem ml_L_284 : sg_ok (.methodLink RL 284 yX5_digit) := ⟨ts_1_96.1.2.1.1.1, rfl⟩
