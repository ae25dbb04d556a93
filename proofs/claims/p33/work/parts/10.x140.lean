set_option maxRecDepth 100000 in
theorem ml_L_214 : sg_ok (.methodLink RL 214 yL_strip) := ⟨ts_3_80.1.1.1.2.1, rfl⟩
set_option maxRecDepth 100000 in
theorem ml_L_43 : sg_ok (.methodLink RL 43 yX5_strip) := ⟨ts_3_80.1.1.2.1.2, rfl⟩
set_option maxRecDepth 100000 in
theorem ml_X5_103 : sg_ok (.methodLink RX5 103 yX0_narrow) := ⟨ts_3_80.1.2.1.1.2, rfl⟩
set_option maxRecDepth 100000 in
theorem ml_L_217 : sg_ok (.methodLink RL 217 yL_turn) := ⟨ts_3_80.1.2.2.1.2, rfl⟩
set_option maxRecDepth 100000 in
theorem ml_L_46 : sg_ok (.methodLink RL 46 yX5_turn) := ⟨ts_3_96.1.1.1.1.1, rfl⟩
set_option maxRecDepth 100000 in
theorem ml_X5_106 : sg_ok (.methodLink RX5 106 yX0_turnRound) := ⟨ts_3_96.1.1.2.1.1, rfl⟩
set_option maxRecDepth 100000 in
theorem ml_X0_31 : sg_ok (.methodLink RX0 31 yX0_set) := ⟨ts_3_96.1.2.1.1.1, rfl⟩
set_option maxRecDepth 100000 in
theorem ml_L_220 : sg_ok (.methodLink RL 220 yL_write) := ⟨ts_3_96.1.2.1.1.2, rfl⟩
set_option maxRecDepth 100000 in
theorem ml_L_49 : sg_ok (.methodLink RL 49 yX5_write) := ⟨ts_3_96.1.2.2.1.1, rfl⟩
