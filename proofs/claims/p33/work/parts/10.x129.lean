set_option maxRecDepth 100000 in
theorem ml_L_345 : sg_ok (.methodLink RL 345 yX5_units) := ⟨ts_1_128.1.2.2.1.1, rfl⟩
set_option maxRecDepth 100000 in
theorem ml_X5_161 : sg_ok (.methodLink RX5 161 yX4_unitsOf) := ⟨ts_1_144.1.1.1.1.1, rfl⟩
set_option maxRecDepth 100000 in
theorem ml_L_376 : sg_ok (.methodLink RL 376 yX5_isSound) := ⟨ts_1_144.1.1.1.2.2, rfl⟩
set_option maxRecDepth 100000 in
theorem ml_X5_36 : sg_ok (.methodLink RX5 36 yX5_rowOf) := ⟨ts_1_144.1.1.2.2.2, rfl⟩
set_option maxRecDepth 100000 in
theorem ml_X5_278 : sg_ok (.methodLink RX5 278 yX5_isSoundRow) := ⟨ts_1_208.1.2.2.2.2, rfl⟩
set_option maxRecDepth 100000 in
theorem ml_X5_63 : sg_ok (.methodLink RX5 63 yX0_size) := ⟨ts_1_224.1.1.1.2.1, rfl⟩
set_option maxRecDepth 100000 in
theorem ml_X5_75 : sg_ok (.methodLink RX5 75 yX0_get) := ⟨ts_1_224.1.1.2.2.1, rfl⟩
set_option maxRecDepth 100000 in
theorem ml_X0_19 : sg_ok (.methodLink RX0 19 yX0_hasPlace) := ⟨ts_1_224.1.2.1.2.1, rfl⟩
set_option maxRecDepth 100000 in
theorem ml_X5_336 : sg_ok (.methodLink RX5 336 yX2_isSoundSign) := ⟨ts_1_224.1.2.2.2.1, rfl⟩
