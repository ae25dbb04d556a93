set_option maxRecDepth 100000 in
theorem ml_X0_27 : sg_ok (.methodLink RX0 27 yX0_get) := ⟨ts_3_16.1.2.1.1.1, rfl⟩
set_option maxRecDepth 100000 in
theorem ml_X0_23 : sg_ok (.methodLink RX0 23 yX0_add) := ⟨ts_3_16.1.2.1.1.2, rfl⟩
set_option maxRecDepth 100000 in
theorem ml_X5_59 : sg_ok (.methodLink RX5 59 yX5_addLaid) := ⟨ts_3_16.1.2.2.1.2, rfl⟩
set_option maxRecDepth 100000 in
theorem ml_X5_129 : sg_ok (.methodLink RX5 129 yX0_add) := ⟨ts_3_32.1.1.1.1.1, rfl⟩
set_option maxRecDepth 100000 in
theorem ml_L_196 : sg_ok (.methodLink RL 196 yL_drop) := ⟨ts_3_32.1.1.1.1.2, rfl⟩
set_option maxRecDepth 100000 in
theorem ml_L_25 : sg_ok (.methodLink RL 25 yX5_drop) := ⟨ts_3_32.1.1.2.1.1, rfl⟩
set_option maxRecDepth 100000 in
theorem ml_X5_67 : sg_ok (.methodLink RX5 67 yX5_shorten) := ⟨ts_3_32.1.2.1.1.1, rfl⟩
set_option maxRecDepth 100000 in
theorem ml_X5_100 : sg_ok (.methodLink RX5 100 yX0_takeAway) := ⟨ts_3_32.1.2.2.1.2, rfl⟩
set_option maxRecDepth 100000 in
theorem ml_L_200 : sg_ok (.methodLink RL 200 yL_copy) := ⟨ts_3_48.1.1.1.1.2, rfl⟩
