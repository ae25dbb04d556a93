set_option maxRecDepth 100000 in
theorem ml_L_227 : sg_ok (.methodLink RL 227 yL_read) := ⟨ts_3_144.1.1.1.1.1, rfl⟩
set_option maxRecDepth 100000 in
theorem ml_L_56 : sg_ok (.methodLink RL 56 yX5_read) := ⟨ts_3_144.1.1.1.2.2, rfl⟩
set_option maxRecDepth 100000 in
theorem ml_X5_144 : sg_ok (.methodLink RX5 144 yX5_canBeRead) := ⟨ts_3_144.1.1.2.2.2, rfl⟩
set_option maxRecDepth 100000 in
theorem ml_L_230 : sg_ok (.methodLink RL 230 yL_send) := ⟨ts_3_144.1.2.1.2.1, rfl⟩
set_option maxRecDepth 100000 in
theorem ml_L_59 : sg_ok (.methodLink RL 59 yX5_send) := ⟨ts_3_144.1.2.2.1.2, rfl⟩
set_option maxRecDepth 100000 in
theorem ml_X5_164 : sg_ok (.methodLink RX5 164 yX4_addCode) := ⟨ts_3_160.1.1.1.2.1, rfl⟩
set_option maxRecDepth 100000 in
theorem ml_X4_30 : sg_ok (.methodLink RX4 30 yX0_add) := ⟨ts_3_160.1.1.2.1.2, rfl⟩
set_option maxRecDepth 100000 in
theorem ml_L_233 : sg_ok (.methodLink RL 233 yL_put) := ⟨ts_3_160.1.1.2.2.1, rfl⟩
set_option maxRecDepth 100000 in
theorem ml_L_62 : sg_ok (.methodLink RL 62 yX5_put) := ⟨ts_3_160.1.2.1.1.2, rfl⟩
