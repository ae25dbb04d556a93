set_option maxRecDepth 100000 in
theorem ml_L_151 : sg_ok (.methodLink RL 151 yX5_isAlike) := ⟨ts_5_144.1.2.1.1.1, rfl⟩
set_option maxRecDepth 100000 in
theorem ml_L_330 : sg_ok (.methodLink RL 330 yL_order) := ⟨ts_5_144.1.2.1.1.2, rfl⟩
set_option maxRecDepth 100000 in
theorem ml_L_155 : sg_ok (.methodLink RL 155 yX5_order) := ⟨ts_5_144.1.2.2.1.1, rfl⟩
set_option maxRecDepth 100000 in
theorem ml_L_349 : sg_ok (.methodLink RL 349 yL_half) := ⟨ts_5_144.1.2.2.1.2, rfl⟩
set_option maxRecDepth 100000 in
theorem ml_L_158 : sg_ok (.methodLink RL 158 yX5_half) := ⟨ts_5_160.1.1.1.1.1, rfl⟩
set_option maxRecDepth 100000 in
theorem ml_X5_242 : sg_ok (.methodLink RX5 242 yX4_highOf) := ⟨ts_5_160.1.1.2.1.2, rfl⟩
set_option maxRecDepth 100000 in
theorem ml_X5_245 : sg_ok (.methodLink RX5 245 yX4_lowOf) := ⟨ts_5_160.1.1.2.2.1, rfl⟩
set_option maxRecDepth 100000 in
theorem ml_L_352 : sg_ok (.methodLink RL 352 yL_code) := ⟨ts_5_160.1.1.2.2.2, rfl⟩
set_option maxRecDepth 100000 in
theorem ml_L_161 : sg_ok (.methodLink RL 161 yX5_code) := ⟨ts_5_160.1.2.1.2.1, rfl⟩
