set_option maxRecDepth 100000 in
theorem ml_L_278 : sg_ok (.methodLink RL 278 yL_value) := ⟨ts_4_16.1.2.1.2.1, rfl⟩
set_option maxRecDepth 100000 in
theorem ml_L_104 : sg_ok (.methodLink RL 104 yX5_value) := ⟨ts_4_16.1.2.2.1.2, rfl⟩
set_option maxRecDepth 100000 in
theorem ml_L_281 : sg_ok (.methodLink RL 281 yL_number) := ⟨ts_4_32.1.1.1.1.2, rfl⟩
set_option maxRecDepth 100000 in
theorem ml_L_107 : sg_ok (.methodLink RL 107 yX5_number) := ⟨ts_4_32.1.1.2.1.1, rfl⟩
set_option maxRecDepth 100000 in
theorem ml_L_288 : sg_ok (.methodLink RL 288 yL_length) := ⟨ts_4_32.1.2.1.1.1, rfl⟩
set_option maxRecDepth 100000 in
theorem ml_L_110 : sg_ok (.methodLink RL 110 yX5_length) := ⟨ts_4_32.1.2.1.2.2, rfl⟩
set_option maxRecDepth 100000 in
theorem ml_L_291 : sg_ok (.methodLink RL 291 yL_at) := ⟨ts_4_32.1.2.2.2.2, rfl⟩
set_option maxRecDepth 100000 in
theorem ml_L_113 : sg_ok (.methodLink RL 113 yX5_at) := ⟨ts_4_48.1.1.1.2.1, rfl⟩
set_option maxRecDepth 100000 in
theorem ml_X5_198 : sg_ok (.methodLink RX5 198 yX5_numberAt) := ⟨ts_4_48.1.1.2.2.1, rfl⟩
