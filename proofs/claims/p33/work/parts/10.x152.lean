set_option maxRecDepth 100000 in
theorem ml_L_367 : sg_ok (.methodLink RL 367 yL_codeAt) := ⟨ts_5_192.1.2.1.1.2, rfl⟩
set_option maxRecDepth 100000 in
theorem ml_L_176 : sg_ok (.methodLink RL 176 yX5_codeAt) := ⟨ts_5_192.1.2.2.1.1, rfl⟩
set_option maxRecDepth 100000 in
theorem ml_L_370 : sg_ok (.methodLink RL 370 yL_nth) := ⟨ts_5_208.1.1.1.1.1, rfl⟩
set_option maxRecDepth 100000 in
theorem ml_L_179 : sg_ok (.methodLink RL 179 yX5_nth) := ⟨ts_5_208.1.1.1.2.2, rfl⟩
set_option maxRecDepth 100000 in
theorem ml_X5_269 : sg_ok (.methodLink RX5 269 yX4_codeBegin) := ⟨ts_5_208.1.1.2.2.2, rfl⟩
set_option maxRecDepth 100000 in
theorem ml_L_373 : sg_ok (.methodLink RL 373 yL_house) := ⟨ts_5_208.1.2.1.2.1, rfl⟩
set_option maxRecDepth 100000 in
theorem ml_L_182 : sg_ok (.methodLink RL 182 yX5_house) := ⟨ts_5_208.1.2.2.1.2, rfl⟩
set_option maxRecDepth 100000 in
theorem ml_L_188 : sg_ok (.methodLink RL 188 yX7_init) := ⟨ts_5_224.1.1.1.1.1, rfl⟩
set_option maxRecDepth 100000 in
theorem ml_X7_17 : sg_ok (.methodLink RX7 17 yJx4a65c_init_da8c8) := ⟨ts_5_224.1.2.1.1.1, rfl⟩
