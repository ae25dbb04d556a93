set_option maxRecDepth 100000 in
theorem ml_X5_205 : sg_ok (.methodLink RX5 205 yJ4_init_da8c8) := ⟨ts_4_80.1.1.2.2.2, rfl⟩
set_option maxRecDepth 100000 in
theorem ml_X5_206 : sg_ok (.methodLink RX5 206 yX2_formOf) := ⟨ts_4_112.1.1.2.1.1, rfl⟩
set_option maxRecDepth 100000 in
theorem ml_X5_210 : sg_ok (.methodLink RX5 210 yJ4_append_cf468) := ⟨ts_4_112.1.1.2.2.2, rfl⟩
set_option maxRecDepth 100000 in
theorem ml_X5_214 : sg_ok (.methodLink RX5 214 yJ4_toString_0e30d) := ⟨ts_4_208.1.1.2.2.1, rfl⟩
set_option maxRecDepth 100000 in
theorem ml_L_309 : sg_ok (.methodLink RL 309 yL_spelled) := ⟨ts_5_112.1.1.1.1.1, rfl⟩
set_option maxRecDepth 100000 in
theorem ml_L_133 : sg_ok (.methodLink RL 133 yX5_spelled) := ⟨ts_5_112.1.1.1.2.2, rfl⟩
set_option maxRecDepth 100000 in
theorem ml_L_312 : sg_ok (.methodLink RL 312 yL_told) := ⟨ts_5_112.1.1.2.2.2, rfl⟩
set_option maxRecDepth 100000 in
theorem ml_L_136 : sg_ok (.methodLink RL 136 yX5_told) := ⟨ts_5_112.1.2.1.2.1, rfl⟩
set_option maxRecDepth 100000 in
theorem ml_L_315 : sg_ok (.methodLink RL 315 yL_sum) := ⟨ts_5_112.1.2.1.2.2, rfl⟩
