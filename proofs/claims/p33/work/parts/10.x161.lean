set_option maxRecDepth 100000 in
theorem ml_L_305 : sg_ok (.methodLink RL 305 yX7_last) := ⟨ts_7_112.1.1.1.1.2, rfl⟩
set_option maxRecDepth 100000 in
theorem ml_L_308 : sg_ok (.methodLink RL 308 yX7_forms) := ⟨ts_7_112.1.1.2.1.2, rfl⟩
set_option maxRecDepth 100000 in
theorem ml_X7_177 : sg_ok (.methodLink RX7 177 yJ4_init_da8c8) := ⟨ts_7_112.1.2.1.2.2, rfl⟩
set_option maxRecDepth 100000 in
theorem ml_X7_178 : sg_ok (.methodLink RX7 178 yJ4_append_15ec4) := ⟨ts_7_112.1.2.2.1.1, rfl⟩
set_option maxRecDepth 100000 in
theorem ml_X7_192 : sg_ok (.methodLink RX7 192 yJ4_toString_0e30d) := ⟨ts_7_128.1.1.1.2.1, rfl⟩
set_option maxRecDepth 100000 in
theorem ml_L_311 : sg_ok (.methodLink RL 311 yX7_spelled) := ⟨ts_7_128.1.1.1.2.2, rfl⟩
set_option maxRecDepth 100000 in
theorem ml_X7_196 : sg_ok (.methodLink RX7 196 yJ4_append_cf468) := ⟨ts_7_128.1.1.2.2.2, rfl⟩
set_option maxRecDepth 100000 in
theorem ml_L_314 : sg_ok (.methodLink RL 314 yX7_told) := ⟨ts_7_128.1.2.1.1.1, rfl⟩
set_option maxRecDepth 100000 in
theorem ml_X7_201 : sg_ok (.methodLink RX7 201 yX7_toldOf) := ⟨ts_7_128.1.2.2.1.1, rfl⟩
