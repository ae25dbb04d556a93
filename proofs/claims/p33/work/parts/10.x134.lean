set_option maxRecDepth 100000 in
theorem ml_X5_96 : sg_ok (.methodLink RX5 96 yX2_isOf) := ⟨ts_2_112.1.1.2.2.2, rfl⟩
set_option maxRecDepth 100000 in
theorem ml_X5_347 : sg_ok (.methodLink RX5 347 yX5_told) := ⟨ts_2_112.1.2.1.1.1, rfl⟩
set_option maxRecDepth 100000 in
theorem ml_X5_115 : sg_ok (.methodLink RX5 115 yX5_checkRadix) := ⟨ts_2_112.1.2.2.1.1, rfl⟩
set_option maxRecDepth 100000 in
theorem ml_X5_325 : sg_ok (.methodLink RX5 325 yX2_isRadix) := ⟨ts_2_112.1.2.2.2.2, rfl⟩
set_option maxRecDepth 100000 in
theorem ml_X5_350 : sg_ok (.methodLink RX5 350 yX5_values) := ⟨ts_2_128.1.1.1.2.1, rfl⟩
set_option maxRecDepth 100000 in
theorem ml_X5_353 : sg_ok (.methodLink RX5 353 yX5_words) := ⟨ts_2_128.1.1.2.2.1, rfl⟩
set_option maxRecDepth 100000 in
theorem ml_X5_219 : sg_ok (.methodLink RX5 219 yX5_isWordBegin) := ⟨ts_2_128.1.2.1.2.1, rfl⟩
set_option maxRecDepth 100000 in
theorem ml_X5_290 : sg_ok (.methodLink RX5 290 yX5_order) := ⟨ts_2_128.1.2.2.1.2, rfl⟩
set_option maxRecDepth 100000 in
theorem ml_X5_231 : sg_ok (.methodLink RX5 231 yX5_ahead) := ⟨ts_2_144.1.1.1.1.2, rfl⟩
