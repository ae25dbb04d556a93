set_option maxRecDepth 100000 in
theorem ml_X7_78 : sg_ok (.methodLink RX7 78 yX7_set) := ⟨ts_6_48.1.2.2.1.1, rfl⟩
set_option maxRecDepth 100000 in
theorem ml_X7_49 : sg_ok (.methodLink RX7 49 yJx4a65c_add_9ea2d) := ⟨ts_6_64.1.1.1.1.1, rfl⟩
set_option maxRecDepth 100000 in
theorem ml_X7_53 : sg_ok (.methodLink RX7 53 yJx4a65c_size_8abf5) := ⟨ts_6_96.1.2.2.1.1, rfl⟩
set_option maxRecDepth 100000 in
theorem ml_X7_57 : sg_ok (.methodLink RX7 57 yJx4a65c_remove_915e3) := ⟨ts_6_112.1.1.1.1.1, rfl⟩
set_option maxRecDepth 100000 in
theorem ml_L_199 : sg_ok (.methodLink RL 199 yX7_drop) := ⟨ts_6_112.1.2.2.2.1, rfl⟩
set_option maxRecDepth 100000 in
theorem ml_X7_82 : sg_ok (.methodLink RX7 82 yX7_part) := ⟨ts_6_128.1.1.1.2.1, rfl⟩
set_option maxRecDepth 100000 in
theorem ml_L_202 : sg_ok (.methodLink RL 202 yX7_copy) := ⟨ts_6_128.1.1.2.1.2, rfl⟩
set_option maxRecDepth 100000 in
theorem ml_L_206 : sg_ok (.methodLink RL 206 yX7_raise) := ⟨ts_6_128.1.2.1.1.2, rfl⟩
set_option maxRecDepth 100000 in
theorem ml_X7_96 : sg_ok (.methodLink RX7 96 yX7_cased) := ⟨ts_6_128.1.2.2.1.2, rfl⟩
