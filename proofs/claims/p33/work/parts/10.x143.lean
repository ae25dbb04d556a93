set_option maxRecDepth 100000 in
theorem ml_L_236 : sg_ok (.methodLink RL 236 yL_cut) := ⟨ts_3_160.1.2.2.1.2, rfl⟩
set_option maxRecDepth 100000 in
theorem ml_L_65 : sg_ok (.methodLink RL 65 yX5_cut) := ⟨ts_3_176.1.1.1.1.1, rfl⟩
set_option maxRecDepth 100000 in
theorem ml_L_239 : sg_ok (.methodLink RL 239 yL_flip) := ⟨ts_3_176.1.1.2.1.1, rfl⟩
set_option maxRecDepth 100000 in
theorem ml_L_68 : sg_ok (.methodLink RL 68 yX5_flip) := ⟨ts_3_176.1.1.2.2.2, rfl⟩
set_option maxRecDepth 100000 in
theorem ml_L_242 : sg_ok (.methodLink RL 242 yL_reverse) := ⟨ts_3_176.1.2.1.2.2, rfl⟩
set_option maxRecDepth 100000 in
theorem ml_L_71 : sg_ok (.methodLink RL 71 yX5_reverse) := ⟨ts_3_176.1.2.2.2.1, rfl⟩
set_option maxRecDepth 100000 in
theorem ml_X5_176 : sg_ok (.methodLink RX5 176 yX4_listCodes) := ⟨ts_3_192.1.1.1.2.1, rfl⟩
set_option maxRecDepth 100000 in
theorem ml_X4_54 : sg_ok (.methodLink RX4 54 yX0_clear) := ⟨ts_3_192.1.1.2.1.2, rfl⟩
set_option maxRecDepth 100000 in
theorem ml_L_245 : sg_ok (.methodLink RL 245 yL_undo) := ⟨ts_3_192.1.1.2.2.1, rfl⟩
