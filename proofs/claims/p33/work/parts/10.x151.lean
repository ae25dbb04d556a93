set_option maxRecDepth 100000 in
theorem ml_X5_256 : sg_ok (.methodLink RX5 256 yX4_codeOf) := ⟨ts_5_160.1.2.2.2.2, rfl⟩
set_option maxRecDepth 100000 in
theorem ml_L_355 : sg_ok (.methodLink RL 355 yL_ofUnit) := ⟨ts_5_176.1.1.1.1.1, rfl⟩
set_option maxRecDepth 100000 in
theorem ml_L_164 : sg_ok (.methodLink RL 164 yX5_ofUnit) := ⟨ts_5_176.1.1.1.2.2, rfl⟩
set_option maxRecDepth 100000 in
theorem ml_L_358 : sg_ok (.methodLink RL 358 yL_compare) := ⟨ts_5_176.1.1.2.1.1, rfl⟩
set_option maxRecDepth 100000 in
theorem ml_L_167 : sg_ok (.methodLink RL 167 yX5_compare) := ⟨ts_5_176.1.1.2.2.2, rfl⟩
set_option maxRecDepth 100000 in
theorem ml_L_361 : sg_ok (.methodLink RL 361 yL_ofTrack) := ⟨ts_5_176.1.2.1.2.2, rfl⟩
set_option maxRecDepth 100000 in
theorem ml_L_170 : sg_ok (.methodLink RL 170 yX5_ofTrack) := ⟨ts_5_176.1.2.2.2.1, rfl⟩
set_option maxRecDepth 100000 in
theorem ml_L_364 : sg_ok (.methodLink RL 364 yL_unit) := ⟨ts_5_192.1.1.1.2.1, rfl⟩
set_option maxRecDepth 100000 in
theorem ml_L_173 : sg_ok (.methodLink RL 173 yX5_unit) := ⟨ts_5_192.1.1.2.1.2, rfl⟩
