set_option maxRecDepth 100000 in
theorem ml_L_29 : sg_ok (.methodLink RL 29 yX5_copy) := ⟨ts_3_48.1.1.2.1.1, rfl⟩
set_option maxRecDepth 100000 in
theorem ml_X5_71 : sg_ok (.methodLink RX5 71 yX0_become) := ⟨ts_3_48.1.2.1.1.1, rfl⟩
set_option maxRecDepth 100000 in
theorem ml_L_203 : sg_ok (.methodLink RL 203 yL_raise) := ⟨ts_3_48.1.2.1.1.2, rfl⟩
set_option maxRecDepth 100000 in
theorem ml_L_32 : sg_ok (.methodLink RL 32 yX5_raise) := ⟨ts_3_48.1.2.2.1.1, rfl⟩
set_option maxRecDepth 100000 in
theorem ml_X5_86 : sg_ok (.methodLink RX5 86 yX0_set) := ⟨ts_3_64.1.1.1.1.1, rfl⟩
set_option maxRecDepth 100000 in
theorem ml_L_207 : sg_ok (.methodLink RL 207 yL_sink) := ⟨ts_3_64.1.1.2.1.1, rfl⟩
set_option maxRecDepth 100000 in
theorem ml_L_36 : sg_ok (.methodLink RL 36 yX5_sink) := ⟨ts_3_64.1.1.2.2.2, rfl⟩
set_option maxRecDepth 100000 in
theorem ml_L_210 : sg_ok (.methodLink RL 210 yL_sieve) := ⟨ts_3_64.1.2.1.2.2, rfl⟩
set_option maxRecDepth 100000 in
theorem ml_L_39 : sg_ok (.methodLink RL 39 yX5_sieve) := ⟨ts_3_64.1.2.2.2.1, rfl⟩
