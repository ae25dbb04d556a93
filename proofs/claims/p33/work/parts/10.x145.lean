set_option maxRecDepth 100000 in
theorem ml_L_88 : sg_ok (.methodLink RL 88 yX5_isWhite) := ⟨ts_3_224.1.2.1.2.1, rfl⟩
set_option maxRecDepth 100000 in
theorem ml_L_265 : sg_ok (.methodLink RL 265 yL_isGreat) := ⟨ts_3_224.1.2.2.2.1, rfl⟩
set_option maxRecDepth 100000 in
theorem ml_L_91 : sg_ok (.methodLink RL 91 yX5_isGreat) := ⟨ts_4_0.1.1.1.1.2, rfl⟩
set_option maxRecDepth 100000 in
theorem ml_L_268 : sg_ok (.methodLink RL 268 yL_kinds) := ⟨ts_4_0.1.1.2.1.2, rfl⟩
set_option maxRecDepth 100000 in
theorem ml_L_94 : sg_ok (.methodLink RL 94 yX5_kinds) := ⟨ts_4_0.1.2.1.1.1, rfl⟩
set_option maxRecDepth 100000 in
theorem ml_L_271 : sg_ok (.methodLink RL 271 yL_upper) := ⟨ts_4_0.1.2.2.1.1, rfl⟩
set_option maxRecDepth 100000 in
theorem ml_L_97 : sg_ok (.methodLink RL 97 yX5_upper) := ⟨ts_4_0.1.2.2.2.2, rfl⟩
set_option maxRecDepth 100000 in
theorem ml_L_275 : sg_ok (.methodLink RL 275 yL_lower) := ⟨ts_4_16.1.1.1.2.2, rfl⟩
set_option maxRecDepth 100000 in
theorem ml_L_101 : sg_ok (.methodLink RL 101 yX5_lower) := ⟨ts_4_16.1.1.2.2.1, rfl⟩
