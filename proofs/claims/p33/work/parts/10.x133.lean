set_option maxRecDepth 100000 in
theorem ml_X5_286 : sg_ok (.methodLink RX5 286 yX5_withRow) := ⟨ts_2_64.1.2.2.2.2, rfl⟩
set_option maxRecDepth 100000 in
theorem ml_X5_293 : sg_ok (.methodLink RX5 293 yX5_with) := ⟨ts_2_80.1.1.1.2.2, rfl⟩
set_option maxRecDepth 100000 in
theorem ml_X5_192 : sg_ok (.methodLink RX5 192 yX2_kindsOf) := ⟨ts_2_80.1.1.2.2.2, rfl⟩
set_option maxRecDepth 100000 in
theorem ml_X5_78 : sg_ok (.methodLink RX5 78 yX2_upperOf) := ⟨ts_2_80.1.2.1.2.1, rfl⟩
set_option maxRecDepth 100000 in
theorem ml_X5_90 : sg_ok (.methodLink RX5 90 yX2_lowerOf) := ⟨ts_2_80.1.2.1.2.2, rfl⟩
set_option maxRecDepth 100000 in
theorem ml_X5_195 : sg_ok (.methodLink RX5 195 yX2_signValue) := ⟨ts_2_80.1.2.2.1.1, rfl⟩
set_option maxRecDepth 100000 in
theorem ml_X5_148 : sg_ok (.methodLink RX5 148 yX2_numberOf) := ⟨ts_2_80.1.2.2.2.2, rfl⟩
set_option maxRecDepth 100000 in
theorem ml_X5_344 : sg_ok (.methodLink RX5 344 yX5_count) := ⟨ts_2_96.1.1.1.1.1, rfl⟩
set_option maxRecDepth 100000 in
theorem ml_X5_93 : sg_ok (.methodLink RX5 93 yX5_checkKind) := ⟨ts_2_96.1.1.2.1.1, rfl⟩
