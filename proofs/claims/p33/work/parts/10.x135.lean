set_option maxRecDepth 100000 in
theorem ml_X5_297 : sg_ok (.methodLink RX5 297 yX5_isAlike) := ⟨ts_2_144.1.1.2.1.1, rfl⟩
set_option maxRecDepth 100000 in
theorem ml_X5_300 : sg_ok (.methodLink RX5 300 yX5_withTrack) := ⟨ts_2_144.1.2.1.1.1, rfl⟩
set_option maxRecDepth 100000 in
theorem ml_X5_180 : sg_ok (.methodLink RX5 180 yX4_howMany) := ⟨ts_2_144.1.2.2.1.1, rfl⟩
set_option maxRecDepth 100000 in
theorem ml_X4_61 : sg_ok (.methodLink RX4 61 yX4_isCounted) := ⟨ts_2_144.1.2.2.2.2, rfl⟩
set_option maxRecDepth 100000 in
theorem ml_X4_65 : sg_ok (.methodLink RX4 65 yX4_isHalf) := ⟨ts_2_160.1.1.1.2.1, rfl⟩
set_option maxRecDepth 100000 in
theorem ml_X5_356 : sg_ok (.methodLink RX5 356 yX5_ofUnit) := ⟨ts_2_160.1.1.2.1.2, rfl⟩
set_option maxRecDepth 100000 in
theorem ml_X5_167 : sg_ok (.methodLink RX5 167 yX5_checkUnit) := ⟨ts_2_160.1.2.1.1.2, rfl⟩
set_option maxRecDepth 100000 in
theorem ml_X5_173 : sg_ok (.methodLink RX5 173 yX4_isHalf) := ⟨ts_2_160.1.2.2.1.2, rfl⟩
set_option maxRecDepth 100000 in
theorem ml_X5_248 : sg_ok (.methodLink RX5 248 yX4_isHigh) := ⟨ts_2_160.1.2.2.2.1, rfl⟩
