set_option maxRecDepth 100000 in
theorem ml_L_190 : sg_ok (.methodLink RL 190 yL_lay) := ⟨ts_2_208.1.1.2.1.1, rfl⟩
set_option maxRecDepth 100000 in
theorem ml_L_7 : sg_ok (.methodLink RL 7 yX5_lay) := ⟨ts_2_208.1.2.1.2.1, rfl⟩
set_option maxRecDepth 100000 in
theorem ml_X5_40 : sg_ok (.methodLink RX5 40 yX5_laid) := ⟨ts_2_208.1.2.2.2.1, rfl⟩
set_option maxRecDepth 100000 in
theorem ml_X5_189 : sg_ok (.methodLink RX5 189 yX5_checkSign) := ⟨ts_2_224.1.1.1.1.2, rfl⟩
set_option maxRecDepth 100000 in
theorem ml_X5_83 : sg_ok (.methodLink RX5 83 yX2_isSign) := ⟨ts_2_224.1.1.2.1.1, rfl⟩
set_option maxRecDepth 100000 in
theorem ml_X5_44 : sg_ok (.methodLink RX5 44 yX0_hasRoomFor) := ⟨ts_2_224.1.2.1.1.1, rfl⟩
set_option maxRecDepth 100000 in
theorem ml_X5_55 : sg_ok (.methodLink RX5 55 yX1_keep) := ⟨ts_3_0.1.2.2.1.1, rfl⟩
set_option maxRecDepth 100000 in
theorem ml_X1_22 : sg_ok (.methodLink RX1 22 yX3_become) := ⟨ts_3_16.1.1.1.1.1, rfl⟩
set_option maxRecDepth 100000 in
theorem ml_X3_27 : sg_ok (.methodLink RX3 27 yX0_become) := ⟨ts_3_16.1.1.2.1.1, rfl⟩
