set_option maxRecDepth 100000 in
theorem ci_X2_isAnyLetter : sg_ok (.code yX2_isAnyLetter cX2_isAnyLetter 1 (some .boolean)) := ⟨ts_2_0.1.2.1.1.2, rfl⟩
theorem cb_X2_isAnyLetter : sg_cb mi_X2_isAnyLetter 1 := ⟨ci_X2_isAnyLetter, iz_4, nh_4, pd_4, Nat.le_of_ble_eq_true rfl⟩
set_option maxRecDepth 100000 in
theorem ms_X2_isAnyLetter : sg_ok (.static yX2_isAnyLetter) := ⟨ts_2_0.1.2.1.1.1, rfl⟩
set_option maxRecDepth 100000 in
theorem ci_X2_isGreatPlain : sg_ok (.code yX2_isGreatPlain cX2_isGreatPlain 1 (some .boolean)) := ⟨ts_2_0.1.2.2.1.1, rfl⟩
theorem cb_X2_isGreatPlain : sg_cb mi_X2_isGreatPlain 1 := ⟨ci_X2_isGreatPlain, iz_4, nh_4, pd_4, Nat.le_of_ble_eq_true rfl⟩
set_option maxRecDepth 100000 in
theorem ms_X2_isGreatPlain : sg_ok (.static yX2_isGreatPlain) := ⟨ts_2_0.1.2.1.2.2, rfl⟩
set_option maxRecDepth 100000 in
theorem ci_X2_isSmallPlain : sg_ok (.code yX2_isSmallPlain cX2_isSmallPlain 1 (some .boolean)) := ⟨ts_2_0.1.2.2.2.2, rfl⟩
theorem cb_X2_isSmallPlain : sg_cb mi_X2_isSmallPlain 1 := ⟨ci_X2_isSmallPlain, iz_4, nh_4, pd_4, Nat.le_of_ble_eq_true rfl⟩
set_option maxRecDepth 100000 in
theorem ms_X2_isSmallPlain : sg_ok (.static yX2_isSmallPlain) := ⟨ts_2_0.1.2.2.2.1, rfl⟩
set_option maxRecDepth 100000 in
theorem ci_X2_isAnyGreat : sg_ok (.code yX2_isAnyGreat cX2_isAnyGreat 1 (some .boolean)) := ⟨ts_2_16.1.1.1.2.1, rfl⟩
theorem cb_X2_isAnyGreat : sg_cb mi_X2_isAnyGreat 1 := ⟨ci_X2_isAnyGreat, iz_4, nh_4, pd_4, Nat.le_of_ble_eq_true rfl⟩
