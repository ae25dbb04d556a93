theorem cb_X7_words : sg_cb mi_X7_words 1 := ⟨ci_X7_words, iz_7, nh_7, pd_6, Nat.le_of_ble_eq_true rfl⟩
set_option maxRecDepth 100000 in
theorem mn_X7_words : sg_ok (.instanceMethod yX7_words) := ⟨ts_7_144.1.2.2.2.2, rfl⟩
set_option maxRecDepth 100000 in
theorem mv_X7_words : sg_ok (.selects RX7 yX7_words yX7_words) := ⟨ts_7_160.1.1.1.1.1, rfl⟩
set_option maxRecDepth 100000 in
theorem ci_X7_wordsOf : sg_ok (.code yX7_wordsOf cX7_wordsOf 4 (some (.object "java/util/ArrayList"))) := ⟨ts_7_160.1.1.2.1.2, rfl⟩
theorem pd_36 : (parseMethodDescriptor "(I)Ljava/util/ArrayList;").map (fun d => d.parameters.length) = some 1 := by decide +kernel
theorem cb_X7_wordsOf : sg_cb mi_X7_wordsOf 1 := ⟨ci_X7_wordsOf, iz_7, nh_7, pd_36, Nat.le_of_ble_eq_true rfl⟩
set_option maxRecDepth 100000 in
theorem mn_X7_wordsOf : sg_ok (.instanceMethod yX7_wordsOf) := ⟨ts_7_160.1.1.2.1.1, rfl⟩
theorem mv_X7_wordsOf : sg_ok (.selects RX7 yX7_wordsOf yX7_wordsOf) := sg_oks 21 (by decide +kernel)
set_option maxRecDepth 100000 in
theorem ci_X7_word : sg_ok (.code yX7_word cX7_word 4 (some .int)) := ⟨ts_7_176.1.1.1.1.2, rfl⟩
theorem cb_X7_word : sg_cb mi_X7_word 3 := ⟨ci_X7_word, iz_7, nh_7, pd_22, Nat.le_of_ble_eq_true rfl⟩
set_option maxRecDepth 100000 in
theorem mn_X7_word : sg_ok (.instanceMethod yX7_word) := ⟨ts_7_160.1.2.2.2.2, rfl⟩
set_option maxRecDepth 100000 in
theorem mv_X7_word : sg_ok (.selects RX7 yX7_word yX7_word) := ⟨ts_7_176.1.1.1.1.1, rfl⟩
