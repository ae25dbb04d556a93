def mi_Jx4a65c_grow_92f84 : sg_M := (yJx4a65c_grow_92f84, cJx4a65c_grow_92f84, 4, (some (.array (.object "java/lang/Object"))))
def mi_Jx4a65c_grow_d5877 : sg_M := (yJx4a65c_grow_d5877, cJx4a65c_grow_d5877, 1, (some (.array (.object "java/lang/Object"))))
def mi_Jx4a65c_elementData_915e3 : sg_M := (yJx4a65c_elementData_915e3, cJx4a65c_elementData_915e3, 2, (some (.object "java/lang/Object")))
def mi_Jx4a65c_add_72be8 : sg_M := (yJx4a65c_add_72be8, cJx4a65c_add_72be8, 4, (none : Option Jvm.ClassFile.FieldType))
def mi_Jx4a65c_fastRemove_b59b0 : sg_M := (yJx4a65c_fastRemove_b59b0, cJx4a65c_fastRemove_b59b0, 4, (none : Option Jvm.ClassFile.FieldType))
def mi_Jxc12de_init_da8c8 : sg_M := (yJxc12de_init_da8c8, cJxc12de_init_da8c8, 1, (none : Option Jvm.ClassFile.FieldType))
def mi_Jxa1e45_init_da8c8 : sg_M := (yJxa1e45_init_da8c8, cJxa1e45_init_da8c8, 1, (none : Option Jvm.ClassFile.FieldType))
def mi_J4_length_8abf5 : sg_M := (yJ4_length_8abf5, cJ4_length_8abf5, 1, (some .int))
def mi_J5_init_d00df : sg_M := (yJ5_init_d00df, cJ5_init_d00df, 2, (none : Option Jvm.ClassFile.FieldType))
def mi_J5_length_8abf5 : sg_M := (yJ5_length_8abf5, cJ5_length_8abf5, 1, (some .int))
def mi_J5_ensureCapacityInternal_d00df : sg_M := (yJ5_ensureCapacityInternal_d00df, cJ5_ensureCapacityInternal_d00df, 3, (none : Option Jvm.ClassFile.FieldType))
def mi_J5_newCapacity_0f7a4 : sg_M := (yJ5_newCapacity_0f7a4, cJ5_newCapacity_0f7a4, 6, (some .int))
def mi_J5_append_cf1ce : sg_M := (yJ5_append_cf1ce, cJ5_append_cf1ce, 3, (some (.object "java/lang/AbstractStringBuilder")))
def mi_J5_append_3fe6f : sg_M := (yJ5_append_3fe6f, cJ5_append_3fe6f, 2, (some (.object "java/lang/AbstractStringBuilder")))
def mi_J5_getValue_6d5f1 : sg_M := (yJ5_getValue_6d5f1, cJ5_getValue_6d5f1, 1, (some (.array .byte)))
def mi_J5_isLatin1_aae02 : sg_M := (yJ5_isLatin1_aae02, cJ5_isLatin1_aae02, 1, (some .boolean))
def mi_J5_inflateIfNeededFor_a7421 : sg_M := (yJ5_inflateIfNeededFor_a7421, cJ5_inflateIfNeededFor_a7421, 2, (none : Option Jvm.ClassFile.FieldType))
def mi_J5_putStringAt_47b60 : sg_M := (yJ5_putStringAt_47b60, cJ5_putStringAt_47b60, 3, (none : Option Jvm.ClassFile.FieldType))
def mi_J0_init_81219 : sg_M := (yJ0_init_81219, cJ0_init_81219, 2, (none : Option Jvm.ClassFile.FieldType))
def mi_J0_init_db425 : sg_M := (yJ0_init_db425, cJ0_init_db425, 5, (none : Option Jvm.ClassFile.FieldType))
def mi_J0_length_8abf5 : sg_M := (yJ0_length_8abf5, cJ0_length_8abf5, 1, (some .int))
def mi_J0_getBytes_840e7 : sg_M := (yJ0_getBytes_840e7, cJ0_getBytes_840e7, 4, (none : Option Jvm.ClassFile.FieldType))
def mi_J0_coder_7d493 : sg_M := (yJ0_coder_7d493, cJ0_coder_7d493, 1, (some .byte))
def mi_J7_copyOf_1904c : sg_M := (yJ7_copyOf_1904c, cJ7_copyOf_1904c, 2, (some (.array (.object "java/lang/Object"))))
def mi_J7_copyOf_6403c : sg_M := (yJ7_copyOf_6403c, cJ7_copyOf_6403c, 4, (some (.array (.object "java/lang/Object"))))
def mi_J7_copyOf_9075b : sg_M := (yJ7_copyOf_9075b, cJ7_copyOf_9075b, 3, (some (.array .byte)))
def mi_J7_checkLength_df160 : sg_M := (yJ7_checkLength_df160, cJ7_checkLength_df160, 2, (none : Option Jvm.ClassFile.FieldType))
def mi_J7_copyOfRange_39247 : sg_M := (yJ7_copyOfRange_39247, cJ7_copyOfRange_39247, 3, (some (.array .byte)))
def mi_J7_copyOfRangeByte_39247 : sg_M := (yJ7_copyOfRangeByte_39247, cJ7_copyOfRangeByte_39247, 5, (some (.array .byte)))
def mi_J8_newLength_cabcc : sg_M := (yJ8_newLength_cabcc, cJ8_newLength_cabcc, 4, (some .int))
def mi_J15_checkIndex_7cf53 : sg_M := (yJ15_checkIndex_7cf53, cJ15_checkIndex_7cf53, 2, (some .int))
def mi_J3_checkIndex_8e157 : sg_M := (yJ3_checkIndex_8e157, cJ3_checkIndex_8e157, 3, (some .int))
def mi_J1_canEncode_fc78d : sg_M := (yJ1_canEncode_fc78d, cJ1_canEncode_fc78d, 1, (some .boolean))
set_option maxRecDepth 100000 in
theorem cb_Jx4a65c_grow_92f84 : sg_cb mi_Jx4a65c_grow_92f84 1 := ⟨⟨ts_6_64.1.2.2.2.2, rfl⟩, ⟨ts_1_0.1.2.1.1.1, rfl⟩, ⟨by decide +kernel, by decide +kernel⟩, by decide +kernel, by decide +kernel⟩
set_option maxRecDepth 100000 in
theorem mn_Jx4a65c_grow_92f84 : sg_ok (.instanceMethod yJx4a65c_grow_92f84) := ⟨ts_6_64.1.2.2.2.1, rfl⟩
theorem mv_Jx4a65c_grow_92f84 : sg_ok (.selects RJx4a65c yJx4a65c_grow_92f84 yJx4a65c_grow_92f84) := sg_oks 11 (by decide +kernel)
set_option maxRecDepth 100000 in
theorem cb_Jx4a65c_grow_d5877 : sg_cb mi_Jx4a65c_grow_d5877 0 := ⟨⟨ts_6_64.1.2.1.2.2, rfl⟩, ⟨ts_1_0.1.2.1.1.1, rfl⟩, ⟨by decide +kernel, by decide +kernel⟩, by decide +kernel, by decide +kernel⟩
set_option maxRecDepth 100000 in
theorem mn_Jx4a65c_grow_d5877 : sg_ok (.instanceMethod yJx4a65c_grow_d5877) := ⟨ts_6_64.1.2.1.2.1, rfl⟩
theorem mv_Jx4a65c_grow_d5877 : sg_ok (.selects RJx4a65c yJx4a65c_grow_d5877 yJx4a65c_grow_d5877) := sg_oks 10 (by decide +kernel)
set_option maxRecDepth 100000 in
theorem cb_Jx4a65c_elementData_915e3 : sg_cb mi_Jx4a65c_elementData_915e3 1 := ⟨⟨ts_7_160.1.2.2.1.2, rfl⟩, ⟨ts_1_0.1.2.1.1.1, rfl⟩, ⟨by decide +kernel, by decide +kernel⟩, by decide +kernel, by decide +kernel⟩
set_option maxRecDepth 100000 in
theorem mn_Jx4a65c_elementData_915e3 : sg_ok (.instanceMethod yJx4a65c_elementData_915e3) := ⟨ts_7_160.1.2.1.2.2, rfl⟩
set_option maxRecDepth 100000 in
theorem mv_Jx4a65c_elementData_915e3 : sg_ok (.selects RJx4a65c yJx4a65c_elementData_915e3 yJx4a65c_elementData_915e3) := ⟨ts_7_160.1.2.2.1.1, rfl⟩
set_option maxRecDepth 100000 in
theorem cb_Jx4a65c_add_72be8 : sg_cb mi_Jx4a65c_add_72be8 3 := ⟨⟨ts_6_64.1.1.2.2.2, rfl⟩, ⟨ts_1_0.1.2.1.1.1, rfl⟩, ⟨by decide +kernel, by decide +kernel⟩, by decide +kernel, by decide +kernel⟩
set_option maxRecDepth 100000 in
theorem mn_Jx4a65c_add_72be8 : sg_ok (.instanceMethod yJx4a65c_add_72be8) := ⟨ts_6_64.1.1.2.2.1, rfl⟩
theorem mv_Jx4a65c_add_72be8 : sg_ok (.selects RJx4a65c yJx4a65c_add_72be8 yJx4a65c_add_72be8) := sg_oks 9 (by decide +kernel)
set_option maxRecDepth 100000 in
theorem cb_Jx4a65c_fastRemove_b59b0 : sg_cb mi_Jx4a65c_fastRemove_b59b0 2 := ⟨⟨ts_6_112.1.2.1.2.2, rfl⟩, ⟨ts_1_0.1.2.1.1.1, rfl⟩, ⟨by decide +kernel, by decide +kernel⟩, by decide +kernel, by decide +kernel⟩
set_option maxRecDepth 100000 in
theorem mn_Jx4a65c_fastRemove_b59b0 : sg_ok (.instanceMethod yJx4a65c_fastRemove_b59b0) := ⟨ts_6_112.1.2.1.2.1, rfl⟩
theorem mv_Jx4a65c_fastRemove_b59b0 : sg_ok (.selects RJx4a65c yJx4a65c_fastRemove_b59b0 yJx4a65c_fastRemove_b59b0) := sg_oks 12 (by decide +kernel)
set_option maxRecDepth 100000 in
theorem cb_Jxc12de_init_da8c8 : sg_cb mi_Jxc12de_init_da8c8 0 := ⟨⟨ts_5_224.1.2.2.1.2, rfl⟩, ⟨ts_1_0.1.1.2.2.2, rfl⟩, ⟨by decide +kernel, by decide +kernel⟩, by decide +kernel, by decide +kernel⟩
set_option maxRecDepth 100000 in
theorem mn_Jxc12de_init_da8c8 : sg_ok (.instanceMethod yJxc12de_init_da8c8) := ⟨ts_5_224.1.2.2.1.1, rfl⟩
set_option maxRecDepth 100000 in
theorem cb_Jxa1e45_init_da8c8 : sg_cb mi_Jxa1e45_init_da8c8 0 := ⟨⟨ts_6_0.1.1.1.1.1, rfl⟩, ⟨ts_1_0.1.1.2.2.1, rfl⟩, ⟨by decide +kernel, by decide +kernel⟩, by decide +kernel, by decide +kernel⟩
set_option maxRecDepth 100000 in
theorem mn_Jxa1e45_init_da8c8 : sg_ok (.instanceMethod yJxa1e45_init_da8c8) := ⟨ts_5_224.1.2.2.2.2, rfl⟩
set_option maxRecDepth 100000 in
theorem cb_J4_length_8abf5 : sg_cb mi_J4_length_8abf5 0 := ⟨⟨(tm_4 (List.mem_of_getElem? (i := 237) rfl)), rfl⟩, ⟨ts_1_16.1.2.1.1.2, rfl⟩, ⟨by decide +kernel, by decide +kernel⟩, by decide +kernel, by decide +kernel⟩
set_option maxRecDepth 100000 in
theorem mn_J4_length_8abf5 : sg_ok (.instanceMethod yJ4_length_8abf5) := ⟨(tm_4 (List.mem_of_getElem? (i := 236) rfl)), rfl⟩
set_option maxRecDepth 100000 in
theorem cb_J5_init_d00df : sg_cb mi_J5_init_d00df 1 := ⟨⟨ts_4_80.1.2.2.1.1, rfl⟩, ⟨ts_1_16.1.2.1.1.1, rfl⟩, ⟨by decide +kernel, by decide +kernel⟩, by decide +kernel, by decide +kernel⟩
set_option maxRecDepth 100000 in
theorem mn_J5_init_d00df : sg_ok (.instanceMethod yJ5_init_d00df) := ⟨ts_4_80.1.2.1.2.2, rfl⟩
set_option maxRecDepth 100000 in
theorem cb_J5_length_8abf5 : sg_cb mi_J5_length_8abf5 0 := ⟨⟨(tm_4 (List.mem_of_getElem? (i := 239) rfl)), rfl⟩, ⟨ts_1_16.1.2.1.1.1, rfl⟩, ⟨by decide +kernel, by decide +kernel⟩, by decide +kernel, by decide +kernel⟩
set_option maxRecDepth 100000 in
theorem mn_J5_length_8abf5 : sg_ok (.instanceMethod yJ5_length_8abf5) := ⟨(tm_4 (List.mem_of_getElem? (i := 233) rfl)), rfl⟩
set_option maxRecDepth 100000 in
theorem cb_J5_ensureCapacityInternal_d00df : sg_cb mi_J5_ensureCapacityInternal_d00df 1 := ⟨⟨ts_4_128.1.1.1.1.2, rfl⟩, ⟨ts_1_16.1.2.1.1.1, rfl⟩, ⟨by decide +kernel, by decide +kernel⟩, by decide +kernel, by decide +kernel⟩
set_option maxRecDepth 100000 in
theorem mn_J5_ensureCapacityInternal_d00df : sg_ok (.instanceMethod yJ5_ensureCapacityInternal_d00df) := ⟨ts_4_128.1.1.1.1.1, rfl⟩
set_option maxRecDepth 100000 in
theorem cb_J5_newCapacity_0f7a4 : sg_cb mi_J5_newCapacity_0f7a4 1 := ⟨⟨ts_4_128.1.1.2.1.2, rfl⟩, ⟨ts_1_16.1.2.1.1.1, rfl⟩, ⟨by decide +kernel, by decide +kernel⟩, by decide +kernel, by decide +kernel⟩
set_option maxRecDepth 100000 in
theorem mn_J5_newCapacity_0f7a4 : sg_ok (.instanceMethod yJ5_newCapacity_0f7a4) := ⟨ts_4_128.1.1.2.1.1, rfl⟩
set_option maxRecDepth 100000 in
theorem cb_J5_append_cf1ce : sg_cb mi_J5_append_cf1ce 1 := ⟨⟨ts_5_48.1.1.2.2.1, rfl⟩, ⟨ts_1_16.1.2.1.1.1, rfl⟩, ⟨by decide +kernel, by decide +kernel⟩, by decide +kernel, by decide +kernel⟩
set_option maxRecDepth 100000 in
theorem mn_J5_append_cf1ce : sg_ok (.instanceMethod yJ5_append_cf1ce) := ⟨ts_5_48.1.1.2.1.2, rfl⟩
set_option maxRecDepth 100000 in
theorem cb_J5_append_3fe6f : sg_cb mi_J5_append_3fe6f 1 := ⟨⟨ts_4_112.1.2.2.1.2, rfl⟩, ⟨ts_1_16.1.2.1.1.1, rfl⟩, ⟨by decide +kernel, by decide +kernel⟩, by decide +kernel, by decide +kernel⟩
set_option maxRecDepth 100000 in
theorem mn_J5_append_3fe6f : sg_ok (.instanceMethod yJ5_append_3fe6f) := ⟨ts_4_112.1.2.2.1.1, rfl⟩
set_option maxRecDepth 100000 in
theorem cb_J5_getValue_6d5f1 : sg_cb mi_J5_getValue_6d5f1 0 := ⟨⟨(tm_4 (List.mem_of_getElem? (i := 231) rfl)), rfl⟩, ⟨ts_1_16.1.2.1.1.1, rfl⟩, ⟨by decide +kernel, by decide +kernel⟩, by decide +kernel, by decide +kernel⟩
set_option maxRecDepth 100000 in
theorem mn_J5_getValue_6d5f1 : sg_ok (.instanceMethod yJ5_getValue_6d5f1) := ⟨(tm_4 (List.mem_of_getElem? (i := 228) rfl)), rfl⟩
set_option maxRecDepth 100000 in
theorem cb_J5_isLatin1_aae02 : sg_cb mi_J5_isLatin1_aae02 0 := ⟨⟨ts_4_160.1.1.2.1.2, rfl⟩, ⟨ts_1_16.1.2.1.1.1, rfl⟩, ⟨by decide +kernel, by decide +kernel⟩, by decide +kernel, by decide +kernel⟩
set_option maxRecDepth 100000 in
theorem mn_J5_isLatin1_aae02 : sg_ok (.instanceMethod yJ5_isLatin1_aae02) := ⟨ts_4_160.1.1.1.2.1, rfl⟩
set_option maxRecDepth 100000 in
theorem cb_J5_inflateIfNeededFor_a7421 : sg_cb mi_J5_inflateIfNeededFor_a7421 1 := ⟨⟨ts_5_64.1.2.2.2.1, rfl⟩, ⟨ts_1_16.1.2.1.1.1, rfl⟩, ⟨by decide +kernel, by decide +kernel⟩, by decide +kernel, by decide +kernel⟩
set_option maxRecDepth 100000 in
theorem mn_J5_inflateIfNeededFor_a7421 : sg_ok (.instanceMethod yJ5_inflateIfNeededFor_a7421) := ⟨ts_5_64.1.2.2.1.2, rfl⟩
set_option maxRecDepth 100000 in
theorem cb_J5_putStringAt_47b60 : sg_cb mi_J5_putStringAt_47b60 2 := ⟨⟨ts_5_64.1.2.1.2.1, rfl⟩, ⟨ts_1_16.1.2.1.1.1, rfl⟩, ⟨by decide +kernel, by decide +kernel⟩, by decide +kernel, by decide +kernel⟩
set_option maxRecDepth 100000 in
theorem mn_J5_putStringAt_47b60 : sg_ok (.instanceMethod yJ5_putStringAt_47b60) := ⟨ts_5_64.1.2.1.1.2, rfl⟩
set_option maxRecDepth 100000 in
theorem cb_J0_init_81219 : sg_cb mi_J0_init_81219 1 := ⟨⟨ts_4_208.1.2.2.2.1, rfl⟩, ⟨ts_1_16.1.2.1.2.1, rfl⟩, ⟨by decide +kernel, by decide +kernel⟩, by decide +kernel, by decide +kernel⟩
set_option maxRecDepth 100000 in
theorem mn_J0_init_81219 : sg_ok (.instanceMethod yJ0_init_81219) := ⟨ts_4_208.1.2.2.1.2, rfl⟩
set_option maxRecDepth 100000 in
theorem cb_J0_init_db425 : sg_cb mi_J0_init_db425 2 := ⟨⟨(tm_4 (List.mem_of_getElem? (i := 225) rfl)), rfl⟩, ⟨ts_1_16.1.2.1.2.1, rfl⟩, ⟨by decide +kernel, by decide +kernel⟩, by decide +kernel, by decide +kernel⟩
set_option maxRecDepth 100000 in
theorem mn_J0_init_db425 : sg_ok (.instanceMethod yJ0_init_db425) := ⟨(tm_4 (List.mem_of_getElem? (i := 224) rfl)), rfl⟩
set_option maxRecDepth 100000 in
theorem cb_J0_length_8abf5 : sg_cb mi_J0_length_8abf5 0 := ⟨⟨ts_5_64.1.1.1.1.2, rfl⟩, ⟨ts_1_16.1.2.1.2.1, rfl⟩, ⟨by decide +kernel, by decide +kernel⟩, by decide +kernel, by decide +kernel⟩
set_option maxRecDepth 100000 in
theorem mn_J0_length_8abf5 : sg_ok (.instanceMethod yJ0_length_8abf5) := ⟨ts_5_48.1.2.2.2.2, rfl⟩
set_option maxRecDepth 100000 in
theorem mv_J0_length_8abf5 : sg_ok (.selects RJ0 yJ0_length_8abf5 yJ0_length_8abf5) := ⟨ts_5_64.1.1.1.1.1, rfl⟩
set_option maxRecDepth 100000 in
theorem cb_J0_getBytes_840e7 : sg_cb mi_J0_getBytes_840e7 3 := ⟨⟨ts_5_80.1.1.1.2.2, rfl⟩, ⟨ts_1_16.1.2.1.2.1, rfl⟩, ⟨by decide +kernel, by decide +kernel⟩, by decide +kernel, by decide +kernel⟩
set_option maxRecDepth 100000 in
theorem mn_J0_getBytes_840e7 : sg_ok (.instanceMethod yJ0_getBytes_840e7) := ⟨ts_5_80.1.1.1.1.2, rfl⟩
set_option maxRecDepth 100000 in
theorem mv_J0_getBytes_840e7 : sg_ok (.selects RJ0 yJ0_getBytes_840e7 yJ0_getBytes_840e7) := ⟨ts_5_80.1.1.1.2.1, rfl⟩
set_option maxRecDepth 100000 in
theorem cb_J0_coder_7d493 : sg_cb mi_J0_coder_7d493 0 := ⟨⟨ts_5_64.1.1.2.1.2, rfl⟩, ⟨ts_1_16.1.2.1.2.1, rfl⟩, ⟨by decide +kernel, by decide +kernel⟩, by decide +kernel, by decide +kernel⟩
set_option maxRecDepth 100000 in
theorem mn_J0_coder_7d493 : sg_ok (.instanceMethod yJ0_coder_7d493) := ⟨ts_5_64.1.1.1.2.2, rfl⟩
set_option maxRecDepth 100000 in
theorem mv_J0_coder_7d493 : sg_ok (.selects RJ0 yJ0_coder_7d493 yJ0_coder_7d493) := ⟨ts_5_64.1.1.2.1.1, rfl⟩
set_option maxRecDepth 100000 in
theorem cb_J7_copyOf_1904c : sg_cb mi_J7_copyOf_1904c 2 := ⟨⟨ts_6_80.1.1.1.2.2, rfl⟩, ⟨ts_1_16.1.1.1.2.2, rfl⟩, ⟨by decide +kernel, by decide +kernel⟩, by decide +kernel, by decide +kernel⟩
set_option maxRecDepth 100000 in
theorem ms_J7_copyOf_1904c : sg_ok (.static yJ7_copyOf_1904c) := ⟨ts_6_80.1.1.1.2.1, rfl⟩
set_option maxRecDepth 100000 in
theorem cb_J7_copyOf_6403c : sg_cb mi_J7_copyOf_6403c 3 := ⟨⟨ts_6_96.1.1.2.2.1, rfl⟩, ⟨ts_1_16.1.1.1.2.2, rfl⟩, ⟨by decide +kernel, by decide +kernel⟩, by decide +kernel, by decide +kernel⟩
set_option maxRecDepth 100000 in
theorem ms_J7_copyOf_6403c : sg_ok (.static yJ7_copyOf_6403c) := ⟨ts_6_96.1.1.2.1.2, rfl⟩
set_option maxRecDepth 100000 in
theorem cb_J7_copyOf_9075b : sg_cb mi_J7_copyOf_9075b 2 := ⟨⟨ts_4_144.1.1.1.2.2, rfl⟩, ⟨ts_1_16.1.1.1.2.2, rfl⟩, ⟨by decide +kernel, by decide +kernel⟩, by decide +kernel, by decide +kernel⟩
set_option maxRecDepth 100000 in
theorem ms_J7_copyOf_9075b : sg_ok (.static yJ7_copyOf_9075b) := ⟨ts_4_144.1.1.1.2.1, rfl⟩
set_option maxRecDepth 100000 in
theorem cb_J7_checkLength_df160 : sg_cb mi_J7_checkLength_df160 2 := ⟨⟨ts_5_0.1.2.1.1.2, rfl⟩, ⟨ts_1_16.1.1.1.2.2, rfl⟩, ⟨by decide +kernel, by decide +kernel⟩, by decide +kernel, by decide +kernel⟩
set_option maxRecDepth 100000 in
theorem ms_J7_checkLength_df160 : sg_ok (.static yJ7_checkLength_df160) := ⟨ts_5_0.1.2.1.1.1, rfl⟩
set_option maxRecDepth 100000 in
theorem cb_J7_copyOfRange_39247 : sg_cb mi_J7_copyOfRange_39247 3 := ⟨⟨ts_5_0.1.1.1.2.2, rfl⟩, ⟨ts_1_16.1.1.1.2.2, rfl⟩, ⟨by decide +kernel, by decide +kernel⟩, by decide +kernel, by decide +kernel⟩
set_option maxRecDepth 100000 in
theorem ms_J7_copyOfRange_39247 : sg_ok (.static yJ7_copyOfRange_39247) := ⟨ts_5_0.1.1.1.2.1, rfl⟩
set_option maxRecDepth 100000 in
theorem cb_J7_copyOfRangeByte_39247 : sg_cb mi_J7_copyOfRangeByte_39247 3 := ⟨⟨ts_5_0.1.1.2.2.1, rfl⟩, ⟨ts_1_16.1.1.1.2.2, rfl⟩, ⟨by decide +kernel, by decide +kernel⟩, by decide +kernel, by decide +kernel⟩
set_option maxRecDepth 100000 in
theorem ms_J7_copyOfRangeByte_39247 : sg_ok (.static yJ7_copyOfRangeByte_39247) := ⟨ts_5_0.1.1.2.1.2, rfl⟩
set_option maxRecDepth 100000 in
theorem cb_J8_newLength_cabcc : sg_cb mi_J8_newLength_cabcc 3 := ⟨⟨ts_4_128.1.2.1.1.1, rfl⟩, ⟨ts_1_16.1.1.1.1.2, rfl⟩, ⟨by decide +kernel, by decide +kernel⟩, by decide +kernel, by decide +kernel⟩
set_option maxRecDepth 100000 in
theorem ms_J8_newLength_cabcc : sg_ok (.static yJ8_newLength_cabcc) := ⟨ts_4_128.1.1.2.2.2, rfl⟩
set_option maxRecDepth 100000 in
theorem cb_J15_checkIndex_7cf53 : sg_cb mi_J15_checkIndex_7cf53 2 := ⟨⟨ts_6_112.1.1.2.2.1, rfl⟩, ⟨ts_1_16.1.1.2.1.2, rfl⟩, ⟨by decide +kernel, by decide +kernel⟩, by decide +kernel, by decide +kernel⟩
set_option maxRecDepth 100000 in
theorem ms_J15_checkIndex_7cf53 : sg_ok (.static yJ15_checkIndex_7cf53) := ⟨ts_6_112.1.1.2.1.2, rfl⟩
set_option maxRecDepth 100000 in
theorem cb_J3_checkIndex_8e157 : sg_cb mi_J3_checkIndex_8e157 3 := ⟨⟨ts_4_208.1.1.2.1.2, rfl⟩, ⟨ts_1_16.1.1.2.2.1, rfl⟩, ⟨by decide +kernel, by decide +kernel⟩, by decide +kernel, by decide +kernel⟩
set_option maxRecDepth 100000 in
theorem ms_J3_checkIndex_8e157 : sg_ok (.static yJ3_checkIndex_8e157) := ⟨ts_4_208.1.1.2.1.1, rfl⟩
set_option maxRecDepth 100000 in
theorem cb_J1_canEncode_fc78d : sg_cb mi_J1_canEncode_fc78d 1 := ⟨⟨ts_4_160.1.2.1.1.1, rfl⟩, ⟨ts_1_16.1.2.2.1.1, rfl⟩, ⟨by decide +kernel, by decide +kernel⟩, by decide +kernel, by decide +kernel⟩
set_option maxRecDepth 100000 in
theorem ms_J1_canEncode_fc78d : sg_ok (.static yJ1_canEncode_fc78d) := ⟨ts_4_160.1.1.2.2.2, rfl⟩
set_option maxRecDepth 100000 in
theorem su_J4 : sg_ok (.superclass RJ4 RJ5) := ⟨ts_4_112.1.1.1.2.2, rfl⟩
theorem mp_J5_ensureCapacityInternal_d00df : Cond.privateMethod yJ5_ensureCapacityInternal_d00df ∈ lw_tbl := List.mem_append_right _ (List.mem_of_getElem? (i := 847) (by decide +kernel))
theorem mp_J5_newCapacity_0f7a4 : Cond.privateMethod yJ5_newCapacity_0f7a4 ∈ lw_tbl := List.mem_append_right _ (List.mem_of_getElem? (i := 851) (by decide +kernel))
set_option maxRecDepth 100000 in
theorem mv_J5_isLatin1_aae02 : sg_ok (.selects RJ4 yJ5_isLatin1_aae02 yJ5_isLatin1_aae02) := ⟨ts_4_160.1.1.2.1.1, rfl⟩
set_option maxRecDepth 100000 in
theorem mv_J5_getValue_6d5f1 : sg_ok (.selects RJ4 yJ5_getValue_6d5f1 yJ5_getValue_6d5f1) := ⟨(tm_4 (List.mem_of_getElem? (i := 230) rfl)), rfl⟩
set_option maxRecDepth 100000 in
theorem mq_J5_length_8abf5 : sg_ok (.sameMethod yJ5_length_8abf5.cls yJ5_length_8abf5.cls yJ5_length_8abf5.name yJ5_length_8abf5.desc) := ⟨(tm_4 (List.mem_of_getElem? (i := 234) rfl)), rfl⟩
set_option maxRecDepth 100000 in
theorem mw_J5_length_8abf5 : sg_ok (.selects RJ4 yJ5_length_8abf5 yJ4_length_8abf5) := ⟨(tm_4 (List.mem_of_getElem? (i := 235) rfl)), rfl⟩
theorem mp_J5_putStringAt_47b60 : Cond.privateMethod yJ5_putStringAt_47b60 ∈ lw_tbl := List.mem_append_right _ (List.mem_of_getElem? (i := 1032) (by decide +kernel))
theorem mp_J5_inflateIfNeededFor_a7421 : Cond.privateMethod yJ5_inflateIfNeededFor_a7421 ∈ lw_tbl := List.mem_append_right _ (List.mem_of_getElem? (i := 1036) (by decide +kernel))
set_option maxRecDepth 100000 in
theorem mq_J5_append_3fe6f : sg_ok (.sameMethod yJ5_append_3fe6f.cls yJ5_append_3fe6f.cls yJ5_append_3fe6f.name yJ5_append_3fe6f.desc) := ⟨(tm_8 (List.mem_of_getElem? (i := 33) rfl)), rfl⟩
set_option maxRecDepth 100000 in
theorem mq_J5_append_cf1ce : sg_ok (.sameMethod yJ5_append_cf1ce.cls yJ5_append_cf1ce.cls yJ5_append_cf1ce.name yJ5_append_cf1ce.desc) := ⟨(tm_8 (List.mem_of_getElem? (i := 38) rfl)), rfl⟩
theorem sl_J5_ensureCapacityInternal_d00df {w : sg_W} (g : sg_G w) : sg_sl w RJ4 yJ5_ensureCapacityInternal_d00df := sg_slP g mv_J5_isLatin1_aae02 rfl ⟨by decide +kernel, by decide +kernel⟩ mp_J5_ensureCapacityInternal_d00df mn_J5_ensureCapacityInternal_d00df mn_J5_isLatin1_aae02
theorem sl_J5_newCapacity_0f7a4 {w : sg_W} (g : sg_G w) : sg_sl w RJ4 yJ5_newCapacity_0f7a4 := sg_slP g mv_J5_isLatin1_aae02 rfl ⟨by decide +kernel, by decide +kernel⟩ mp_J5_newCapacity_0f7a4 mn_J5_newCapacity_0f7a4 mn_J5_isLatin1_aae02
theorem sl_J5_inflateIfNeededFor_a7421 {w : sg_W} (g : sg_G w) : sg_sl w RJ4 yJ5_inflateIfNeededFor_a7421 := sg_slP g mv_J5_isLatin1_aae02 rfl ⟨by decide +kernel, by decide +kernel⟩ mp_J5_inflateIfNeededFor_a7421 mn_J5_inflateIfNeededFor_a7421 mn_J5_isLatin1_aae02
theorem sl_J5_putStringAt_47b60 {w : sg_W} (g : sg_G w) : sg_sl w RJ4 yJ5_putStringAt_47b60 := sg_slP g mv_J5_isLatin1_aae02 rfl ⟨by decide +kernel, by decide +kernel⟩ mp_J5_putStringAt_47b60 mn_J5_putStringAt_47b60 mn_J5_isLatin1_aae02
set_option maxRecDepth 100000 in
theorem ml_J4_1 : sg_ok (.methodLink RJ4 1 yJ5_init_d00df) := ⟨ts_4_80.1.2.1.2.1, rfl⟩
set_option maxRecDepth 100000 in
theorem ml_J4_50 : sg_ok (.methodLink RJ4 50 yJ5_append_3fe6f) := ⟨ts_4_112.1.2.1.2.2, rfl⟩
set_option maxRecDepth 100000 in
theorem ml_J5_100 : sg_ok (.methodLink RJ5 100 yJ5_ensureCapacityInternal_d00df) := ⟨ts_4_112.1.2.2.2.1, rfl⟩
set_option maxRecDepth 100000 in
theorem ml_J5_104 : sg_ok (.methodLink RJ5 104 yJ5_newCapacity_0f7a4) := ⟨ts_4_128.1.1.1.2.1, rfl⟩
set_option maxRecDepth 100000 in
theorem ml_J5_114 : sg_ok (.methodLink RJ5 114 yJ8_newLength_cabcc) := ⟨ts_4_128.1.1.2.2.1, rfl⟩
set_option maxRecDepth 100000 in
theorem ml_J5_108 : sg_ok (.methodLink RJ5 108 yJ7_copyOf_9075b) := ⟨ts_4_144.1.1.1.1.2, rfl⟩
set_option maxRecDepth 100000 in
theorem ml_J7_310 : sg_ok (.methodLink RJ7 310 (sg_cl "[B")) := ⟨ts_4_144.1.1.2.1.1, rfl⟩
set_option maxRecDepth 100000 in
theorem ml_J7_150 : sg_ok (.methodLink RJ7 150 arraycopyName) := ⟨ts_4_144.1.2.2.2.1, rfl⟩
set_option maxRecDepth 100000 in
theorem ml_J5_83 : sg_ok (.methodLink RJ5 83 yJ5_isLatin1_aae02) := ⟨ts_4_160.1.1.1.1.2, rfl⟩
set_option maxRecDepth 100000 in
theorem ml_J5_191 : sg_ok (.methodLink RJ5 191 yJ1_canEncode_fc78d) := ⟨ts_4_160.1.1.2.2.1, rfl⟩
set_option maxRecDepth 100000 in
theorem ml_J4_137 : sg_ok (.methodLink RJ4 137 yJ0_init_81219) := ⟨ts_4_208.1.2.2.1.1, rfl⟩
set_option maxRecDepth 100000 in
theorem ml_J0_489 : sg_ok (.methodLink RJ0 489 yJ0_init_db425) := ⟨ts_4_208.1.2.2.2.2, rfl⟩
set_option maxRecDepth 100000 in
theorem ml_J0_552 : sg_ok (.methodLink RJ0 552 yJ5_getValue_6d5f1) := ⟨(tm_4 (List.mem_of_getElem? (i := 227) rfl)), rfl⟩
set_option maxRecDepth 100000 in
theorem ml_J0_549 : sg_ok (.methodLink RJ0 549 yJ5_length_8abf5) := ⟨(tm_4 (List.mem_of_getElem? (i := 232) rfl)), rfl⟩
set_option maxRecDepth 100000 in
theorem ml_J4_343 : sg_ok (.methodLink RJ4 343 yJ5_length_8abf5) := ⟨(tm_4 (List.mem_of_getElem? (i := 238) rfl)), rfl⟩
set_option maxRecDepth 100000 in
theorem ml_J0_1047 : sg_ok (.methodLink RJ0 1047 yJ5_isLatin1_aae02) := ⟨ts_5_0.1.1.1.1.1, rfl⟩
set_option maxRecDepth 100000 in
theorem ml_J0_54 : sg_ok (.methodLink RJ0 54 yJ7_copyOfRange_39247) := ⟨ts_5_0.1.1.1.1.2, rfl⟩
set_option maxRecDepth 100000 in
theorem ml_J7_339 : sg_ok (.methodLink RJ7 339 yJ7_copyOfRangeByte_39247) := ⟨ts_5_0.1.1.2.1.1, rfl⟩
set_option maxRecDepth 100000 in
theorem ml_J7_343 : sg_ok (.methodLink RJ7 343 yJ7_checkLength_df160) := ⟨ts_5_0.1.1.2.2.2, rfl⟩
set_option maxRecDepth 100000 in
theorem ml_J4_29 : sg_ok (.methodLink RJ4 29 yJ5_append_cf1ce) := ⟨ts_5_48.1.1.2.1.1, rfl⟩
set_option maxRecDepth 100000 in
theorem ml_J5_32 : sg_ok (.methodLink RJ5 32 yJ0_length_8abf5) := ⟨ts_5_48.1.2.2.2.1, rfl⟩
set_option maxRecDepth 100000 in
theorem ml_J0_335 : sg_ok (.methodLink RJ0 335 yJ0_coder_7d493) := ⟨ts_5_64.1.1.1.2.1, rfl⟩
set_option maxRecDepth 100000 in
theorem ml_J5_208 : sg_ok (.methodLink RJ5 208 yJ5_putStringAt_47b60) := ⟨ts_5_64.1.1.2.2.2, rfl⟩
set_option maxRecDepth 100000 in
theorem ml_J5_397 : sg_ok (.methodLink RJ5 397 yJ5_inflateIfNeededFor_a7421) := ⟨ts_5_64.1.2.1.2.2, rfl⟩
set_option maxRecDepth 100000 in
theorem ml_J5_40 : sg_ok (.methodLink RJ5 40 yJ0_coder_7d493) := ⟨ts_5_64.1.2.2.2.2, rfl⟩
set_option maxRecDepth 100000 in
theorem ml_J5_399 : sg_ok (.methodLink RJ5 399 yJ0_getBytes_840e7) := ⟨ts_5_80.1.1.1.1.1, rfl⟩
set_option maxRecDepth 100000 in
theorem ml_J0_212 : sg_ok (.methodLink RJ0 212 arraycopyName) := ⟨ts_5_80.1.1.2.1.1, rfl⟩
set_option maxRecDepth 100000 in
theorem ml_Jx4a65c_1 : sg_ok (.methodLink RJx4a65c 1 yJxc12de_init_da8c8) := ⟨ts_5_224.1.2.1.2.2, rfl⟩
set_option maxRecDepth 100000 in
theorem ml_Jxc12de_1 : sg_ok (.methodLink RJxc12de 1 yJxa1e45_init_da8c8) := ⟨ts_5_224.1.2.2.2.1, rfl⟩
set_option maxRecDepth 100000 in
theorem ml_Jx4a65c_131 : sg_ok (.methodLink RJx4a65c 131 yJx4a65c_add_72be8) := ⟨ts_6_64.1.1.2.1.1, rfl⟩
set_option maxRecDepth 100000 in
theorem ml_Jx4a65c_129 : sg_ok (.methodLink RJx4a65c 129 yJx4a65c_grow_d5877) := ⟨ts_6_64.1.2.1.1.1, rfl⟩
set_option maxRecDepth 100000 in
theorem ml_Jx4a65c_69 : sg_ok (.methodLink RJx4a65c 69 yJx4a65c_grow_92f84) := ⟨ts_6_64.1.2.2.1.1, rfl⟩
set_option maxRecDepth 100000 in
theorem ml_Jx4a65c_73 : sg_ok (.methodLink RJx4a65c 73 yJ8_newLength_cabcc) := ⟨ts_6_80.1.1.1.1.1, rfl⟩
set_option maxRecDepth 100000 in
theorem ml_Jx4a65c_66 : sg_ok (.methodLink RJx4a65c 66 yJ7_copyOf_1904c) := ⟨ts_6_80.1.1.1.1.2, rfl⟩
set_option maxRecDepth 100000 in
theorem ml_J7_86 : sg_ok (.methodLink RJ7 86 sg_gc) := ⟨ts_6_80.1.1.2.1.1, rfl⟩
set_option maxRecDepth 100000 in
theorem ml_J7_300 : sg_ok (.methodLink RJ7 300 yJ7_copyOf_6403c) := ⟨ts_6_96.1.1.2.1.1, rfl⟩
set_option maxRecDepth 100000 in
theorem ml_Jx4a65c_118 : sg_ok (.methodLink RJx4a65c 118 yJ15_checkIndex_7cf53) := ⟨ts_6_112.1.1.2.1.1, rfl⟩
set_option maxRecDepth 100000 in
theorem ml_J15_105 : sg_ok (.methodLink RJ15 105 yJ3_checkIndex_8e157) := ⟨ts_6_112.1.1.2.2.2, rfl⟩
set_option maxRecDepth 100000 in
theorem ml_Jx4a65c_144 : sg_ok (.methodLink RJx4a65c 144 yJx4a65c_fastRemove_b59b0) := ⟨ts_6_112.1.2.1.1.1, rfl⟩
set_option maxRecDepth 100000 in
theorem ml_Jx4a65c_112 : sg_ok (.methodLink RJx4a65c 112 arraycopyName) := ⟨ts_6_112.1.2.2.1.1, rfl⟩
set_option maxRecDepth 100000 in
theorem ml_Jx4a65c_123 : sg_ok (.methodLink RJx4a65c 123 yJx4a65c_elementData_915e3) := ⟨ts_7_160.1.2.1.2.1, rfl⟩
set_option maxRecDepth 100000 in
theorem ma_st : sg_ok (.static arraycopyName) := ⟨ts_4_144.1.2.2.2.2, rfl⟩
set_option maxRecDepth 100000 in
theorem ma_na : sg_ok (.native arraycopyName) := ⟨ts_4_160.1.1.1.1.1, rfl⟩
set_option maxRecDepth 100000 in
theorem ma_in : sg_ok (.initialized "java/lang/System") := ⟨ts_1_16.1.1.2.1.1, rfl⟩
set_option maxRecDepth 100000 in
theorem mx_st : sg_ok (.static Lib.Math.max.name) := ⟨ts_4_128.1.2.1.2.1, rfl⟩
set_option maxRecDepth 100000 in
theorem mx_co : sg_ok (.code Lib.Math.max.name Lib.Math.max.code 2 (some .int)) := ⟨ts_4_128.1.2.1.2.2, rfl⟩
set_option maxRecDepth 100000 in
theorem mx_J8_194 : sg_ok (.methodLink RJ8 194 Lib.Math.max.name) := ⟨ts_4_128.1.2.1.1.2, rfl⟩
set_option maxRecDepth 100000 in
theorem mx_Jx4a65c_79 : sg_ok (.methodLink RJx4a65c 79 Lib.Math.max.name) := ⟨ts_6_96.1.2.1.2.1, rfl⟩
set_option maxRecDepth 100000 in
theorem mx_X7_204 : sg_ok (.methodLink RX7 204 Lib.Math.max.name) := ⟨ts_7_144.1.1.2.1.2, rfl⟩
set_option maxRecDepth 100000 in
theorem mm_st : sg_ok (.static Lib.Math.min.name) := ⟨ts_4_144.1.2.2.1.1, rfl⟩
set_option maxRecDepth 100000 in
theorem mm_co : sg_ok (.code Lib.Math.min.name Lib.Math.min.code 2 (some .int)) := ⟨ts_4_144.1.2.2.1.2, rfl⟩
set_option maxRecDepth 100000 in
theorem mm_J7_304 : sg_ok (.methodLink RJ7 304 Lib.Math.min.name) := ⟨ts_4_144.1.2.1.2.2, rfl⟩
set_option maxRecDepth 100000 in
theorem mx_in : sg_ok (.initialized "java/lang/Math") := ⟨ts_1_16.1.1.1.2.1, rfl⟩
theorem gc_de : Cond.declares sg_gc ∈ lw_tbl := List.mem_append_right _ (List.mem_of_getElem? (i := 1737) (by decide +kernel))
set_option maxRecDepth 100000 in
theorem gc_in : sg_ok (.instanceMethod sg_gc) := ⟨ts_6_80.1.1.2.1.2, rfl⟩
set_option maxRecDepth 100000 in
theorem gc_na : sg_ok (.native sg_gc) := ⟨ts_6_96.1.1.1.2.2, rfl⟩
set_option maxRecDepth 100000 in
theorem gc_se : sg_ok (.selects "[Ljava/lang/Object;" sg_gc sg_gc) := ⟨(tm_8 (List.mem_of_getElem? (i := 56) rfl)), rfl⟩
set_option maxRecDepth 100000 in
theorem cl_in : sg_ok (.instanceMethod (sg_cl "java/lang/Object")) := ⟨ts_4_144.1.1.2.2.2, rfl⟩
set_option maxRecDepth 100000 in
theorem cl_na : sg_ok (.native (sg_cl "java/lang/Object")) := ⟨ts_4_144.1.1.2.2.1, rfl⟩
set_option maxRecDepth 100000 in
theorem cl_sm : sg_ok (.sameMethod "[B" "java/lang/Object" "clone" "()Ljava/lang/Object;") := ⟨ts_4_144.1.1.2.1.2, rfl⟩
set_option maxRecDepth 100000 in
theorem cl_se : sg_ok (.selects "[B" (sg_cl "[B") (sg_cl "java/lang/Object")) := ⟨ts_4_144.1.2.1.1.1, rfl⟩
theorem cl_ca : Cond.castable "[B" "java/lang/Cloneable" ∈ lw_tbl := List.mem_append_right _ (List.mem_of_getElem? (i := 873) (by decide +kernel))
theorem ci_ob : Cond.castable "[I" "java/lang/Object" ∈ lw_tbl := List.mem_append_right _ (List.mem_of_getElem? (i := 1739) (by decide +kernel))
theorem cii_ob : Cond.castable "[[I" "java/lang/Object" ∈ lw_tbl := List.mem_append_right _ (List.mem_of_getElem? (i := 1742) (by decide +kernel))
set_option maxRecDepth 100000 in
theorem cn_J8_200 : sg_ok (.constant RJ8 200 2147483639) := ⟨ts_4_128.1.2.2.1.1, rfl⟩
set_option maxRecDepth 100000 in
theorem cn_J5_39 : sg_ok (.constant RJ5 39 2147483647) := ⟨ts_4_144.1.1.1.1.1, rfl⟩
set_option maxRecDepth 100000 in
theorem cl_J7_311 : sg_ok (.classLink RJ7 311 "[B") := ⟨ts_4_144.1.2.1.2.1, rfl⟩
set_option maxRecDepth 100000 in
theorem cl_J7_110 : sg_ok (.classLink RJ7 110 "[Ljava/lang/Object;") := ⟨ts_6_96.1.1.2.2.2, rfl⟩
set_option maxRecDepth 100000 in
theorem cl_J7_2 : sg_ok (.classLink RJ7 2 "java/lang/Object") := ⟨ts_6_96.1.2.1.1.2, rfl⟩
set_option maxRecDepth 100000 in
theorem cl_Jx4a65c_7 : sg_ok (.classLink RJx4a65c 7 "java/lang/Object") := ⟨ts_6_96.1.2.1.2.2, rfl⟩
set_option maxRecDepth 100000 in
theorem kl_J5_18 : sg_ok (.fieldLink RJ5 18 "java/lang/String" "COMPACT_STRINGS" "Z") := ⟨ts_4_80.1.2.2.2.1, rfl⟩
set_option maxRecDepth 100000 in
theorem kl_J0_38 : sg_ok (.fieldLink RJ0 38 "java/lang/String" "COMPACT_STRINGS" "Z") := ⟨ts_5_64.1.1.2.2.1, rfl⟩
set_option maxRecDepth 100000 in
theorem kl_Jx4a65c_39 : sg_ok (.fieldLink RJx4a65c 39 "java/util/ArrayList" "DEFAULTCAPACITY_EMPTY_ELEMENTDATA" "[Ljava/lang/Object;") := ⟨ts_6_0.1.1.1.2.1, rfl⟩
set_option maxRecDepth 100000 in
theorem fk_J0_9 : sg_fk RJ0 9 0 0 true (.array .byte) := ⟨by decide +kernel, (RJ0, TJ0, 4), tyJ0, "java/lang/String", rfl, by decide +kernel, sgo_0, rfl, rfl, fun _ => rfl, ⟨ts_5_96.1.1.2.1.2, rfl⟩, Or.inl rfl⟩
set_option maxRecDepth 100000 in
theorem fk_J0_15 : sg_fk RJ0 15 0 1 true .byte := ⟨by decide +kernel, (RJ0, TJ0, 4), tyJ0, "java/lang/String", rfl, by decide +kernel, sgo_0, rfl, rfl, fun _ => rfl, ⟨ts_5_96.1.1.2.2.1, rfl⟩, Or.inl rfl⟩
theorem nv_J4_18 : ∀ (j : Nat) (v : sg_V), ([sg_n, sg_i 0, sg_i 0, sg_i 0] : List sg_V)[j]? = some v → sg_v v (defaultValue (tyJ0 j)) := fun j v hv => by
  have hj : j < 4 := (List.getElem?_eq_some_iff.mp hv).1
  rcases (show j = 0 ∨ j = 1 ∨ j = 2 ∨ j = 3 by omega) with rfl | rfl | rfl | rfl
  · cases Option.some.inj hv; exact rfl
  · cases Option.some.inj hv; exact ⟨0, rfl, rfl⟩
  · cases Option.some.inj hv; exact ⟨0, rfl, rfl⟩
  · cases Option.some.inj hv; exact ⟨0, rfl, rfl⟩
set_option maxRecDepth 100000 in
theorem nk_J4_18 : sg_nk RJ4 18 0 [sg_n, sg_i 0, sg_i 0, sg_i 0] 4 := ⟨by decide +kernel, (RJ0, TJ0, 4), tyJ0, rfl, sgo_0, rfl, rfl, nv_J4_18, ⟨ts_4_208.1.2.1.2.1, rfl⟩, ⟨ts_4_208.1.2.1.2.2, rfl⟩, ⟨ts_1_16.1.2.1.2.1, rfl⟩⟩
set_option maxRecDepth 100000 in
theorem fk_J5_15 : sg_fk RJ5 15 1 0 false (.array .byte) := ⟨by decide +kernel, (RJ4, TJ4, 4), tyJ4, "java/lang/AbstractStringBuilder", rfl, by decide +kernel, sgo_1, rfl, rfl, fun h => (nomatch h), ⟨ts_4_96.1.1.2.2.2, rfl⟩, Or.inl rfl⟩
set_option maxRecDepth 100000 in
theorem fk_J5_22 : sg_fk RJ5 22 1 1 false .byte := ⟨by decide +kernel, (RJ4, TJ4, 4), tyJ4, "java/lang/AbstractStringBuilder", rfl, by decide +kernel, sgo_1, rfl, rfl, fun h => (nomatch h), ⟨ts_4_96.1.2.1.1.1, rfl⟩, Or.inl rfl⟩
set_option maxRecDepth 100000 in
theorem fk_J5_79 : sg_fk RJ5 79 1 3 false .int := ⟨by decide +kernel, (RJ4, TJ4, 4), tyJ4, "java/lang/AbstractStringBuilder", rfl, by decide +kernel, sgo_1, rfl, rfl, fun h => (nomatch h), ⟨ts_4_96.1.2.1.2.1, rfl⟩, Or.inl rfl⟩
set_option maxRecDepth 100000 in
theorem fk_Jx4a65c_9 : sg_fk RJx4a65c 9 2 1 false (.array (.object "java/lang/Object")) := ⟨by decide +kernel, (RJx4a65c, TJx4a65c, 3), tyJx4a65c, "java/util/ArrayList", rfl, by decide +kernel, sgo_2, rfl, rfl, fun h => (nomatch h), ⟨ts_6_0.1.1.2.1.1, rfl⟩, Or.inl rfl⟩
set_option maxRecDepth 100000 in
theorem fk_Jx4a65c_48 : sg_fk RJx4a65c 48 2 2 false .int := ⟨by decide +kernel, (RJx4a65c, TJx4a65c, 3), tyJx4a65c, "java/util/ArrayList", rfl, by decide +kernel, sgo_2, rfl, rfl, fun h => (nomatch h), ⟨ts_6_0.1.1.2.1.2, rfl⟩, Or.inl rfl⟩
set_option maxRecDepth 100000 in
theorem fk_Jxc12de_7 : sg_fk RJxc12de 7 2 0 false .int := ⟨by decide +kernel, (RJx4a65c, TJx4a65c, 3), tyJx4a65c, "java/util/AbstractList", rfl, by decide +kernel, sgo_2, rfl, rfl, fun h => (nomatch h), ⟨ts_6_0.1.1.2.2.1, rfl⟩, Or.inl rfl⟩
set_option maxRecDepth 100000 in
theorem fk_Jx4a65c_63 : sg_fk RJx4a65c 63 2 0 false .int := ⟨by decide +kernel, (RJx4a65c, TJx4a65c, 3), tyJx4a65c, "java/util/ArrayList", rfl, by decide +kernel, sgo_2, rfl, rfl, fun h => (nomatch h), ⟨ts_6_0.1.1.2.2.2, rfl⟩, Or.inr (⟨ts_6_0.1.2.1.1.1, rfl⟩)⟩

