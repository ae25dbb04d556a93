def mi_Jx4a65c_grow_92f84 : sg_M := (yJx4a65c_grow_92f84, cJx4a65c_grow_92f84, 4, (some (.array (.object "java/lang/Object"))))
def mi_Jx4a65c_grow_d5877 : sg_M := (yJx4a65c_grow_d5877, cJx4a65c_grow_d5877, 1, (some (.array (.object "java/lang/Object"))))
def mi_Jx4a65c_elementData_915e3 : sg_M := (yJx4a65c_elementData_915e3, cJx4a65c_elementData_915e3, 2, (some (.object "java/lang/Object")))
def mi_Jx4a65c_add_72be8 : sg_M := (yJx4a65c_add_72be8, cJx4a65c_add_72be8, 4, (none : Option Jvm.ClassFile.FieldType))
def mi_Jx4a65c_fastRemove_b59b0 : sg_M := (yJx4a65c_fastRemove_b59b0, cJx4a65c_fastRemove_b59b0, 4, (none : Option Jvm.ClassFile.FieldType))
def mi_Jxc12de_init_da8c8 : sg_M := (yJxc12de_init_da8c8, cJxc12de_init_da8c8, 1, (none : Option Jvm.ClassFile.FieldType))
def mi_Jxa1e45_init_da8c8 : sg_M := (yJxa1e45_init_da8c8, cJxa1e45_init_da8c8, 1, (none : Option Jvm.ClassFile.FieldType))
def mi_J4_length_8abf5 : sg_M := (yJ4_length_8abf5, cJ4_length_8abf5, 1, (some .int))
def mi_J5_init_d00df : sg_M := (yJ5_init_d00df, cJ5_init_d00df, 2, (none : Option Jvm.ClassFile.FieldType))
def mi_J5_length_8abf5 : sg_M := (yJ5_length_8abf5, cJ5_length_8abf5, 1, (some .int))
def mi_J5_ensureCapacityInternal_d00df : sg_M := (yJ5_ensureCapacityInternal_d00df, cJ5_ensureCapacityInternal_d00df, 3, (none : Option Jvm.ClassFile.FieldType))
def mi_J5_newCapacity_0f7a4 : sg_M := (yJ5_newCapacity_0f7a4, cJ5_newCapacity_0f7a4, 6, (some .int))
def mi_J5_append_cf1ce : sg_M := (yJ5_append_cf1ce, cJ5_append_cf1ce, 3, (some (.object "java/lang/AbstractStringBuilder")))
def mi_J5_append_3fe6f : sg_M := (yJ5_append_3fe6f, cJ5_append_3fe6f, 2, (some (.object "java/lang/AbstractStringBuilder")))
def mi_J5_getValue_6d5f1 : sg_M := (yJ5_getValue_6d5f1, cJ5_getValue_6d5f1, 1, (some (.array .byte)))
def mi_J5_isLatin1_aae02 : sg_M := (yJ5_isLatin1_aae02, cJ5_isLatin1_aae02, 1, (some .boolean))
def mi_J5_inflateIfNeededFor_a7421 : sg_M := (yJ5_inflateIfNeededFor_a7421, cJ5_inflateIfNeededFor_a7421, 2, (none : Option Jvm.ClassFile.FieldType))
def mi_J5_putStringAt_47b60 : sg_M := (yJ5_putStringAt_47b60, cJ5_putStringAt_47b60, 3, (none : Option Jvm.ClassFile.FieldType))
def mi_J0_init_81219 : sg_M := (yJ0_init_81219, cJ0_init_81219, 2, (none : Option Jvm.ClassFile.FieldType))
def mi_J0_init_db425 : sg_M := (yJ0_init_db425, cJ0_init_db425, 5, (none : Option Jvm.ClassFile.FieldType))
def mi_J0_length_8abf5 : sg_M := (yJ0_length_8abf5, cJ0_length_8abf5, 1, (some .int))
def mi_J0_getBytes_840e7 : sg_M := (yJ0_getBytes_840e7, cJ0_getBytes_840e7, 4, (none : Option Jvm.ClassFile.FieldType))
def mi_J0_coder_7d493 : sg_M := (yJ0_coder_7d493, cJ0_coder_7d493, 1, (some .byte))
def mi_J7_copyOf_1904c : sg_M := (yJ7_copyOf_1904c, cJ7_copyOf_1904c, 2, (some (.array (.object "java/lang/Object"))))
def mi_J7_copyOf_6403c : sg_M := (yJ7_copyOf_6403c, cJ7_copyOf_6403c, 4, (some (.array (.object "java/lang/Object"))))
def mi_J7_copyOf_9075b : sg_M := (yJ7_copyOf_9075b, cJ7_copyOf_9075b, 3, (some (.array .byte)))
def mi_J7_checkLength_df160 : sg_M := (yJ7_checkLength_df160, cJ7_checkLength_df160, 2, (none : Option Jvm.ClassFile.FieldType))
def mi_J7_copyOfRange_39247 : sg_M := (yJ7_copyOfRange_39247, cJ7_copyOfRange_39247, 3, (some (.array .byte)))
def mi_J7_copyOfRangeByte_39247 : sg_M := (yJ7_copyOfRangeByte_39247, cJ7_copyOfRangeByte_39247, 5, (some (.array .byte)))
def mi_J8_newLength_cabcc : sg_M := (yJ8_newLength_cabcc, cJ8_newLength_cabcc, 4, (some .int))
def mi_J15_checkIndex_7cf53 : sg_M := (yJ15_checkIndex_7cf53, cJ15_checkIndex_7cf53, 2, (some .int))
def mi_J3_checkIndex_8e157 : sg_M := (yJ3_checkIndex_8e157, cJ3_checkIndex_8e157, 3, (some .int))
def mi_J1_canEncode_fc78d : sg_M := (yJ1_canEncode_fc78d, cJ1_canEncode_fc78d, 1, (some .boolean))
theorem cb_Jx4a65c_grow_92f84 : sg_cb mi_Jx4a65c_grow_92f84 1 := ⟨sg_okt 1279 (by decide +kernel), sg_okt 8 (by decide +kernel), ⟨by decide +kernel, by decide +kernel⟩, by decide +kernel, by decide +kernel⟩
theorem mn_Jx4a65c_grow_92f84 : sg_ok (.instanceMethod yJx4a65c_grow_92f84) := sg_okt 1278 (by decide +kernel)
theorem mv_Jx4a65c_grow_92f84 : sg_ok (.selects RJx4a65c yJx4a65c_grow_92f84 yJx4a65c_grow_92f84) := sg_oks 11 (by decide +kernel)
theorem cb_Jx4a65c_grow_d5877 : sg_cb mi_Jx4a65c_grow_d5877 0 := ⟨sg_okt 1275 (by decide +kernel), sg_okt 8 (by decide +kernel), ⟨by decide +kernel, by decide +kernel⟩, by decide +kernel, by decide +kernel⟩
theorem mn_Jx4a65c_grow_d5877 : sg_ok (.instanceMethod yJx4a65c_grow_d5877) := sg_okt 1274 (by decide +kernel)
theorem mv_Jx4a65c_grow_d5877 : sg_ok (.selects RJx4a65c yJx4a65c_grow_d5877 yJx4a65c_grow_d5877) := sg_oks 10 (by decide +kernel)
theorem cb_Jx4a65c_elementData_915e3 : sg_cb mi_Jx4a65c_elementData_915e3 1 := ⟨sg_okt 1613 (by decide +kernel), sg_okt 8 (by decide +kernel), ⟨by decide +kernel, by decide +kernel⟩, by decide +kernel, by decide +kernel⟩
theorem mn_Jx4a65c_elementData_915e3 : sg_ok (.instanceMethod yJx4a65c_elementData_915e3) := sg_okt 1611 (by decide +kernel)
theorem mv_Jx4a65c_elementData_915e3 : sg_ok (.selects RJx4a65c yJx4a65c_elementData_915e3 yJx4a65c_elementData_915e3) := sg_okt 1612 (by decide +kernel)
theorem cb_Jx4a65c_add_72be8 : sg_cb mi_Jx4a65c_add_72be8 3 := ⟨sg_okt 1271 (by decide +kernel), sg_okt 8 (by decide +kernel), ⟨by decide +kernel, by decide +kernel⟩, by decide +kernel, by decide +kernel⟩
theorem mn_Jx4a65c_add_72be8 : sg_ok (.instanceMethod yJx4a65c_add_72be8) := sg_okt 1270 (by decide +kernel)
theorem mv_Jx4a65c_add_72be8 : sg_ok (.selects RJx4a65c yJx4a65c_add_72be8 yJx4a65c_add_72be8) := sg_oks 9 (by decide +kernel)
theorem cb_Jx4a65c_fastRemove_b59b0 : sg_cb mi_Jx4a65c_fastRemove_b59b0 2 := ⟨sg_okt 1323 (by decide +kernel), sg_okt 8 (by decide +kernel), ⟨by decide +kernel, by decide +kernel⟩, by decide +kernel, by decide +kernel⟩
theorem mn_Jx4a65c_fastRemove_b59b0 : sg_ok (.instanceMethod yJx4a65c_fastRemove_b59b0) := sg_okt 1322 (by decide +kernel)
theorem mv_Jx4a65c_fastRemove_b59b0 : sg_ok (.selects RJx4a65c yJx4a65c_fastRemove_b59b0 yJx4a65c_fastRemove_b59b0) := sg_oks 12 (by decide +kernel)
theorem cb_Jxc12de_init_da8c8 : sg_cb mi_Jxc12de_init_da8c8 0 := ⟨sg_okt 1197 (by decide +kernel), sg_okt 7 (by decide +kernel), ⟨by decide +kernel, by decide +kernel⟩, by decide +kernel, by decide +kernel⟩
theorem mn_Jxc12de_init_da8c8 : sg_ok (.instanceMethod yJxc12de_init_da8c8) := sg_okt 1196 (by decide +kernel)
theorem cb_Jxa1e45_init_da8c8 : sg_cb mi_Jxa1e45_init_da8c8 0 := ⟨sg_okt 1200 (by decide +kernel), sg_okt 6 (by decide +kernel), ⟨by decide +kernel, by decide +kernel⟩, by decide +kernel, by decide +kernel⟩
theorem mn_Jxa1e45_init_da8c8 : sg_ok (.instanceMethod yJxa1e45_init_da8c8) := sg_okt 1199 (by decide +kernel)
theorem cb_J4_length_8abf5 : sg_cb mi_J4_length_8abf5 0 := ⟨sg_okt 957 (by decide +kernel), sg_okt 25 (by decide +kernel), ⟨by decide +kernel, by decide +kernel⟩, by decide +kernel, by decide +kernel⟩
theorem mn_J4_length_8abf5 : sg_ok (.instanceMethod yJ4_length_8abf5) := sg_okt 956 (by decide +kernel)
theorem cb_J5_init_d00df : sg_cb mi_J5_init_d00df 1 := ⟨sg_okt 812 (by decide +kernel), sg_okt 24 (by decide +kernel), ⟨by decide +kernel, by decide +kernel⟩, by decide +kernel, by decide +kernel⟩
theorem mn_J5_init_d00df : sg_ok (.instanceMethod yJ5_init_d00df) := sg_okt 811 (by decide +kernel)
theorem cb_J5_length_8abf5 : sg_cb mi_J5_length_8abf5 0 := ⟨sg_okt 959 (by decide +kernel), sg_okt 24 (by decide +kernel), ⟨by decide +kernel, by decide +kernel⟩, by decide +kernel, by decide +kernel⟩
theorem mn_J5_length_8abf5 : sg_ok (.instanceMethod yJ5_length_8abf5) := sg_okt 953 (by decide +kernel)
theorem cb_J5_ensureCapacityInternal_d00df : sg_cb mi_J5_ensureCapacityInternal_d00df 1 := ⟨sg_okt 849 (by decide +kernel), sg_okt 24 (by decide +kernel), ⟨by decide +kernel, by decide +kernel⟩, by decide +kernel, by decide +kernel⟩
theorem mn_J5_ensureCapacityInternal_d00df : sg_ok (.instanceMethod yJ5_ensureCapacityInternal_d00df) := sg_okt 848 (by decide +kernel)
theorem cb_J5_newCapacity_0f7a4 : sg_cb mi_J5_newCapacity_0f7a4 1 := ⟨sg_okt 853 (by decide +kernel), sg_okt 24 (by decide +kernel), ⟨by decide +kernel, by decide +kernel⟩, by decide +kernel, by decide +kernel⟩
theorem mn_J5_newCapacity_0f7a4 : sg_ok (.instanceMethod yJ5_newCapacity_0f7a4) := sg_okt 852 (by decide +kernel)
theorem cb_J5_append_cf1ce : sg_cb mi_J5_append_cf1ce 1 := ⟨sg_okt 1014 (by decide +kernel), sg_okt 24 (by decide +kernel), ⟨by decide +kernel, by decide +kernel⟩, by decide +kernel, by decide +kernel⟩
theorem mn_J5_append_cf1ce : sg_ok (.instanceMethod yJ5_append_cf1ce) := sg_okt 1013 (by decide +kernel)
theorem cb_J5_append_3fe6f : sg_cb mi_J5_append_3fe6f 1 := ⟨sg_okt 845 (by decide +kernel), sg_okt 24 (by decide +kernel), ⟨by decide +kernel, by decide +kernel⟩, by decide +kernel, by decide +kernel⟩
theorem mn_J5_append_3fe6f : sg_ok (.instanceMethod yJ5_append_3fe6f) := sg_okt 844 (by decide +kernel)
theorem cb_J5_getValue_6d5f1 : sg_cb mi_J5_getValue_6d5f1 0 := ⟨sg_okt 951 (by decide +kernel), sg_okt 24 (by decide +kernel), ⟨by decide +kernel, by decide +kernel⟩, by decide +kernel, by decide +kernel⟩
theorem mn_J5_getValue_6d5f1 : sg_ok (.instanceMethod yJ5_getValue_6d5f1) := sg_okt 948 (by decide +kernel)
theorem cb_J5_isLatin1_aae02 : sg_cb mi_J5_isLatin1_aae02 0 := ⟨sg_okt 885 (by decide +kernel), sg_okt 24 (by decide +kernel), ⟨by decide +kernel, by decide +kernel⟩, by decide +kernel, by decide +kernel⟩
theorem mn_J5_isLatin1_aae02 : sg_ok (.instanceMethod yJ5_isLatin1_aae02) := sg_okt 882 (by decide +kernel)
theorem cb_J5_inflateIfNeededFor_a7421 : sg_cb mi_J5_inflateIfNeededFor_a7421 1 := ⟨sg_okt 1038 (by decide +kernel), sg_okt 24 (by decide +kernel), ⟨by decide +kernel, by decide +kernel⟩, by decide +kernel, by decide +kernel⟩
theorem mn_J5_inflateIfNeededFor_a7421 : sg_ok (.instanceMethod yJ5_inflateIfNeededFor_a7421) := sg_okt 1037 (by decide +kernel)
theorem cb_J5_putStringAt_47b60 : sg_cb mi_J5_putStringAt_47b60 2 := ⟨sg_okt 1034 (by decide +kernel), sg_okt 24 (by decide +kernel), ⟨by decide +kernel, by decide +kernel⟩, by decide +kernel, by decide +kernel⟩
theorem mn_J5_putStringAt_47b60 : sg_ok (.instanceMethod yJ5_putStringAt_47b60) := sg_okt 1033 (by decide +kernel)
theorem cb_J0_init_81219 : sg_cb mi_J0_init_81219 1 := ⟨sg_okt 942 (by decide +kernel), sg_okt 26 (by decide +kernel), ⟨by decide +kernel, by decide +kernel⟩, by decide +kernel, by decide +kernel⟩
theorem mn_J0_init_81219 : sg_ok (.instanceMethod yJ0_init_81219) := sg_okt 941 (by decide +kernel)
theorem cb_J0_init_db425 : sg_cb mi_J0_init_db425 2 := ⟨sg_okt 945 (by decide +kernel), sg_okt 26 (by decide +kernel), ⟨by decide +kernel, by decide +kernel⟩, by decide +kernel, by decide +kernel⟩
theorem mn_J0_init_db425 : sg_ok (.instanceMethod yJ0_init_db425) := sg_okt 944 (by decide +kernel)
theorem cb_J0_length_8abf5 : sg_cb mi_J0_length_8abf5 0 := ⟨sg_okt 1025 (by decide +kernel), sg_okt 26 (by decide +kernel), ⟨by decide +kernel, by decide +kernel⟩, by decide +kernel, by decide +kernel⟩
theorem mn_J0_length_8abf5 : sg_ok (.instanceMethod yJ0_length_8abf5) := sg_okt 1023 (by decide +kernel)
theorem mv_J0_length_8abf5 : sg_ok (.selects RJ0 yJ0_length_8abf5 yJ0_length_8abf5) := sg_okt 1024 (by decide +kernel)
theorem cb_J0_getBytes_840e7 : sg_cb mi_J0_getBytes_840e7 3 := ⟨sg_okt 1043 (by decide +kernel), sg_okt 26 (by decide +kernel), ⟨by decide +kernel, by decide +kernel⟩, by decide +kernel, by decide +kernel⟩
theorem mn_J0_getBytes_840e7 : sg_ok (.instanceMethod yJ0_getBytes_840e7) := sg_okt 1041 (by decide +kernel)
theorem mv_J0_getBytes_840e7 : sg_ok (.selects RJ0 yJ0_getBytes_840e7 yJ0_getBytes_840e7) := sg_okt 1042 (by decide +kernel)
theorem cb_J0_coder_7d493 : sg_cb mi_J0_coder_7d493 0 := ⟨sg_okt 1029 (by decide +kernel), sg_okt 26 (by decide +kernel), ⟨by decide +kernel, by decide +kernel⟩, by decide +kernel, by decide +kernel⟩
theorem mn_J0_coder_7d493 : sg_ok (.instanceMethod yJ0_coder_7d493) := sg_okt 1027 (by decide +kernel)
theorem mv_J0_coder_7d493 : sg_ok (.selects RJ0 yJ0_coder_7d493 yJ0_coder_7d493) := sg_okt 1028 (by decide +kernel)
theorem cb_J7_copyOf_1904c : sg_cb mi_J7_copyOf_1904c 2 := ⟨sg_okt 1283 (by decide +kernel), sg_okt 19 (by decide +kernel), ⟨by decide +kernel, by decide +kernel⟩, by decide +kernel, by decide +kernel⟩
theorem ms_J7_copyOf_1904c : sg_ok (.static yJ7_copyOf_1904c) := sg_okt 1282 (by decide +kernel)
theorem cb_J7_copyOf_6403c : sg_cb mi_J7_copyOf_6403c 3 := ⟨sg_okt 1302 (by decide +kernel), sg_okt 19 (by decide +kernel), ⟨by decide +kernel, by decide +kernel⟩, by decide +kernel, by decide +kernel⟩
theorem ms_J7_copyOf_6403c : sg_ok (.static yJ7_copyOf_6403c) := sg_okt 1301 (by decide +kernel)
theorem cb_J7_copyOf_9075b : sg_cb mi_J7_copyOf_9075b 2 := ⟨sg_okt 867 (by decide +kernel), sg_okt 19 (by decide +kernel), ⟨by decide +kernel, by decide +kernel⟩, by decide +kernel, by decide +kernel⟩
theorem ms_J7_copyOf_9075b : sg_ok (.static yJ7_copyOf_9075b) := sg_okt 866 (by decide +kernel)
theorem cb_J7_checkLength_df160 : sg_cb mi_J7_checkLength_df160 2 := ⟨sg_okt 969 (by decide +kernel), sg_okt 19 (by decide +kernel), ⟨by decide +kernel, by decide +kernel⟩, by decide +kernel, by decide +kernel⟩
theorem ms_J7_checkLength_df160 : sg_ok (.static yJ7_checkLength_df160) := sg_okt 968 (by decide +kernel)
theorem cb_J7_copyOfRange_39247 : sg_cb mi_J7_copyOfRange_39247 3 := ⟨sg_okt 963 (by decide +kernel), sg_okt 19 (by decide +kernel), ⟨by decide +kernel, by decide +kernel⟩, by decide +kernel, by decide +kernel⟩
theorem ms_J7_copyOfRange_39247 : sg_ok (.static yJ7_copyOfRange_39247) := sg_okt 962 (by decide +kernel)
theorem cb_J7_copyOfRangeByte_39247 : sg_cb mi_J7_copyOfRangeByte_39247 3 := ⟨sg_okt 966 (by decide +kernel), sg_okt 19 (by decide +kernel), ⟨by decide +kernel, by decide +kernel⟩, by decide +kernel, by decide +kernel⟩
theorem ms_J7_copyOfRangeByte_39247 : sg_ok (.static yJ7_copyOfRangeByte_39247) := sg_okt 965 (by decide +kernel)
theorem cb_J8_newLength_cabcc : sg_cb mi_J8_newLength_cabcc 3 := ⟨sg_okt 856 (by decide +kernel), sg_okt 17 (by decide +kernel), ⟨by decide +kernel, by decide +kernel⟩, by decide +kernel, by decide +kernel⟩
theorem ms_J8_newLength_cabcc : sg_ok (.static yJ8_newLength_cabcc) := sg_okt 855 (by decide +kernel)
theorem cb_J15_checkIndex_7cf53 : sg_cb mi_J15_checkIndex_7cf53 2 := ⟨sg_okt 1318 (by decide +kernel), sg_okt 21 (by decide +kernel), ⟨by decide +kernel, by decide +kernel⟩, by decide +kernel, by decide +kernel⟩
theorem ms_J15_checkIndex_7cf53 : sg_ok (.static yJ15_checkIndex_7cf53) := sg_okt 1317 (by decide +kernel)
theorem cb_J3_checkIndex_8e157 : sg_cb mi_J3_checkIndex_8e157 3 := ⟨sg_okt 933 (by decide +kernel), sg_okt 22 (by decide +kernel), ⟨by decide +kernel, by decide +kernel⟩, by decide +kernel, by decide +kernel⟩
theorem ms_J3_checkIndex_8e157 : sg_ok (.static yJ3_checkIndex_8e157) := sg_okt 932 (by decide +kernel)
theorem cb_J1_canEncode_fc78d : sg_cb mi_J1_canEncode_fc78d 1 := ⟨sg_okt 888 (by decide +kernel), sg_okt 28 (by decide +kernel), ⟨by decide +kernel, by decide +kernel⟩, by decide +kernel, by decide +kernel⟩
theorem ms_J1_canEncode_fc78d : sg_ok (.static yJ1_canEncode_fc78d) := sg_okt 887 (by decide +kernel)
theorem su_J4 : sg_ok (.superclass RJ4 RJ5) := sg_okt 835 (by decide +kernel)
theorem mp_J5_ensureCapacityInternal_d00df : Cond.privateMethod yJ5_ensureCapacityInternal_d00df ∈ lw_tbl := List.mem_append_right _ (List.mem_of_getElem? (i := 847) (by decide +kernel))
theorem mp_J5_newCapacity_0f7a4 : Cond.privateMethod yJ5_newCapacity_0f7a4 ∈ lw_tbl := List.mem_append_right _ (List.mem_of_getElem? (i := 851) (by decide +kernel))
theorem mq_J5_isLatin1_aae02 : sg_ok (.sameMethod yJ5_isLatin1_aae02.cls yJ5_isLatin1_aae02.cls yJ5_isLatin1_aae02.name yJ5_isLatin1_aae02.desc) := sg_okt 883 (by decide +kernel)
theorem mv_J5_isLatin1_aae02 : sg_ok (.selects RJ4 yJ5_isLatin1_aae02 yJ5_isLatin1_aae02) := sg_okt 884 (by decide +kernel)
theorem mq_J5_getValue_6d5f1 : sg_ok (.sameMethod yJ5_getValue_6d5f1.cls yJ5_getValue_6d5f1.cls yJ5_getValue_6d5f1.name yJ5_getValue_6d5f1.desc) := sg_okt 949 (by decide +kernel)
theorem mv_J5_getValue_6d5f1 : sg_ok (.selects RJ4 yJ5_getValue_6d5f1 yJ5_getValue_6d5f1) := sg_okt 950 (by decide +kernel)
theorem mq_J5_length_8abf5 : sg_ok (.sameMethod yJ5_length_8abf5.cls yJ5_length_8abf5.cls yJ5_length_8abf5.name yJ5_length_8abf5.desc) := sg_okt 954 (by decide +kernel)
theorem mw_J5_length_8abf5 : sg_ok (.selects RJ4 yJ5_length_8abf5 yJ4_length_8abf5) := sg_okt 955 (by decide +kernel)
theorem mp_J5_putStringAt_47b60 : Cond.privateMethod yJ5_putStringAt_47b60 ∈ lw_tbl := List.mem_append_right _ (List.mem_of_getElem? (i := 1032) (by decide +kernel))
theorem mp_J5_inflateIfNeededFor_a7421 : Cond.privateMethod yJ5_inflateIfNeededFor_a7421 ∈ lw_tbl := List.mem_append_right _ (List.mem_of_getElem? (i := 1036) (by decide +kernel))
theorem mq_J5_append_3fe6f : sg_ok (.sameMethod yJ5_append_3fe6f.cls yJ5_append_3fe6f.cls yJ5_append_3fe6f.name yJ5_append_3fe6f.desc) := sg_okt 1713 (by decide +kernel)
theorem mq_J5_ensureCapacityInternal_d00df : sg_ok (.sameMethod yJ5_ensureCapacityInternal_d00df.cls yJ5_ensureCapacityInternal_d00df.cls yJ5_ensureCapacityInternal_d00df.name yJ5_ensureCapacityInternal_d00df.desc) := sg_okt 1714 (by decide +kernel)
theorem mq_J5_newCapacity_0f7a4 : sg_ok (.sameMethod yJ5_newCapacity_0f7a4.cls yJ5_newCapacity_0f7a4.cls yJ5_newCapacity_0f7a4.name yJ5_newCapacity_0f7a4.desc) := sg_okt 1715 (by decide +kernel)
theorem mq_J5_append_cf1ce : sg_ok (.sameMethod yJ5_append_cf1ce.cls yJ5_append_cf1ce.cls yJ5_append_cf1ce.name yJ5_append_cf1ce.desc) := sg_okt 1718 (by decide +kernel)
theorem mq_J5_putStringAt_47b60 : sg_ok (.sameMethod yJ5_putStringAt_47b60.cls yJ5_putStringAt_47b60.cls yJ5_putStringAt_47b60.name yJ5_putStringAt_47b60.desc) := sg_okt 1720 (by decide +kernel)
theorem mq_J5_inflateIfNeededFor_a7421 : sg_ok (.sameMethod yJ5_inflateIfNeededFor_a7421.cls yJ5_inflateIfNeededFor_a7421.cls yJ5_inflateIfNeededFor_a7421.name yJ5_inflateIfNeededFor_a7421.desc) := sg_okt 1721 (by decide +kernel)
theorem sl_J5_ensureCapacityInternal_d00df {w : sg_W} (g : sg_G w) : sg_sl w RJ4 yJ5_ensureCapacityInternal_d00df := sg_slP g mv_J5_isLatin1_aae02 rfl ⟨by decide +kernel, by decide +kernel⟩ mp_J5_ensureCapacityInternal_d00df mn_J5_ensureCapacityInternal_d00df mn_J5_isLatin1_aae02
theorem sl_J5_newCapacity_0f7a4 {w : sg_W} (g : sg_G w) : sg_sl w RJ4 yJ5_newCapacity_0f7a4 := sg_slP g mv_J5_isLatin1_aae02 rfl ⟨by decide +kernel, by decide +kernel⟩ mp_J5_newCapacity_0f7a4 mn_J5_newCapacity_0f7a4 mn_J5_isLatin1_aae02
theorem sl_J5_inflateIfNeededFor_a7421 {w : sg_W} (g : sg_G w) : sg_sl w RJ4 yJ5_inflateIfNeededFor_a7421 := sg_slP g mv_J5_isLatin1_aae02 rfl ⟨by decide +kernel, by decide +kernel⟩ mp_J5_inflateIfNeededFor_a7421 mn_J5_inflateIfNeededFor_a7421 mn_J5_isLatin1_aae02
theorem sl_J5_putStringAt_47b60 {w : sg_W} (g : sg_G w) : sg_sl w RJ4 yJ5_putStringAt_47b60 := sg_slP g mv_J5_isLatin1_aae02 rfl ⟨by decide +kernel, by decide +kernel⟩ mp_J5_putStringAt_47b60 mn_J5_putStringAt_47b60 mn_J5_isLatin1_aae02
theorem ml_J4_1 : sg_ok (.methodLink RJ4 1 yJ5_init_d00df) := sg_okt 810 (by decide +kernel)
theorem ml_J4_50 : sg_ok (.methodLink RJ4 50 yJ5_append_3fe6f) := sg_okt 843 (by decide +kernel)
theorem ml_J5_100 : sg_ok (.methodLink RJ5 100 yJ5_ensureCapacityInternal_d00df) := sg_okt 846 (by decide +kernel)
theorem ml_J5_104 : sg_ok (.methodLink RJ5 104 yJ5_newCapacity_0f7a4) := sg_okt 850 (by decide +kernel)
theorem ml_J5_114 : sg_ok (.methodLink RJ5 114 yJ8_newLength_cabcc) := sg_okt 854 (by decide +kernel)
theorem ml_J5_108 : sg_ok (.methodLink RJ5 108 yJ7_copyOf_9075b) := sg_okt 865 (by decide +kernel)
theorem ml_J7_310 : sg_ok (.methodLink RJ7 310 (sg_cl "[B")) := sg_okt 868 (by decide +kernel)
theorem ml_J7_150 : sg_ok (.methodLink RJ7 150 arraycopyName) := sg_okt 878 (by decide +kernel)
theorem ml_J5_83 : sg_ok (.methodLink RJ5 83 yJ5_isLatin1_aae02) := sg_okt 881 (by decide +kernel)
theorem ml_J5_191 : sg_ok (.methodLink RJ5 191 yJ1_canEncode_fc78d) := sg_okt 886 (by decide +kernel)
theorem ml_J0_1059 : sg_ok (.methodLink RJ0 1059 yJ3_checkIndex_8e157) := sg_okt 931 (by decide +kernel)
theorem ml_J4_137 : sg_ok (.methodLink RJ4 137 yJ0_init_81219) := sg_okt 940 (by decide +kernel)
theorem ml_J0_489 : sg_ok (.methodLink RJ0 489 yJ0_init_db425) := sg_okt 943 (by decide +kernel)
theorem ml_J0_552 : sg_ok (.methodLink RJ0 552 yJ5_getValue_6d5f1) := sg_okt 947 (by decide +kernel)
theorem ml_J0_549 : sg_ok (.methodLink RJ0 549 yJ5_length_8abf5) := sg_okt 952 (by decide +kernel)
theorem ml_J4_343 : sg_ok (.methodLink RJ4 343 yJ5_length_8abf5) := sg_okt 958 (by decide +kernel)
theorem ml_J0_1047 : sg_ok (.methodLink RJ0 1047 yJ5_isLatin1_aae02) := sg_okt 960 (by decide +kernel)
theorem ml_J0_54 : sg_ok (.methodLink RJ0 54 yJ7_copyOfRange_39247) := sg_okt 961 (by decide +kernel)
theorem ml_J7_339 : sg_ok (.methodLink RJ7 339 yJ7_copyOfRangeByte_39247) := sg_okt 964 (by decide +kernel)
theorem ml_J7_343 : sg_ok (.methodLink RJ7 343 yJ7_checkLength_df160) := sg_okt 967 (by decide +kernel)
theorem ml_J7_47 : sg_ok (.methodLink RJ7 47 yJ4_init_da8c8) := sg_okt 972 (by decide +kernel)
theorem ml_J7_50 : sg_ok (.methodLink RJ7 50 yJ4_append_15ec4) := sg_okt 1008 (by decide +kernel)
theorem ml_J4_29 : sg_ok (.methodLink RJ4 29 yJ5_append_cf1ce) := sg_okt 1012 (by decide +kernel)
theorem ml_J5_32 : sg_ok (.methodLink RJ5 32 yJ0_length_8abf5) := sg_okt 1022 (by decide +kernel)
theorem ml_J0_335 : sg_ok (.methodLink RJ0 335 yJ0_coder_7d493) := sg_okt 1026 (by decide +kernel)
theorem ml_J5_208 : sg_ok (.methodLink RJ5 208 yJ5_putStringAt_47b60) := sg_okt 1031 (by decide +kernel)
theorem ml_J5_397 : sg_ok (.methodLink RJ5 397 yJ5_inflateIfNeededFor_a7421) := sg_okt 1035 (by decide +kernel)
theorem ml_J5_40 : sg_ok (.methodLink RJ5 40 yJ0_coder_7d493) := sg_okt 1039 (by decide +kernel)
theorem ml_J5_399 : sg_ok (.methodLink RJ5 399 yJ0_getBytes_840e7) := sg_okt 1040 (by decide +kernel)
theorem ml_J0_212 : sg_ok (.methodLink RJ0 212 arraycopyName) := sg_okt 1044 (by decide +kernel)
theorem ml_J7_61 : sg_ok (.methodLink RJ7 61 yJ4_toString_0e30d) := sg_okt 1046 (by decide +kernel)
theorem ml_Jx4a65c_1 : sg_ok (.methodLink RJx4a65c 1 yJxc12de_init_da8c8) := sg_okt 1195 (by decide +kernel)
theorem ml_Jxc12de_1 : sg_ok (.methodLink RJxc12de 1 yJxa1e45_init_da8c8) := sg_okt 1198 (by decide +kernel)
theorem ml_Jx4a65c_131 : sg_ok (.methodLink RJx4a65c 131 yJx4a65c_add_72be8) := sg_okt 1268 (by decide +kernel)
theorem ml_Jx4a65c_129 : sg_ok (.methodLink RJx4a65c 129 yJx4a65c_grow_d5877) := sg_okt 1272 (by decide +kernel)
theorem ml_Jx4a65c_69 : sg_ok (.methodLink RJx4a65c 69 yJx4a65c_grow_92f84) := sg_okt 1276 (by decide +kernel)
theorem ml_Jx4a65c_73 : sg_ok (.methodLink RJx4a65c 73 yJ8_newLength_cabcc) := sg_okt 1280 (by decide +kernel)
theorem ml_Jx4a65c_66 : sg_ok (.methodLink RJx4a65c 66 yJ7_copyOf_1904c) := sg_okt 1281 (by decide +kernel)
theorem ml_J7_86 : sg_ok (.methodLink RJ7 86 sg_gc) := sg_okt 1284 (by decide +kernel)
theorem ml_J7_300 : sg_ok (.methodLink RJ7 300 yJ7_copyOf_6403c) := sg_okt 1300 (by decide +kernel)
theorem ml_Jx4a65c_118 : sg_ok (.methodLink RJx4a65c 118 yJ15_checkIndex_7cf53) := sg_okt 1316 (by decide +kernel)
theorem ml_J15_105 : sg_ok (.methodLink RJ15 105 yJ3_checkIndex_8e157) := sg_okt 1319 (by decide +kernel)
theorem ml_Jx4a65c_144 : sg_ok (.methodLink RJx4a65c 144 yJx4a65c_fastRemove_b59b0) := sg_okt 1320 (by decide +kernel)
theorem ml_Jx4a65c_112 : sg_ok (.methodLink RJx4a65c 112 arraycopyName) := sg_okt 1324 (by decide +kernel)
theorem ml_Jx4a65c_123 : sg_ok (.methodLink RJx4a65c 123 yJx4a65c_elementData_915e3) := sg_okt 1610 (by decide +kernel)
theorem ma_st : sg_ok (.static arraycopyName) := sg_okt 879 (by decide +kernel)
theorem ma_na : sg_ok (.native arraycopyName) := sg_okt 880 (by decide +kernel)
theorem ma_in : sg_ok (.initialized "java/lang/System") := sg_okt 20 (by decide +kernel)
theorem mx_st : sg_ok (.static Lib.Math.max.name) := sg_okt 858 (by decide +kernel)
theorem mx_co : sg_ok (.code Lib.Math.max.name Lib.Math.max.code 2 (some .int)) := sg_okt 859 (by decide +kernel)
theorem mx_J8_194 : sg_ok (.methodLink RJ8 194 Lib.Math.max.name) := sg_okt 857 (by decide +kernel)
theorem mx_Jx4a65c_79 : sg_ok (.methodLink RJx4a65c 79 Lib.Math.max.name) := sg_okt 1306 (by decide +kernel)
theorem mx_X7_204 : sg_ok (.methodLink RX7 204 Lib.Math.max.name) := sg_okt 1589 (by decide +kernel)
theorem mm_st : sg_ok (.static Lib.Math.min.name) := sg_okt 876 (by decide +kernel)
theorem mm_co : sg_ok (.code Lib.Math.min.name Lib.Math.min.code 2 (some .int)) := sg_okt 877 (by decide +kernel)
theorem mm_J7_304 : sg_ok (.methodLink RJ7 304 Lib.Math.min.name) := sg_okt 875 (by decide +kernel)
theorem mx_in : sg_ok (.initialized "java/lang/Math") := sg_okt 18 (by decide +kernel)
theorem gc_de : Cond.declares sg_gc ∈ lw_tbl := List.mem_append_right _ (List.mem_of_getElem? (i := 1737) (by decide +kernel))
theorem gc_in : sg_ok (.instanceMethod sg_gc) := sg_okt 1285 (by decide +kernel)
theorem gc_na : sg_ok (.native sg_gc) := sg_okt 1299 (by decide +kernel)
theorem gc_se : sg_ok (.selects "[Ljava/lang/Object;" sg_gc sg_gc) := sg_okt 1736 (by decide +kernel)
theorem cl_in : sg_ok (.instanceMethod (sg_cl "java/lang/Object")) := sg_okt 871 (by decide +kernel)
theorem cl_na : sg_ok (.native (sg_cl "java/lang/Object")) := sg_okt 870 (by decide +kernel)
theorem cl_sm : sg_ok (.sameMethod "[B" "java/lang/Object" "clone" "()Ljava/lang/Object;") := sg_okt 869 (by decide +kernel)
theorem cl_se : sg_ok (.selects "[B" (sg_cl "[B") (sg_cl "java/lang/Object")) := sg_okt 872 (by decide +kernel)
theorem cl_ca : Cond.castable "[B" "java/lang/Cloneable" ∈ lw_tbl := List.mem_append_right _ (List.mem_of_getElem? (i := 873) (by decide +kernel))
theorem ci_ob : Cond.castable "[I" "java/lang/Object" ∈ lw_tbl := List.mem_append_right _ (List.mem_of_getElem? (i := 1739) (by decide +kernel))
theorem cii_ob : Cond.castable "[[I" "java/lang/Object" ∈ lw_tbl := List.mem_append_right _ (List.mem_of_getElem? (i := 1742) (by decide +kernel))
theorem cn_J8_200 : sg_ok (.constant RJ8 200 2147483639) := sg_okt 860 (by decide +kernel)
theorem cn_J5_39 : sg_ok (.constant RJ5 39 2147483647) := sg_okt 864 (by decide +kernel)
theorem cl_J7_311 : sg_ok (.classLink RJ7 311 "[B") := sg_okt 874 (by decide +kernel)
theorem cl_J4_18 : sg_ok (.classLink RJ4 18 "java/lang/String") := sg_okt 938 (by decide +kernel)
theorem cl_J7_43 : sg_ok (.classLink RJ7 43 "java/lang/IllegalArgumentException") := sg_okt 970 (by decide +kernel)
theorem cl_J7_45 : sg_ok (.classLink RJ7 45 "java/lang/StringBuilder") := sg_okt 971 (by decide +kernel)
theorem cl_J7_110 : sg_ok (.classLink RJ7 110 "[Ljava/lang/Object;") := sg_okt 1303 (by decide +kernel)
theorem cl_J7_2 : sg_ok (.classLink RJ7 2 "java/lang/Object") := sg_okt 1305 (by decide +kernel)
theorem cl_Jx4a65c_7 : sg_ok (.classLink RJx4a65c 7 "java/lang/Object") := sg_okt 1307 (by decide +kernel)
theorem kl_J5_18 : sg_ok (.fieldLink RJ5 18 "java/lang/String" "COMPACT_STRINGS" "Z") := sg_okt 814 (by decide +kernel)
theorem kl_J0_38 : sg_ok (.fieldLink RJ0 38 "java/lang/String" "COMPACT_STRINGS" "Z") := sg_okt 1030 (by decide +kernel)
theorem kl_Jx4a65c_39 : sg_ok (.fieldLink RJx4a65c 39 "java/util/ArrayList" "DEFAULTCAPACITY_EMPTY_ELEMENTDATA" "[Ljava/lang/Object;") := sg_okt 1202 (by decide +kernel)
theorem fk_J0_9 : sg_fk RJ0 9 0 0 true (.array .byte) := ⟨by decide +kernel, (RJ0, TJ0, 4), tyJ0, "java/lang/String", rfl, by decide +kernel, sgo_0, rfl, rfl, fun _ => rfl, sg_okt 1061 (by decide +kernel), Or.inl rfl⟩
theorem fk_J0_15 : sg_fk RJ0 15 0 1 true .byte := ⟨by decide +kernel, (RJ0, TJ0, 4), tyJ0, "java/lang/String", rfl, by decide +kernel, sgo_0, rfl, rfl, fun _ => rfl, sg_okt 1062 (by decide +kernel), Or.inl rfl⟩
theorem nv_J4_18 : ∀ (j : Nat) (v : sg_V), ([sg_n, sg_i 0, sg_i 0, sg_i 0] : List sg_V)[j]? = some v → sg_v v (defaultValue (tyJ0 j)) := fun j v hv => by
  have hj : j < 4 := (List.getElem?_eq_some_iff.mp hv).1
  rcases (show j = 0 ∨ j = 1 ∨ j = 2 ∨ j = 3 by omega) with rfl | rfl | rfl | rfl
  · cases Option.some.inj hv; exact rfl
  · cases Option.some.inj hv; exact ⟨0, rfl, rfl⟩
  · cases Option.some.inj hv; exact ⟨0, rfl, rfl⟩
  · cases Option.some.inj hv; exact ⟨0, rfl, rfl⟩
theorem nk_J4_18 : sg_nk RJ4 18 0 [sg_n, sg_i 0, sg_i 0, sg_i 0] 4 := ⟨by decide +kernel, (RJ0, TJ0, 4), tyJ0, rfl, sgo_0, rfl, rfl, nv_J4_18, sg_okt 938 (by decide +kernel), sg_okt 939 (by decide +kernel), sg_okt 26 (by decide +kernel)⟩
theorem fk_J5_15 : sg_fk RJ5 15 1 0 false (.array .byte) := ⟨by decide +kernel, (RJ4, TJ4, 4), tyJ4, "java/lang/AbstractStringBuilder", rfl, by decide +kernel, sgo_1, rfl, rfl, fun h => (nomatch h), sg_okt 823 (by decide +kernel), Or.inl rfl⟩
theorem fk_J5_22 : sg_fk RJ5 22 1 1 false .byte := ⟨by decide +kernel, (RJ4, TJ4, 4), tyJ4, "java/lang/AbstractStringBuilder", rfl, by decide +kernel, sgo_1, rfl, rfl, fun h => (nomatch h), sg_okt 824 (by decide +kernel), Or.inl rfl⟩
theorem fk_J0_1048 : sg_fk RJ0 1048 1 2 false .boolean := ⟨by decide +kernel, (RJ4, TJ4, 4), tyJ4, "java/lang/AbstractStringBuilder", rfl, by decide +kernel, sgo_1, rfl, rfl, fun h => (nomatch h), sg_okt 825 (by decide +kernel), Or.inl rfl⟩
theorem fk_J5_79 : sg_fk RJ5 79 1 3 false .int := ⟨by decide +kernel, (RJ4, TJ4, 4), tyJ4, "java/lang/AbstractStringBuilder", rfl, by decide +kernel, sgo_1, rfl, rfl, fun h => (nomatch h), sg_okt 826 (by decide +kernel), Or.inl rfl⟩
theorem nv_J7_45 : ∀ (j : Nat) (v : sg_V), ([sg_n, sg_i 0, sg_i 0, sg_i 0] : List sg_V)[j]? = some v → sg_v v (defaultValue (tyJ4 j)) := fun j v hv => by
  have hj : j < 4 := (List.getElem?_eq_some_iff.mp hv).1
  rcases (show j = 0 ∨ j = 1 ∨ j = 2 ∨ j = 3 by omega) with rfl | rfl | rfl | rfl
  · cases Option.some.inj hv; exact rfl
  · cases Option.some.inj hv; exact ⟨0, rfl, rfl⟩
  · cases Option.some.inj hv; exact ⟨0, rfl, rfl⟩
  · cases Option.some.inj hv; exact ⟨0, rfl, rfl⟩
theorem nk_J7_45 : sg_nk RJ7 45 1 [sg_n, sg_i 0, sg_i 0, sg_i 0] 4 := ⟨by decide +kernel, (RJ4, TJ4, 4), tyJ4, rfl, sgo_1, rfl, rfl, nv_J7_45, sg_okt 971 (by decide +kernel), sg_okt 806 (by decide +kernel), sg_okt 25 (by decide +kernel)⟩
theorem fk_Jx4a65c_9 : sg_fk RJx4a65c 9 2 1 false (.array (.object "java/lang/Object")) := ⟨by decide +kernel, (RJx4a65c, TJx4a65c, 3), tyJx4a65c, "java/util/ArrayList", rfl, by decide +kernel, sgo_2, rfl, rfl, fun h => (nomatch h), sg_okt 1204 (by decide +kernel), Or.inl rfl⟩
theorem fk_Jx4a65c_48 : sg_fk RJx4a65c 48 2 2 false .int := ⟨by decide +kernel, (RJx4a65c, TJx4a65c, 3), tyJx4a65c, "java/util/ArrayList", rfl, by decide +kernel, sgo_2, rfl, rfl, fun h => (nomatch h), sg_okt 1205 (by decide +kernel), Or.inl rfl⟩
theorem fk_Jxc12de_7 : sg_fk RJxc12de 7 2 0 false .int := ⟨by decide +kernel, (RJx4a65c, TJx4a65c, 3), tyJx4a65c, "java/util/AbstractList", rfl, by decide +kernel, sgo_2, rfl, rfl, fun h => (nomatch h), sg_okt 1206 (by decide +kernel), Or.inl rfl⟩
theorem fk_Jx4a65c_63 : sg_fk RJx4a65c 63 2 0 false .int := ⟨by decide +kernel, (RJx4a65c, TJx4a65c, 3), tyJx4a65c, "java/util/ArrayList", rfl, by decide +kernel, sgo_2, rfl, rfl, fun h => (nomatch h), sg_okt 1207 (by decide +kernel), Or.inr (sg_okt 1208 (by decide +kernel))⟩
