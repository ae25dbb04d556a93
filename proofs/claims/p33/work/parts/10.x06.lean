def ts_7_112 := tl16 ts_7_96.2
def ts_7_128 := tl16 ts_7_112.2
def ts_7_144 := tl16 ts_7_128.2
def ts_7_160 := tl16 ts_7_144.2
def ts_7_176 := tl16 ts_7_160.2
def ts_7_192 := tl16 ts_7_176.2
def ts_7_208 := tl16 ts_7_192.2
def ts_7_224 := tl16 ts_7_208.2
def ts_8_0 := tl16 (show ∀ x ∈ tables_1_8, x ∈ lw_tbl from fun _ h => tm_8 h)
def ts_8_16 := tl16 ts_8_0.2
def mi_X5_init : sg_M := (yX5_init, cX5_init, 1, (none : Option Jvm.ClassFile.FieldType))
def mi_X3_init : sg_M := (yX3_init, cX3_init, 2, (none : Option Jvm.ClassFile.FieldType))
def mi_X0_init : sg_M := (yX0_init, cX0_init, 2, (none : Option Jvm.ClassFile.FieldType))
def mi_X1_init : sg_M := (yX1_init, cX1_init, 2, (none : Option Jvm.ClassFile.FieldType))
def mi_X5_knock : sg_M := (yX5_knock, cX5_knock, 1, (some .int))
def mi_X5_digit : sg_M := (yX5_digit, cX5_digit, 3, (some .int))
def mi_X2_digitOf : sg_M := (yX2_digitOf, cX2_digitOf, 2, (some .int))
def mi_X2_isRadix : sg_M := (yX2_isRadix, cX2_isRadix, 1, (some .boolean))
