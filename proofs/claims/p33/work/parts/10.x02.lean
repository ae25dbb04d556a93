def ts_2_144 := tl16 ts_2_128.2
def ts_2_160 := tl16 ts_2_144.2
def ts_2_176 := tl16 ts_2_160.2
def ts_2_192 := tl16 ts_2_176.2
def ts_2_208 := tl16 ts_2_192.2
def ts_2_224 := tl16 ts_2_208.2
def ts_3_0 := tl16 (show ∀ x ∈ tables_1_3, x ∈ lw_tbl from fun _ h => tm_3 h)
def ts_3_16 := tl16 ts_3_0.2
def ts_3_32 := tl16 ts_3_16.2
def ts_3_48 := tl16 ts_3_32.2
def ts_3_64 := tl16 ts_3_48.2
def ts_3_80 := tl16 ts_3_64.2
def ts_3_96 := tl16 ts_3_80.2
def ts_3_112 := tl16 ts_3_96.2
def ts_3_128 := tl16 ts_3_112.2
def ts_3_144 := tl16 ts_3_128.2
def ts_3_160 := tl16 ts_3_144.2
def ts_3_176 := tl16 ts_3_160.2
