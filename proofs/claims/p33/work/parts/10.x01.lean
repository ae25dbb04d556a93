def ts_1_96 := tl16 ts_1_80.2
def ts_1_112 := tl16 ts_1_96.2
def ts_1_128 := tl16 ts_1_112.2
def ts_1_144 := tl16 ts_1_128.2
def ts_1_160 := tl16 ts_1_144.2
def ts_1_176 := tl16 ts_1_160.2
def ts_1_192 := tl16 ts_1_176.2
def ts_1_208 := tl16 ts_1_192.2
def ts_1_224 := tl16 ts_1_208.2
def ts_2_0 := tl16 (show ∀ x ∈ tables_1_2, x ∈ lw_tbl from fun _ h => tm_2 h)
def ts_2_16 := tl16 ts_2_0.2
def ts_2_32 := tl16 ts_2_16.2
def ts_2_48 := tl16 ts_2_32.2
def ts_2_64 := tl16 ts_2_48.2
def ts_2_80 := tl16 ts_2_64.2
def ts_2_96 := tl16 ts_2_80.2
def ts_2_112 := tl16 ts_2_96.2
def ts_2_128 := tl16 ts_2_112.2
