def ts_3_192 := tl16 ts_3_176.2
def ts_3_208 := tl16 ts_3_192.2
def ts_3_224 := tl16 ts_3_208.2
def ts_4_0 := tl16 (show ∀ x ∈ tables_1_4, x ∈ lw_tbl from fun _ h => tm_4 h)
def ts_4_16 := tl16 ts_4_0.2
def ts_4_32 := tl16 ts_4_16.2
def ts_4_48 := tl16 ts_4_32.2
def ts_4_64 := tl16 ts_4_48.2
def ts_4_80 := tl16 ts_4_64.2
def ts_4_96 := tl16 ts_4_80.2
def ts_4_112 := tl16 ts_4_96.2
def ts_4_128 := tl16 ts_4_112.2
def ts_4_144 := tl16 ts_4_128.2
def ts_4_160 := tl16 ts_4_144.2
def ts_4_176 := tl16 ts_4_160.2
def ts_4_192 := tl16 ts_4_176.2
def ts_4_208 := tl16 ts_4_192.2
def ts_5_0 := tl16 (show ∀ x ∈ tables_1_5, x ∈ lw_tbl from fun _ h => tm_5 h)
