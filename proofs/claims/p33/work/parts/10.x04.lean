def ts_5_16 := tl16 ts_5_0.2
def ts_5_32 := tl16 ts_5_16.2
def ts_5_48 := tl16 ts_5_32.2
def ts_5_64 := tl16 ts_5_48.2
def ts_5_80 := tl16 ts_5_64.2
def ts_5_96 := tl16 ts_5_80.2
def ts_5_112 := tl16 ts_5_96.2
def ts_5_128 := tl16 ts_5_112.2
def ts_5_144 := tl16 ts_5_128.2
def ts_5_160 := tl16 ts_5_144.2
def ts_5_176 := tl16 ts_5_160.2
def ts_5_192 := tl16 ts_5_176.2
def ts_5_208 := tl16 ts_5_192.2
def ts_5_224 := tl16 ts_5_208.2
def ts_6_0 := tl16 (show ∀ x ∈ tables_1_6, x ∈ lw_tbl from fun _ h => tm_6 h)
def ts_6_16 := tl16 ts_6_0.2
def ts_6_32 := tl16 ts_6_16.2
def ts_6_48 := tl16 ts_6_32.2
