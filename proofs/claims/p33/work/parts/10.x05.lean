def ts_6_64 := tl16 ts_6_48.2
def ts_6_80 := tl16 ts_6_64.2
def ts_6_96 := tl16 ts_6_80.2
def ts_6_112 := tl16 ts_6_96.2
def ts_6_128 := tl16 ts_6_112.2
def ts_6_144 := tl16 ts_6_128.2
def ts_6_160 := tl16 ts_6_144.2
def ts_6_176 := tl16 ts_6_160.2
def ts_6_192 := tl16 ts_6_176.2
def ts_6_208 := tl16 ts_6_192.2
def ts_6_224 := tl16 ts_6_208.2
def ts_7_0 := tl16 (show ∀ x ∈ tables_1_7, x ∈ lw_tbl from fun _ h => tm_7 h)
def ts_7_16 := tl16 ts_7_0.2
def ts_7_32 := tl16 ts_7_16.2
def ts_7_48 := tl16 ts_7_32.2
def ts_7_64 := tl16 ts_7_48.2
def ts_7_80 := tl16 ts_7_64.2
def ts_7_96 := tl16 ts_7_80.2
