set_option maxRecDepth 100000 in
set_option maxHeartbeats 1000000 in
theorem lw_c40 {w : sg_W} {Q : sg_O → sg_H → Prop} {h : sg_H} (g : sg_G w) (nc : jk_C w) (hJ : jz w) {d mc ms : Nat} (hd : 30 ≤ d) {B M O S j k n : Nat} {xs : List Int} {A : fa_A} (jJ : jk_J w B M O S xs h A) (hj : 6 * j + 6 ≤ xs.length) (hl : xs.length ≤ 3072) (hk : k + 1030 ≤ mc) (hn : n + (48 + 180) ≤ ms) (K : ∀ (h' : sg_H) (k' n' : Nat) (A' : fa_A), jk_J w B M O S xs h' A' → k' ≤ k + 1030 → n' ≤ n + (48 + 180) → sg_R w mi_L_law d mc ms Q 2465 [(0, sg_r S), (1, sg_r B), (2, sg_r M), (3, sg_r O), (4, sg_i (6 * (j : Int)))] [] h' k' n') : sg_R w mi_L_law d mc ms Q 1827 [(0, sg_r S), (1, sg_r B), (2, sg_r M), (3, sg_r O), (4, sg_i (6 * (j : Int)))] [] h k n := by
  obtain ⟨p1, e1⟩ : ∃ p, xs.getD (6 * (j : Int) + 1).toNat 0 = p := ⟨_, rfl⟩
  obtain ⟨p2, e2⟩ : ∃ p, xs.getD (6 * (j : Int) + 2).toNat 0 = p := ⟨_, rfl⟩
  obtain ⟨p3, e3⟩ : ∃ p, xs.getD (6 * (j : Int) + 3).toNat 0 = p := ⟨_, rfl⟩
  obtain ⟨p4, e4⟩ : ∃ p, xs.getD (6 * (j : Int) + 4).toNat 0 = p := ⟨_, rfl⟩
  obtain ⟨p5, e5⟩ : ∃ p, xs.getD (6 * (j : Int) + 5).toNat 0 = p := ⟨_, rfl⟩
  refine sg_aload_n (pc := 1827) (j := 1) dL_law_1827 rfl rfl ?_
  refine sg_aload_n (pc := 1828) (j := 0) dL_law_1828 rfl rfl ?_
  refine sg_iload (pc := 1829) dL_law_1829 rfl ?_
  refine sg_iconst (pc := 1831) (z := 1) dL_law_1831 (by decide) ?_
  first | refine sg_iaddB (pc := 1832) dL_law_1832 (by omega) (by omega) ?_ | refine sg_iadd (pc := 1832) dL_law_1832 ?_
  refine sg_iald (pc := 1833) dL_law_1833 jJ.1.2.2.2.2.2.2.2.2.2 rfl (by omega) (jk_x (by omega) (by omega)) ?_
  try rw [e1]
  try rw [e2]
  try rw [e3]
  try rw [e4]
  try rw [e5]
  refine sg_aload_n (pc := 1834) (j := 0) dL_law_1834 rfl rfl ?_
  refine sg_iload (pc := 1835) dL_law_1835 rfl ?_
  refine sg_iconst (pc := 1837) (z := 2) dL_law_1837 (by decide) ?_
  first | refine sg_iaddB (pc := 1838) dL_law_1838 (by omega) (by omega) ?_ | refine sg_iadd (pc := 1838) dL_law_1838 ?_
  refine sg_iald (pc := 1839) dL_law_1839 jJ.1.2.2.2.2.2.2.2.2.2 rfl (by omega) (jk_x (by omega) (by omega)) ?_
  try rw [e1]
  try rw [e2]
  try rw [e3]
  try rw [e4]
  try rw [e5]
  refine sg_aload_n (pc := 1840) (j := 0) dL_law_1840 rfl rfl ?_
  refine sg_iload (pc := 1841) dL_law_1841 rfl ?_
  refine sg_iconst (pc := 1843) (z := 3) dL_law_1843 (by decide) ?_
  first | refine sg_iaddB (pc := 1844) dL_law_1844 (by omega) (by omega) ?_ | refine sg_iadd (pc := 1844) dL_law_1844 ?_
  refine sg_iald (pc := 1845) dL_law_1845 jJ.1.2.2.2.2.2.2.2.2.2 rfl (by omega) (jk_x (by omega) (by omega)) ?_
  try rw [e1]
  try rw [e2]
  try rw [e3]
  try rw [e4]
  try rw [e5]
  refine sg_if_eq (pc := 1846) (tgt := 1853) dL_law_1846 (by decide) (fun c1846 => ?_) (fun c1846 => ?_)
  · refine sg_iconst (pc := 1853) (z := 0) dL_law_1853 (by decide) ?_
    refine sg_aload_n (pc := 1854) (j := 3) dL_law_1854 rfl rfl ?_
    obtain ⟨L, hL⟩ : ∃ X, fa_L A p1.toNat = X := ⟨_, rfl⟩
    refine st_cS5 (pc := 1855) (d' := d - 1) (mc' := 8) (ms' := 48) g dL_law_1855 cb_L_word cw_L_word ml_L_324 ms_L_word (Nat.le_of_ble_eq_true rfl) (by first | exact jl_d0 hd rfl | omega) (by first | exact Nat.le_of_ble_eq_true rfl | omega) (by first | exact Nat.le_of_ble_eq_true rfl | omega) ?_
    refine f_L_word g nc (by omega) jJ.1 jJ.2.1 jJ.2.2.2 hL (fun v1 h1 I1 X1 k0 k1 F1 r1 => sg_K1 ?_)
    refine sg_istore (pc := 1858) dL_law_1858 (by decide) ?_
    refine sg_aload_n (pc := 1860) (j := 2) dL_law_1860 rfl rfl ?_
    refine sg_aload_n (pc := 1861) (j := 0) dL_law_1861 rfl rfl ?_
    refine sg_iload (pc := 1862) dL_law_1862 rfl ?_
    refine sg_iconst (pc := 1864) (z := 1) dL_law_1864 (by decide) ?_
    first | refine sg_iaddB (pc := 1865) dL_law_1865 (by omega) (by omega) ?_ | refine sg_iadd (pc := 1865) dL_law_1865 ?_
    refine sg_iald (pc := 1866) dL_law_1866 I1.2.2.2.2.2.2.2.2.2 rfl (by omega) (jk_x (by omega) (by omega)) ?_
    try rw [e1]
    try rw [e2]
    try rw [e3]
    try rw [e4]
    try rw [e5]
    refine sg_aload_n (pc := 1867) (j := 0) dL_law_1867 rfl rfl ?_
    refine sg_iload (pc := 1868) dL_law_1868 rfl ?_
    refine sg_iconst (pc := 1870) (z := 2) dL_law_1870 (by decide) ?_
    first | refine sg_iaddB (pc := 1871) dL_law_1871 (by omega) (by omega) ?_ | refine sg_iadd (pc := 1871) dL_law_1871 ?_
    refine sg_iald (pc := 1872) dL_law_1872 I1.2.2.2.2.2.2.2.2.2 rfl (by omega) (jk_x (by omega) (by omega)) ?_
    try rw [e1]
    try rw [e2]
    try rw [e3]
    try rw [e4]
    try rw [e5]
    refine sg_aload_n (pc := 1873) (j := 0) dL_law_1873 rfl rfl ?_
    refine sg_iload (pc := 1874) dL_law_1874 rfl ?_
    refine sg_iconst (pc := 1876) (z := 3) dL_law_1876 (by decide) ?_
    first | refine sg_iaddB (pc := 1877) dL_law_1877 (by omega) (by omega) ?_ | refine sg_iadd (pc := 1877) dL_law_1877 ?_
    refine sg_iald (pc := 1878) dL_law_1878 I1.2.2.2.2.2.2.2.2.2 rfl (by omega) (jk_x (by omega) (by omega)) ?_
    try rw [e1]
    try rw [e2]
    try rw [e3]
    try rw [e4]
    try rw [e5]
    refine sg_if_eq (pc := 1879) (tgt := 1886) dL_law_1879 (by decide) (fun c1879 => ?_) (fun c1879 => absurd c1846 c1879)
    refine sg_iconst (pc := 1886) (z := 0) dL_law_1886 (by decide) ?_
    refine st_as (fun H r => jk_tgR (B := B) r) ?_
    have m2 := jk_Im I1
    have ab0 := jk_Jt jJ I1 X1
    refine sg_cE3 (pc := 1887) (d' := d - 1) (mc' := 48) (ms' := 180) 8 g dL_law_1887 cb_X7_word ml_L_326 mn_X7_word rfl mv_X7_word (Nat.le_of_ble_eq_true rfl) (md_oc m2) (Nat.le_of_ble_eq_true rfl) (by first | exact jl_d0 hd rfl | omega) (by first | exact Nat.le_of_ble_eq_true rfl | omega) (by first | exact Nat.le_of_ble_eq_true rfl | omega) ?_
    refine s_X7_word g (by first | exact jl_d1 hd rfl | omega) m2 (fun v2 h2  y2 => sg_K1 ?_)
    refine st_as (fun H r => jk_unR I1.1 r) ?_
    have J2 : jk_J w B M O S xs (jk_unt B h2) A := jk_JM I1 (md_YW y2) (cf_XF jJ.2.1 F1) (y2.2.2.trans ab0) jJ.2.2.2
    have y2 := md_YW y2
    have I2 := J2.1
    refine sg_istore (pc := 1890) dL_law_1890 (by decide) ?_
    refine sg_goto (pc := 1892) (tgt := 2465) dL_law_1892 (by decide) ?_
    refine sg_lsub (lv' := [(0, _), (1, _), (2, _), (3, _), (4, _)]) ⟨rfl, rfl, rfl, rfl, rfl, trivial⟩ ?_
    exact K _ _ _ _ J2 (by omega) (by omega)
  · refine sg_iconst (pc := 1849) (z := 1) dL_law_1849 (by decide) ?_
    refine sg_goto (pc := 1850) (tgt := 1854) dL_law_1850 (by decide) ?_
    refine sg_aload_n (pc := 1854) (j := 3) dL_law_1854 rfl rfl ?_
    obtain ⟨L, hL⟩ : ∃ X, fa_L A p1.toNat = X := ⟨_, rfl⟩
    refine st_cS5 (pc := 1855) (d' := d - 1) (mc' := 8) (ms' := 48) g dL_law_1855 cb_L_word cw_L_word ml_L_324 ms_L_word (Nat.le_of_ble_eq_true rfl) (by first | exact jl_d0 hd rfl | omega) (by first | exact Nat.le_of_ble_eq_true rfl | omega) (by first | exact Nat.le_of_ble_eq_true rfl | omega) ?_
    refine f_L_word g nc (by omega) jJ.1 jJ.2.1 jJ.2.2.2 hL (fun v1 h1 I1 X1 k0 k1 F1 r1 => sg_K1 ?_)
    refine sg_istore (pc := 1858) dL_law_1858 (by decide) ?_
    refine sg_aload_n (pc := 1860) (j := 2) dL_law_1860 rfl rfl ?_
    refine sg_aload_n (pc := 1861) (j := 0) dL_law_1861 rfl rfl ?_
    refine sg_iload (pc := 1862) dL_law_1862 rfl ?_
    refine sg_iconst (pc := 1864) (z := 1) dL_law_1864 (by decide) ?_
    first | refine sg_iaddB (pc := 1865) dL_law_1865 (by omega) (by omega) ?_ | refine sg_iadd (pc := 1865) dL_law_1865 ?_
    refine sg_iald (pc := 1866) dL_law_1866 I1.2.2.2.2.2.2.2.2.2 rfl (by omega) (jk_x (by omega) (by omega)) ?_
    try rw [e1]
    try rw [e2]
    try rw [e3]
    try rw [e4]
    try rw [e5]
    refine sg_aload_n (pc := 1867) (j := 0) dL_law_1867 rfl rfl ?_
    refine sg_iload (pc := 1868) dL_law_1868 rfl ?_
    refine sg_iconst (pc := 1870) (z := 2) dL_law_1870 (by decide) ?_
    first | refine sg_iaddB (pc := 1871) dL_law_1871 (by omega) (by omega) ?_ | refine sg_iadd (pc := 1871) dL_law_1871 ?_
    refine sg_iald (pc := 1872) dL_law_1872 I1.2.2.2.2.2.2.2.2.2 rfl (by omega) (jk_x (by omega) (by omega)) ?_
    try rw [e1]
    try rw [e2]
    try rw [e3]
    try rw [e4]
    try rw [e5]
    refine sg_aload_n (pc := 1873) (j := 0) dL_law_1873 rfl rfl ?_
    refine sg_iload (pc := 1874) dL_law_1874 rfl ?_
    refine sg_iconst (pc := 1876) (z := 3) dL_law_1876 (by decide) ?_
    first | refine sg_iaddB (pc := 1877) dL_law_1877 (by omega) (by omega) ?_ | refine sg_iadd (pc := 1877) dL_law_1877 ?_
    refine sg_iald (pc := 1878) dL_law_1878 I1.2.2.2.2.2.2.2.2.2 rfl (by omega) (jk_x (by omega) (by omega)) ?_
    try rw [e1]
    try rw [e2]
    try rw [e3]
    try rw [e4]
    try rw [e5]
    refine sg_if_eq (pc := 1879) (tgt := 1886) dL_law_1879 (by decide) (fun c1879 => absurd c1879 c1846) (fun c1879 => ?_)
    refine sg_iconst (pc := 1882) (z := 1) dL_law_1882 (by decide) ?_
    refine sg_goto (pc := 1883) (tgt := 1887) dL_law_1883 (by decide) ?_
    refine st_as (fun H r => jk_tgR (B := B) r) ?_
    have m2 := jk_Im I1
    have ab0 := jk_Jt jJ I1 X1
    refine sg_cE3 (pc := 1887) (d' := d - 1) (mc' := 48) (ms' := 180) 8 g dL_law_1887 cb_X7_word ml_L_326 mn_X7_word rfl mv_X7_word (Nat.le_of_ble_eq_true rfl) (md_oc m2) (Nat.le_of_ble_eq_true rfl) (by first | exact jl_d0 hd rfl | omega) (by first | exact Nat.le_of_ble_eq_true rfl | omega) (by first | exact Nat.le_of_ble_eq_true rfl | omega) ?_
    refine s_X7_word g (by first | exact jl_d1 hd rfl | omega) m2 (fun v2 h2  y2 => sg_K1 ?_)
    refine st_as (fun H r => jk_unR I1.1 r) ?_
    have J2 : jk_J w B M O S xs (jk_unt B h2) A := jk_JM I1 (md_YW y2) (cf_XF jJ.2.1 F1) (y2.2.2.trans ab0) jJ.2.2.2
    have y2 := md_YW y2
    have I2 := J2.1
    refine sg_istore (pc := 1890) dL_law_1890 (by decide) ?_
    refine sg_goto (pc := 1892) (tgt := 2465) dL_law_1892 (by decide) ?_
    refine sg_lsub (lv' := [(0, _), (1, _), (2, _), (3, _), (4, _)]) ⟨rfl, rfl, rfl, rfl, rfl, trivial⟩ ?_
    exact K _ _ _ _ J2 (by omega) (by omega)

set_option maxRecDepth 100000 in
set_option maxHeartbeats 1000000 in
theorem lw_c41 {w : sg_W} {Q : sg_O → sg_H → Prop} {h : sg_H} (g : sg_G w) (nc : jk_C w) (hJ : jz w) {d mc ms : Nat} (hd : 30 ≤ d) {B M O S j k n : Nat} {xs : List Int} {A : fa_A} (jJ : jk_J w B M O S xs h A) (hj : 6 * j + 6 ≤ xs.length) (hl : xs.length ≤ 3072) (hk : k + 1030 ≤ mc) (hn : n + (48 + 0) ≤ ms) (K : ∀ (h' : sg_H) (k' n' : Nat) (A' : fa_A), jk_J w B M O S xs h' A' → k' ≤ k + 1030 → n' ≤ n + (48 + 0) → sg_R w mi_L_law d mc ms Q 2465 [(0, sg_r S), (1, sg_r B), (2, sg_r M), (3, sg_r O), (4, sg_i (6 * (j : Int)))] [] h' k' n') : sg_R w mi_L_law d mc ms Q 1895 [(0, sg_r S), (1, sg_r B), (2, sg_r M), (3, sg_r O), (4, sg_i (6 * (j : Int)))] [] h k n := by
  obtain ⟨p1, e1⟩ : ∃ p, xs.getD (6 * (j : Int) + 1).toNat 0 = p := ⟨_, rfl⟩
  obtain ⟨p2, e2⟩ : ∃ p, xs.getD (6 * (j : Int) + 2).toNat 0 = p := ⟨_, rfl⟩
  obtain ⟨p3, e3⟩ : ∃ p, xs.getD (6 * (j : Int) + 3).toNat 0 = p := ⟨_, rfl⟩
  obtain ⟨p4, e4⟩ : ∃ p, xs.getD (6 * (j : Int) + 4).toNat 0 = p := ⟨_, rfl⟩
  obtain ⟨p5, e5⟩ : ∃ p, xs.getD (6 * (j : Int) + 5).toNat 0 = p := ⟨_, rfl⟩
  refine sg_aload_n (pc := 1895) (j := 1) dL_law_1895 rfl rfl ?_
  refine sg_aload_n (pc := 1896) (j := 0) dL_law_1896 rfl rfl ?_
  refine sg_iload (pc := 1897) dL_law_1897 rfl ?_
  refine sg_iconst (pc := 1899) (z := 1) dL_law_1899 (by decide) ?_
  first | refine sg_iaddB (pc := 1900) dL_law_1900 (by omega) (by omega) ?_ | refine sg_iadd (pc := 1900) dL_law_1900 ?_
  refine sg_iald (pc := 1901) dL_law_1901 jJ.1.2.2.2.2.2.2.2.2.2 rfl (by omega) (jk_x (by omega) (by omega)) ?_
  try rw [e1]
  try rw [e2]
  try rw [e3]
  try rw [e4]
  try rw [e5]
  refine sg_aload_n (pc := 1902) (j := 0) dL_law_1902 rfl rfl ?_
  refine sg_iload (pc := 1903) dL_law_1903 rfl ?_
  refine sg_iconst (pc := 1905) (z := 2) dL_law_1905 (by decide) ?_
  first | refine sg_iaddB (pc := 1906) dL_law_1906 (by omega) (by omega) ?_ | refine sg_iadd (pc := 1906) dL_law_1906 ?_
  refine sg_iald (pc := 1907) dL_law_1907 jJ.1.2.2.2.2.2.2.2.2.2 rfl (by omega) (jk_x (by omega) (by omega)) ?_
  try rw [e1]
  try rw [e2]
  try rw [e3]
  try rw [e4]
  try rw [e5]
  refine sg_aload_n (pc := 1908) (j := 3) dL_law_1908 rfl rfl ?_
  obtain ⟨L, hL⟩ : ∃ X, fa_L A p1.toNat = X := ⟨_, rfl⟩
  obtain ⟨Z, hZ⟩ : ∃ X, fa_L A p2.toNat = X := ⟨_, rfl⟩
  refine st_cS4 (pc := 1909) (d' := d - 1) (mc' := 8) (ms' := 48) g dL_law_1909 cb_L_isAlike cw_L_isAlike ml_L_327 ms_L_isAlike (Nat.le_of_ble_eq_true rfl) (by first | exact jl_d0 hd rfl | omega) (by first | exact Nat.le_of_ble_eq_true rfl | omega) (by first | exact Nat.le_of_ble_eq_true rfl | omega) ?_
  refine f_L_isAlike g nc (by omega) jJ.1 jJ.2.1 jJ.2.2.2 hL hZ (fun v1 h1 I1 X1 k0 k1 F1 r1 => sg_K1 ?_)
  refine sg_istore (pc := 1912) dL_law_1912 (by decide) ?_
  refine sg_aload_n (pc := 1914) (j := 2) dL_law_1914 rfl rfl ?_
  refine sg_aload_n (pc := 1915) (j := 0) dL_law_1915 rfl rfl ?_
  refine sg_iload (pc := 1916) dL_law_1916 rfl ?_
  refine sg_iconst (pc := 1918) (z := 1) dL_law_1918 (by decide) ?_
  first | refine sg_iaddB (pc := 1919) dL_law_1919 (by omega) (by omega) ?_ | refine sg_iadd (pc := 1919) dL_law_1919 ?_
  refine sg_iald (pc := 1920) dL_law_1920 I1.2.2.2.2.2.2.2.2.2 rfl (by omega) (jk_x (by omega) (by omega)) ?_
  try rw [e1]
  try rw [e2]
  try rw [e3]
  try rw [e4]
  try rw [e5]
  refine sg_aload_n (pc := 1921) (j := 0) dL_law_1921 rfl rfl ?_
  refine sg_iload (pc := 1922) dL_law_1922 rfl ?_
  refine sg_iconst (pc := 1924) (z := 2) dL_law_1924 (by decide) ?_
  first | refine sg_iaddB (pc := 1925) dL_law_1925 (by omega) (by omega) ?_ | refine sg_iadd (pc := 1925) dL_law_1925 ?_
  refine sg_iald (pc := 1926) dL_law_1926 I1.2.2.2.2.2.2.2.2.2 rfl (by omega) (jk_x (by omega) (by omega)) ?_
  try rw [e1]
  try rw [e2]
  try rw [e3]
  try rw [e4]
  try rw [e5]
  refine st_as (fun H r => jk_tgR (B := B) r) ?_
  have m2 := jk_Im I1
  have ab0 := jk_Jt jJ I1 X1
  refine sg_cE2 (pc := 1927) (d' := d - 1) (mc' := 0) (ms' := 0) 8 g dL_law_1927 cb_X7_isAlike ml_L_329 mn_X7_isAlike rfl mv_X7_isAlike (Nat.le_of_ble_eq_true rfl) (md_oc m2) (Nat.le_of_ble_eq_true rfl) (by first | exact jl_d0 hd rfl | omega) (by first | exact Nat.le_of_ble_eq_true rfl | omega) (by first | exact Nat.le_of_ble_eq_true rfl | omega) ?_
  refine s_X7_isAlike g (by first | exact jl_d1 hd rfl | omega) m2 (fun v2 h2 c2_0 y2 => sg_K1 ?_)
  refine st_as (fun H r => jk_unR I1.1 r) ?_
  have J2 : jk_J w B M O S xs (jk_unt B h2) A := jk_JM I1 (md_YW y2) (cf_XF jJ.2.1 F1) (y2.2.2.trans ab0) jJ.2.2.2
  have y2 := md_YW y2
  have I2 := J2.1
  refine sg_istore (pc := 1930) dL_law_1930 (by decide) ?_
  refine sg_goto (pc := 1932) (tgt := 2465) dL_law_1932 (by decide) ?_
  refine sg_lsub (lv' := [(0, _), (1, _), (2, _), (3, _), (4, _)]) ⟨rfl, rfl, rfl, rfl, rfl, trivial⟩ ?_
  exact K _ _ _ _ J2 (by omega) (by omega)

set_option maxRecDepth 100000 in
set_option maxHeartbeats 1000000 in
theorem lw_c42 {w : sg_W} {Q : sg_O → sg_H → Prop} {h : sg_H} (g : sg_G w) (nc : jk_C w) (hJ : jz w) {d mc ms : Nat} (hd : 30 ≤ d) {B M O S j k n : Nat} {xs : List Int} {A : fa_A} (jJ : jk_J w B M O S xs h A) (hj : 6 * j + 6 ≤ xs.length) (hl : xs.length ≤ 3072) (hk : k + 1030 ≤ mc) (hn : n + (48 + 0) ≤ ms) (K : ∀ (h' : sg_H) (k' n' : Nat) (A' : fa_A), jk_J w B M O S xs h' A' → k' ≤ k + 1030 → n' ≤ n + (48 + 0) → sg_R w mi_L_law d mc ms Q 2465 [(0, sg_r S), (1, sg_r B), (2, sg_r M), (3, sg_r O), (4, sg_i (6 * (j : Int)))] [] h' k' n') : sg_R w mi_L_law d mc ms Q 1935 [(0, sg_r S), (1, sg_r B), (2, sg_r M), (3, sg_r O), (4, sg_i (6 * (j : Int)))] [] h k n := by
  obtain ⟨p1, e1⟩ : ∃ p, xs.getD (6 * (j : Int) + 1).toNat 0 = p := ⟨_, rfl⟩
  obtain ⟨p2, e2⟩ : ∃ p, xs.getD (6 * (j : Int) + 2).toNat 0 = p := ⟨_, rfl⟩
  obtain ⟨p3, e3⟩ : ∃ p, xs.getD (6 * (j : Int) + 3).toNat 0 = p := ⟨_, rfl⟩
  obtain ⟨p4, e4⟩ : ∃ p, xs.getD (6 * (j : Int) + 4).toNat 0 = p := ⟨_, rfl⟩
  obtain ⟨p5, e5⟩ : ∃ p, xs.getD (6 * (j : Int) + 5).toNat 0 = p := ⟨_, rfl⟩
  refine sg_aload_n (pc := 1935) (j := 1) dL_law_1935 rfl rfl ?_
  refine sg_aload_n (pc := 1936) (j := 0) dL_law_1936 rfl rfl ?_
  refine sg_iload (pc := 1937) dL_law_1937 rfl ?_
  refine sg_iconst (pc := 1939) (z := 1) dL_law_1939 (by decide) ?_
  first | refine sg_iaddB (pc := 1940) dL_law_1940 (by omega) (by omega) ?_ | refine sg_iadd (pc := 1940) dL_law_1940 ?_
  refine sg_iald (pc := 1941) dL_law_1941 jJ.1.2.2.2.2.2.2.2.2.2 rfl (by omega) (jk_x (by omega) (by omega)) ?_
  try rw [e1]
  try rw [e2]
  try rw [e3]
  try rw [e4]
  try rw [e5]
  refine sg_aload_n (pc := 1942) (j := 0) dL_law_1942 rfl rfl ?_
  refine sg_iload (pc := 1943) dL_law_1943 rfl ?_
  refine sg_iconst (pc := 1945) (z := 2) dL_law_1945 (by decide) ?_
  first | refine sg_iaddB (pc := 1946) dL_law_1946 (by omega) (by omega) ?_ | refine sg_iadd (pc := 1946) dL_law_1946 ?_
  refine sg_iald (pc := 1947) dL_law_1947 jJ.1.2.2.2.2.2.2.2.2.2 rfl (by omega) (jk_x (by omega) (by omega)) ?_
  try rw [e1]
  try rw [e2]
  try rw [e3]
  try rw [e4]
  try rw [e5]
  refine sg_aload_n (pc := 1948) (j := 3) dL_law_1948 rfl rfl ?_
  obtain ⟨L, hL⟩ : ∃ X, fa_L A p1.toNat = X := ⟨_, rfl⟩
  obtain ⟨Z, hZ⟩ : ∃ X, fa_L A p2.toNat = X := ⟨_, rfl⟩
  refine st_cS4 (pc := 1949) (d' := d - 1) (mc' := 8) (ms' := 48) g dL_law_1949 cb_L_order cw_L_order ml_L_330 ms_L_order (Nat.le_of_ble_eq_true rfl) (by first | exact jl_d0 hd rfl | omega) (by first | exact Nat.le_of_ble_eq_true rfl | omega) (by first | exact Nat.le_of_ble_eq_true rfl | omega) ?_
  refine f_L_order g nc (by omega) jJ.1 jJ.2.1 jJ.2.2.2 hL hZ (fun v1 h1 I1 X1 k0 k1 F1 r1 => sg_K1 ?_)
  refine sg_istore (pc := 1952) dL_law_1952 (by decide) ?_
  refine sg_aload_n (pc := 1954) (j := 2) dL_law_1954 rfl rfl ?_
  refine sg_aload_n (pc := 1955) (j := 0) dL_law_1955 rfl rfl ?_
  refine sg_iload (pc := 1956) dL_law_1956 rfl ?_
  refine sg_iconst (pc := 1958) (z := 1) dL_law_1958 (by decide) ?_
  first | refine sg_iaddB (pc := 1959) dL_law_1959 (by omega) (by omega) ?_ | refine sg_iadd (pc := 1959) dL_law_1959 ?_
  refine sg_iald (pc := 1960) dL_law_1960 I1.2.2.2.2.2.2.2.2.2 rfl (by omega) (jk_x (by omega) (by omega)) ?_
  try rw [e1]
  try rw [e2]
  try rw [e3]
  try rw [e4]
  try rw [e5]
  refine sg_aload_n (pc := 1961) (j := 0) dL_law_1961 rfl rfl ?_
  refine sg_iload (pc := 1962) dL_law_1962 rfl ?_
  refine sg_iconst (pc := 1964) (z := 2) dL_law_1964 (by decide) ?_
  first | refine sg_iaddB (pc := 1965) dL_law_1965 (by omega) (by omega) ?_ | refine sg_iadd (pc := 1965) dL_law_1965 ?_
  refine sg_iald (pc := 1966) dL_law_1966 I1.2.2.2.2.2.2.2.2.2 rfl (by omega) (jk_x (by omega) (by omega)) ?_
  try rw [e1]
  try rw [e2]
  try rw [e3]
  try rw [e4]
  try rw [e5]
  refine st_as (fun H r => jk_tgR (B := B) r) ?_
  have m2 := jk_Im I1
  have ab0 := jk_Jt jJ I1 X1
  refine sg_cE2 (pc := 1967) (d' := d - 1) (mc' := 0) (ms' := 0) 8 g dL_law_1967 cb_X7_order ml_L_332 mn_X7_order rfl mv_X7_order (Nat.le_of_ble_eq_true rfl) (md_oc m2) (Nat.le_of_ble_eq_true rfl) (by first | exact jl_d0 hd rfl | omega) (by first | exact Nat.le_of_ble_eq_true rfl | omega) (by first | exact Nat.le_of_ble_eq_true rfl | omega) ?_
  refine s_X7_order g (by first | exact jl_d1 hd rfl | omega) m2 (fun v2 h2  y2 => sg_K1 ?_)
  refine st_as (fun H r => jk_unR I1.1 r) ?_
  have J2 : jk_J w B M O S xs (jk_unt B h2) A := jk_JM I1 (md_YW y2) (cf_XF jJ.2.1 F1) (y2.2.2.trans ab0) jJ.2.2.2
  have y2 := md_YW y2
  have I2 := J2.1
  refine sg_istore (pc := 1970) dL_law_1970 (by decide) ?_
  refine sg_goto (pc := 1972) (tgt := 2465) dL_law_1972 (by decide) ?_
  refine sg_lsub (lv' := [(0, _), (1, _), (2, _), (3, _), (4, _)]) ⟨rfl, rfl, rfl, rfl, rfl, trivial⟩ ?_
  exact K _ _ _ _ J2 (by omega) (by omega)

set_option maxRecDepth 100000 in
set_option maxHeartbeats 1000000 in
theorem lw_c43 {w : sg_W} {Q : sg_O → sg_H → Prop} {h : sg_H} (g : sg_G w) (nc : jk_C w) (hJ : jz w) {d mc ms : Nat} (hd : 30 ≤ d) {B M O S j k n : Nat} {xs : List Int} {A : fa_A} (jJ : jk_J w B M O S xs h A) (hj : 6 * j + 6 ≤ xs.length) (hl : xs.length ≤ 3072) (hk : k + 1030 ≤ mc) (hn : n + (0 + 0) ≤ ms) (K : ∀ (h' : sg_H) (k' n' : Nat) (A' : fa_A), jk_J w B M O S xs h' A' → k' ≤ k + 1030 → n' ≤ n + (0 + 0) → sg_R w mi_L_law d mc ms Q 2465 [(0, sg_r S), (1, sg_r B), (2, sg_r M), (3, sg_r O), (4, sg_i (6 * (j : Int)))] [] h' k' n') : sg_R w mi_L_law d mc ms Q 1975 [(0, sg_r S), (1, sg_r B), (2, sg_r M), (3, sg_r O), (4, sg_i (6 * (j : Int)))] [] h k n := by
  obtain ⟨p1, e1⟩ : ∃ p, xs.getD (6 * (j : Int) + 1).toNat 0 = p := ⟨_, rfl⟩
  obtain ⟨p2, e2⟩ : ∃ p, xs.getD (6 * (j : Int) + 2).toNat 0 = p := ⟨_, rfl⟩
  obtain ⟨p3, e3⟩ : ∃ p, xs.getD (6 * (j : Int) + 3).toNat 0 = p := ⟨_, rfl⟩
  obtain ⟨p4, e4⟩ : ∃ p, xs.getD (6 * (j : Int) + 4).toNat 0 = p := ⟨_, rfl⟩
  obtain ⟨p5, e5⟩ : ∃ p, xs.getD (6 * (j : Int) + 5).toNat 0 = p := ⟨_, rfl⟩
  refine sg_aload_n (pc := 1975) (j := 1) dL_law_1975 rfl rfl ?_
  refine sg_aload_n (pc := 1976) (j := 0) dL_law_1976 rfl rfl ?_
  refine sg_iload (pc := 1977) dL_law_1977 rfl ?_
  refine sg_iconst (pc := 1979) (z := 1) dL_law_1979 (by decide) ?_
  first | refine sg_iaddB (pc := 1980) dL_law_1980 (by omega) (by omega) ?_ | refine sg_iadd (pc := 1980) dL_law_1980 ?_
  refine sg_iald (pc := 1981) dL_law_1981 jJ.1.2.2.2.2.2.2.2.2.2 rfl (by omega) (jk_x (by omega) (by omega)) ?_
  try rw [e1]
  try rw [e2]
  try rw [e3]
  try rw [e4]
  try rw [e5]
  refine sg_cE1 (pc := 1982) (d' := d - 1) (mc' := 0) (ms' := 0) 6 g dL_law_1982 cb_X5_isCode ml_L_333 mn_X5_isCode rfl mv_X5_isCode (Nat.le_of_ble_eq_true rfl) (ck_oc jJ.1.2.2.1) (Nat.le_of_ble_eq_true rfl) (by first | exact jl_d0 hd rfl | omega) (by first | exact Nat.le_of_ble_eq_true rfl | omega) (by first | exact Nat.le_of_ble_eq_true rfl | omega) ?_
  refine s_X5_isCode (B := B) g (by first | exact jl_d1 hd rfl | omega) (fun v1 c1 => sg_K1 ?_)
  have I1 := jJ.1
  have X1 : jk_X (jk_cut B h) (jk_cut B h) := jk_X0
  have F1 : jk_F B h h := jk_F0
  refine sg_pop (pc := 1985) dL_law_1985 rfl ?_
  refine sg_aload_n (pc := 1986) (j := 2) dL_law_1986 rfl rfl ?_
  refine sg_aload_n (pc := 1987) (j := 0) dL_law_1987 rfl rfl ?_
  refine sg_iload (pc := 1988) dL_law_1988 rfl ?_
  refine sg_iconst (pc := 1990) (z := 1) dL_law_1990 (by decide) ?_
  first | refine sg_iaddB (pc := 1991) dL_law_1991 (by omega) (by omega) ?_ | refine sg_iadd (pc := 1991) dL_law_1991 ?_
  refine sg_iald (pc := 1992) dL_law_1992 I1.2.2.2.2.2.2.2.2.2 rfl (by omega) (jk_x (by omega) (by omega)) ?_
  try rw [e1]
  try rw [e2]
  try rw [e3]
  try rw [e4]
  try rw [e5]
  refine st_as (fun H r => jk_tgR (B := B) r) ?_
  have m2 := jk_Im I1
  have ab0 := jk_Jt jJ I1 X1
  refine sg_cE1 (pc := 1993) (d' := d - 1) (mc' := 0) (ms' := 0) 8 g dL_law_1993 cb_X7_isCode ml_L_336 mn_X7_isCode rfl mv_X7_isCode (Nat.le_of_ble_eq_true rfl) (md_oc m2) (Nat.le_of_ble_eq_true rfl) (by first | exact jl_d0 hd rfl | omega) (by first | exact Nat.le_of_ble_eq_true rfl | omega) (by first | exact Nat.le_of_ble_eq_true rfl | omega) ?_
  refine s_X7_isCode g (by first | exact jl_d1 hd rfl | omega) m2 (fun v2 h2 c2_0 c2_1 y2 => sg_K1 ?_)
  refine st_as (fun H r => jk_unR I1.1 r) ?_
  have J2 : jk_J w B M O S xs (jk_unt B h2) A := jk_JM I1 (md_YW y2) (cf_XF jJ.2.1 F1) (y2.2.2.trans ab0) jJ.2.2.2
  have y2 := md_YW y2
  have I2 := J2.1
  refine sg_pop (pc := 1996) dL_law_1996 rfl ?_
  refine sg_goto (pc := 1997) (tgt := 2465) dL_law_1997 (by decide) ?_
  refine sg_lsub (lv' := [(0, _), (1, _), (2, _), (3, _), (4, _)]) ⟨rfl, rfl, rfl, rfl, rfl, trivial⟩ ?_
  exact K _ _ _ _ J2 (by omega) (by omega)

set_option maxRecDepth 100000 in
set_option maxHeartbeats 1000000 in
theorem lw_c44 {w : sg_W} {Q : sg_O → sg_H → Prop} {h : sg_H} (g : sg_G w) (nc : jk_C w) (hJ : jz w) {d mc ms : Nat} (hd : 30 ≤ d) {B M O S j k n : Nat} {xs : List Int} {A : fa_A} (jJ : jk_J w B M O S xs h A) (hj : 6 * j + 6 ≤ xs.length) (hl : xs.length ≤ 3072) (hk : k + 1030 ≤ mc) (hn : n + (0 + 0) ≤ ms) (K : ∀ (h' : sg_H) (k' n' : Nat) (A' : fa_A), jk_J w B M O S xs h' A' → k' ≤ k + 1030 → n' ≤ n + (0 + 0) → sg_R w mi_L_law d mc ms Q 2465 [(0, sg_r S), (1, sg_r B), (2, sg_r M), (3, sg_r O), (4, sg_i (6 * (j : Int)))] [] h' k' n') : sg_R w mi_L_law d mc ms Q 2000 [(0, sg_r S), (1, sg_r B), (2, sg_r M), (3, sg_r O), (4, sg_i (6 * (j : Int)))] [] h k n := by
  obtain ⟨p1, e1⟩ : ∃ p, xs.getD (6 * (j : Int) + 1).toNat 0 = p := ⟨_, rfl⟩
  obtain ⟨p2, e2⟩ : ∃ p, xs.getD (6 * (j : Int) + 2).toNat 0 = p := ⟨_, rfl⟩
  obtain ⟨p3, e3⟩ : ∃ p, xs.getD (6 * (j : Int) + 3).toNat 0 = p := ⟨_, rfl⟩
  obtain ⟨p4, e4⟩ : ∃ p, xs.getD (6 * (j : Int) + 4).toNat 0 = p := ⟨_, rfl⟩
  obtain ⟨p5, e5⟩ : ∃ p, xs.getD (6 * (j : Int) + 5).toNat 0 = p := ⟨_, rfl⟩
  refine sg_aload_n (pc := 2000) (j := 1) dL_law_2000 rfl rfl ?_
  refine sg_aload_n (pc := 2001) (j := 0) dL_law_2001 rfl rfl ?_
  refine sg_iload (pc := 2002) dL_law_2002 rfl ?_
  refine sg_iconst (pc := 2004) (z := 1) dL_law_2004 (by decide) ?_
  first | refine sg_iaddB (pc := 2005) dL_law_2005 (by omega) (by omega) ?_ | refine sg_iadd (pc := 2005) dL_law_2005 ?_
  refine sg_iald (pc := 2006) dL_law_2006 jJ.1.2.2.2.2.2.2.2.2.2 rfl (by omega) (jk_x (by omega) (by omega)) ?_
  try rw [e1]
  try rw [e2]
  try rw [e3]
  try rw [e4]
  try rw [e5]
  refine sg_cE1 (pc := 2007) (d' := d - 1) (mc' := 0) (ms' := 0) 6 g dL_law_2007 cb_X5_isPlain ml_L_337 mn_X5_isPlain rfl mv_X5_isPlain (Nat.le_of_ble_eq_true rfl) (ck_oc jJ.1.2.2.1) (Nat.le_of_ble_eq_true rfl) (by first | exact jl_d0 hd rfl | omega) (by first | exact Nat.le_of_ble_eq_true rfl | omega) (by first | exact Nat.le_of_ble_eq_true rfl | omega) ?_
  refine s_X5_isPlain (B := B) g (by first | exact jl_d1 hd rfl | omega) (fun v1 c1 => sg_K1 ?_)
  have I1 := jJ.1
  have X1 : jk_X (jk_cut B h) (jk_cut B h) := jk_X0
  have F1 : jk_F B h h := jk_F0
  refine sg_pop (pc := 2010) dL_law_2010 rfl ?_
  refine sg_aload_n (pc := 2011) (j := 2) dL_law_2011 rfl rfl ?_
  refine sg_aload_n (pc := 2012) (j := 0) dL_law_2012 rfl rfl ?_
  refine sg_iload (pc := 2013) dL_law_2013 rfl ?_
  refine sg_iconst (pc := 2015) (z := 1) dL_law_2015 (by decide) ?_
  first | refine sg_iaddB (pc := 2016) dL_law_2016 (by omega) (by omega) ?_ | refine sg_iadd (pc := 2016) dL_law_2016 ?_
  refine sg_iald (pc := 2017) dL_law_2017 I1.2.2.2.2.2.2.2.2.2 rfl (by omega) (jk_x (by omega) (by omega)) ?_
  try rw [e1]
  try rw [e2]
  try rw [e3]
  try rw [e4]
  try rw [e5]
  refine st_as (fun H r => jk_tgR (B := B) r) ?_
  have m2 := jk_Im I1
  have ab0 := jk_Jt jJ I1 X1
  refine sg_cE1 (pc := 2018) (d' := d - 1) (mc' := 0) (ms' := 0) 8 g dL_law_2018 cb_X7_isPlain ml_L_340 mn_X7_isPlain rfl mv_X7_isPlain (Nat.le_of_ble_eq_true rfl) (md_oc m2) (Nat.le_of_ble_eq_true rfl) (by first | exact jl_d0 hd rfl | omega) (by first | exact Nat.le_of_ble_eq_true rfl | omega) (by first | exact Nat.le_of_ble_eq_true rfl | omega) ?_
  refine s_X7_isPlain g (by first | exact jl_d1 hd rfl | omega) m2 (fun v2 h2 c2_0 c2_1 y2 => sg_K1 ?_)
  refine st_as (fun H r => jk_unR I1.1 r) ?_
  have J2 : jk_J w B M O S xs (jk_unt B h2) A := jk_JM I1 (md_YW y2) (cf_XF jJ.2.1 F1) (y2.2.2.trans ab0) jJ.2.2.2
  have y2 := md_YW y2
  have I2 := J2.1
  refine sg_pop (pc := 2021) dL_law_2021 rfl ?_
  refine sg_goto (pc := 2022) (tgt := 2465) dL_law_2022 (by decide) ?_
  refine sg_lsub (lv' := [(0, _), (1, _), (2, _), (3, _), (4, _)]) ⟨rfl, rfl, rfl, rfl, rfl, trivial⟩ ?_
  exact K _ _ _ _ J2 (by omega) (by omega)

set_option maxRecDepth 100000 in
set_option maxHeartbeats 1000000 in
theorem lw_c45 {w : sg_W} {Q : sg_O → sg_H → Prop} {h : sg_H} (g : sg_G w) (nc : jk_C w) (hJ : jz w) {d mc ms : Nat} (hd : 30 ≤ d) {B M O S j k n : Nat} {xs : List Int} {A : fa_A} (jJ : jk_J w B M O S xs h A) (hj : 6 * j + 6 ≤ xs.length) (hl : xs.length ≤ 3072) (hk : k + 1030 ≤ mc) (hn : n + (0 + 0) ≤ ms) (K : ∀ (h' : sg_H) (k' n' : Nat) (A' : fa_A), jk_J w B M O S xs h' A' → k' ≤ k + 1030 → n' ≤ n + (0 + 0) → sg_R w mi_L_law d mc ms Q 2465 [(0, sg_r S), (1, sg_r B), (2, sg_r M), (3, sg_r O), (4, sg_i (6 * (j : Int)))] [] h' k' n') : sg_R w mi_L_law d mc ms Q 2025 [(0, sg_r S), (1, sg_r B), (2, sg_r M), (3, sg_r O), (4, sg_i (6 * (j : Int)))] [] h k n := by
  obtain ⟨p1, e1⟩ : ∃ p, xs.getD (6 * (j : Int) + 1).toNat 0 = p := ⟨_, rfl⟩
  obtain ⟨p2, e2⟩ : ∃ p, xs.getD (6 * (j : Int) + 2).toNat 0 = p := ⟨_, rfl⟩
  obtain ⟨p3, e3⟩ : ∃ p, xs.getD (6 * (j : Int) + 3).toNat 0 = p := ⟨_, rfl⟩
  obtain ⟨p4, e4⟩ : ∃ p, xs.getD (6 * (j : Int) + 4).toNat 0 = p := ⟨_, rfl⟩
  obtain ⟨p5, e5⟩ : ∃ p, xs.getD (6 * (j : Int) + 5).toNat 0 = p := ⟨_, rfl⟩
  refine sg_aload_n (pc := 2025) (j := 1) dL_law_2025 rfl rfl ?_
  refine sg_aload_n (pc := 2026) (j := 0) dL_law_2026 rfl rfl ?_
  refine sg_iload (pc := 2027) dL_law_2027 rfl ?_
  refine sg_iconst (pc := 2029) (z := 1) dL_law_2029 (by decide) ?_
  first | refine sg_iaddB (pc := 2030) dL_law_2030 (by omega) (by omega) ?_ | refine sg_iadd (pc := 2030) dL_law_2030 ?_
  refine sg_iald (pc := 2031) dL_law_2031 jJ.1.2.2.2.2.2.2.2.2.2 rfl (by omega) (jk_x (by omega) (by omega)) ?_
  try rw [e1]
  try rw [e2]
  try rw [e3]
  try rw [e4]
  try rw [e5]
  refine sg_cE1 (pc := 2032) (d' := d - 1) (mc' := 0) (ms' := 0) 6 g dL_law_2032 cb_X5_isWide ml_L_341 mn_X5_isWide rfl mv_X5_isWide (Nat.le_of_ble_eq_true rfl) (ck_oc jJ.1.2.2.1) (Nat.le_of_ble_eq_true rfl) (by first | exact jl_d0 hd rfl | omega) (by first | exact Nat.le_of_ble_eq_true rfl | omega) (by first | exact Nat.le_of_ble_eq_true rfl | omega) ?_
  refine s_X5_isWide (B := B) g (by first | exact jl_d1 hd rfl | omega) (fun v1 c1 => sg_K1 ?_)
  have I1 := jJ.1
  have X1 : jk_X (jk_cut B h) (jk_cut B h) := jk_X0
  have F1 : jk_F B h h := jk_F0
  refine sg_pop (pc := 2035) dL_law_2035 rfl ?_
  refine sg_aload_n (pc := 2036) (j := 2) dL_law_2036 rfl rfl ?_
  refine sg_aload_n (pc := 2037) (j := 0) dL_law_2037 rfl rfl ?_
  refine sg_iload (pc := 2038) dL_law_2038 rfl ?_
  refine sg_iconst (pc := 2040) (z := 1) dL_law_2040 (by decide) ?_
  first | refine sg_iaddB (pc := 2041) dL_law_2041 (by omega) (by omega) ?_ | refine sg_iadd (pc := 2041) dL_law_2041 ?_
  refine sg_iald (pc := 2042) dL_law_2042 I1.2.2.2.2.2.2.2.2.2 rfl (by omega) (jk_x (by omega) (by omega)) ?_
  try rw [e1]
  try rw [e2]
  try rw [e3]
  try rw [e4]
  try rw [e5]
  refine st_as (fun H r => jk_tgR (B := B) r) ?_
  have m2 := jk_Im I1
  have ab0 := jk_Jt jJ I1 X1
  refine sg_cE1 (pc := 2043) (d' := d - 1) (mc' := 0) (ms' := 0) 8 g dL_law_2043 cb_X7_isWide ml_L_344 mn_X7_isWide rfl mv_X7_isWide (Nat.le_of_ble_eq_true rfl) (md_oc m2) (Nat.le_of_ble_eq_true rfl) (by first | exact jl_d0 hd rfl | omega) (by first | exact Nat.le_of_ble_eq_true rfl | omega) (by first | exact Nat.le_of_ble_eq_true rfl | omega) ?_
  refine s_X7_isWide g (by first | exact jl_d1 hd rfl | omega) m2 (fun v2 h2 c2_0 c2_1 y2 => sg_K1 ?_)
  refine st_as (fun H r => jk_unR I1.1 r) ?_
  have J2 : jk_J w B M O S xs (jk_unt B h2) A := jk_JM I1 (md_YW y2) (cf_XF jJ.2.1 F1) (y2.2.2.trans ab0) jJ.2.2.2
  have y2 := md_YW y2
  have I2 := J2.1
  refine sg_pop (pc := 2046) dL_law_2046 rfl ?_
  refine sg_goto (pc := 2047) (tgt := 2465) dL_law_2047 (by decide) ?_
  refine sg_lsub (lv' := [(0, _), (1, _), (2, _), (3, _), (4, _)]) ⟨rfl, rfl, rfl, rfl, rfl, trivial⟩ ?_
  exact K _ _ _ _ J2 (by omega) (by omega)

set_option maxRecDepth 100000 in
set_option maxHeartbeats 1000000 in
theorem lw_c46 {w : sg_W} {Q : sg_O → sg_H → Prop} {h : sg_H} (g : sg_G w) (nc : jk_C w) (hJ : jz w) {d mc ms : Nat} (hd : 30 ≤ d) {B M O S j k n : Nat} {xs : List Int} {A : fa_A} (jJ : jk_J w B M O S xs h A) (hj : 6 * j + 6 ≤ xs.length) (hl : xs.length ≤ 3072) (hk : k + 1030 ≤ mc) (hn : n + (0 + 0) ≤ ms) (K : ∀ (h' : sg_H) (k' n' : Nat) (A' : fa_A), jk_J w B M O S xs h' A' → k' ≤ k + 1030 → n' ≤ n + (0 + 0) → sg_R w mi_L_law d mc ms Q 2465 [(0, sg_r S), (1, sg_r B), (2, sg_r M), (3, sg_r O), (4, sg_i (6 * (j : Int)))] [] h' k' n') : sg_R w mi_L_law d mc ms Q 2050 [(0, sg_r S), (1, sg_r B), (2, sg_r M), (3, sg_r O), (4, sg_i (6 * (j : Int)))] [] h k n := by
  obtain ⟨p1, e1⟩ : ∃ p, xs.getD (6 * (j : Int) + 1).toNat 0 = p := ⟨_, rfl⟩
  obtain ⟨p2, e2⟩ : ∃ p, xs.getD (6 * (j : Int) + 2).toNat 0 = p := ⟨_, rfl⟩
  obtain ⟨p3, e3⟩ : ∃ p, xs.getD (6 * (j : Int) + 3).toNat 0 = p := ⟨_, rfl⟩
  obtain ⟨p4, e4⟩ : ∃ p, xs.getD (6 * (j : Int) + 4).toNat 0 = p := ⟨_, rfl⟩
  obtain ⟨p5, e5⟩ : ∃ p, xs.getD (6 * (j : Int) + 5).toNat 0 = p := ⟨_, rfl⟩
  refine sg_aload_n (pc := 2050) (j := 1) dL_law_2050 rfl rfl ?_
  refine sg_aload_n (pc := 2051) (j := 0) dL_law_2051 rfl rfl ?_
  refine sg_iload (pc := 2052) dL_law_2052 rfl ?_
  refine sg_iconst (pc := 2054) (z := 1) dL_law_2054 (by decide) ?_
  first | refine sg_iaddB (pc := 2055) dL_law_2055 (by omega) (by omega) ?_ | refine sg_iadd (pc := 2055) dL_law_2055 ?_
  refine sg_iald (pc := 2056) dL_law_2056 jJ.1.2.2.2.2.2.2.2.2.2 rfl (by omega) (jk_x (by omega) (by omega)) ?_
  try rw [e1]
  try rw [e2]
  try rw [e3]
  try rw [e4]
  try rw [e5]
  refine sg_cE1 (pc := 2057) (d' := d - 1) (mc' := 0) (ms' := 0) 6 g dL_law_2057 cb_X5_units ml_L_345 mn_X5_units rfl mv_X5_units (Nat.le_of_ble_eq_true rfl) (ck_oc jJ.1.2.2.1) (Nat.le_of_ble_eq_true rfl) (by first | exact jl_d0 hd rfl | omega) (by first | exact Nat.le_of_ble_eq_true rfl | omega) (by first | exact Nat.le_of_ble_eq_true rfl | omega) ?_
  refine s_X5_units (B := B) g (by first | exact jl_d1 hd rfl | omega) (fun v1 c1 => sg_K1 ?_)
  have I1 := jJ.1
  have X1 : jk_X (jk_cut B h) (jk_cut B h) := jk_X0
  have F1 : jk_F B h h := jk_F0
  refine sg_pop (pc := 2060) dL_law_2060 rfl ?_
  refine sg_aload_n (pc := 2061) (j := 2) dL_law_2061 rfl rfl ?_
  refine sg_aload_n (pc := 2062) (j := 0) dL_law_2062 rfl rfl ?_
  refine sg_iload (pc := 2063) dL_law_2063 rfl ?_
  refine sg_iconst (pc := 2065) (z := 1) dL_law_2065 (by decide) ?_
  first | refine sg_iaddB (pc := 2066) dL_law_2066 (by omega) (by omega) ?_ | refine sg_iadd (pc := 2066) dL_law_2066 ?_
  refine sg_iald (pc := 2067) dL_law_2067 I1.2.2.2.2.2.2.2.2.2 rfl (by omega) (jk_x (by omega) (by omega)) ?_
  try rw [e1]
  try rw [e2]
  try rw [e3]
  try rw [e4]
  try rw [e5]
  refine st_as (fun H r => jk_tgR (B := B) r) ?_
  have m2 := jk_Im I1
  have ab0 := jk_Jt jJ I1 X1
  refine sg_cE1 (pc := 2068) (d' := d - 1) (mc' := 0) (ms' := 0) 8 g dL_law_2068 cb_X7_units ml_L_348 mn_X7_units rfl mv_X7_units (Nat.le_of_ble_eq_true rfl) (md_oc m2) (Nat.le_of_ble_eq_true rfl) (by first | exact jl_d0 hd rfl | omega) (by first | exact Nat.le_of_ble_eq_true rfl | omega) (by first | exact Nat.le_of_ble_eq_true rfl | omega) ?_
  refine s_X7_units g (by first | exact jl_d1 hd rfl | omega) m2 (fun v2 h2 c2_0 y2 => sg_K1 ?_)
  refine st_as (fun H r => jk_unR I1.1 r) ?_
  have J2 : jk_J w B M O S xs (jk_unt B h2) A := jk_JM I1 (md_YW y2) (cf_XF jJ.2.1 F1) (y2.2.2.trans ab0) jJ.2.2.2
  have y2 := md_YW y2
  have I2 := J2.1
  refine sg_pop (pc := 2071) dL_law_2071 rfl ?_
  refine sg_goto (pc := 2072) (tgt := 2465) dL_law_2072 (by decide) ?_
  refine sg_lsub (lv' := [(0, _), (1, _), (2, _), (3, _), (4, _)]) ⟨rfl, rfl, rfl, rfl, rfl, trivial⟩ ?_
  exact K _ _ _ _ J2 (by omega) (by omega)

set_option maxRecDepth 100000 in
set_option maxHeartbeats 1000000 in
theorem lw_c47 {w : sg_W} {Q : sg_O → sg_H → Prop} {h : sg_H} (g : sg_G w) (nc : jk_C w) (hJ : jz w) {d mc ms : Nat} (hd : 30 ≤ d) {B M O S j k n : Nat} {xs : List Int} {A : fa_A} (jJ : jk_J w B M O S xs h A) (hj : 6 * j + 6 ≤ xs.length) (hl : xs.length ≤ 3072) (hk : k + 1030 ≤ mc) (hn : n + (48 + 2) ≤ ms) (K : ∀ (h' : sg_H) (k' n' : Nat) (A' : fa_A), jk_J w B M O S xs h' A' → k' ≤ k + 1030 → n' ≤ n + (48 + 2) → sg_R w mi_L_law d mc ms Q 2465 [(0, sg_r S), (1, sg_r B), (2, sg_r M), (3, sg_r O), (4, sg_i (6 * (j : Int)))] [] h' k' n') : sg_R w mi_L_law d mc ms Q 2075 [(0, sg_r S), (1, sg_r B), (2, sg_r M), (3, sg_r O), (4, sg_i (6 * (j : Int)))] [] h k n := by
  obtain ⟨p1, e1⟩ : ∃ p, xs.getD (6 * (j : Int) + 1).toNat 0 = p := ⟨_, rfl⟩
  obtain ⟨p2, e2⟩ : ∃ p, xs.getD (6 * (j : Int) + 2).toNat 0 = p := ⟨_, rfl⟩
  obtain ⟨p3, e3⟩ : ∃ p, xs.getD (6 * (j : Int) + 3).toNat 0 = p := ⟨_, rfl⟩
  obtain ⟨p4, e4⟩ : ∃ p, xs.getD (6 * (j : Int) + 4).toNat 0 = p := ⟨_, rfl⟩
  obtain ⟨p5, e5⟩ : ∃ p, xs.getD (6 * (j : Int) + 5).toNat 0 = p := ⟨_, rfl⟩
  refine sg_aload_n (pc := 2075) (j := 1) dL_law_2075 rfl rfl ?_
  refine sg_aload_n (pc := 2076) (j := 0) dL_law_2076 rfl rfl ?_
  refine sg_iload (pc := 2077) dL_law_2077 rfl ?_
  refine sg_iconst (pc := 2079) (z := 1) dL_law_2079 (by decide) ?_
  first | refine sg_iaddB (pc := 2080) dL_law_2080 (by omega) (by omega) ?_ | refine sg_iadd (pc := 2080) dL_law_2080 ?_
  refine sg_iald (pc := 2081) dL_law_2081 jJ.1.2.2.2.2.2.2.2.2.2 rfl (by omega) (jk_x (by omega) (by omega)) ?_
  try rw [e1]
  try rw [e2]
  try rw [e3]
  try rw [e4]
  try rw [e5]
  refine sg_aload_n (pc := 2082) (j := 0) dL_law_2082 rfl rfl ?_
  refine sg_iload (pc := 2083) dL_law_2083 rfl ?_
  refine sg_iconst (pc := 2085) (z := 2) dL_law_2085 (by decide) ?_
  first | refine sg_iaddB (pc := 2086) dL_law_2086 (by omega) (by omega) ?_ | refine sg_iadd (pc := 2086) dL_law_2086 ?_
  refine sg_iald (pc := 2087) dL_law_2087 jJ.1.2.2.2.2.2.2.2.2.2 rfl (by omega) (jk_x (by omega) (by omega)) ?_
  try rw [e1]
  try rw [e2]
  try rw [e3]
  try rw [e4]
  try rw [e5]
  refine sg_if_eq (pc := 2088) (tgt := 2095) dL_law_2088 (by decide) (fun c2088 => ?_) (fun c2088 => ?_)
  · refine sg_iconst (pc := 2095) (z := 0) dL_law_2095 (by decide) ?_
    refine sg_aload_n (pc := 2096) (j := 3) dL_law_2096 rfl rfl ?_
    refine st_cS4 (pc := 2097) (d' := d - 1) (mc' := 8) (ms' := 48) g dL_law_2097 cb_L_half cw_L_half ml_L_349 ms_L_half (Nat.le_of_ble_eq_true rfl) (by first | exact jl_d0 hd rfl | omega) (by first | exact Nat.le_of_ble_eq_true rfl | omega) (by first | exact Nat.le_of_ble_eq_true rfl | omega) ?_
    refine s_L_half g nc (by omega) jJ.1 (fun v1 h1 I1 X1 F1 k1 o1 => sg_K1 ?_)
    refine sg_istore (pc := 2100) dL_law_2100 (by decide) ?_
    refine sg_aload_n (pc := 2102) (j := 2) dL_law_2102 rfl rfl ?_
    refine sg_aload_n (pc := 2103) (j := 0) dL_law_2103 rfl rfl ?_
    refine sg_iload (pc := 2104) dL_law_2104 rfl ?_
    refine sg_iconst (pc := 2106) (z := 1) dL_law_2106 (by decide) ?_
    first | refine sg_iaddB (pc := 2107) dL_law_2107 (by omega) (by omega) ?_ | refine sg_iadd (pc := 2107) dL_law_2107 ?_
    refine sg_iald (pc := 2108) dL_law_2108 I1.2.2.2.2.2.2.2.2.2 rfl (by omega) (jk_x (by omega) (by omega)) ?_
    try rw [e1]
    try rw [e2]
    try rw [e3]
    try rw [e4]
    try rw [e5]
    refine sg_aload_n (pc := 2109) (j := 0) dL_law_2109 rfl rfl ?_
    refine sg_iload (pc := 2110) dL_law_2110 rfl ?_
    refine sg_iconst (pc := 2112) (z := 2) dL_law_2112 (by decide) ?_
    first | refine sg_iaddB (pc := 2113) dL_law_2113 (by omega) (by omega) ?_ | refine sg_iadd (pc := 2113) dL_law_2113 ?_
    refine sg_iald (pc := 2114) dL_law_2114 I1.2.2.2.2.2.2.2.2.2 rfl (by omega) (jk_x (by omega) (by omega)) ?_
    try rw [e1]
    try rw [e2]
    try rw [e3]
    try rw [e4]
    try rw [e5]
    refine sg_if_eq (pc := 2115) (tgt := 2122) dL_law_2115 (by decide) (fun c2115 => ?_) (fun c2115 => absurd c2088 c2115)
    refine sg_iconst (pc := 2122) (z := 0) dL_law_2122 (by decide) ?_
    refine st_as (fun H r => jk_tgR (B := B) r) ?_
    have m2 := jk_Im I1
    have ab0 := jk_Jt jJ I1 X1
    refine sg_cE2 (pc := 2123) (d' := d - 1) (mc' := 1) (ms' := 2) 8 g dL_law_2123 cb_X7_half ml_L_351 mn_X7_half rfl mv_X7_half (Nat.le_of_ble_eq_true rfl) (md_oc m2) (Nat.le_of_ble_eq_true rfl) (by first | exact jl_d0 hd rfl | omega) (by first | exact Nat.le_of_ble_eq_true rfl | omega) (by first | exact Nat.le_of_ble_eq_true rfl | omega) ?_
    refine s_X7_half g (by first | exact jl_d1 hd rfl | omega) m2 (fun v2 h2 c2_0 c2_1 y2 => sg_K1 ?_)
    refine st_as (fun H r => jk_unR I1.1 r) ?_
    have J2 : jk_J w B M O S xs (jk_unt B h2) A := jk_JM I1 (md_YW y2) (cf_XF jJ.2.1 F1) (y2.2.2.trans ab0) jJ.2.2.2
    have y2 := md_YW y2
    have I2 := J2.1
    refine sg_istore (pc := 2126) dL_law_2126 (by decide) ?_
    refine sg_goto (pc := 2128) (tgt := 2465) dL_law_2128 (by decide) ?_
    refine sg_lsub (lv' := [(0, _), (1, _), (2, _), (3, _), (4, _)]) ⟨rfl, rfl, rfl, rfl, rfl, trivial⟩ ?_
    exact K _ _ _ _ J2 (by omega) (by omega)
  · refine sg_iconst (pc := 2091) (z := 1) dL_law_2091 (by decide) ?_
    refine sg_goto (pc := 2092) (tgt := 2096) dL_law_2092 (by decide) ?_
    refine sg_aload_n (pc := 2096) (j := 3) dL_law_2096 rfl rfl ?_
    refine st_cS4 (pc := 2097) (d' := d - 1) (mc' := 8) (ms' := 48) g dL_law_2097 cb_L_half cw_L_half ml_L_349 ms_L_half (Nat.le_of_ble_eq_true rfl) (by first | exact jl_d0 hd rfl | omega) (by first | exact Nat.le_of_ble_eq_true rfl | omega) (by first | exact Nat.le_of_ble_eq_true rfl | omega) ?_
    refine s_L_half g nc (by omega) jJ.1 (fun v1 h1 I1 X1 F1 k1 o1 => sg_K1 ?_)
    refine sg_istore (pc := 2100) dL_law_2100 (by decide) ?_
    refine sg_aload_n (pc := 2102) (j := 2) dL_law_2102 rfl rfl ?_
    refine sg_aload_n (pc := 2103) (j := 0) dL_law_2103 rfl rfl ?_
    refine sg_iload (pc := 2104) dL_law_2104 rfl ?_
    refine sg_iconst (pc := 2106) (z := 1) dL_law_2106 (by decide) ?_
    first | refine sg_iaddB (pc := 2107) dL_law_2107 (by omega) (by omega) ?_ | refine sg_iadd (pc := 2107) dL_law_2107 ?_
    refine sg_iald (pc := 2108) dL_law_2108 I1.2.2.2.2.2.2.2.2.2 rfl (by omega) (jk_x (by omega) (by omega)) ?_
    try rw [e1]
    try rw [e2]
    try rw [e3]
    try rw [e4]
    try rw [e5]
    refine sg_aload_n (pc := 2109) (j := 0) dL_law_2109 rfl rfl ?_
    refine sg_iload (pc := 2110) dL_law_2110 rfl ?_
    refine sg_iconst (pc := 2112) (z := 2) dL_law_2112 (by decide) ?_
    first | refine sg_iaddB (pc := 2113) dL_law_2113 (by omega) (by omega) ?_ | refine sg_iadd (pc := 2113) dL_law_2113 ?_
    refine sg_iald (pc := 2114) dL_law_2114 I1.2.2.2.2.2.2.2.2.2 rfl (by omega) (jk_x (by omega) (by omega)) ?_
    try rw [e1]
    try rw [e2]
    try rw [e3]
    try rw [e4]
    try rw [e5]
    refine sg_if_eq (pc := 2115) (tgt := 2122) dL_law_2115 (by decide) (fun c2115 => absurd c2115 c2088) (fun c2115 => ?_)
    refine sg_iconst (pc := 2118) (z := 1) dL_law_2118 (by decide) ?_
    refine sg_goto (pc := 2119) (tgt := 2123) dL_law_2119 (by decide) ?_
    refine st_as (fun H r => jk_tgR (B := B) r) ?_
    have m2 := jk_Im I1
    have ab0 := jk_Jt jJ I1 X1
    refine sg_cE2 (pc := 2123) (d' := d - 1) (mc' := 1) (ms' := 2) 8 g dL_law_2123 cb_X7_half ml_L_351 mn_X7_half rfl mv_X7_half (Nat.le_of_ble_eq_true rfl) (md_oc m2) (Nat.le_of_ble_eq_true rfl) (by first | exact jl_d0 hd rfl | omega) (by first | exact Nat.le_of_ble_eq_true rfl | omega) (by first | exact Nat.le_of_ble_eq_true rfl | omega) ?_
    refine s_X7_half g (by first | exact jl_d1 hd rfl | omega) m2 (fun v2 h2 c2_0 c2_1 y2 => sg_K1 ?_)
    refine st_as (fun H r => jk_unR I1.1 r) ?_
    have J2 : jk_J w B M O S xs (jk_unt B h2) A := jk_JM I1 (md_YW y2) (cf_XF jJ.2.1 F1) (y2.2.2.trans ab0) jJ.2.2.2
    have y2 := md_YW y2
    have I2 := J2.1
    refine sg_istore (pc := 2126) dL_law_2126 (by decide) ?_
    refine sg_goto (pc := 2128) (tgt := 2465) dL_law_2128 (by decide) ?_
    refine sg_lsub (lv' := [(0, _), (1, _), (2, _), (3, _), (4, _)]) ⟨rfl, rfl, rfl, rfl, rfl, trivial⟩ ?_
    exact K _ _ _ _ J2 (by omega) (by omega)

set_option maxRecDepth 100000 in
set_option maxHeartbeats 1000000 in
theorem lw_c48 {w : sg_W} {Q : sg_O → sg_H → Prop} {h : sg_H} (g : sg_G w) (nc : jk_C w) (hJ : jz w) {d mc ms : Nat} (hd : 30 ≤ d) {B M O S j k n : Nat} {xs : List Int} {A : fa_A} (jJ : jk_J w B M O S xs h A) (hj : 6 * j + 6 ≤ xs.length) (hl : xs.length ≤ 3072) (hk : k + 1030 ≤ mc) (hn : n + (48 + 0) ≤ ms) (K : ∀ (h' : sg_H) (k' n' : Nat) (A' : fa_A), jk_J w B M O S xs h' A' → k' ≤ k + 1030 → n' ≤ n + (48 + 0) → sg_R w mi_L_law d mc ms Q 2465 [(0, sg_r S), (1, sg_r B), (2, sg_r M), (3, sg_r O), (4, sg_i (6 * (j : Int)))] [] h' k' n') : sg_R w mi_L_law d mc ms Q 2131 [(0, sg_r S), (1, sg_r B), (2, sg_r M), (3, sg_r O), (4, sg_i (6 * (j : Int)))] [] h k n := by
  obtain ⟨p1, e1⟩ : ∃ p, xs.getD (6 * (j : Int) + 1).toNat 0 = p := ⟨_, rfl⟩
  obtain ⟨p2, e2⟩ : ∃ p, xs.getD (6 * (j : Int) + 2).toNat 0 = p := ⟨_, rfl⟩
  obtain ⟨p3, e3⟩ : ∃ p, xs.getD (6 * (j : Int) + 3).toNat 0 = p := ⟨_, rfl⟩
  obtain ⟨p4, e4⟩ : ∃ p, xs.getD (6 * (j : Int) + 4).toNat 0 = p := ⟨_, rfl⟩
  obtain ⟨p5, e5⟩ : ∃ p, xs.getD (6 * (j : Int) + 5).toNat 0 = p := ⟨_, rfl⟩
  refine sg_aload_n (pc := 2131) (j := 1) dL_law_2131 rfl rfl ?_
  refine sg_aload_n (pc := 2132) (j := 0) dL_law_2132 rfl rfl ?_
  refine sg_iload (pc := 2133) dL_law_2133 rfl ?_
  refine sg_iconst (pc := 2135) (z := 1) dL_law_2135 (by decide) ?_
  first | refine sg_iaddB (pc := 2136) dL_law_2136 (by omega) (by omega) ?_ | refine sg_iadd (pc := 2136) dL_law_2136 ?_
  refine sg_iald (pc := 2137) dL_law_2137 jJ.1.2.2.2.2.2.2.2.2.2 rfl (by omega) (jk_x (by omega) (by omega)) ?_
  try rw [e1]
  try rw [e2]
  try rw [e3]
  try rw [e4]
  try rw [e5]
  refine sg_aload_n (pc := 2138) (j := 0) dL_law_2138 rfl rfl ?_
  refine sg_iload (pc := 2139) dL_law_2139 rfl ?_
  refine sg_iconst (pc := 2141) (z := 2) dL_law_2141 (by decide) ?_
  first | refine sg_iaddB (pc := 2142) dL_law_2142 (by omega) (by omega) ?_ | refine sg_iadd (pc := 2142) dL_law_2142 ?_
  refine sg_iald (pc := 2143) dL_law_2143 jJ.1.2.2.2.2.2.2.2.2.2 rfl (by omega) (jk_x (by omega) (by omega)) ?_
  try rw [e1]
  try rw [e2]
  try rw [e3]
  try rw [e4]
  try rw [e5]
  refine sg_aload_n (pc := 2144) (j := 3) dL_law_2144 rfl rfl ?_
  refine st_cS4 (pc := 2145) (d' := d - 1) (mc' := 8) (ms' := 48) g dL_law_2145 cb_L_code cw_L_code ml_L_352 ms_L_code (Nat.le_of_ble_eq_true rfl) (by first | exact jl_d0 hd rfl | omega) (by first | exact Nat.le_of_ble_eq_true rfl | omega) (by first | exact Nat.le_of_ble_eq_true rfl | omega) ?_
  refine s_L_code g nc (by omega) jJ.1 (fun v1 h1 I1 X1 F1 k1 o1 => sg_K1 ?_)
  refine sg_istore (pc := 2148) dL_law_2148 (by decide) ?_
  refine sg_aload_n (pc := 2150) (j := 2) dL_law_2150 rfl rfl ?_
  refine sg_aload_n (pc := 2151) (j := 0) dL_law_2151 rfl rfl ?_
  refine sg_iload (pc := 2152) dL_law_2152 rfl ?_
  refine sg_iconst (pc := 2154) (z := 1) dL_law_2154 (by decide) ?_
  first | refine sg_iaddB (pc := 2155) dL_law_2155 (by omega) (by omega) ?_ | refine sg_iadd (pc := 2155) dL_law_2155 ?_
  refine sg_iald (pc := 2156) dL_law_2156 I1.2.2.2.2.2.2.2.2.2 rfl (by omega) (jk_x (by omega) (by omega)) ?_
  try rw [e1]
  try rw [e2]
  try rw [e3]
  try rw [e4]
  try rw [e5]
  refine sg_aload_n (pc := 2157) (j := 0) dL_law_2157 rfl rfl ?_
  refine sg_iload (pc := 2158) dL_law_2158 rfl ?_
  refine sg_iconst (pc := 2160) (z := 2) dL_law_2160 (by decide) ?_
  first | refine sg_iaddB (pc := 2161) dL_law_2161 (by omega) (by omega) ?_ | refine sg_iadd (pc := 2161) dL_law_2161 ?_
  refine sg_iald (pc := 2162) dL_law_2162 I1.2.2.2.2.2.2.2.2.2 rfl (by omega) (jk_x (by omega) (by omega)) ?_
  try rw [e1]
  try rw [e2]
  try rw [e3]
  try rw [e4]
  try rw [e5]
  refine st_as (fun H r => jk_tgR (B := B) r) ?_
  have m2 := jk_Im I1
  have ab0 := jk_Jt jJ I1 X1
  refine sg_cE2 (pc := 2163) (d' := d - 1) (mc' := 0) (ms' := 0) 8 g dL_law_2163 cb_X7_code ml_L_354 mn_X7_code rfl mv_X7_code (Nat.le_of_ble_eq_true rfl) (md_oc m2) (Nat.le_of_ble_eq_true rfl) (by first | exact jl_d0 hd rfl | omega) (by first | exact Nat.le_of_ble_eq_true rfl | omega) (by first | exact Nat.le_of_ble_eq_true rfl | omega) ?_
  refine s_X7_code g (by first | exact jl_d1 hd rfl | omega) m2 (fun v2 h2 c2_0 c2_1 y2 => sg_K1 ?_)
  refine st_as (fun H r => jk_unR I1.1 r) ?_
  have J2 : jk_J w B M O S xs (jk_unt B h2) A := jk_JM I1 (md_YW y2) (cf_XF jJ.2.1 F1) (y2.2.2.trans ab0) jJ.2.2.2
  have y2 := md_YW y2
  have I2 := J2.1
  refine sg_istore (pc := 2166) dL_law_2166 (by decide) ?_
  refine sg_goto (pc := 2168) (tgt := 2465) dL_law_2168 (by decide) ?_
  refine sg_lsub (lv' := [(0, _), (1, _), (2, _), (3, _), (4, _)]) ⟨rfl, rfl, rfl, rfl, rfl, trivial⟩ ?_
  exact K _ _ _ _ J2 (by omega) (by omega)

set_option maxRecDepth 100000 in
set_option maxHeartbeats 1000000 in
theorem lw_c49 {w : sg_W} {Q : sg_O → sg_H → Prop} {h : sg_H} (g : sg_G w) (nc : jk_C w) (hJ : jz w) {d mc ms : Nat} (hd : 30 ≤ d) {B M O S j k n : Nat} {xs : List Int} {A : fa_A} (jJ : jk_J w B M O S xs h A) (hj : 6 * j + 6 ≤ xs.length) (hl : xs.length ≤ 3072) (hk : k + 1030 ≤ mc) (hn : n + (48 + 0) ≤ ms) (K : ∀ (h' : sg_H) (k' n' : Nat) (A' : fa_A), jk_J w B M O S xs h' A' → k' ≤ k + 1030 → n' ≤ n + (48 + 0) → sg_R w mi_L_law d mc ms Q 2465 [(0, sg_r S), (1, sg_r B), (2, sg_r M), (3, sg_r O), (4, sg_i (6 * (j : Int)))] [] h' k' n') : sg_R w mi_L_law d mc ms Q 2171 [(0, sg_r S), (1, sg_r B), (2, sg_r M), (3, sg_r O), (4, sg_i (6 * (j : Int)))] [] h k n := by
  obtain ⟨p1, e1⟩ : ∃ p, xs.getD (6 * (j : Int) + 1).toNat 0 = p := ⟨_, rfl⟩
  obtain ⟨p2, e2⟩ : ∃ p, xs.getD (6 * (j : Int) + 2).toNat 0 = p := ⟨_, rfl⟩
  obtain ⟨p3, e3⟩ : ∃ p, xs.getD (6 * (j : Int) + 3).toNat 0 = p := ⟨_, rfl⟩
  obtain ⟨p4, e4⟩ : ∃ p, xs.getD (6 * (j : Int) + 4).toNat 0 = p := ⟨_, rfl⟩
  obtain ⟨p5, e5⟩ : ∃ p, xs.getD (6 * (j : Int) + 5).toNat 0 = p := ⟨_, rfl⟩
  refine sg_aload_n (pc := 2171) (j := 1) dL_law_2171 rfl rfl ?_
  refine sg_aload_n (pc := 2172) (j := 0) dL_law_2172 rfl rfl ?_
  refine sg_iload (pc := 2173) dL_law_2173 rfl ?_
  refine sg_iconst (pc := 2175) (z := 1) dL_law_2175 (by decide) ?_
  first | refine sg_iaddB (pc := 2176) dL_law_2176 (by omega) (by omega) ?_ | refine sg_iadd (pc := 2176) dL_law_2176 ?_
  refine sg_iald (pc := 2177) dL_law_2177 jJ.1.2.2.2.2.2.2.2.2.2 rfl (by omega) (jk_x (by omega) (by omega)) ?_
  try rw [e1]
  try rw [e2]
  try rw [e3]
  try rw [e4]
  try rw [e5]
  refine sg_aload_n (pc := 2178) (j := 0) dL_law_2178 rfl rfl ?_
  refine sg_iload (pc := 2179) dL_law_2179 rfl ?_
  refine sg_iconst (pc := 2181) (z := 2) dL_law_2181 (by decide) ?_
  first | refine sg_iaddB (pc := 2182) dL_law_2182 (by omega) (by omega) ?_ | refine sg_iadd (pc := 2182) dL_law_2182 ?_
  refine sg_iald (pc := 2183) dL_law_2183 jJ.1.2.2.2.2.2.2.2.2.2 rfl (by omega) (jk_x (by omega) (by omega)) ?_
  try rw [e1]
  try rw [e2]
  try rw [e3]
  try rw [e4]
  try rw [e5]
  refine sg_aload_n (pc := 2184) (j := 3) dL_law_2184 rfl rfl ?_
  refine st_cS4 (pc := 2185) (d' := d - 1) (mc' := 8) (ms' := 48) g dL_law_2185 cb_L_ofUnit cw_L_ofUnit ml_L_355 ms_L_ofUnit (Nat.le_of_ble_eq_true rfl) (by first | exact jl_d0 hd rfl | omega) (by first | exact Nat.le_of_ble_eq_true rfl | omega) (by first | exact Nat.le_of_ble_eq_true rfl | omega) ?_
  refine s_L_ofUnit g nc (by omega) jJ.1 (fun v1 h1 I1 X1 F1 k1 o1 => sg_K1 ?_)
  refine sg_istore (pc := 2188) dL_law_2188 (by decide) ?_
  refine sg_aload_n (pc := 2190) (j := 2) dL_law_2190 rfl rfl ?_
  refine sg_aload_n (pc := 2191) (j := 0) dL_law_2191 rfl rfl ?_
  refine sg_iload (pc := 2192) dL_law_2192 rfl ?_
  refine sg_iconst (pc := 2194) (z := 1) dL_law_2194 (by decide) ?_
  first | refine sg_iaddB (pc := 2195) dL_law_2195 (by omega) (by omega) ?_ | refine sg_iadd (pc := 2195) dL_law_2195 ?_
  refine sg_iald (pc := 2196) dL_law_2196 I1.2.2.2.2.2.2.2.2.2 rfl (by omega) (jk_x (by omega) (by omega)) ?_
  try rw [e1]
  try rw [e2]
  try rw [e3]
  try rw [e4]
  try rw [e5]
  refine sg_aload_n (pc := 2197) (j := 0) dL_law_2197 rfl rfl ?_
  refine sg_iload (pc := 2198) dL_law_2198 rfl ?_
  refine sg_iconst (pc := 2200) (z := 2) dL_law_2200 (by decide) ?_
  first | refine sg_iaddB (pc := 2201) dL_law_2201 (by omega) (by omega) ?_ | refine sg_iadd (pc := 2201) dL_law_2201 ?_
  refine sg_iald (pc := 2202) dL_law_2202 I1.2.2.2.2.2.2.2.2.2 rfl (by omega) (jk_x (by omega) (by omega)) ?_
  try rw [e1]
  try rw [e2]
  try rw [e3]
  try rw [e4]
  try rw [e5]
  refine st_as (fun H r => jk_tgR (B := B) r) ?_
  have m2 := jk_Im I1
  have ab0 := jk_Jt jJ I1 X1
  refine sg_cE2 (pc := 2203) (d' := d - 1) (mc' := 0) (ms' := 0) 8 g dL_law_2203 cb_X7_ofUnit ml_L_357 mn_X7_ofUnit rfl mv_X7_ofUnit (Nat.le_of_ble_eq_true rfl) (md_oc m2) (Nat.le_of_ble_eq_true rfl) (by first | exact jl_d0 hd rfl | omega) (by first | exact Nat.le_of_ble_eq_true rfl | omega) (by first | exact Nat.le_of_ble_eq_true rfl | omega) ?_
  refine s_X7_ofUnit g (by first | exact jl_d1 hd rfl | omega) m2 (fun v2 h2 c2_0 c2_1 y2 => sg_K1 ?_)
  refine st_as (fun H r => jk_unR I1.1 r) ?_
  have J2 : jk_J w B M O S xs (jk_unt B h2) A := jk_JM I1 (md_YW y2) (cf_XF jJ.2.1 F1) (y2.2.2.trans ab0) jJ.2.2.2
  have y2 := md_YW y2
  have I2 := J2.1
  refine sg_istore (pc := 2206) dL_law_2206 (by decide) ?_
  refine sg_goto (pc := 2208) (tgt := 2465) dL_law_2208 (by decide) ?_
  refine sg_lsub (lv' := [(0, _), (1, _), (2, _), (3, _), (4, _)]) ⟨rfl, rfl, rfl, rfl, rfl, trivial⟩ ?_
  exact K _ _ _ _ J2 (by omega) (by omega)

