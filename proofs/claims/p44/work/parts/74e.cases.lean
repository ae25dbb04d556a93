set_option maxRecDepth 100000 in
set_option maxHeartbeats 1000000 in
theorem lw_c40 {w : sg_W} {Q : sg_O → sg_H → Prop} {h : sg_H} (g : sg_G w) (nc : jk_C w) (hJ : jz w) {d mc ms : Nat} (hd : 30 ≤ d) {B M O S j k n : Nat} {xs : List Int} {A : fa_A} (jJ : jk_J w B M O S xs h A) (hj : 6 * j + 6 ≤ xs.length) (hl : xs.length ≤ 3072) (hk : k + 1030 ≤ mc) (hn : n + (48 + 180) ≤ ms) (K : ∀ (h' : sg_H) (k' n' : Nat) (A' : fa_A), jk_J w B M O S xs h' A' → k' ≤ k + 1030 → n' ≤ n + (48 + 180) → sg_R w mi_L_law d mc ms Q 2465 [(0, sg_r S), (1, sg_r B), (2, sg_r M), (3, sg_r O), (4, sg_i (6 * (j : Int)))] [] h' k' n') : sg_R w mi_L_law d mc ms Q 1798 [(0, sg_r S), (1, sg_r B), (2, sg_r M), (3, sg_r O), (4, sg_i (6 * (j : Int)))] [] h k n := by
  obtain ⟨p1, e1⟩ : ∃ p, xs.getD (6 * (j : Int) + 1).toNat 0 = p := ⟨_, rfl⟩
  obtain ⟨p2, e2⟩ : ∃ p, xs.getD (6 * (j : Int) + 2).toNat 0 = p := ⟨_, rfl⟩
  obtain ⟨p3, e3⟩ : ∃ p, xs.getD (6 * (j : Int) + 3).toNat 0 = p := ⟨_, rfl⟩
  obtain ⟨p4, e4⟩ : ∃ p, xs.getD (6 * (j : Int) + 4).toNat 0 = p := ⟨_, rfl⟩
  obtain ⟨p5, e5⟩ : ∃ p, xs.getD (6 * (j : Int) + 5).toNat 0 = p := ⟨_, rfl⟩
  refine sg_aload_n (pc := 1798) (j := 1) dL_law_1798 rfl rfl ?_
  refine sg_aload_n (pc := 1799) (j := 0) dL_law_1799 rfl rfl ?_
  refine sg_iload (pc := 1800) dL_law_1800 rfl ?_
  refine sg_iconst (pc := 1802) (z := 1) dL_law_1802 (by decide) ?_
  first | refine sg_iaddB (pc := 1803) dL_law_1803 (by omega) (by omega) ?_ | refine sg_iadd (pc := 1803) dL_law_1803 ?_
  refine sg_iald (pc := 1804) dL_law_1804 jJ.1.2.2.2.2.2.2.2.2.2 rfl (by omega) (jk_x (by omega) (by omega)) ?_
  try rw [e1]
  try rw [e2]
  try rw [e3]
  try rw [e4]
  try rw [e5]
  refine sg_aload_n (pc := 1805) (j := 0) dL_law_1805 rfl rfl ?_
  refine sg_iload (pc := 1806) dL_law_1806 rfl ?_
  refine sg_iconst (pc := 1808) (z := 2) dL_law_1808 (by decide) ?_
  first | refine sg_iaddB (pc := 1809) dL_law_1809 (by omega) (by omega) ?_ | refine sg_iadd (pc := 1809) dL_law_1809 ?_
  refine sg_iald (pc := 1810) dL_law_1810 jJ.1.2.2.2.2.2.2.2.2.2 rfl (by omega) (jk_x (by omega) (by omega)) ?_
  try rw [e1]
  try rw [e2]
  try rw [e3]
  try rw [e4]
  try rw [e5]
  refine sg_aload_n (pc := 1811) (j := 0) dL_law_1811 rfl rfl ?_
  refine sg_iload (pc := 1812) dL_law_1812 rfl ?_
  refine sg_iconst (pc := 1814) (z := 3) dL_law_1814 (by decide) ?_
  first | refine sg_iaddB (pc := 1815) dL_law_1815 (by omega) (by omega) ?_ | refine sg_iadd (pc := 1815) dL_law_1815 ?_
  refine sg_iald (pc := 1816) dL_law_1816 jJ.1.2.2.2.2.2.2.2.2.2 rfl (by omega) (jk_x (by omega) (by omega)) ?_
  try rw [e1]
  try rw [e2]
  try rw [e3]
  try rw [e4]
  try rw [e5]
  refine sg_if_eq (pc := 1817) (tgt := 1824) dL_law_1817 (by decide) (fun c1817 => ?_) (fun c1817 => ?_)
  · refine sg_iconst (pc := 1824) (z := 0) dL_law_1824 (by decide) ?_
    refine sg_aload_n (pc := 1825) (j := 3) dL_law_1825 rfl rfl ?_
    obtain ⟨L, hL⟩ : ∃ X, fa_L A p1.toNat = X := ⟨_, rfl⟩
    refine st_cS5 (pc := 1826) (d' := d - 1) (mc' := 8) (ms' := 48) g dL_law_1826 cb_L_word cw_L_word ml_L_321 ms_L_word (Nat.le_of_ble_eq_true rfl) (by first | exact jl_d0 hd rfl | omega) (by first | exact Nat.le_of_ble_eq_true rfl | omega) (by first | exact Nat.le_of_ble_eq_true rfl | omega) ?_
    refine f_L_word g nc (by omega) jJ.1 jJ.2.1 jJ.2.2.2 hL (fun v1 h1 I1 X1 k0 k1 F1 r1 => sg_K1 ?_)
    refine sg_istore (pc := 1829) dL_law_1829 (by decide) ?_
    refine sg_aload_n (pc := 1831) (j := 2) dL_law_1831 rfl rfl ?_
    refine sg_aload_n (pc := 1832) (j := 0) dL_law_1832 rfl rfl ?_
    refine sg_iload (pc := 1833) dL_law_1833 rfl ?_
    refine sg_iconst (pc := 1835) (z := 1) dL_law_1835 (by decide) ?_
    first | refine sg_iaddB (pc := 1836) dL_law_1836 (by omega) (by omega) ?_ | refine sg_iadd (pc := 1836) dL_law_1836 ?_
    refine sg_iald (pc := 1837) dL_law_1837 I1.2.2.2.2.2.2.2.2.2 rfl (by omega) (jk_x (by omega) (by omega)) ?_
    try rw [e1]
    try rw [e2]
    try rw [e3]
    try rw [e4]
    try rw [e5]
    refine sg_aload_n (pc := 1838) (j := 0) dL_law_1838 rfl rfl ?_
    refine sg_iload (pc := 1839) dL_law_1839 rfl ?_
    refine sg_iconst (pc := 1841) (z := 2) dL_law_1841 (by decide) ?_
    first | refine sg_iaddB (pc := 1842) dL_law_1842 (by omega) (by omega) ?_ | refine sg_iadd (pc := 1842) dL_law_1842 ?_
    refine sg_iald (pc := 1843) dL_law_1843 I1.2.2.2.2.2.2.2.2.2 rfl (by omega) (jk_x (by omega) (by omega)) ?_
    try rw [e1]
    try rw [e2]
    try rw [e3]
    try rw [e4]
    try rw [e5]
    refine sg_aload_n (pc := 1844) (j := 0) dL_law_1844 rfl rfl ?_
    refine sg_iload (pc := 1845) dL_law_1845 rfl ?_
    refine sg_iconst (pc := 1847) (z := 3) dL_law_1847 (by decide) ?_
    first | refine sg_iaddB (pc := 1848) dL_law_1848 (by omega) (by omega) ?_ | refine sg_iadd (pc := 1848) dL_law_1848 ?_
    refine sg_iald (pc := 1849) dL_law_1849 I1.2.2.2.2.2.2.2.2.2 rfl (by omega) (jk_x (by omega) (by omega)) ?_
    try rw [e1]
    try rw [e2]
    try rw [e3]
    try rw [e4]
    try rw [e5]
    refine sg_if_eq (pc := 1850) (tgt := 1857) dL_law_1850 (by decide) (fun c1850 => ?_) (fun c1850 => absurd c1817 c1850)
    refine sg_iconst (pc := 1857) (z := 0) dL_law_1857 (by decide) ?_
    refine st_as (fun H r => jk_tgR (B := B) r) ?_
    have m2 := jk_Im I1
    have ab0 := jk_Jt jJ I1 X1
    refine sg_cE3 (pc := 1858) (d' := d - 1) (mc' := 48) (ms' := 180) 8 g dL_law_1858 cb_X7_word ml_L_323 mn_X7_word rfl mv_X7_word (Nat.le_of_ble_eq_true rfl) (md_oc m2) (Nat.le_of_ble_eq_true rfl) (by first | exact jl_d0 hd rfl | omega) (by first | exact Nat.le_of_ble_eq_true rfl | omega) (by first | exact Nat.le_of_ble_eq_true rfl | omega) ?_
    refine s_X7_word g (by first | exact jl_d1 hd rfl | omega) m2 (fun v2 h2  y2 => sg_K1 ?_)
    refine st_as (fun H r => jk_unR I1.1 r) ?_
    have J2 : jk_J w B M O S xs (jk_unt B h2) A := jk_JM I1 (md_YW y2) (cf_XF jJ.2.1 F1) (y2.2.2.trans ab0) jJ.2.2.2
    have y2 := md_YW y2
    have I2 := J2.1
    refine sg_istore (pc := 1861) dL_law_1861 (by decide) ?_
    refine sg_goto (pc := 1863) (tgt := 2465) dL_law_1863 (by decide) ?_
    refine sg_lsub (lv' := [(0, _), (1, _), (2, _), (3, _), (4, _)]) ⟨rfl, rfl, rfl, rfl, rfl, trivial⟩ ?_
    exact K _ _ _ _ J2 (by omega) (by omega)
  · refine sg_iconst (pc := 1820) (z := 1) dL_law_1820 (by decide) ?_
    refine sg_goto (pc := 1821) (tgt := 1825) dL_law_1821 (by decide) ?_
    refine sg_aload_n (pc := 1825) (j := 3) dL_law_1825 rfl rfl ?_
    obtain ⟨L, hL⟩ : ∃ X, fa_L A p1.toNat = X := ⟨_, rfl⟩
    refine st_cS5 (pc := 1826) (d' := d - 1) (mc' := 8) (ms' := 48) g dL_law_1826 cb_L_word cw_L_word ml_L_321 ms_L_word (Nat.le_of_ble_eq_true rfl) (by first | exact jl_d0 hd rfl | omega) (by first | exact Nat.le_of_ble_eq_true rfl | omega) (by first | exact Nat.le_of_ble_eq_true rfl | omega) ?_
    refine f_L_word g nc (by omega) jJ.1 jJ.2.1 jJ.2.2.2 hL (fun v1 h1 I1 X1 k0 k1 F1 r1 => sg_K1 ?_)
    refine sg_istore (pc := 1829) dL_law_1829 (by decide) ?_
    refine sg_aload_n (pc := 1831) (j := 2) dL_law_1831 rfl rfl ?_
    refine sg_aload_n (pc := 1832) (j := 0) dL_law_1832 rfl rfl ?_
    refine sg_iload (pc := 1833) dL_law_1833 rfl ?_
    refine sg_iconst (pc := 1835) (z := 1) dL_law_1835 (by decide) ?_
    first | refine sg_iaddB (pc := 1836) dL_law_1836 (by omega) (by omega) ?_ | refine sg_iadd (pc := 1836) dL_law_1836 ?_
    refine sg_iald (pc := 1837) dL_law_1837 I1.2.2.2.2.2.2.2.2.2 rfl (by omega) (jk_x (by omega) (by omega)) ?_
    try rw [e1]
    try rw [e2]
    try rw [e3]
    try rw [e4]
    try rw [e5]
    refine sg_aload_n (pc := 1838) (j := 0) dL_law_1838 rfl rfl ?_
    refine sg_iload (pc := 1839) dL_law_1839 rfl ?_
    refine sg_iconst (pc := 1841) (z := 2) dL_law_1841 (by decide) ?_
    first | refine sg_iaddB (pc := 1842) dL_law_1842 (by omega) (by omega) ?_ | refine sg_iadd (pc := 1842) dL_law_1842 ?_
    refine sg_iald (pc := 1843) dL_law_1843 I1.2.2.2.2.2.2.2.2.2 rfl (by omega) (jk_x (by omega) (by omega)) ?_
    try rw [e1]
    try rw [e2]
    try rw [e3]
    try rw [e4]
    try rw [e5]
    refine sg_aload_n (pc := 1844) (j := 0) dL_law_1844 rfl rfl ?_
    refine sg_iload (pc := 1845) dL_law_1845 rfl ?_
    refine sg_iconst (pc := 1847) (z := 3) dL_law_1847 (by decide) ?_
    first | refine sg_iaddB (pc := 1848) dL_law_1848 (by omega) (by omega) ?_ | refine sg_iadd (pc := 1848) dL_law_1848 ?_
    refine sg_iald (pc := 1849) dL_law_1849 I1.2.2.2.2.2.2.2.2.2 rfl (by omega) (jk_x (by omega) (by omega)) ?_
    try rw [e1]
    try rw [e2]
    try rw [e3]
    try rw [e4]
    try rw [e5]
    refine sg_if_eq (pc := 1850) (tgt := 1857) dL_law_1850 (by decide) (fun c1850 => absurd c1850 c1817) (fun c1850 => ?_)
    refine sg_iconst (pc := 1853) (z := 1) dL_law_1853 (by decide) ?_
    refine sg_goto (pc := 1854) (tgt := 1858) dL_law_1854 (by decide) ?_
    refine st_as (fun H r => jk_tgR (B := B) r) ?_
    have m2 := jk_Im I1
    have ab0 := jk_Jt jJ I1 X1
    refine sg_cE3 (pc := 1858) (d' := d - 1) (mc' := 48) (ms' := 180) 8 g dL_law_1858 cb_X7_word ml_L_323 mn_X7_word rfl mv_X7_word (Nat.le_of_ble_eq_true rfl) (md_oc m2) (Nat.le_of_ble_eq_true rfl) (by first | exact jl_d0 hd rfl | omega) (by first | exact Nat.le_of_ble_eq_true rfl | omega) (by first | exact Nat.le_of_ble_eq_true rfl | omega) ?_
    refine s_X7_word g (by first | exact jl_d1 hd rfl | omega) m2 (fun v2 h2  y2 => sg_K1 ?_)
    refine st_as (fun H r => jk_unR I1.1 r) ?_
    have J2 : jk_J w B M O S xs (jk_unt B h2) A := jk_JM I1 (md_YW y2) (cf_XF jJ.2.1 F1) (y2.2.2.trans ab0) jJ.2.2.2
    have y2 := md_YW y2
    have I2 := J2.1
    refine sg_istore (pc := 1861) dL_law_1861 (by decide) ?_
    refine sg_goto (pc := 1863) (tgt := 2465) dL_law_1863 (by decide) ?_
    refine sg_lsub (lv' := [(0, _), (1, _), (2, _), (3, _), (4, _)]) ⟨rfl, rfl, rfl, rfl, rfl, trivial⟩ ?_
    exact K _ _ _ _ J2 (by omega) (by omega)

set_option maxRecDepth 100000 in
set_option maxHeartbeats 1000000 in
theorem lw_c41 {w : sg_W} {Q : sg_O → sg_H → Prop} {h : sg_H} (g : sg_G w) (nc : jk_C w) (hJ : jz w) {d mc ms : Nat} (hd : 30 ≤ d) {B M O S j k n : Nat} {xs : List Int} {A : fa_A} (jJ : jk_J w B M O S xs h A) (hj : 6 * j + 6 ≤ xs.length) (hl : xs.length ≤ 3072) (hk : k + 1030 ≤ mc) (hn : n + (48 + 0) ≤ ms) (K : ∀ (h' : sg_H) (k' n' : Nat) (A' : fa_A), jk_J w B M O S xs h' A' → k' ≤ k + 1030 → n' ≤ n + (48 + 0) → sg_R w mi_L_law d mc ms Q 2465 [(0, sg_r S), (1, sg_r B), (2, sg_r M), (3, sg_r O), (4, sg_i (6 * (j : Int)))] [] h' k' n') : sg_R w mi_L_law d mc ms Q 1866 [(0, sg_r S), (1, sg_r B), (2, sg_r M), (3, sg_r O), (4, sg_i (6 * (j : Int)))] [] h k n := by
  obtain ⟨p1, e1⟩ : ∃ p, xs.getD (6 * (j : Int) + 1).toNat 0 = p := ⟨_, rfl⟩
  obtain ⟨p2, e2⟩ : ∃ p, xs.getD (6 * (j : Int) + 2).toNat 0 = p := ⟨_, rfl⟩
  obtain ⟨p3, e3⟩ : ∃ p, xs.getD (6 * (j : Int) + 3).toNat 0 = p := ⟨_, rfl⟩
  obtain ⟨p4, e4⟩ : ∃ p, xs.getD (6 * (j : Int) + 4).toNat 0 = p := ⟨_, rfl⟩
  obtain ⟨p5, e5⟩ : ∃ p, xs.getD (6 * (j : Int) + 5).toNat 0 = p := ⟨_, rfl⟩
  refine sg_aload_n (pc := 1866) (j := 1) dL_law_1866 rfl rfl ?_
  refine sg_aload_n (pc := 1867) (j := 0) dL_law_1867 rfl rfl ?_
  refine sg_iload (pc := 1868) dL_law_1868 rfl ?_
  refine sg_iconst (pc := 1870) (z := 1) dL_law_1870 (by decide) ?_
  first | refine sg_iaddB (pc := 1871) dL_law_1871 (by omega) (by omega) ?_ | refine sg_iadd (pc := 1871) dL_law_1871 ?_
  refine sg_iald (pc := 1872) dL_law_1872 jJ.1.2.2.2.2.2.2.2.2.2 rfl (by omega) (jk_x (by omega) (by omega)) ?_
  try rw [e1]
  try rw [e2]
  try rw [e3]
  try rw [e4]
  try rw [e5]
  refine sg_aload_n (pc := 1873) (j := 0) dL_law_1873 rfl rfl ?_
  refine sg_iload (pc := 1874) dL_law_1874 rfl ?_
  refine sg_iconst (pc := 1876) (z := 2) dL_law_1876 (by decide) ?_
  first | refine sg_iaddB (pc := 1877) dL_law_1877 (by omega) (by omega) ?_ | refine sg_iadd (pc := 1877) dL_law_1877 ?_
  refine sg_iald (pc := 1878) dL_law_1878 jJ.1.2.2.2.2.2.2.2.2.2 rfl (by omega) (jk_x (by omega) (by omega)) ?_
  try rw [e1]
  try rw [e2]
  try rw [e3]
  try rw [e4]
  try rw [e5]
  refine sg_aload_n (pc := 1879) (j := 3) dL_law_1879 rfl rfl ?_
  obtain ⟨L, hL⟩ : ∃ X, fa_L A p1.toNat = X := ⟨_, rfl⟩
  obtain ⟨Z, hZ⟩ : ∃ X, fa_L A p2.toNat = X := ⟨_, rfl⟩
  refine st_cS4 (pc := 1880) (d' := d - 1) (mc' := 8) (ms' := 48) g dL_law_1880 cb_L_isAlike cw_L_isAlike ml_L_324 ms_L_isAlike (Nat.le_of_ble_eq_true rfl) (by first | exact jl_d0 hd rfl | omega) (by first | exact Nat.le_of_ble_eq_true rfl | omega) (by first | exact Nat.le_of_ble_eq_true rfl | omega) ?_
  refine f_L_isAlike g nc (by omega) jJ.1 jJ.2.1 jJ.2.2.2 hL hZ (fun v1 h1 I1 X1 k0 k1 F1 r1 => sg_K1 ?_)
  refine sg_istore (pc := 1883) dL_law_1883 (by decide) ?_
  refine sg_aload_n (pc := 1885) (j := 2) dL_law_1885 rfl rfl ?_
  refine sg_aload_n (pc := 1886) (j := 0) dL_law_1886 rfl rfl ?_
  refine sg_iload (pc := 1887) dL_law_1887 rfl ?_
  refine sg_iconst (pc := 1889) (z := 1) dL_law_1889 (by decide) ?_
  first | refine sg_iaddB (pc := 1890) dL_law_1890 (by omega) (by omega) ?_ | refine sg_iadd (pc := 1890) dL_law_1890 ?_
  refine sg_iald (pc := 1891) dL_law_1891 I1.2.2.2.2.2.2.2.2.2 rfl (by omega) (jk_x (by omega) (by omega)) ?_
  try rw [e1]
  try rw [e2]
  try rw [e3]
  try rw [e4]
  try rw [e5]
  refine sg_aload_n (pc := 1892) (j := 0) dL_law_1892 rfl rfl ?_
  refine sg_iload (pc := 1893) dL_law_1893 rfl ?_
  refine sg_iconst (pc := 1895) (z := 2) dL_law_1895 (by decide) ?_
  first | refine sg_iaddB (pc := 1896) dL_law_1896 (by omega) (by omega) ?_ | refine sg_iadd (pc := 1896) dL_law_1896 ?_
  refine sg_iald (pc := 1897) dL_law_1897 I1.2.2.2.2.2.2.2.2.2 rfl (by omega) (jk_x (by omega) (by omega)) ?_
  try rw [e1]
  try rw [e2]
  try rw [e3]
  try rw [e4]
  try rw [e5]
  refine st_as (fun H r => jk_tgR (B := B) r) ?_
  have m2 := jk_Im I1
  have ab0 := jk_Jt jJ I1 X1
  refine sg_cE2 (pc := 1898) (d' := d - 1) (mc' := 0) (ms' := 0) 8 g dL_law_1898 cb_X7_isAlike ml_L_326 mn_X7_isAlike rfl mv_X7_isAlike (Nat.le_of_ble_eq_true rfl) (md_oc m2) (Nat.le_of_ble_eq_true rfl) (by first | exact jl_d0 hd rfl | omega) (by first | exact Nat.le_of_ble_eq_true rfl | omega) (by first | exact Nat.le_of_ble_eq_true rfl | omega) ?_
  refine s_X7_isAlike g (by first | exact jl_d1 hd rfl | omega) m2 (fun v2 h2 c2_0 y2 => sg_K1 ?_)
  refine st_as (fun H r => jk_unR I1.1 r) ?_
  have J2 : jk_J w B M O S xs (jk_unt B h2) A := jk_JM I1 (md_YW y2) (cf_XF jJ.2.1 F1) (y2.2.2.trans ab0) jJ.2.2.2
  have y2 := md_YW y2
  have I2 := J2.1
  refine sg_istore (pc := 1901) dL_law_1901 (by decide) ?_
  refine sg_goto (pc := 1903) (tgt := 2465) dL_law_1903 (by decide) ?_
  refine sg_lsub (lv' := [(0, _), (1, _), (2, _), (3, _), (4, _)]) ⟨rfl, rfl, rfl, rfl, rfl, trivial⟩ ?_
  exact K _ _ _ _ J2 (by omega) (by omega)

set_option maxRecDepth 100000 in
set_option maxHeartbeats 1000000 in
theorem lw_c42 {w : sg_W} {Q : sg_O → sg_H → Prop} {h : sg_H} (g : sg_G w) (nc : jk_C w) (hJ : jz w) {d mc ms : Nat} (hd : 30 ≤ d) {B M O S j k n : Nat} {xs : List Int} {A : fa_A} (jJ : jk_J w B M O S xs h A) (hj : 6 * j + 6 ≤ xs.length) (hl : xs.length ≤ 3072) (hk : k + 1030 ≤ mc) (hn : n + (48 + 0) ≤ ms) (K : ∀ (h' : sg_H) (k' n' : Nat) (A' : fa_A), jk_J w B M O S xs h' A' → k' ≤ k + 1030 → n' ≤ n + (48 + 0) → sg_R w mi_L_law d mc ms Q 2465 [(0, sg_r S), (1, sg_r B), (2, sg_r M), (3, sg_r O), (4, sg_i (6 * (j : Int)))] [] h' k' n') : sg_R w mi_L_law d mc ms Q 1906 [(0, sg_r S), (1, sg_r B), (2, sg_r M), (3, sg_r O), (4, sg_i (6 * (j : Int)))] [] h k n := by
  obtain ⟨p1, e1⟩ : ∃ p, xs.getD (6 * (j : Int) + 1).toNat 0 = p := ⟨_, rfl⟩
  obtain ⟨p2, e2⟩ : ∃ p, xs.getD (6 * (j : Int) + 2).toNat 0 = p := ⟨_, rfl⟩
  obtain ⟨p3, e3⟩ : ∃ p, xs.getD (6 * (j : Int) + 3).toNat 0 = p := ⟨_, rfl⟩
  obtain ⟨p4, e4⟩ : ∃ p, xs.getD (6 * (j : Int) + 4).toNat 0 = p := ⟨_, rfl⟩
  obtain ⟨p5, e5⟩ : ∃ p, xs.getD (6 * (j : Int) + 5).toNat 0 = p := ⟨_, rfl⟩
  refine sg_aload_n (pc := 1906) (j := 1) dL_law_1906 rfl rfl ?_
  refine sg_aload_n (pc := 1907) (j := 0) dL_law_1907 rfl rfl ?_
  refine sg_iload (pc := 1908) dL_law_1908 rfl ?_
  refine sg_iconst (pc := 1910) (z := 1) dL_law_1910 (by decide) ?_
  first | refine sg_iaddB (pc := 1911) dL_law_1911 (by omega) (by omega) ?_ | refine sg_iadd (pc := 1911) dL_law_1911 ?_
  refine sg_iald (pc := 1912) dL_law_1912 jJ.1.2.2.2.2.2.2.2.2.2 rfl (by omega) (jk_x (by omega) (by omega)) ?_
  try rw [e1]
  try rw [e2]
  try rw [e3]
  try rw [e4]
  try rw [e5]
  refine sg_aload_n (pc := 1913) (j := 0) dL_law_1913 rfl rfl ?_
  refine sg_iload (pc := 1914) dL_law_1914 rfl ?_
  refine sg_iconst (pc := 1916) (z := 2) dL_law_1916 (by decide) ?_
  first | refine sg_iaddB (pc := 1917) dL_law_1917 (by omega) (by omega) ?_ | refine sg_iadd (pc := 1917) dL_law_1917 ?_
  refine sg_iald (pc := 1918) dL_law_1918 jJ.1.2.2.2.2.2.2.2.2.2 rfl (by omega) (jk_x (by omega) (by omega)) ?_
  try rw [e1]
  try rw [e2]
  try rw [e3]
  try rw [e4]
  try rw [e5]
  refine sg_aload_n (pc := 1919) (j := 3) dL_law_1919 rfl rfl ?_
  obtain ⟨L, hL⟩ : ∃ X, fa_L A p1.toNat = X := ⟨_, rfl⟩
  obtain ⟨Z, hZ⟩ : ∃ X, fa_L A p2.toNat = X := ⟨_, rfl⟩
  refine st_cS4 (pc := 1920) (d' := d - 1) (mc' := 8) (ms' := 48) g dL_law_1920 cb_L_order cw_L_order ml_L_327 ms_L_order (Nat.le_of_ble_eq_true rfl) (by first | exact jl_d0 hd rfl | omega) (by first | exact Nat.le_of_ble_eq_true rfl | omega) (by first | exact Nat.le_of_ble_eq_true rfl | omega) ?_
  refine f_L_order g nc (by omega) jJ.1 jJ.2.1 jJ.2.2.2 hL hZ (fun v1 h1 I1 X1 k0 k1 F1 r1 => sg_K1 ?_)
  refine sg_istore (pc := 1923) dL_law_1923 (by decide) ?_
  refine sg_aload_n (pc := 1925) (j := 2) dL_law_1925 rfl rfl ?_
  refine sg_aload_n (pc := 1926) (j := 0) dL_law_1926 rfl rfl ?_
  refine sg_iload (pc := 1927) dL_law_1927 rfl ?_
  refine sg_iconst (pc := 1929) (z := 1) dL_law_1929 (by decide) ?_
  first | refine sg_iaddB (pc := 1930) dL_law_1930 (by omega) (by omega) ?_ | refine sg_iadd (pc := 1930) dL_law_1930 ?_
  refine sg_iald (pc := 1931) dL_law_1931 I1.2.2.2.2.2.2.2.2.2 rfl (by omega) (jk_x (by omega) (by omega)) ?_
  try rw [e1]
  try rw [e2]
  try rw [e3]
  try rw [e4]
  try rw [e5]
  refine sg_aload_n (pc := 1932) (j := 0) dL_law_1932 rfl rfl ?_
  refine sg_iload (pc := 1933) dL_law_1933 rfl ?_
  refine sg_iconst (pc := 1935) (z := 2) dL_law_1935 (by decide) ?_
  first | refine sg_iaddB (pc := 1936) dL_law_1936 (by omega) (by omega) ?_ | refine sg_iadd (pc := 1936) dL_law_1936 ?_
  refine sg_iald (pc := 1937) dL_law_1937 I1.2.2.2.2.2.2.2.2.2 rfl (by omega) (jk_x (by omega) (by omega)) ?_
  try rw [e1]
  try rw [e2]
  try rw [e3]
  try rw [e4]
  try rw [e5]
  refine st_as (fun H r => jk_tgR (B := B) r) ?_
  have m2 := jk_Im I1
  have ab0 := jk_Jt jJ I1 X1
  refine sg_cE2 (pc := 1938) (d' := d - 1) (mc' := 0) (ms' := 0) 8 g dL_law_1938 cb_X7_order ml_L_329 mn_X7_order rfl mv_X7_order (Nat.le_of_ble_eq_true rfl) (md_oc m2) (Nat.le_of_ble_eq_true rfl) (by first | exact jl_d0 hd rfl | omega) (by first | exact Nat.le_of_ble_eq_true rfl | omega) (by first | exact Nat.le_of_ble_eq_true rfl | omega) ?_
  refine f_X7_order g (by first | exact jl_d1 hd rfl | omega) ab0 hL hZ m2 (fun v2 h2 t0 t1 q2 y2 => sg_K1 ?_)
  refine st_as (fun H r => jk_unR I1.1 r) ?_
  have J2 : jk_J w B M O S xs (jk_unt B h2) A := jk_JM I1 (md_YW y2) (cf_XF jJ.2.1 F1) (y2.2.2.trans ab0) jJ.2.2.2
  have y2 := md_YW y2
  have ek : md_t h2 M = v1 := (Classical.byCases (fun q1 => (t0 q1).trans (show v1 = 1 from k0 q1).symm) (fun q1 => (t1 q1).trans (show v1 = 0 from k1 q1).symm))
  clear k0 t0 k1 t1
  have I2 := J2.1
  have eo := jk_oM I1 y2
  refine sg_istore (pc := 1941) dL_law_1941 (by decide) ?_
  refine sg_aload_n (pc := 1943) (j := 2) dL_law_1943 rfl rfl ?_
  obtain ⟨tv, eT⟩ := jk_th I2
  refine sg_cE0 (pc := 1944) (d' := d - 1) (mc' := 0) (ms' := 0) 8 g dL_law_1944 cb_X7_thrown ml_L_330 mn_X7_thrown rfl mv_X7_thrown (Nat.le_of_ble_eq_true rfl) ⟨_, eT⟩ (Nat.le_of_ble_eq_true rfl) (by first | exact jl_d0 hd rfl | omega) (by first | exact Nat.le_of_ble_eq_true rfl | omega) (by first | exact Nat.le_of_ble_eq_true rfl | omega) ?_
  refine s_X7_thrown g (by first | exact jl_d1 hd rfl | omega) eT (sg_K1 ?_)
  refine sg_iload (pc := 1947) dL_law_1947 rfl ?_
  refine sg_icmp_eq (pc := 1949) (tgt := 1954) dL_law_1949 (by decide) (fun ct => ?_) (fun ct => absurd ?_ ct)
  · refine sg_iload (pc := 1954) dL_law_1954 rfl ?_
    refine sg_if_ne (pc := 1956) (tgt := 1972) dL_law_1956 (by decide) (fun c1956 => ?_) (fun c1956 => ?_)
    · refine sg_goto (pc := 1972) (tgt := 2465) dL_law_1972 (by decide) ?_
      refine sg_lsub (lv' := [(0, _), (1, _), (2, _), (3, _), (4, _)]) ⟨rfl, rfl, rfl, rfl, rfl, trivial⟩ ?_
      exact K _ _ _ _ J2 (by omega) (by omega)
    · refine sg_aload_n (pc := 1959) (j := 3) dL_law_1959 rfl rfl ?_
      obtain ⟨ro, eO⟩ := jk_oz I2
      refine sg_getN (pc := 1960) g dL_law_1960 fk_L_13 eO rfl rfl ?_
      refine sg_iload (pc := 1963) dL_law_1963 rfl ?_
      refine sg_i2l (pc := 1965) dL_law_1965 ?_
      refine sg_lcmp (pc := 1966) dL_law_1966 (fun zc ec => ?_)
      refine sg_if_eq (pc := 1967) (tgt := 1972) dL_law_1967 (by decide) (fun cq => ?_) (fun cq => absurd (ec.mpr ?_) cq)
      · refine sg_goto (pc := 1972) (tgt := 2465) dL_law_1972 (by decide) ?_
        refine sg_lsub (lv' := [(0, _), (1, _), (2, _), (3, _), (4, _)]) ⟨rfl, rfl, rfl, rfl, rfl, trivial⟩ ?_
        exact K _ _ _ _ J2 (by omega) (by omega)
      · rw [eo, r1 (by omega), q2 (by omega)]
  · omega

set_option maxRecDepth 100000 in
set_option maxHeartbeats 1000000 in
theorem lw_c43 {w : sg_W} {Q : sg_O → sg_H → Prop} {h : sg_H} (g : sg_G w) (nc : jk_C w) (hJ : jz w) {d mc ms : Nat} (hd : 30 ≤ d) {B M O S j k n : Nat} {xs : List Int} {A : fa_A} (jJ : jk_J w B M O S xs h A) (hj : 6 * j + 6 ≤ xs.length) (hl : xs.length ≤ 3072) (hk : k + 1030 ≤ mc) (hn : n + (0 + 0) ≤ ms) (K : ∀ (h' : sg_H) (k' n' : Nat) (A' : fa_A), jk_J w B M O S xs h' A' → k' ≤ k + 1030 → n' ≤ n + (0 + 0) → sg_R w mi_L_law d mc ms Q 2465 [(0, sg_r S), (1, sg_r B), (2, sg_r M), (3, sg_r O), (4, sg_i (6 * (j : Int)))] [] h' k' n') : sg_R w mi_L_law d mc ms Q 1975 [(0, sg_r S), (1, sg_r B), (2, sg_r M), (3, sg_r O), (4, sg_i (6 * (j : Int)))] [] h k n := by
  obtain ⟨p1, e1⟩ : ∃ p, xs.getD (6 * (j : Int) + 1).toNat 0 = p := ⟨_, rfl⟩
  obtain ⟨p2, e2⟩ : ∃ p, xs.getD (6 * (j : Int) + 2).toNat 0 = p := ⟨_, rfl⟩
  obtain ⟨p3, e3⟩ : ∃ p, xs.getD (6 * (j : Int) + 3).toNat 0 = p := ⟨_, rfl⟩
  obtain ⟨p4, e4⟩ : ∃ p, xs.getD (6 * (j : Int) + 4).toNat 0 = p := ⟨_, rfl⟩
  obtain ⟨p5, e5⟩ : ∃ p, xs.getD (6 * (j : Int) + 5).toNat 0 = p := ⟨_, rfl⟩
  refine sg_aload_n (pc := 1975) (j := 1) dL_law_1975 rfl rfl ?_
  refine sg_aload_n (pc := 1976) (j := 0) dL_law_1976 rfl rfl ?_
  refine sg_iload (pc := 1977) dL_law_1977 rfl ?_
  refine sg_iconst (pc := 1979) (z := 1) dL_law_1979 (by decide) ?_
  first | refine sg_iaddB (pc := 1980) dL_law_1980 (by omega) (by omega) ?_ | refine sg_iadd (pc := 1980) dL_law_1980 ?_
  refine sg_iald (pc := 1981) dL_law_1981 jJ.1.2.2.2.2.2.2.2.2.2 rfl (by omega) (jk_x (by omega) (by omega)) ?_
  try rw [e1]
  try rw [e2]
  try rw [e3]
  try rw [e4]
  try rw [e5]
  refine sg_cE1 (pc := 1982) (d' := d - 1) (mc' := 0) (ms' := 0) 6 g dL_law_1982 cb_X5_isCode ml_L_333 mn_X5_isCode rfl mv_X5_isCode (Nat.le_of_ble_eq_true rfl) (ck_oc jJ.1.2.2.1) (Nat.le_of_ble_eq_true rfl) (by first | exact jl_d0 hd rfl | omega) (by first | exact Nat.le_of_ble_eq_true rfl | omega) (by first | exact Nat.le_of_ble_eq_true rfl | omega) ?_
  refine s_X5_isCode (B := B) g (by first | exact jl_d1 hd rfl | omega) (fun v1 c1 => sg_K1 ?_)
  have I1 := jJ.1
  have X1 : jk_X (jk_cut B h) (jk_cut B h) := jk_X0
  have F1 : jk_F B h h := jk_F0
  refine sg_pop (pc := 1985) dL_law_1985 rfl ?_
  refine sg_aload_n (pc := 1986) (j := 2) dL_law_1986 rfl rfl ?_
  refine sg_aload_n (pc := 1987) (j := 0) dL_law_1987 rfl rfl ?_
  refine sg_iload (pc := 1988) dL_law_1988 rfl ?_
  refine sg_iconst (pc := 1990) (z := 1) dL_law_1990 (by decide) ?_
  first | refine sg_iaddB (pc := 1991) dL_law_1991 (by omega) (by omega) ?_ | refine sg_iadd (pc := 1991) dL_law_1991 ?_
  refine sg_iald (pc := 1992) dL_law_1992 I1.2.2.2.2.2.2.2.2.2 rfl (by omega) (jk_x (by omega) (by omega)) ?_
  try rw [e1]
  try rw [e2]
  try rw [e3]
  try rw [e4]
  try rw [e5]
  refine st_as (fun H r => jk_tgR (B := B) r) ?_
  have m2 := jk_Im I1
  have ab0 := jk_Jt jJ I1 X1
  refine sg_cE1 (pc := 1993) (d' := d - 1) (mc' := 0) (ms' := 0) 8 g dL_law_1993 cb_X7_isCode ml_L_336 mn_X7_isCode rfl mv_X7_isCode (Nat.le_of_ble_eq_true rfl) (md_oc m2) (Nat.le_of_ble_eq_true rfl) (by first | exact jl_d0 hd rfl | omega) (by first | exact Nat.le_of_ble_eq_true rfl | omega) (by first | exact Nat.le_of_ble_eq_true rfl | omega) ?_
  refine s_X7_isCode g (by first | exact jl_d1 hd rfl | omega) m2 (fun v2 h2 c2_0 c2_1 y2 => sg_K1 ?_)
  refine st_as (fun H r => jk_unR I1.1 r) ?_
  have J2 : jk_J w B M O S xs (jk_unt B h2) A := jk_JM I1 (md_YW y2) (cf_XF jJ.2.1 F1) (y2.2.2.trans ab0) jJ.2.2.2
  have y2 := md_YW y2
  have I2 := J2.1
  refine sg_pop (pc := 1996) dL_law_1996 rfl ?_
  refine sg_goto (pc := 1997) (tgt := 2465) dL_law_1997 (by decide) ?_
  refine sg_lsub (lv' := [(0, _), (1, _), (2, _), (3, _), (4, _)]) ⟨rfl, rfl, rfl, rfl, rfl, trivial⟩ ?_
  exact K _ _ _ _ J2 (by omega) (by omega)

set_option maxRecDepth 100000 in
set_option maxHeartbeats 1000000 in
theorem lw_c44 {w : sg_W} {Q : sg_O → sg_H → Prop} {h : sg_H} (g : sg_G w) (nc : jk_C w) (hJ : jz w) {d mc ms : Nat} (hd : 30 ≤ d) {B M O S j k n : Nat} {xs : List Int} {A : fa_A} (jJ : jk_J w B M O S xs h A) (hj : 6 * j + 6 ≤ xs.length) (hl : xs.length ≤ 3072) (hk : k + 1030 ≤ mc) (hn : n + (0 + 0) ≤ ms) (K : ∀ (h' : sg_H) (k' n' : Nat) (A' : fa_A), jk_J w B M O S xs h' A' → k' ≤ k + 1030 → n' ≤ n + (0 + 0) → sg_R w mi_L_law d mc ms Q 2465 [(0, sg_r S), (1, sg_r B), (2, sg_r M), (3, sg_r O), (4, sg_i (6 * (j : Int)))] [] h' k' n') : sg_R w mi_L_law d mc ms Q 2000 [(0, sg_r S), (1, sg_r B), (2, sg_r M), (3, sg_r O), (4, sg_i (6 * (j : Int)))] [] h k n := by
  obtain ⟨p1, e1⟩ : ∃ p, xs.getD (6 * (j : Int) + 1).toNat 0 = p := ⟨_, rfl⟩
  obtain ⟨p2, e2⟩ : ∃ p, xs.getD (6 * (j : Int) + 2).toNat 0 = p := ⟨_, rfl⟩
  obtain ⟨p3, e3⟩ : ∃ p, xs.getD (6 * (j : Int) + 3).toNat 0 = p := ⟨_, rfl⟩
  obtain ⟨p4, e4⟩ : ∃ p, xs.getD (6 * (j : Int) + 4).toNat 0 = p := ⟨_, rfl⟩
  obtain ⟨p5, e5⟩ : ∃ p, xs.getD (6 * (j : Int) + 5).toNat 0 = p := ⟨_, rfl⟩
  refine sg_aload_n (pc := 2000) (j := 1) dL_law_2000 rfl rfl ?_
  refine sg_aload_n (pc := 2001) (j := 0) dL_law_2001 rfl rfl ?_
  refine sg_iload (pc := 2002) dL_law_2002 rfl ?_
  refine sg_iconst (pc := 2004) (z := 1) dL_law_2004 (by decide) ?_
  first | refine sg_iaddB (pc := 2005) dL_law_2005 (by omega) (by omega) ?_ | refine sg_iadd (pc := 2005) dL_law_2005 ?_
  refine sg_iald (pc := 2006) dL_law_2006 jJ.1.2.2.2.2.2.2.2.2.2 rfl (by omega) (jk_x (by omega) (by omega)) ?_
  try rw [e1]
  try rw [e2]
  try rw [e3]
  try rw [e4]
  try rw [e5]
  refine sg_cE1 (pc := 2007) (d' := d - 1) (mc' := 0) (ms' := 0) 6 g dL_law_2007 cb_X5_isPlain ml_L_337 mn_X5_isPlain rfl mv_X5_isPlain (Nat.le_of_ble_eq_true rfl) (ck_oc jJ.1.2.2.1) (Nat.le_of_ble_eq_true rfl) (by first | exact jl_d0 hd rfl | omega) (by first | exact Nat.le_of_ble_eq_true rfl | omega) (by first | exact Nat.le_of_ble_eq_true rfl | omega) ?_
  refine s_X5_isPlain (B := B) g (by first | exact jl_d1 hd rfl | omega) (fun v1 c1 => sg_K1 ?_)
  have I1 := jJ.1
  have X1 : jk_X (jk_cut B h) (jk_cut B h) := jk_X0
  have F1 : jk_F B h h := jk_F0
  refine sg_pop (pc := 2010) dL_law_2010 rfl ?_
  refine sg_aload_n (pc := 2011) (j := 2) dL_law_2011 rfl rfl ?_
  refine sg_aload_n (pc := 2012) (j := 0) dL_law_2012 rfl rfl ?_
  refine sg_iload (pc := 2013) dL_law_2013 rfl ?_
  refine sg_iconst (pc := 2015) (z := 1) dL_law_2015 (by decide) ?_
  first | refine sg_iaddB (pc := 2016) dL_law_2016 (by omega) (by omega) ?_ | refine sg_iadd (pc := 2016) dL_law_2016 ?_
  refine sg_iald (pc := 2017) dL_law_2017 I1.2.2.2.2.2.2.2.2.2 rfl (by omega) (jk_x (by omega) (by omega)) ?_
  try rw [e1]
  try rw [e2]
  try rw [e3]
  try rw [e4]
  try rw [e5]
  refine st_as (fun H r => jk_tgR (B := B) r) ?_
  have m2 := jk_Im I1
  have ab0 := jk_Jt jJ I1 X1
  refine sg_cE1 (pc := 2018) (d' := d - 1) (mc' := 0) (ms' := 0) 8 g dL_law_2018 cb_X7_isPlain ml_L_340 mn_X7_isPlain rfl mv_X7_isPlain (Nat.le_of_ble_eq_true rfl) (md_oc m2) (Nat.le_of_ble_eq_true rfl) (by first | exact jl_d0 hd rfl | omega) (by first | exact Nat.le_of_ble_eq_true rfl | omega) (by first | exact Nat.le_of_ble_eq_true rfl | omega) ?_
  refine s_X7_isPlain g (by first | exact jl_d1 hd rfl | omega) m2 (fun v2 h2 c2_0 c2_1 y2 => sg_K1 ?_)
  refine st_as (fun H r => jk_unR I1.1 r) ?_
  have J2 : jk_J w B M O S xs (jk_unt B h2) A := jk_JM I1 (md_YW y2) (cf_XF jJ.2.1 F1) (y2.2.2.trans ab0) jJ.2.2.2
  have y2 := md_YW y2
  have I2 := J2.1
  refine sg_pop (pc := 2021) dL_law_2021 rfl ?_
  refine sg_goto (pc := 2022) (tgt := 2465) dL_law_2022 (by decide) ?_
  refine sg_lsub (lv' := [(0, _), (1, _), (2, _), (3, _), (4, _)]) ⟨rfl, rfl, rfl, rfl, rfl, trivial⟩ ?_
  exact K _ _ _ _ J2 (by omega) (by omega)

set_option maxRecDepth 100000 in
set_option maxHeartbeats 1000000 in
theorem lw_c45 {w : sg_W} {Q : sg_O → sg_H → Prop} {h : sg_H} (g : sg_G w) (nc : jk_C w) (hJ : jz w) {d mc ms : Nat} (hd : 30 ≤ d) {B M O S j k n : Nat} {xs : List Int} {A : fa_A} (jJ : jk_J w B M O S xs h A) (hj : 6 * j + 6 ≤ xs.length) (hl : xs.length ≤ 3072) (hk : k + 1030 ≤ mc) (hn : n + (0 + 0) ≤ ms) (K : ∀ (h' : sg_H) (k' n' : Nat) (A' : fa_A), jk_J w B M O S xs h' A' → k' ≤ k + 1030 → n' ≤ n + (0 + 0) → sg_R w mi_L_law d mc ms Q 2465 [(0, sg_r S), (1, sg_r B), (2, sg_r M), (3, sg_r O), (4, sg_i (6 * (j : Int)))] [] h' k' n') : sg_R w mi_L_law d mc ms Q 2025 [(0, sg_r S), (1, sg_r B), (2, sg_r M), (3, sg_r O), (4, sg_i (6 * (j : Int)))] [] h k n := by
  obtain ⟨p1, e1⟩ : ∃ p, xs.getD (6 * (j : Int) + 1).toNat 0 = p := ⟨_, rfl⟩
  obtain ⟨p2, e2⟩ : ∃ p, xs.getD (6 * (j : Int) + 2).toNat 0 = p := ⟨_, rfl⟩
  obtain ⟨p3, e3⟩ : ∃ p, xs.getD (6 * (j : Int) + 3).toNat 0 = p := ⟨_, rfl⟩
  obtain ⟨p4, e4⟩ : ∃ p, xs.getD (6 * (j : Int) + 4).toNat 0 = p := ⟨_, rfl⟩
  obtain ⟨p5, e5⟩ : ∃ p, xs.getD (6 * (j : Int) + 5).toNat 0 = p := ⟨_, rfl⟩
  refine sg_aload_n (pc := 2025) (j := 1) dL_law_2025 rfl rfl ?_
  refine sg_aload_n (pc := 2026) (j := 0) dL_law_2026 rfl rfl ?_
  refine sg_iload (pc := 2027) dL_law_2027 rfl ?_
  refine sg_iconst (pc := 2029) (z := 1) dL_law_2029 (by decide) ?_
  first | refine sg_iaddB (pc := 2030) dL_law_2030 (by omega) (by omega) ?_ | refine sg_iadd (pc := 2030) dL_law_2030 ?_
  refine sg_iald (pc := 2031) dL_law_2031 jJ.1.2.2.2.2.2.2.2.2.2 rfl (by omega) (jk_x (by omega) (by omega)) ?_
  try rw [e1]
  try rw [e2]
  try rw [e3]
  try rw [e4]
  try rw [e5]
  refine sg_cE1 (pc := 2032) (d' := d - 1) (mc' := 0) (ms' := 0) 6 g dL_law_2032 cb_X5_isWide ml_L_341 mn_X5_isWide rfl mv_X5_isWide (Nat.le_of_ble_eq_true rfl) (ck_oc jJ.1.2.2.1) (Nat.le_of_ble_eq_true rfl) (by first | exact jl_d0 hd rfl | omega) (by first | exact Nat.le_of_ble_eq_true rfl | omega) (by first | exact Nat.le_of_ble_eq_true rfl | omega) ?_
  refine s_X5_isWide (B := B) g (by first | exact jl_d1 hd rfl | omega) (fun v1 c1 => sg_K1 ?_)
  have I1 := jJ.1
  have X1 : jk_X (jk_cut B h) (jk_cut B h) := jk_X0
  have F1 : jk_F B h h := jk_F0
  refine sg_pop (pc := 2035) dL_law_2035 rfl ?_
  refine sg_aload_n (pc := 2036) (j := 2) dL_law_2036 rfl rfl ?_
  refine sg_aload_n (pc := 2037) (j := 0) dL_law_2037 rfl rfl ?_
  refine sg_iload (pc := 2038) dL_law_2038 rfl ?_
  refine sg_iconst (pc := 2040) (z := 1) dL_law_2040 (by decide) ?_
  first | refine sg_iaddB (pc := 2041) dL_law_2041 (by omega) (by omega) ?_ | refine sg_iadd (pc := 2041) dL_law_2041 ?_
  refine sg_iald (pc := 2042) dL_law_2042 I1.2.2.2.2.2.2.2.2.2 rfl (by omega) (jk_x (by omega) (by omega)) ?_
  try rw [e1]
  try rw [e2]
  try rw [e3]
  try rw [e4]
  try rw [e5]
  refine st_as (fun H r => jk_tgR (B := B) r) ?_
  have m2 := jk_Im I1
  have ab0 := jk_Jt jJ I1 X1
  refine sg_cE1 (pc := 2043) (d' := d - 1) (mc' := 0) (ms' := 0) 8 g dL_law_2043 cb_X7_isWide ml_L_344 mn_X7_isWide rfl mv_X7_isWide (Nat.le_of_ble_eq_true rfl) (md_oc m2) (Nat.le_of_ble_eq_true rfl) (by first | exact jl_d0 hd rfl | omega) (by first | exact Nat.le_of_ble_eq_true rfl | omega) (by first | exact Nat.le_of_ble_eq_true rfl | omega) ?_
  refine s_X7_isWide g (by first | exact jl_d1 hd rfl | omega) m2 (fun v2 h2 c2_0 c2_1 y2 => sg_K1 ?_)
  refine st_as (fun H r => jk_unR I1.1 r) ?_
  have J2 : jk_J w B M O S xs (jk_unt B h2) A := jk_JM I1 (md_YW y2) (cf_XF jJ.2.1 F1) (y2.2.2.trans ab0) jJ.2.2.2
  have y2 := md_YW y2
  have I2 := J2.1
  refine sg_pop (pc := 2046) dL_law_2046 rfl ?_
  refine sg_goto (pc := 2047) (tgt := 2465) dL_law_2047 (by decide) ?_
  refine sg_lsub (lv' := [(0, _), (1, _), (2, _), (3, _), (4, _)]) ⟨rfl, rfl, rfl, rfl, rfl, trivial⟩ ?_
  exact K _ _ _ _ J2 (by omega) (by omega)

set_option maxRecDepth 100000 in
set_option maxHeartbeats 1000000 in
theorem lw_c46 {w : sg_W} {Q : sg_O → sg_H → Prop} {h : sg_H} (g : sg_G w) (nc : jk_C w) (hJ : jz w) {d mc ms : Nat} (hd : 30 ≤ d) {B M O S j k n : Nat} {xs : List Int} {A : fa_A} (jJ : jk_J w B M O S xs h A) (hj : 6 * j + 6 ≤ xs.length) (hl : xs.length ≤ 3072) (hk : k + 1030 ≤ mc) (hn : n + (0 + 0) ≤ ms) (K : ∀ (h' : sg_H) (k' n' : Nat) (A' : fa_A), jk_J w B M O S xs h' A' → k' ≤ k + 1030 → n' ≤ n + (0 + 0) → sg_R w mi_L_law d mc ms Q 2465 [(0, sg_r S), (1, sg_r B), (2, sg_r M), (3, sg_r O), (4, sg_i (6 * (j : Int)))] [] h' k' n') : sg_R w mi_L_law d mc ms Q 2050 [(0, sg_r S), (1, sg_r B), (2, sg_r M), (3, sg_r O), (4, sg_i (6 * (j : Int)))] [] h k n := by
  obtain ⟨p1, e1⟩ : ∃ p, xs.getD (6 * (j : Int) + 1).toNat 0 = p := ⟨_, rfl⟩
  obtain ⟨p2, e2⟩ : ∃ p, xs.getD (6 * (j : Int) + 2).toNat 0 = p := ⟨_, rfl⟩
  obtain ⟨p3, e3⟩ : ∃ p, xs.getD (6 * (j : Int) + 3).toNat 0 = p := ⟨_, rfl⟩
  obtain ⟨p4, e4⟩ : ∃ p, xs.getD (6 * (j : Int) + 4).toNat 0 = p := ⟨_, rfl⟩
  obtain ⟨p5, e5⟩ : ∃ p, xs.getD (6 * (j : Int) + 5).toNat 0 = p := ⟨_, rfl⟩
  refine sg_aload_n (pc := 2050) (j := 1) dL_law_2050 rfl rfl ?_
  refine sg_aload_n (pc := 2051) (j := 0) dL_law_2051 rfl rfl ?_
  refine sg_iload (pc := 2052) dL_law_2052 rfl ?_
  refine sg_iconst (pc := 2054) (z := 1) dL_law_2054 (by decide) ?_
  first | refine sg_iaddB (pc := 2055) dL_law_2055 (by omega) (by omega) ?_ | refine sg_iadd (pc := 2055) dL_law_2055 ?_
  refine sg_iald (pc := 2056) dL_law_2056 jJ.1.2.2.2.2.2.2.2.2.2 rfl (by omega) (jk_x (by omega) (by omega)) ?_
  try rw [e1]
  try rw [e2]
  try rw [e3]
  try rw [e4]
  try rw [e5]
  refine sg_cE1 (pc := 2057) (d' := d - 1) (mc' := 0) (ms' := 0) 6 g dL_law_2057 cb_X5_units ml_L_345 mn_X5_units rfl mv_X5_units (Nat.le_of_ble_eq_true rfl) (ck_oc jJ.1.2.2.1) (Nat.le_of_ble_eq_true rfl) (by first | exact jl_d0 hd rfl | omega) (by first | exact Nat.le_of_ble_eq_true rfl | omega) (by first | exact Nat.le_of_ble_eq_true rfl | omega) ?_
  refine s_X5_units (B := B) g (by first | exact jl_d1 hd rfl | omega) (fun v1 c1 => sg_K1 ?_)
  have I1 := jJ.1
  have X1 : jk_X (jk_cut B h) (jk_cut B h) := jk_X0
  have F1 : jk_F B h h := jk_F0
  refine sg_pop (pc := 2060) dL_law_2060 rfl ?_
  refine sg_aload_n (pc := 2061) (j := 2) dL_law_2061 rfl rfl ?_
  refine sg_aload_n (pc := 2062) (j := 0) dL_law_2062 rfl rfl ?_
  refine sg_iload (pc := 2063) dL_law_2063 rfl ?_
  refine sg_iconst (pc := 2065) (z := 1) dL_law_2065 (by decide) ?_
  first | refine sg_iaddB (pc := 2066) dL_law_2066 (by omega) (by omega) ?_ | refine sg_iadd (pc := 2066) dL_law_2066 ?_
  refine sg_iald (pc := 2067) dL_law_2067 I1.2.2.2.2.2.2.2.2.2 rfl (by omega) (jk_x (by omega) (by omega)) ?_
  try rw [e1]
  try rw [e2]
  try rw [e3]
  try rw [e4]
  try rw [e5]
  refine st_as (fun H r => jk_tgR (B := B) r) ?_
  have m2 := jk_Im I1
  have ab0 := jk_Jt jJ I1 X1
  refine sg_cE1 (pc := 2068) (d' := d - 1) (mc' := 0) (ms' := 0) 8 g dL_law_2068 cb_X7_units ml_L_348 mn_X7_units rfl mv_X7_units (Nat.le_of_ble_eq_true rfl) (md_oc m2) (Nat.le_of_ble_eq_true rfl) (by first | exact jl_d0 hd rfl | omega) (by first | exact Nat.le_of_ble_eq_true rfl | omega) (by first | exact Nat.le_of_ble_eq_true rfl | omega) ?_
  refine s_X7_units g (by first | exact jl_d1 hd rfl | omega) m2 (fun v2 h2 c2_0 y2 => sg_K1 ?_)
  refine st_as (fun H r => jk_unR I1.1 r) ?_
  have J2 : jk_J w B M O S xs (jk_unt B h2) A := jk_JM I1 (md_YW y2) (cf_XF jJ.2.1 F1) (y2.2.2.trans ab0) jJ.2.2.2
  have y2 := md_YW y2
  have I2 := J2.1
  refine sg_pop (pc := 2071) dL_law_2071 rfl ?_
  refine sg_goto (pc := 2072) (tgt := 2465) dL_law_2072 (by decide) ?_
  refine sg_lsub (lv' := [(0, _), (1, _), (2, _), (3, _), (4, _)]) ⟨rfl, rfl, rfl, rfl, rfl, trivial⟩ ?_
  exact K _ _ _ _ J2 (by omega) (by omega)

set_option maxRecDepth 100000 in
set_option maxHeartbeats 1000000 in
theorem lw_c47 {w : sg_W} {Q : sg_O → sg_H → Prop} {h : sg_H} (g : sg_G w) (nc : jk_C w) (hJ : jz w) {d mc ms : Nat} (hd : 30 ≤ d) {B M O S j k n : Nat} {xs : List Int} {A : fa_A} (jJ : jk_J w B M O S xs h A) (hj : 6 * j + 6 ≤ xs.length) (hl : xs.length ≤ 3072) (hk : k + 1030 ≤ mc) (hn : n + (48 + 2) ≤ ms) (K : ∀ (h' : sg_H) (k' n' : Nat) (A' : fa_A), jk_J w B M O S xs h' A' → k' ≤ k + 1030 → n' ≤ n + (48 + 2) → sg_R w mi_L_law d mc ms Q 2465 [(0, sg_r S), (1, sg_r B), (2, sg_r M), (3, sg_r O), (4, sg_i (6 * (j : Int)))] [] h' k' n') : sg_R w mi_L_law d mc ms Q 2075 [(0, sg_r S), (1, sg_r B), (2, sg_r M), (3, sg_r O), (4, sg_i (6 * (j : Int)))] [] h k n := by
  obtain ⟨p1, e1⟩ : ∃ p, xs.getD (6 * (j : Int) + 1).toNat 0 = p := ⟨_, rfl⟩
  obtain ⟨p2, e2⟩ : ∃ p, xs.getD (6 * (j : Int) + 2).toNat 0 = p := ⟨_, rfl⟩
  obtain ⟨p3, e3⟩ : ∃ p, xs.getD (6 * (j : Int) + 3).toNat 0 = p := ⟨_, rfl⟩
  obtain ⟨p4, e4⟩ : ∃ p, xs.getD (6 * (j : Int) + 4).toNat 0 = p := ⟨_, rfl⟩
  obtain ⟨p5, e5⟩ : ∃ p, xs.getD (6 * (j : Int) + 5).toNat 0 = p := ⟨_, rfl⟩
  refine sg_aload_n (pc := 2075) (j := 1) dL_law_2075 rfl rfl ?_
  refine sg_aload_n (pc := 2076) (j := 0) dL_law_2076 rfl rfl ?_
  refine sg_iload (pc := 2077) dL_law_2077 rfl ?_
  refine sg_iconst (pc := 2079) (z := 1) dL_law_2079 (by decide) ?_
  first | refine sg_iaddB (pc := 2080) dL_law_2080 (by omega) (by omega) ?_ | refine sg_iadd (pc := 2080) dL_law_2080 ?_
  refine sg_iald (pc := 2081) dL_law_2081 jJ.1.2.2.2.2.2.2.2.2.2 rfl (by omega) (jk_x (by omega) (by omega)) ?_
  try rw [e1]
  try rw [e2]
  try rw [e3]
  try rw [e4]
  try rw [e5]
  refine sg_aload_n (pc := 2082) (j := 0) dL_law_2082 rfl rfl ?_
  refine sg_iload (pc := 2083) dL_law_2083 rfl ?_
  refine sg_iconst (pc := 2085) (z := 2) dL_law_2085 (by decide) ?_
  first | refine sg_iaddB (pc := 2086) dL_law_2086 (by omega) (by omega) ?_ | refine sg_iadd (pc := 2086) dL_law_2086 ?_
  refine sg_iald (pc := 2087) dL_law_2087 jJ.1.2.2.2.2.2.2.2.2.2 rfl (by omega) (jk_x (by omega) (by omega)) ?_
  try rw [e1]
  try rw [e2]
  try rw [e3]
  try rw [e4]
  try rw [e5]
  refine sg_if_eq (pc := 2088) (tgt := 2095) dL_law_2088 (by decide) (fun c2088 => ?_) (fun c2088 => ?_)
  · refine sg_iconst (pc := 2095) (z := 0) dL_law_2095 (by decide) ?_
    refine sg_aload_n (pc := 2096) (j := 3) dL_law_2096 rfl rfl ?_
    refine st_cS4 (pc := 2097) (d' := d - 1) (mc' := 8) (ms' := 48) g dL_law_2097 cb_L_half cw_L_half ml_L_349 ms_L_half (Nat.le_of_ble_eq_true rfl) (by first | exact jl_d0 hd rfl | omega) (by first | exact Nat.le_of_ble_eq_true rfl | omega) (by first | exact Nat.le_of_ble_eq_true rfl | omega) ?_
    refine s_L_half g nc (by omega) jJ.1 (fun v1 h1 I1 X1 F1 k1 o1 => sg_K1 ?_)
    refine sg_istore (pc := 2100) dL_law_2100 (by decide) ?_
    refine sg_aload_n (pc := 2102) (j := 2) dL_law_2102 rfl rfl ?_
    refine sg_aload_n (pc := 2103) (j := 0) dL_law_2103 rfl rfl ?_
    refine sg_iload (pc := 2104) dL_law_2104 rfl ?_
    refine sg_iconst (pc := 2106) (z := 1) dL_law_2106 (by decide) ?_
    first | refine sg_iaddB (pc := 2107) dL_law_2107 (by omega) (by omega) ?_ | refine sg_iadd (pc := 2107) dL_law_2107 ?_
    refine sg_iald (pc := 2108) dL_law_2108 I1.2.2.2.2.2.2.2.2.2 rfl (by omega) (jk_x (by omega) (by omega)) ?_
    try rw [e1]
    try rw [e2]
    try rw [e3]
    try rw [e4]
    try rw [e5]
    refine sg_aload_n (pc := 2109) (j := 0) dL_law_2109 rfl rfl ?_
    refine sg_iload (pc := 2110) dL_law_2110 rfl ?_
    refine sg_iconst (pc := 2112) (z := 2) dL_law_2112 (by decide) ?_
    first | refine sg_iaddB (pc := 2113) dL_law_2113 (by omega) (by omega) ?_ | refine sg_iadd (pc := 2113) dL_law_2113 ?_
    refine sg_iald (pc := 2114) dL_law_2114 I1.2.2.2.2.2.2.2.2.2 rfl (by omega) (jk_x (by omega) (by omega)) ?_
    try rw [e1]
    try rw [e2]
    try rw [e3]
    try rw [e4]
    try rw [e5]
    refine sg_if_eq (pc := 2115) (tgt := 2122) dL_law_2115 (by decide) (fun c2115 => ?_) (fun c2115 => absurd c2088 c2115)
    refine sg_iconst (pc := 2122) (z := 0) dL_law_2122 (by decide) ?_
    refine st_as (fun H r => jk_tgR (B := B) r) ?_
    have m2 := jk_Im I1
    have ab0 := jk_Jt jJ I1 X1
    refine sg_cE2 (pc := 2123) (d' := d - 1) (mc' := 1) (ms' := 2) 8 g dL_law_2123 cb_X7_half ml_L_351 mn_X7_half rfl mv_X7_half (Nat.le_of_ble_eq_true rfl) (md_oc m2) (Nat.le_of_ble_eq_true rfl) (by first | exact jl_d0 hd rfl | omega) (by first | exact Nat.le_of_ble_eq_true rfl | omega) (by first | exact Nat.le_of_ble_eq_true rfl | omega) ?_
    refine s_X7_half g (by first | exact jl_d1 hd rfl | omega) m2 (fun v2 h2 c2_0 c2_1 y2 => sg_K1 ?_)
    refine st_as (fun H r => jk_unR I1.1 r) ?_
    have J2 : jk_J w B M O S xs (jk_unt B h2) A := jk_JM I1 (md_YW y2) (cf_XF jJ.2.1 F1) (y2.2.2.trans ab0) jJ.2.2.2
    have y2 := md_YW y2
    have I2 := J2.1
    refine sg_istore (pc := 2126) dL_law_2126 (by decide) ?_
    refine sg_goto (pc := 2128) (tgt := 2465) dL_law_2128 (by decide) ?_
    refine sg_lsub (lv' := [(0, _), (1, _), (2, _), (3, _), (4, _)]) ⟨rfl, rfl, rfl, rfl, rfl, trivial⟩ ?_
    exact K _ _ _ _ J2 (by omega) (by omega)
  · refine sg_iconst (pc := 2091) (z := 1) dL_law_2091 (by decide) ?_
    refine sg_goto (pc := 2092) (tgt := 2096) dL_law_2092 (by decide) ?_
    refine sg_aload_n (pc := 2096) (j := 3) dL_law_2096 rfl rfl ?_
    refine st_cS4 (pc := 2097) (d' := d - 1) (mc' := 8) (ms' := 48) g dL_law_2097 cb_L_half cw_L_half ml_L_349 ms_L_half (Nat.le_of_ble_eq_true rfl) (by first | exact jl_d0 hd rfl | omega) (by first | exact Nat.le_of_ble_eq_true rfl | omega) (by first | exact Nat.le_of_ble_eq_true rfl | omega) ?_
    refine s_L_half g nc (by omega) jJ.1 (fun v1 h1 I1 X1 F1 k1 o1 => sg_K1 ?_)
    refine sg_istore (pc := 2100) dL_law_2100 (by decide) ?_
    refine sg_aload_n (pc := 2102) (j := 2) dL_law_2102 rfl rfl ?_
    refine sg_aload_n (pc := 2103) (j := 0) dL_law_2103 rfl rfl ?_
    refine sg_iload (pc := 2104) dL_law_2104 rfl ?_
    refine sg_iconst (pc := 2106) (z := 1) dL_law_2106 (by decide) ?_
    first | refine sg_iaddB (pc := 2107) dL_law_2107 (by omega) (by omega) ?_ | refine sg_iadd (pc := 2107) dL_law_2107 ?_
    refine sg_iald (pc := 2108) dL_law_2108 I1.2.2.2.2.2.2.2.2.2 rfl (by omega) (jk_x (by omega) (by omega)) ?_
    try rw [e1]
    try rw [e2]
    try rw [e3]
    try rw [e4]
    try rw [e5]
    refine sg_aload_n (pc := 2109) (j := 0) dL_law_2109 rfl rfl ?_
    refine sg_iload (pc := 2110) dL_law_2110 rfl ?_
    refine sg_iconst (pc := 2112) (z := 2) dL_law_2112 (by decide) ?_
    first | refine sg_iaddB (pc := 2113) dL_law_2113 (by omega) (by omega) ?_ | refine sg_iadd (pc := 2113) dL_law_2113 ?_
    refine sg_iald (pc := 2114) dL_law_2114 I1.2.2.2.2.2.2.2.2.2 rfl (by omega) (jk_x (by omega) (by omega)) ?_
    try rw [e1]
    try rw [e2]
    try rw [e3]
    try rw [e4]
    try rw [e5]
    refine sg_if_eq (pc := 2115) (tgt := 2122) dL_law_2115 (by decide) (fun c2115 => absurd c2115 c2088) (fun c2115 => ?_)
    refine sg_iconst (pc := 2118) (z := 1) dL_law_2118 (by decide) ?_
    refine sg_goto (pc := 2119) (tgt := 2123) dL_law_2119 (by decide) ?_
    refine st_as (fun H r => jk_tgR (B := B) r) ?_
    have m2 := jk_Im I1
    have ab0 := jk_Jt jJ I1 X1
    refine sg_cE2 (pc := 2123) (d' := d - 1) (mc' := 1) (ms' := 2) 8 g dL_law_2123 cb_X7_half ml_L_351 mn_X7_half rfl mv_X7_half (Nat.le_of_ble_eq_true rfl) (md_oc m2) (Nat.le_of_ble_eq_true rfl) (by first | exact jl_d0 hd rfl | omega) (by first | exact Nat.le_of_ble_eq_true rfl | omega) (by first | exact Nat.le_of_ble_eq_true rfl | omega) ?_
    refine s_X7_half g (by first | exact jl_d1 hd rfl | omega) m2 (fun v2 h2 c2_0 c2_1 y2 => sg_K1 ?_)
    refine st_as (fun H r => jk_unR I1.1 r) ?_
    have J2 : jk_J w B M O S xs (jk_unt B h2) A := jk_JM I1 (md_YW y2) (cf_XF jJ.2.1 F1) (y2.2.2.trans ab0) jJ.2.2.2
    have y2 := md_YW y2
    have I2 := J2.1
    refine sg_istore (pc := 2126) dL_law_2126 (by decide) ?_
    refine sg_goto (pc := 2128) (tgt := 2465) dL_law_2128 (by decide) ?_
    refine sg_lsub (lv' := [(0, _), (1, _), (2, _), (3, _), (4, _)]) ⟨rfl, rfl, rfl, rfl, rfl, trivial⟩ ?_
    exact K _ _ _ _ J2 (by omega) (by omega)

set_option maxRecDepth 100000 in
set_option maxHeartbeats 1000000 in
theorem lw_c48 {w : sg_W} {Q : sg_O → sg_H → Prop} {h : sg_H} (g : sg_G w) (nc : jk_C w) (hJ : jz w) {d mc ms : Nat} (hd : 30 ≤ d) {B M O S j k n : Nat} {xs : List Int} {A : fa_A} (jJ : jk_J w B M O S xs h A) (hj : 6 * j + 6 ≤ xs.length) (hl : xs.length ≤ 3072) (hk : k + 1030 ≤ mc) (hn : n + (48 + 0) ≤ ms) (K : ∀ (h' : sg_H) (k' n' : Nat) (A' : fa_A), jk_J w B M O S xs h' A' → k' ≤ k + 1030 → n' ≤ n + (48 + 0) → sg_R w mi_L_law d mc ms Q 2465 [(0, sg_r S), (1, sg_r B), (2, sg_r M), (3, sg_r O), (4, sg_i (6 * (j : Int)))] [] h' k' n') : sg_R w mi_L_law d mc ms Q 2131 [(0, sg_r S), (1, sg_r B), (2, sg_r M), (3, sg_r O), (4, sg_i (6 * (j : Int)))] [] h k n := by
  obtain ⟨p1, e1⟩ : ∃ p, xs.getD (6 * (j : Int) + 1).toNat 0 = p := ⟨_, rfl⟩
  obtain ⟨p2, e2⟩ : ∃ p, xs.getD (6 * (j : Int) + 2).toNat 0 = p := ⟨_, rfl⟩
  obtain ⟨p3, e3⟩ : ∃ p, xs.getD (6 * (j : Int) + 3).toNat 0 = p := ⟨_, rfl⟩
  obtain ⟨p4, e4⟩ : ∃ p, xs.getD (6 * (j : Int) + 4).toNat 0 = p := ⟨_, rfl⟩
  obtain ⟨p5, e5⟩ : ∃ p, xs.getD (6 * (j : Int) + 5).toNat 0 = p := ⟨_, rfl⟩
  refine sg_aload_n (pc := 2131) (j := 1) dL_law_2131 rfl rfl ?_
  refine sg_aload_n (pc := 2132) (j := 0) dL_law_2132 rfl rfl ?_
  refine sg_iload (pc := 2133) dL_law_2133 rfl ?_
  refine sg_iconst (pc := 2135) (z := 1) dL_law_2135 (by decide) ?_
  first | refine sg_iaddB (pc := 2136) dL_law_2136 (by omega) (by omega) ?_ | refine sg_iadd (pc := 2136) dL_law_2136 ?_
  refine sg_iald (pc := 2137) dL_law_2137 jJ.1.2.2.2.2.2.2.2.2.2 rfl (by omega) (jk_x (by omega) (by omega)) ?_
  try rw [e1]
  try rw [e2]
  try rw [e3]
  try rw [e4]
  try rw [e5]
  refine sg_aload_n (pc := 2138) (j := 0) dL_law_2138 rfl rfl ?_
  refine sg_iload (pc := 2139) dL_law_2139 rfl ?_
  refine sg_iconst (pc := 2141) (z := 2) dL_law_2141 (by decide) ?_
  first | refine sg_iaddB (pc := 2142) dL_law_2142 (by omega) (by omega) ?_ | refine sg_iadd (pc := 2142) dL_law_2142 ?_
  refine sg_iald (pc := 2143) dL_law_2143 jJ.1.2.2.2.2.2.2.2.2.2 rfl (by omega) (jk_x (by omega) (by omega)) ?_
  try rw [e1]
  try rw [e2]
  try rw [e3]
  try rw [e4]
  try rw [e5]
  refine sg_aload_n (pc := 2144) (j := 3) dL_law_2144 rfl rfl ?_
  refine st_cS4 (pc := 2145) (d' := d - 1) (mc' := 8) (ms' := 48) g dL_law_2145 cb_L_code cw_L_code ml_L_352 ms_L_code (Nat.le_of_ble_eq_true rfl) (by first | exact jl_d0 hd rfl | omega) (by first | exact Nat.le_of_ble_eq_true rfl | omega) (by first | exact Nat.le_of_ble_eq_true rfl | omega) ?_
  refine s_L_code g nc (by omega) jJ.1 (fun v1 h1 I1 X1 F1 k1 o1 => sg_K1 ?_)
  refine sg_istore (pc := 2148) dL_law_2148 (by decide) ?_
  refine sg_aload_n (pc := 2150) (j := 2) dL_law_2150 rfl rfl ?_
  refine sg_aload_n (pc := 2151) (j := 0) dL_law_2151 rfl rfl ?_
  refine sg_iload (pc := 2152) dL_law_2152 rfl ?_
  refine sg_iconst (pc := 2154) (z := 1) dL_law_2154 (by decide) ?_
  first | refine sg_iaddB (pc := 2155) dL_law_2155 (by omega) (by omega) ?_ | refine sg_iadd (pc := 2155) dL_law_2155 ?_
  refine sg_iald (pc := 2156) dL_law_2156 I1.2.2.2.2.2.2.2.2.2 rfl (by omega) (jk_x (by omega) (by omega)) ?_
  try rw [e1]
  try rw [e2]
  try rw [e3]
  try rw [e4]
  try rw [e5]
  refine sg_aload_n (pc := 2157) (j := 0) dL_law_2157 rfl rfl ?_
  refine sg_iload (pc := 2158) dL_law_2158 rfl ?_
  refine sg_iconst (pc := 2160) (z := 2) dL_law_2160 (by decide) ?_
  first | refine sg_iaddB (pc := 2161) dL_law_2161 (by omega) (by omega) ?_ | refine sg_iadd (pc := 2161) dL_law_2161 ?_
  refine sg_iald (pc := 2162) dL_law_2162 I1.2.2.2.2.2.2.2.2.2 rfl (by omega) (jk_x (by omega) (by omega)) ?_
  try rw [e1]
  try rw [e2]
  try rw [e3]
  try rw [e4]
  try rw [e5]
  refine st_as (fun H r => jk_tgR (B := B) r) ?_
  have m2 := jk_Im I1
  have ab0 := jk_Jt jJ I1 X1
  refine sg_cE2 (pc := 2163) (d' := d - 1) (mc' := 0) (ms' := 0) 8 g dL_law_2163 cb_X7_code ml_L_354 mn_X7_code rfl mv_X7_code (Nat.le_of_ble_eq_true rfl) (md_oc m2) (Nat.le_of_ble_eq_true rfl) (by first | exact jl_d0 hd rfl | omega) (by first | exact Nat.le_of_ble_eq_true rfl | omega) (by first | exact Nat.le_of_ble_eq_true rfl | omega) ?_
  refine s_X7_code g (by first | exact jl_d1 hd rfl | omega) m2 (fun v2 h2 c2_0 c2_1 y2 => sg_K1 ?_)
  refine st_as (fun H r => jk_unR I1.1 r) ?_
  have J2 : jk_J w B M O S xs (jk_unt B h2) A := jk_JM I1 (md_YW y2) (cf_XF jJ.2.1 F1) (y2.2.2.trans ab0) jJ.2.2.2
  have y2 := md_YW y2
  have I2 := J2.1
  refine sg_istore (pc := 2166) dL_law_2166 (by decide) ?_
  refine sg_goto (pc := 2168) (tgt := 2465) dL_law_2168 (by decide) ?_
  refine sg_lsub (lv' := [(0, _), (1, _), (2, _), (3, _), (4, _)]) ⟨rfl, rfl, rfl, rfl, rfl, trivial⟩ ?_
  exact K _ _ _ _ J2 (by omega) (by omega)

set_option maxRecDepth 100000 in
set_option maxHeartbeats 1000000 in
theorem lw_c49 {w : sg_W} {Q : sg_O → sg_H → Prop} {h : sg_H} (g : sg_G w) (nc : jk_C w) (hJ : jz w) {d mc ms : Nat} (hd : 30 ≤ d) {B M O S j k n : Nat} {xs : List Int} {A : fa_A} (jJ : jk_J w B M O S xs h A) (hj : 6 * j + 6 ≤ xs.length) (hl : xs.length ≤ 3072) (hk : k + 1030 ≤ mc) (hn : n + (48 + 0) ≤ ms) (K : ∀ (h' : sg_H) (k' n' : Nat) (A' : fa_A), jk_J w B M O S xs h' A' → k' ≤ k + 1030 → n' ≤ n + (48 + 0) → sg_R w mi_L_law d mc ms Q 2465 [(0, sg_r S), (1, sg_r B), (2, sg_r M), (3, sg_r O), (4, sg_i (6 * (j : Int)))] [] h' k' n') : sg_R w mi_L_law d mc ms Q 2171 [(0, sg_r S), (1, sg_r B), (2, sg_r M), (3, sg_r O), (4, sg_i (6 * (j : Int)))] [] h k n := by
  obtain ⟨p1, e1⟩ : ∃ p, xs.getD (6 * (j : Int) + 1).toNat 0 = p := ⟨_, rfl⟩
  obtain ⟨p2, e2⟩ : ∃ p, xs.getD (6 * (j : Int) + 2).toNat 0 = p := ⟨_, rfl⟩
  obtain ⟨p3, e3⟩ : ∃ p, xs.getD (6 * (j : Int) + 3).toNat 0 = p := ⟨_, rfl⟩
  obtain ⟨p4, e4⟩ : ∃ p, xs.getD (6 * (j : Int) + 4).toNat 0 = p := ⟨_, rfl⟩
  obtain ⟨p5, e5⟩ : ∃ p, xs.getD (6 * (j : Int) + 5).toNat 0 = p := ⟨_, rfl⟩
  refine sg_aload_n (pc := 2171) (j := 1) dL_law_2171 rfl rfl ?_
  refine sg_aload_n (pc := 2172) (j := 0) dL_law_2172 rfl rfl ?_
  refine sg_iload (pc := 2173) dL_law_2173 rfl ?_
  refine sg_iconst (pc := 2175) (z := 1) dL_law_2175 (by decide) ?_
  first | refine sg_iaddB (pc := 2176) dL_law_2176 (by omega) (by omega) ?_ | refine sg_iadd (pc := 2176) dL_law_2176 ?_
  refine sg_iald (pc := 2177) dL_law_2177 jJ.1.2.2.2.2.2.2.2.2.2 rfl (by omega) (jk_x (by omega) (by omega)) ?_
  try rw [e1]
  try rw [e2]
  try rw [e3]
  try rw [e4]
  try rw [e5]
  refine sg_aload_n (pc := 2178) (j := 0) dL_law_2178 rfl rfl ?_
  refine sg_iload (pc := 2179) dL_law_2179 rfl ?_
  refine sg_iconst (pc := 2181) (z := 2) dL_law_2181 (by decide) ?_
  first | refine sg_iaddB (pc := 2182) dL_law_2182 (by omega) (by omega) ?_ | refine sg_iadd (pc := 2182) dL_law_2182 ?_
  refine sg_iald (pc := 2183) dL_law_2183 jJ.1.2.2.2.2.2.2.2.2.2 rfl (by omega) (jk_x (by omega) (by omega)) ?_
  try rw [e1]
  try rw [e2]
  try rw [e3]
  try rw [e4]
  try rw [e5]
  refine sg_aload_n (pc := 2184) (j := 3) dL_law_2184 rfl rfl ?_
  refine st_cS4 (pc := 2185) (d' := d - 1) (mc' := 8) (ms' := 48) g dL_law_2185 cb_L_ofUnit cw_L_ofUnit ml_L_355 ms_L_ofUnit (Nat.le_of_ble_eq_true rfl) (by first | exact jl_d0 hd rfl | omega) (by first | exact Nat.le_of_ble_eq_true rfl | omega) (by first | exact Nat.le_of_ble_eq_true rfl | omega) ?_
  refine s_L_ofUnit g nc (by omega) jJ.1 (fun v1 h1 I1 X1 F1 k1 o1 => sg_K1 ?_)
  refine sg_istore (pc := 2188) dL_law_2188 (by decide) ?_
  refine sg_aload_n (pc := 2190) (j := 2) dL_law_2190 rfl rfl ?_
  refine sg_aload_n (pc := 2191) (j := 0) dL_law_2191 rfl rfl ?_
  refine sg_iload (pc := 2192) dL_law_2192 rfl ?_
  refine sg_iconst (pc := 2194) (z := 1) dL_law_2194 (by decide) ?_
  first | refine sg_iaddB (pc := 2195) dL_law_2195 (by omega) (by omega) ?_ | refine sg_iadd (pc := 2195) dL_law_2195 ?_
  refine sg_iald (pc := 2196) dL_law_2196 I1.2.2.2.2.2.2.2.2.2 rfl (by omega) (jk_x (by omega) (by omega)) ?_
  try rw [e1]
  try rw [e2]
  try rw [e3]
  try rw [e4]
  try rw [e5]
  refine sg_aload_n (pc := 2197) (j := 0) dL_law_2197 rfl rfl ?_
  refine sg_iload (pc := 2198) dL_law_2198 rfl ?_
  refine sg_iconst (pc := 2200) (z := 2) dL_law_2200 (by decide) ?_
  first | refine sg_iaddB (pc := 2201) dL_law_2201 (by omega) (by omega) ?_ | refine sg_iadd (pc := 2201) dL_law_2201 ?_
  refine sg_iald (pc := 2202) dL_law_2202 I1.2.2.2.2.2.2.2.2.2 rfl (by omega) (jk_x (by omega) (by omega)) ?_
  try rw [e1]
  try rw [e2]
  try rw [e3]
  try rw [e4]
  try rw [e5]
  refine st_as (fun H r => jk_tgR (B := B) r) ?_
  have m2 := jk_Im I1
  have ab0 := jk_Jt jJ I1 X1
  refine sg_cE2 (pc := 2203) (d' := d - 1) (mc' := 0) (ms' := 0) 8 g dL_law_2203 cb_X7_ofUnit ml_L_357 mn_X7_ofUnit rfl mv_X7_ofUnit (Nat.le_of_ble_eq_true rfl) (md_oc m2) (Nat.le_of_ble_eq_true rfl) (by first | exact jl_d0 hd rfl | omega) (by first | exact Nat.le_of_ble_eq_true rfl | omega) (by first | exact Nat.le_of_ble_eq_true rfl | omega) ?_
  refine s_X7_ofUnit g (by first | exact jl_d1 hd rfl | omega) m2 (fun v2 h2 c2_0 c2_1 y2 => sg_K1 ?_)
  refine st_as (fun H r => jk_unR I1.1 r) ?_
  have J2 : jk_J w B M O S xs (jk_unt B h2) A := jk_JM I1 (md_YW y2) (cf_XF jJ.2.1 F1) (y2.2.2.trans ab0) jJ.2.2.2
  have y2 := md_YW y2
  have I2 := J2.1
  refine sg_istore (pc := 2206) dL_law_2206 (by decide) ?_
  refine sg_goto (pc := 2208) (tgt := 2465) dL_law_2208 (by decide) ?_
  refine sg_lsub (lv' := [(0, _), (1, _), (2, _), (3, _), (4, _)]) ⟨rfl, rfl, rfl, rfl, rfl, trivial⟩ ?_
  exact K _ _ _ _ J2 (by omega) (by omega)

