set_option maxRecDepth 100000 in
set_option maxHeartbeats 1000000 in
theorem lw_c40 {w : sg_W} {Q : sg_O → sg_H → Prop} {h : sg_H} (g : sg_G w) (nc : jk_C w) (hJ : jz w) {d mc ms : Nat} (hd : 30 ≤ d) {B M O S j k n : Nat} {xs : List Int} {A : fa_A} (jJ : jk_J w B M O S xs h A) (hj : 6 * j + 6 ≤ xs.length) (hl : xs.length ≤ 3072) (hk : k + 1030 ≤ mc) (hn : n + (48 + 180) ≤ ms) (K : ∀ (h' : sg_H) (k' n' : Nat) (A' : fa_A), jk_J w B M O S xs h' A' → k' ≤ k + 1030 → n' ≤ n + (48 + 180) → sg_R w mi_L_law d mc ms Q 2465 [(0, sg_r S), (1, sg_r B), (2, sg_r M), (3, sg_r O), (4, sg_i (6 * (j : Int)))] [] h' k' n') : sg_R w mi_L_law d mc ms Q 1798 [(0, sg_r S), (1, sg_r B), (2, sg_r M), (3, sg_r O), (4, sg_i (6 * (j : Int)))] [] h k n := by
  obtain ⟨p1, e1⟩ : ∃ p, xs.getD (6 * (j : Int) + 1).toNat 0 = p := ⟨_, rfl⟩
  obtain ⟨p2, e2⟩ : ∃ p, xs.getD (6 * (j : Int) + 2).toNat 0 = p := ⟨_, rfl⟩
  obtain ⟨p3, e3⟩ : ∃ p, xs.getD (6 * (j : Int) + 3).toNat 0 = p := ⟨_, rfl⟩
  obtain ⟨p4, e4⟩ : ∃ p, xs.getD (6 * (j : Int) + 4).toNat 0 = p := ⟨_, rfl⟩
  obtain ⟨p5, e5⟩ : ∃ p, xs.getD (6 * (j : Int) + 5).toNat 0 = p := ⟨_, rfl⟩
  refine sg_aload_n (pc := 1798) (j := 1) dL_law_1798 rfl rfl ?_
  refine sg_aload_n (pc := 1799) (j := 0) dL_law_1799 rfl rfl ?_
  refine sg_iload (pc := 1800) dL_law_1800 rfl ?_
  refine sg_iconst (pc := 1802) (z := 1) dL_law_1802 (by decide) ?_
  first | refine sg_iaddB (pc := 1803) dL_law_1803 (by omega) (by omega) ?_ | refine sg_iadd (pc := 1803) dL_law_1803 ?_
  refine sg_iald (pc := 1804) dL_law_1804 jJ.1.2.2.2.2.2.2.2.2.2 rfl (by omega) (jk_x (by omega) (by omega)) ?_
  try rw [e1]
  try rw [e2]
  try rw [e3]
  try rw [e4]
  try rw [e5]
  refine sg_aload_n (pc := 1805) (j := 0) dL_law_1805 rfl rfl ?_
  refine sg_iload (pc := 1806) dL_law_1806 rfl ?_
  refine sg_iconst (pc := 1808) (z := 2) dL_law_1808 (by decide) ?_
  first | refine sg_iaddB (pc := 1809) dL_law_1809 (by omega) (by omega) ?_ | refine sg_iadd (pc := 1809) dL_law_1809 ?_
  refine sg_iald (pc := 1810) dL_law_1810 jJ.1.2.2.2.2.2.2.2.2.2 rfl (by omega) (jk_x (by omega) (by omega)) ?_
  try rw [e1]
  try rw [e2]
  try rw [e3]
  try rw [e4]
  try rw [e5]
  refine sg_aload_n (pc := 1811) (j := 0) dL_law_1811 rfl rfl ?_
  refine sg_iload (pc := 1812) dL_law_1812 rfl ?_
  refine sg_iconst (pc := 1814) (z := 3) dL_law_1814 (by decide) ?_
  first | refine sg_iaddB (pc := 1815) dL_law_1815 (by omega) (by omega) ?_ | refine sg_iadd (pc := 1815) dL_law_1815 ?_
  refine sg_iald (pc := 1816) dL_law_1816 jJ.1.2.2.2.2.2.2.2.2.2 rfl (by omega) (jk_x (by omega) (by omega)) ?_
  try rw [e1]
  try rw [e2]
  try rw [e3]
  try rw [e4]
  try rw [e5]
  refine sg_if_eq (pc := 1817) (tgt := 1824) dL_law_1817 (by decide) (fun c1817 => ?_) (fun c1817 => ?_)
  · refine sg_iconst (pc := 1824) (z := 0) dL_law_1824 (by decide) ?_
    refine sg_aload_n (pc := 1825) (j := 3) dL_law_1825 rfl rfl ?_
    obtain ⟨L, hL⟩ : ∃ X, fa_L A p1.toNat = X := ⟨_, rfl⟩
    refine st_cS5 (pc := 1826) (d' := d - 1) (mc' := 8) (ms' := 48) g dL_law_1826 cb_L_word cw_L_word ml_L_321 ms_L_word (Nat.le_of_ble_eq_true rfl) (by first | exact jl_d0 hd rfl | omega) (by first | exact Nat.le_of_ble_eq_true rfl | omega) (by first | exact Nat.le_of_ble_eq_true rfl | omega) ?_
    refine f_L_word g nc (by omega) jJ.1 jJ.2.1 jJ.2.2.2 hL (fun v1 h1 I1 X1 k0 k1 F1 r1 => sg_K1 ?_)
    refine sg_istore (pc := 1829) dL_law_1829 (by decide) ?_
    refine sg_aload_n (pc := 1831) (j := 2) dL_law_1831 rfl rfl ?_
    refine sg_aload_n (pc := 1832) (j := 0) dL_law_1832 rfl rfl ?_
    refine sg_iload (pc := 1833) dL_law_1833 rfl ?_
    refine sg_iconst (pc := 1835) (z := 1) dL_law_1835 (by decide) ?_
    first | refine sg_iaddB (pc := 1836) dL_law_1836 (by omega) (by omega) ?_ | refine sg_iadd (pc := 1836) dL_law_1836 ?_
    refine sg_iald (pc := 1837) dL_law_1837 I1.2.2.2.2.2.2.2.2.2 rfl (by omega) (jk_x (by omega) (by omega)) ?_
    try rw [e1]
    try rw [e2]
    try rw [e3]
    try rw [e4]
    try rw [e5]
    refine sg_aload_n (pc := 1838) (j := 0) dL_law_1838 rfl rfl ?_
    refine sg_iload (pc := 1839) dL_law_1839 rfl ?_
    refine sg_iconst (pc := 1841) (z := 2) dL_law_1841 (by decide) ?_
    first | refine sg_iaddB (pc := 1842) dL_law_1842 (by omega) (by omega) ?_ | refine sg_iadd (pc := 1842) dL_law_1842 ?_
    refine sg_iald (pc := 1843) dL_law_1843 I1.2.2.2.2.2.2.2.2.2 rfl (by omega) (jk_x (by omega) (by omega)) ?_
    try rw [e1]
    try rw [e2]
    try rw [e3]
    try rw [e4]
    try rw [e5]
    refine sg_aload_n (pc := 1844) (j := 0) dL_law_1844 rfl rfl ?_
    refine sg_iload (pc := 1845) dL_law_1845 rfl ?_
    refine sg_iconst (pc := 1847) (z := 3) dL_law_1847 (by decide) ?_
    first | refine sg_iaddB (pc := 1848) dL_law_1848 (by omega) (by omega) ?_ | refine sg_iadd (pc := 1848) dL_law_1848 ?_
    refine sg_iald (pc := 1849) dL_law_1849 I1.2.2.2.2.2.2.2.2.2 rfl (by omega) (jk_x (by omega) (by omega)) ?_
    try rw [e1]
    try rw [e2]
    try rw [e3]
    try rw [e4]
    try rw [e5]
    refine sg_if_eq (pc := 1850) (tgt := 1857) dL_law_1850 (by decide) (fun c1850 => ?_) (fun c1850 => absurd c1817 c1850)
    refine sg_iconst (pc := 1857) (z := 0) dL_law_1857 (by decide) ?_
    refine st_as (fun H r => jk_tgR (B := B) r) ?_
    have m2 := jk_Im I1
    have ab0 := jk_Jt jJ I1 X1
    refine sg_cE3 (pc := 1858) (d' := d - 1) (mc' := 48) (ms' := 180) 8 g dL_law_1858 cb_X7_word ml_L_323 mn_X7_word rfl mv_X7_word (Nat.le_of_ble_eq_true rfl) (md_oc m2) (Nat.le_of_ble_eq_true rfl) (by first | exact jl_d0 hd rfl | omega) (by first | exact Nat.le_of_ble_eq_true rfl | omega) (by first | exact Nat.le_of_ble_eq_true rfl | omega) ?_
    refine s_X7_word g (by first | exact jl_d1 hd rfl | omega) m2 (fun v2 h2  y2 => sg_K1 ?_)
    refine st_as (fun H r => jk_unR I1.1 r) ?_
    have J2 : jk_J w B M O S xs (jk_unt B h2) A := jk_JM I1 (md_YW y2) (cf_XF jJ.2.1 F1) (y2.2.2.trans ab0) jJ.2.2.2
    have y2 := md_YW y2
    have I2 := J2.1
    refine sg_istore (pc := 1861) dL_law_1861 (by decide) ?_
    refine sg_goto (pc := 1863) (tgt := 2465) dL_law_1863 (by decide) ?_
    refine sg_lsub (lv' := [(0, _), (1, _), (2, _), (3, _), (4, _)]) ⟨rfl, rfl, rfl, rfl, rfl, trivial⟩ ?_
    exact K _ _ _ _ J2 (by omega) (by omega)
  · refine sg_iconst (pc := 1820) (z := 1) dL_law_1820 (by decide) ?_
    refine sg_goto (pc := 1821) (tgt := 1825) dL_law_1821 (by decide) ?_
    refine sg_aload_n (pc := 1825) (j := 3) dL_law_1825 rfl rfl ?_
    obtain ⟨L, hL⟩ : ∃ X, fa_L A p1.toNat = X := ⟨_, rfl⟩
    refine st_cS5 (pc := 1826) (d' := d - 1) (mc' := 8) (ms' := 48) g dL_law_1826 cb_L_word cw_L_word ml_L_321 ms_L_word (Nat.le_of_ble_eq_true rfl) (by first | exact jl_d0 hd rfl | omega) (by first | exact Nat.le_of_ble_eq_true rfl | omega) (by first | exact Nat.le_of_ble_eq_true rfl | omega) ?_
    refine f_L_word g nc (by omega) jJ.1 jJ.2.1 jJ.2.2.2 hL (fun v1 h1 I1 X1 k0 k1 F1 r1 => sg_K1 ?_)
    refine sg_istore (pc := 1829) dL_law_1829 (by decide) ?_
    refine sg_aload_n (pc := 1831) (j := 2) dL_law_1831 rfl rfl ?_
    refine sg_aload_n (pc := 1832) (j := 0) dL_law_1832 rfl rfl ?_
    refine sg_iload (pc := 1833) dL_law_1833 rfl ?_
    refine sg_iconst (pc := 1835) (z := 1) dL_law_1835 (by decide) ?_
    first | refine sg_iaddB (pc := 1836) dL_law_1836 (by omega) (by omega) ?_ | refine sg_iadd (pc := 1836) dL_law_1836 ?_
    refine sg_iald (pc := 1837) dL_law_1837 I1.2.2.2.2.2.2.2.2.2 rfl (by omega) (jk_x (by omega) (by omega)) ?_
    try rw [e1]
    try rw [e2]
    try rw [e3]
    try rw [e4]
    try rw [e5]
    refine sg_aload_n (pc := 1838) (j := 0) dL_law_1838 rfl rfl ?_
    refine sg_iload (pc := 1839) dL_law_1839 rfl ?_
    refine sg_iconst (pc := 1841) (z := 2) dL_law_1841 (by decide) ?_
    first | refine sg_iaddB (pc := 1842) dL_law_1842 (by omega) (by omega) ?_ | refine sg_iadd (pc := 1842) dL_law_1842 ?_
    refine sg_iald (pc := 1843) dL_law_1843 I1.2.2.2.2.2.2.2.2.2 rfl (by omega) (jk_x (by omega) (by omega)) ?_
    try rw [e1]
    try rw [e2]
    try rw [e3]
    try rw [e4]
    try rw [e5]
    refine sg_aload_n (pc := 1844) (j := 0) dL_law_1844 rfl rfl ?_
    refine sg_iload (pc := 1845) dL_law_1845 rfl ?_
    refine sg_iconst (pc := 1847) (z := 3) dL_law_1847 (by decide) ?_
    first | refine sg_iaddB (pc := 1848) dL_law_1848 (by omega) (by omega) ?_ | refine sg_iadd (pc := 1848) dL_law_1848 ?_
    refine sg_iald (pc := 1849) dL_law_1849 I1.2.2.2.2.2.2.2.2.2 rfl (by omega) (jk_x (by omega) (by omega)) ?_
    try rw [e1]
    try rw [e2]
    try rw [e3]
    try rw [e4]
    try rw [e5]
    refine sg_if_eq (pc := 1850) (tgt := 1857) dL_law_1850 (by decide) (fun c1850 => absurd c1850 c1817) (fun c1850 => ?_)
    refine sg_iconst (pc := 1853) (z := 1) dL_law_1853 (by decide) ?_
    refine sg_goto (pc := 1854) (tgt := 1858) dL_law_1854 (by decide) ?_
    refine st_as (fun H r => jk_tgR (B := B) r) ?_
    have m2 := jk_Im I1
    have ab0 := jk_Jt jJ I1 X1
    refine sg_cE3 (pc := 1858) (d' := d - 1) (mc' := 48) (ms' := 180) 8 g dL_law_1858 cb_X7_word ml_L_323 mn_X7_word rfl mv_X7_word (Nat.le_of_ble_eq_true rfl) (md_oc m2) (Nat.le_of_ble_eq_true rfl) (by first | exact jl_d0 hd rfl | omega) (by first | exact Nat.le_of_ble_eq_true rfl | omega) (by first | exact Nat.le_of_ble_eq_true rfl | omega) ?_
    refine s_X7_word g (by first | exact jl_d1 hd rfl | omega) m2 (fun v2 h2  y2 => sg_K1 ?_)
    refine st_as (fun H r => jk_unR I1.1 r) ?_
    have J2 : jk_J w B M O S xs (jk_unt B h2) A := jk_JM I1 (md_YW y2) (cf_XF jJ.2.1 F1) (y2.2.2.trans ab0) jJ.2.2.2
    have y2 := md_YW y2
    have I2 := J2.1
    refine sg_istore (pc := 1861) dL_law_1861 (by decide) ?_
    refine sg_goto (pc := 1863) (tgt := 2465) dL_law_1863 (by decide) ?_
    refine sg_lsub (lv' := [(0, _), (1, _), (2, _), (3, _), (4, _)]) ⟨rfl, rfl, rfl, rfl, rfl, trivial⟩ ?_
    exact K _ _ _ _ J2 (by omega) (by omega)

set_option maxRecDepth 100000 in
set_option maxHeartbeats 1000000 in
theorem lw_c41 {w : sg_W} {Q : sg_O → sg_H → Prop} {h : sg_H} (g : sg_G w) (nc : jk_C w) (hJ : jz w) {d mc ms : Nat} (hd : 30 ≤ d) {B M O S j k n : Nat} {xs : List Int} {A : fa_A} (jJ : jk_J w B M O S xs h A) (hj : 6 * j + 6 ≤ xs.length) (hl : xs.length ≤ 3072) (hk : k + 1030 ≤ mc) (hn : n + (48 + 0) ≤ ms) (K : ∀ (h' : sg_H) (k' n' : Nat) (A' : fa_A), jk_J w B M O S xs h' A' → k' ≤ k + 1030 → n' ≤ n + (48 + 0) → sg_R w mi_L_law d mc ms Q 2465 [(0, sg_r S), (1, sg_r B), (2, sg_r M), (3, sg_r O), (4, sg_i (6 * (j : Int)))] [] h' k' n') : sg_R w mi_L_law d mc ms Q 1866 [(0, sg_r S), (1, sg_r B), (2, sg_r M), (3, sg_r O), (4, sg_i (6 * (j : Int)))] [] h k n := by
  obtain ⟨p1, e1⟩ : ∃ p, xs.getD (6 * (j : Int) + 1).toNat 0 = p := ⟨_, rfl⟩
  obtain ⟨p2, e2⟩ : ∃ p, xs.getD (6 * (j : Int) + 2).toNat 0 = p := ⟨_, rfl⟩
  obtain ⟨p3, e3⟩ : ∃ p, xs.getD (6 * (j : Int) + 3).toNat 0 = p := ⟨_, rfl⟩
  obtain ⟨p4, e4⟩ : ∃ p, xs.getD (6 * (j : Int) + 4).toNat 0 = p := ⟨_, rfl⟩
  obtain ⟨p5, e5⟩ : ∃ p, xs.getD (6 * (j : Int) + 5).toNat 0 = p := ⟨_, rfl⟩
  refine sg_aload_n (pc := 1866) (j := 1) dL_law_1866 rfl rfl ?_
  refine sg_aload_n (pc := 1867) (j := 0) dL_law_1867 rfl rfl ?_
  refine sg_iload (pc := 1868) dL_law_1868 rfl ?_
  refine sg_iconst (pc := 1870) (z := 1) dL_law_1870 (by decide) ?_
  first | refine sg_iaddB (pc := 1871) dL_law_1871 (by omega) (by omega) ?_ | refine sg_iadd (pc := 1871) dL_law_1871 ?_
  refine sg_iald (pc := 1872) dL_law_1872 jJ.1.2.2.2.2.2.2.2.2.2 rfl (by omega) (jk_x (by omega) (by omega)) ?_
  try rw [e1]
  try rw [e2]
  try rw [e3]
  try rw [e4]
  try rw [e5]
  refine sg_aload_n (pc := 1873) (j := 0) dL_law_1873 rfl rfl ?_
  refine sg_iload (pc := 1874) dL_law_1874 rfl ?_
  refine sg_iconst (pc := 1876) (z := 2) dL_law_1876 (by decide) ?_
  first | refine sg_iaddB (pc := 1877) dL_law_1877 (by omega) (by omega) ?_ | refine sg_iadd (pc := 1877) dL_law_1877 ?_
  refine sg_iald (pc := 1878) dL_law_1878 jJ.1.2.2.2.2.2.2.2.2.2 rfl (by omega) (jk_x (by omega) (by omega)) ?_
  try rw [e1]
  try rw [e2]
  try rw [e3]
  try rw [e4]
  try rw [e5]
  refine sg_aload_n (pc := 1879) (j := 3) dL_law_1879 rfl rfl ?_
  obtain ⟨L, hL⟩ : ∃ X, fa_L A p1.toNat = X := ⟨_, rfl⟩
  obtain ⟨Z, hZ⟩ : ∃ X, fa_L A p2.toNat = X := ⟨_, rfl⟩
  refine st_cS4 (pc := 1880) (d' := d - 1) (mc' := 8) (ms' := 48) g dL_law_1880 cb_L_isAlike cw_L_isAlike ml_L_324 ms_L_isAlike (Nat.le_of_ble_eq_true rfl) (by first | exact jl_d0 hd rfl | omega) (by first | exact Nat.le_of_ble_eq_true rfl | omega) (by first | exact Nat.le_of_ble_eq_true rfl | omega) ?_
  refine f_L_isAlike g nc (by omega) jJ.1 jJ.2.1 jJ.2.2.2 hL hZ (fun v1 h1 I1 X1 k0 k1 F1 r1 => sg_K1 ?_)
  refine sg_istore (pc := 1883) dL_law_1883 (by decide) ?_
  refine sg_aload_n (pc := 1885) (j := 2) dL_law_1885 rfl rfl ?_
  refine sg_aload_n (pc := 1886) (j := 0) dL_law_1886 rfl rfl ?_
  refine sg_iload (pc := 1887) dL_law_1887 rfl ?_
  refine sg_iconst (pc := 1889) (z := 1) dL_law_1889 (by decide) ?_
  first | refine sg_iaddB (pc := 1890) dL_law_1890 (by omega) (by omega) ?_ | refine sg_iadd (pc := 1890) dL_law_1890 ?_
  refine sg_iald (pc := 1891) dL_law_1891 I1.2.2.2.2.2.2.2.2.2 rfl (by omega) (jk_x (by omega) (by omega)) ?_
  try rw [e1]
  try rw [e2]
  try rw [e3]
  try rw [e4]
  try rw [e5]
  refine sg_aload_n (pc := 1892) (j := 0) dL_law_1892 rfl rfl ?_
  refine sg_iload (pc := 1893) dL_law_1893 rfl ?_
  refine sg_iconst (pc := 1895) (z := 2) dL_law_1895 (by decide) ?_
  first | refine sg_iaddB (pc := 1896) dL_law_1896 (by omega) (by omega) ?_ | refine sg_iadd (pc := 1896) dL_law_1896 ?_
  refine sg_iald (pc := 1897) dL_law_1897 I1.2.2.2.2.2.2.2.2.2 rfl (by omega) (jk_x (by omega) (by omega)) ?_
  try rw [e1]
  try rw [e2]
  try rw [e3]
  try rw [e4]
  try rw [e5]
  refine st_as (fun H r => jk_tgR (B := B) r) ?_
  have m2 := jk_Im I1
  have ab0 := jk_Jt jJ I1 X1
  refine sg_cE2 (pc := 1898) (d' := d - 1) (mc' := 0) (ms' := 0) 8 g dL_law_1898 cb_X7_isAlike ml_L_326 mn_X7_isAlike rfl mv_X7_isAlike (Nat.le_of_ble_eq_true rfl) (md_oc m2) (Nat.le_of_ble_eq_true rfl) (by first | exact jl_d0 hd rfl | omega) (by first | exact Nat.le_of_ble_eq_true rfl | omega) (by first | exact Nat.le_of_ble_eq_true rfl | omega) ?_
  refine s_X7_isAlike g (by first | exact jl_d1 hd rfl | omega) m2 (fun v2 h2 c2_0 y2 => sg_K1 ?_)
  refine st_as (fun H r => jk_unR I1.1 r) ?_
  have J2 : jk_J w B M O S xs (jk_unt B h2) A := jk_JM I1 (md_YW y2) (cf_XF jJ.2.1 F1) (y2.2.2.trans ab0) jJ.2.2.2
  have y2 := md_YW y2
  have I2 := J2.1
  refine sg_istore (pc := 1901) dL_law_1901 (by decide) ?_
  refine sg_goto (pc := 1903) (tgt := 2465) dL_law_1903 (by decide) ?_
  refine sg_lsub (lv' := [(0, _), (1, _), (2, _), (3, _), (4, _)]) ⟨rfl, rfl, rfl, rfl, rfl, trivial⟩ ?_
  exact K _ _ _ _ J2 (by omega) (by omega)

set_option maxRecDepth 100000 in
set_option maxHeartbeats 1000000 in
theorem lw_c42 {w : sg_W} {Q : sg_O → sg_H → Prop} {h : sg_H} (g : sg_G w) (nc : jk_C w) (hJ : jz w) {d mc ms : Nat} (hd : 30 ≤ d) {B M O S j k n : Nat} {xs : List Int} {A : fa_A} (jJ : jk_J w B M O S xs h A) (hj : 6 * j + 6 ≤ xs.length) (hl : xs.length ≤ 3072) (hk : k + 1030 ≤ mc) (hn : n + (48 + 0) ≤ ms) (K : ∀ (h' : sg_H) (k' n' : Nat) (A' : fa_A), jk_J w B M O S xs h' A' → k' ≤ k + 1030 → n' ≤ n + (48 + 0) → sg_R w mi_L_law d mc ms Q 2465 [(0, sg_r S), (1, sg_r B), (2, sg_r M), (3, sg_r O), (4, sg_i (6 * (j : Int)))] [] h' k' n') : sg_R w mi_L_law d mc ms Q 1906 [(0, sg_r S), (1, sg_r B), (2, sg_r M), (3, sg_r O), (4, sg_i (6 * (j : Int)))] [] h k n := by
  obtain ⟨p1, e1⟩ : ∃ p, xs.getD (6 * (j : Int) + 1).toNat 0 = p := ⟨_, rfl⟩
  obtain ⟨p2, e2⟩ : ∃ p, xs.getD (6 * (j : Int) + 2).toNat 0 = p := ⟨_, rfl⟩
  obtain ⟨p3, e3⟩ : ∃ p, xs.getD (6 * (j : Int) + 3).toNat 0 = p := ⟨_, rfl⟩
  obtain ⟨p4, e4⟩ : ∃ p, xs.getD (6 * (j : Int) + 4).toNat 0 = p := ⟨_, rfl⟩
  obtain ⟨p5, e5⟩ : ∃ p, xs.getD (6 * (j : Int) + 5).toNat 0 = p := ⟨_, rfl⟩
  refine sg_aload_n (pc := 1906) (j := 1) dL_law_1906 rfl rfl ?_
  refine sg_aload_n (pc := 1907) (j := 0) dL_law_1907 rfl rfl ?_
  refine sg_iload (pc := 1908) dL_law_1908 rfl ?_
  refine sg_iconst (pc := 1910) (z := 1) dL_law_1910 (by decide) ?_
  first | refine sg_iaddB (pc := 1911) dL_law_1911 (by omega) (by omega) ?_ | refine sg_iadd (pc := 1911) dL_law_1911 ?_
  refine sg_iald (pc := 1912) dL_law_1912 jJ.1.2.2.2.2.2.2.2.2.2 rfl (by omega) (jk_x (by omega) (by omega)) ?_
  try rw [e1]
  try rw [e2]
  try rw [e3]
  try rw [e4]
  try rw [e5]
  refine sg_aload_n (pc := 1913) (j := 0) dL_law_1913 rfl rfl ?_
  refine sg_iload (pc := 1914) dL_law_1914 rfl ?_
  refine sg_iconst (pc := 1916) (z := 2) dL_law_1916 (by decide) ?_
  first | refine sg_iaddB (pc := 1917) dL_law_1917 (by omega) (by omega) ?_ | refine sg_iadd (pc := 1917) dL_law_1917 ?_
  refine sg_iald (pc := 1918) dL_law_1918 jJ.1.2.2.2.2.2.2.2.2.2 rfl (by omega) (jk_x (by omega) (by omega)) ?_
  try rw [e1]
  try rw [e2]
  try rw [e3]
  try rw [e4]
  try rw [e5]
  refine sg_aload_n (pc := 1919) (j := 3) dL_law_1919 rfl rfl ?_
  obtain ⟨L, hL⟩ : ∃ X, fa_L A p1.toNat = X := ⟨_, rfl⟩
  obtain ⟨Z, hZ⟩ : ∃ X, fa_L A p2.toNat = X := ⟨_, rfl⟩
  refine st_cS4 (pc := 1920) (d' := d - 1) (mc' := 8) (ms' := 48) g dL_law_1920 cb_L_order cw_L_order ml_L_327 ms_L_order (Nat.le_of_ble_eq_true rfl) (by first | exact jl_d0 hd rfl | omega) (by first | exact Nat.le_of_ble_eq_true rfl | omega) (by first | exact Nat.le_of_ble_eq_true rfl | omega) ?_
  refine f_L_order g nc (by omega) jJ.1 jJ.2.1 jJ.2.2.2 hL hZ (fun v1 h1 I1 X1 k0 k1 F1 r1 => sg_K1 ?_)
  refine sg_istore (pc := 1923) dL_law_1923 (by decide) ?_
  refine sg_aload_n (pc := 1925) (j := 2) dL_law_1925 rfl rfl ?_
  refine sg_aload_n (pc := 1926) (j := 0) dL_law_1926 rfl rfl ?_
  refine sg_iload (pc := 1927) dL_law_1927 rfl ?_
  refine sg_iconst (pc := 1929) (z := 1) dL_law_1929 (by decide) ?_
  first | refine sg_iaddB (pc := 1930) dL_law_1930 (by omega) (by omega) ?_ | refine sg_iadd (pc := 1930) dL_law_1930 ?_
  refine sg_iald (pc := 1931) dL_law_1931 I1.2.2.2.2.2.2.2.2.2 rfl (by omega) (jk_x (by omega) (by omega)) ?_
  try rw [e1]
  try rw [e2]
  try rw [e3]
  try rw [e4]
  try rw [e5]
  refine sg_aload_n (pc := 1932) (j := 0) dL_law_1932 rfl rfl ?_
  refine sg_iload (pc := 1933) dL_law_1933 rfl ?_
  refine sg_iconst (pc := 1935) (z := 2) dL_law_1935 (by decide) ?_
  first | refine sg_iaddB (pc := 1936) dL_law_1936 (by omega) (by omega) ?_ | refine sg_iadd (pc := 1936) dL_law_1936 ?_
  refine sg_iald (pc := 1937) dL_law_1937 I1.2.2.2.2.2.2.2.2.2 rfl (by omega) (jk_x (by omega) (by omega)) ?_
  try rw [e1]
  try rw [e2]
  try rw [e3]
  try rw [e4]
  try rw [e5]
  refine st_as (fun H r => jk_tgR (B := B) r) ?_
  have m2 := jk_Im I1
  have ab0 := jk_Jt jJ I1 X1
  refine sg_cE2 (pc := 1938) (d' := d - 1) (mc' := 0) (ms' := 0) 8 g dL_law_1938 cb_X7_order ml_L_329 mn_X7_order rfl mv_X7_order (Nat.le_of_ble_eq_true rfl) (md_oc m2) (Nat.le_of_ble_eq_true rfl) (by first | exact jl_d0 hd rfl | omega) (by first | exact Nat.le_of_ble_eq_true rfl | omega) (by first | exact Nat.le_of_ble_eq_true rfl | omega) ?_
  refine s_X7_order g (by first | exact jl_d1 hd rfl | omega) m2 (fun v2 h2  y2 => sg_K1 ?_)
  refine st_as (fun H r => jk_unR I1.1 r) ?_
  have J2 : jk_J w B M O S xs (jk_unt B h2) A := jk_JM I1 (md_YW y2) (cf_XF jJ.2.1 F1) (y2.2.2.trans ab0) jJ.2.2.2
  have y2 := md_YW y2
  have I2 := J2.1
  refine sg_istore (pc := 1941) dL_law_1941 (by decide) ?_
  refine sg_goto (pc := 1943) (tgt := 2465) dL_law_1943 (by decide) ?_
  refine sg_lsub (lv' := [(0, _), (1, _), (2, _), (3, _), (4, _)]) ⟨rfl, rfl, rfl, rfl, rfl, trivial⟩ ?_
  exact K _ _ _ _ J2 (by omega) (by omega)

set_option maxRecDepth 100000 in
set_option maxHeartbeats 1000000 in
theorem lw_c43 {w : sg_W} {Q : sg_O → sg_H → Prop} {h : sg_H} (g : sg_G w) (nc : jk_C w) (hJ : jz w) {d mc ms : Nat} (hd : 30 ≤ d) {B M O S j k n : Nat} {xs : List Int} {A : fa_A} (jJ : jk_J w B M O S xs h A) (hj : 6 * j + 6 ≤ xs.length) (hl : xs.length ≤ 3072) (hk : k + 1030 ≤ mc) (hn : n + (0 + 0) ≤ ms) (K : ∀ (h' : sg_H) (k' n' : Nat) (A' : fa_A), jk_J w B M O S xs h' A' → k' ≤ k + 1030 → n' ≤ n + (0 + 0) → sg_R w mi_L_law d mc ms Q 2465 [(0, sg_r S), (1, sg_r B), (2, sg_r M), (3, sg_r O), (4, sg_i (6 * (j : Int)))] [] h' k' n') : sg_R w mi_L_law d mc ms Q 1946 [(0, sg_r S), (1, sg_r B), (2, sg_r M), (3, sg_r O), (4, sg_i (6 * (j : Int)))] [] h k n := by
  obtain ⟨p1, e1⟩ : ∃ p, xs.getD (6 * (j : Int) + 1).toNat 0 = p := ⟨_, rfl⟩
  obtain ⟨p2, e2⟩ : ∃ p, xs.getD (6 * (j : Int) + 2).toNat 0 = p := ⟨_, rfl⟩
  obtain ⟨p3, e3⟩ : ∃ p, xs.getD (6 * (j : Int) + 3).toNat 0 = p := ⟨_, rfl⟩
  obtain ⟨p4, e4⟩ : ∃ p, xs.getD (6 * (j : Int) + 4).toNat 0 = p := ⟨_, rfl⟩
  obtain ⟨p5, e5⟩ : ∃ p, xs.getD (6 * (j : Int) + 5).toNat 0 = p := ⟨_, rfl⟩
  refine sg_aload_n (pc := 1946) (j := 1) dL_law_1946 rfl rfl ?_
  refine sg_aload_n (pc := 1947) (j := 0) dL_law_1947 rfl rfl ?_
  refine sg_iload (pc := 1948) dL_law_1948 rfl ?_
  refine sg_iconst (pc := 1950) (z := 1) dL_law_1950 (by decide) ?_
  first | refine sg_iaddB (pc := 1951) dL_law_1951 (by omega) (by omega) ?_ | refine sg_iadd (pc := 1951) dL_law_1951 ?_
  refine sg_iald (pc := 1952) dL_law_1952 jJ.1.2.2.2.2.2.2.2.2.2 rfl (by omega) (jk_x (by omega) (by omega)) ?_
  try rw [e1]
  try rw [e2]
  try rw [e3]
  try rw [e4]
  try rw [e5]
  refine sg_cE1 (pc := 1953) (d' := d - 1) (mc' := 0) (ms' := 0) 6 g dL_law_1953 cb_X5_isCode ml_L_330 mn_X5_isCode rfl mv_X5_isCode (Nat.le_of_ble_eq_true rfl) (ck_oc jJ.1.2.2.1) (Nat.le_of_ble_eq_true rfl) (by first | exact jl_d0 hd rfl | omega) (by first | exact Nat.le_of_ble_eq_true rfl | omega) (by first | exact Nat.le_of_ble_eq_true rfl | omega) ?_
  refine s_X5_isCode (B := B) g (by first | exact jl_d1 hd rfl | omega) (fun v1 c1 => sg_K1 ?_)
  have I1 := jJ.1
  have X1 : jk_X (jk_cut B h) (jk_cut B h) := jk_X0
  have F1 : jk_F B h h := jk_F0
  refine sg_pop (pc := 1956) dL_law_1956 rfl ?_
  refine sg_aload_n (pc := 1957) (j := 2) dL_law_1957 rfl rfl ?_
  refine sg_aload_n (pc := 1958) (j := 0) dL_law_1958 rfl rfl ?_
  refine sg_iload (pc := 1959) dL_law_1959 rfl ?_
  refine sg_iconst (pc := 1961) (z := 1) dL_law_1961 (by decide) ?_
  first | refine sg_iaddB (pc := 1962) dL_law_1962 (by omega) (by omega) ?_ | refine sg_iadd (pc := 1962) dL_law_1962 ?_
  refine sg_iald (pc := 1963) dL_law_1963 I1.2.2.2.2.2.2.2.2.2 rfl (by omega) (jk_x (by omega) (by omega)) ?_
  try rw [e1]
  try rw [e2]
  try rw [e3]
  try rw [e4]
  try rw [e5]
  refine st_as (fun H r => jk_tgR (B := B) r) ?_
  have m2 := jk_Im I1
  have ab0 := jk_Jt jJ I1 X1
  refine sg_cE1 (pc := 1964) (d' := d - 1) (mc' := 0) (ms' := 0) 8 g dL_law_1964 cb_X7_isCode ml_L_333 mn_X7_isCode rfl mv_X7_isCode (Nat.le_of_ble_eq_true rfl) (md_oc m2) (Nat.le_of_ble_eq_true rfl) (by first | exact jl_d0 hd rfl | omega) (by first | exact Nat.le_of_ble_eq_true rfl | omega) (by first | exact Nat.le_of_ble_eq_true rfl | omega) ?_
  refine s_X7_isCode g (by first | exact jl_d1 hd rfl | omega) m2 (fun v2 h2 c2_0 c2_1 y2 => sg_K1 ?_)
  refine st_as (fun H r => jk_unR I1.1 r) ?_
  have J2 : jk_J w B M O S xs (jk_unt B h2) A := jk_JM I1 (md_YW y2) (cf_XF jJ.2.1 F1) (y2.2.2.trans ab0) jJ.2.2.2
  have y2 := md_YW y2
  have I2 := J2.1
  refine sg_pop (pc := 1967) dL_law_1967 rfl ?_
  refine sg_goto (pc := 1968) (tgt := 2465) dL_law_1968 (by decide) ?_
  refine sg_lsub (lv' := [(0, _), (1, _), (2, _), (3, _), (4, _)]) ⟨rfl, rfl, rfl, rfl, rfl, trivial⟩ ?_
  exact K _ _ _ _ J2 (by omega) (by omega)

set_option maxRecDepth 100000 in
set_option maxHeartbeats 1000000 in
theorem lw_c44 {w : sg_W} {Q : sg_O → sg_H → Prop} {h : sg_H} (g : sg_G w) (nc : jk_C w) (hJ : jz w) {d mc ms : Nat} (hd : 30 ≤ d) {B M O S j k n : Nat} {xs : List Int} {A : fa_A} (jJ : jk_J w B M O S xs h A) (hj : 6 * j + 6 ≤ xs.length) (hl : xs.length ≤ 3072) (hk : k + 1030 ≤ mc) (hn : n + (0 + 0) ≤ ms) (K : ∀ (h' : sg_H) (k' n' : Nat) (A' : fa_A), jk_J w B M O S xs h' A' → k' ≤ k + 1030 → n' ≤ n + (0 + 0) → sg_R w mi_L_law d mc ms Q 2465 [(0, sg_r S), (1, sg_r B), (2, sg_r M), (3, sg_r O), (4, sg_i (6 * (j : Int)))] [] h' k' n') : sg_R w mi_L_law d mc ms Q 1971 [(0, sg_r S), (1, sg_r B), (2, sg_r M), (3, sg_r O), (4, sg_i (6 * (j : Int)))] [] h k n := by
  obtain ⟨p1, e1⟩ : ∃ p, xs.getD (6 * (j : Int) + 1).toNat 0 = p := ⟨_, rfl⟩
  obtain ⟨p2, e2⟩ : ∃ p, xs.getD (6 * (j : Int) + 2).toNat 0 = p := ⟨_, rfl⟩
  obtain ⟨p3, e3⟩ : ∃ p, xs.getD (6 * (j : Int) + 3).toNat 0 = p := ⟨_, rfl⟩
  obtain ⟨p4, e4⟩ : ∃ p, xs.getD (6 * (j : Int) + 4).toNat 0 = p := ⟨_, rfl⟩
  obtain ⟨p5, e5⟩ : ∃ p, xs.getD (6 * (j : Int) + 5).toNat 0 = p := ⟨_, rfl⟩
  refine sg_aload_n (pc := 1971) (j := 1) dL_law_1971 rfl rfl ?_
  refine sg_aload_n (pc := 1972) (j := 0) dL_law_1972 rfl rfl ?_
  refine sg_iload (pc := 1973) dL_law_1973 rfl ?_
  refine sg_iconst (pc := 1975) (z := 1) dL_law_1975 (by decide) ?_
  first | refine sg_iaddB (pc := 1976) dL_law_1976 (by omega) (by omega) ?_ | refine sg_iadd (pc := 1976) dL_law_1976 ?_
  refine sg_iald (pc := 1977) dL_law_1977 jJ.1.2.2.2.2.2.2.2.2.2 rfl (by omega) (jk_x (by omega) (by omega)) ?_
  try rw [e1]
  try rw [e2]
  try rw [e3]
  try rw [e4]
  try rw [e5]
  refine sg_cE1 (pc := 1978) (d' := d - 1) (mc' := 0) (ms' := 0) 6 g dL_law_1978 cb_X5_isPlain ml_L_334 mn_X5_isPlain rfl mv_X5_isPlain (Nat.le_of_ble_eq_true rfl) (ck_oc jJ.1.2.2.1) (Nat.le_of_ble_eq_true rfl) (by first | exact jl_d0 hd rfl | omega) (by first | exact Nat.le_of_ble_eq_true rfl | omega) (by first | exact Nat.le_of_ble_eq_true rfl | omega) ?_
  refine s_X5_isPlain (B := B) g (by first | exact jl_d1 hd rfl | omega) (fun v1 c1 => sg_K1 ?_)
  have I1 := jJ.1
  have X1 : jk_X (jk_cut B h) (jk_cut B h) := jk_X0
  have F1 : jk_F B h h := jk_F0
  refine sg_pop (pc := 1981) dL_law_1981 rfl ?_
  refine sg_aload_n (pc := 1982) (j := 2) dL_law_1982 rfl rfl ?_
  refine sg_aload_n (pc := 1983) (j := 0) dL_law_1983 rfl rfl ?_
  refine sg_iload (pc := 1984) dL_law_1984 rfl ?_
  refine sg_iconst (pc := 1986) (z := 1) dL_law_1986 (by decide) ?_
  first | refine sg_iaddB (pc := 1987) dL_law_1987 (by omega) (by omega) ?_ | refine sg_iadd (pc := 1987) dL_law_1987 ?_
  refine sg_iald (pc := 1988) dL_law_1988 I1.2.2.2.2.2.2.2.2.2 rfl (by omega) (jk_x (by omega) (by omega)) ?_
  try rw [e1]
  try rw [e2]
  try rw [e3]
  try rw [e4]
  try rw [e5]
  refine st_as (fun H r => jk_tgR (B := B) r) ?_
  have m2 := jk_Im I1
  have ab0 := jk_Jt jJ I1 X1
  refine sg_cE1 (pc := 1989) (d' := d - 1) (mc' := 0) (ms' := 0) 8 g dL_law_1989 cb_X7_isPlain ml_L_337 mn_X7_isPlain rfl mv_X7_isPlain (Nat.le_of_ble_eq_true rfl) (md_oc m2) (Nat.le_of_ble_eq_true rfl) (by first | exact jl_d0 hd rfl | omega) (by first | exact Nat.le_of_ble_eq_true rfl | omega) (by first | exact Nat.le_of_ble_eq_true rfl | omega) ?_
  refine s_X7_isPlain g (by first | exact jl_d1 hd rfl | omega) m2 (fun v2 h2 c2_0 c2_1 y2 => sg_K1 ?_)
  refine st_as (fun H r => jk_unR I1.1 r) ?_
  have J2 : jk_J w B M O S xs (jk_unt B h2) A := jk_JM I1 (md_YW y2) (cf_XF jJ.2.1 F1) (y2.2.2.trans ab0) jJ.2.2.2
  have y2 := md_YW y2
  have I2 := J2.1
  refine sg_pop (pc := 1992) dL_law_1992 rfl ?_
  refine sg_goto (pc := 1993) (tgt := 2465) dL_law_1993 (by decide) ?_
  refine sg_lsub (lv' := [(0, _), (1, _), (2, _), (3, _), (4, _)]) ⟨rfl, rfl, rfl, rfl, rfl, trivial⟩ ?_
  exact K _ _ _ _ J2 (by omega) (by omega)

set_option maxRecDepth 100000 in
set_option maxHeartbeats 1000000 in
theorem lw_c45 {w : sg_W} {Q : sg_O → sg_H → Prop} {h : sg_H} (g : sg_G w) (nc : jk_C w) (hJ : jz w) {d mc ms : Nat} (hd : 30 ≤ d) {B M O S j k n : Nat} {xs : List Int} {A : fa_A} (jJ : jk_J w B M O S xs h A) (hj : 6 * j + 6 ≤ xs.length) (hl : xs.length ≤ 3072) (hk : k + 1030 ≤ mc) (hn : n + (0 + 0) ≤ ms) (K : ∀ (h' : sg_H) (k' n' : Nat) (A' : fa_A), jk_J w B M O S xs h' A' → k' ≤ k + 1030 → n' ≤ n + (0 + 0) → sg_R w mi_L_law d mc ms Q 2465 [(0, sg_r S), (1, sg_r B), (2, sg_r M), (3, sg_r O), (4, sg_i (6 * (j : Int)))] [] h' k' n') : sg_R w mi_L_law d mc ms Q 1996 [(0, sg_r S), (1, sg_r B), (2, sg_r M), (3, sg_r O), (4, sg_i (6 * (j : Int)))] [] h k n := by
  obtain ⟨p1, e1⟩ : ∃ p, xs.getD (6 * (j : Int) + 1).toNat 0 = p := ⟨_, rfl⟩
  obtain ⟨p2, e2⟩ : ∃ p, xs.getD (6 * (j : Int) + 2).toNat 0 = p := ⟨_, rfl⟩
  obtain ⟨p3, e3⟩ : ∃ p, xs.getD (6 * (j : Int) + 3).toNat 0 = p := ⟨_, rfl⟩
  obtain ⟨p4, e4⟩ : ∃ p, xs.getD (6 * (j : Int) + 4).toNat 0 = p := ⟨_, rfl⟩
  obtain ⟨p5, e5⟩ : ∃ p, xs.getD (6 * (j : Int) + 5).toNat 0 = p := ⟨_, rfl⟩
  refine sg_aload_n (pc := 1996) (j := 1) dL_law_1996 rfl rfl ?_
  refine sg_aload_n (pc := 1997) (j := 0) dL_law_1997 rfl rfl ?_
  refine sg_iload (pc := 1998) dL_law_1998 rfl ?_
  refine sg_iconst (pc := 2000) (z := 1) dL_law_2000 (by decide) ?_
  first | refine sg_iaddB (pc := 2001) dL_law_2001 (by omega) (by omega) ?_ | refine sg_iadd (pc := 2001) dL_law_2001 ?_
  refine sg_iald (pc := 2002) dL_law_2002 jJ.1.2.2.2.2.2.2.2.2.2 rfl (by omega) (jk_x (by omega) (by omega)) ?_
  try rw [e1]
  try rw [e2]
  try rw [e3]
  try rw [e4]
  try rw [e5]
  refine sg_cE1 (pc := 2003) (d' := d - 1) (mc' := 0) (ms' := 0) 6 g dL_law_2003 cb_X5_isWide ml_L_338 mn_X5_isWide rfl mv_X5_isWide (Nat.le_of_ble_eq_true rfl) (ck_oc jJ.1.2.2.1) (Nat.le_of_ble_eq_true rfl) (by first | exact jl_d0 hd rfl | omega) (by first | exact Nat.le_of_ble_eq_true rfl | omega) (by first | exact Nat.le_of_ble_eq_true rfl | omega) ?_
  refine s_X5_isWide (B := B) g (by first | exact jl_d1 hd rfl | omega) (fun v1 c1 => sg_K1 ?_)
  have I1 := jJ.1
  have X1 : jk_X (jk_cut B h) (jk_cut B h) := jk_X0
  have F1 : jk_F B h h := jk_F0
  refine sg_pop (pc := 2006) dL_law_2006 rfl ?_
  refine sg_aload_n (pc := 2007) (j := 2) dL_law_2007 rfl rfl ?_
  refine sg_aload_n (pc := 2008) (j := 0) dL_law_2008 rfl rfl ?_
  refine sg_iload (pc := 2009) dL_law_2009 rfl ?_
  refine sg_iconst (pc := 2011) (z := 1) dL_law_2011 (by decide) ?_
  first | refine sg_iaddB (pc := 2012) dL_law_2012 (by omega) (by omega) ?_ | refine sg_iadd (pc := 2012) dL_law_2012 ?_
  refine sg_iald (pc := 2013) dL_law_2013 I1.2.2.2.2.2.2.2.2.2 rfl (by omega) (jk_x (by omega) (by omega)) ?_
  try rw [e1]
  try rw [e2]
  try rw [e3]
  try rw [e4]
  try rw [e5]
  refine st_as (fun H r => jk_tgR (B := B) r) ?_
  have m2 := jk_Im I1
  have ab0 := jk_Jt jJ I1 X1
  refine sg_cE1 (pc := 2014) (d' := d - 1) (mc' := 0) (ms' := 0) 8 g dL_law_2014 cb_X7_isWide ml_L_341 mn_X7_isWide rfl mv_X7_isWide (Nat.le_of_ble_eq_true rfl) (md_oc m2) (Nat.le_of_ble_eq_true rfl) (by first | exact jl_d0 hd rfl | omega) (by first | exact Nat.le_of_ble_eq_true rfl | omega) (by first | exact Nat.le_of_ble_eq_true rfl | omega) ?_
  refine s_X7_isWide g (by first | exact jl_d1 hd rfl | omega) m2 (fun v2 h2 c2_0 c2_1 y2 => sg_K1 ?_)
  refine st_as (fun H r => jk_unR I1.1 r) ?_
  have J2 : jk_J w B M O S xs (jk_unt B h2) A := jk_JM I1 (md_YW y2) (cf_XF jJ.2.1 F1) (y2.2.2.trans ab0) jJ.2.2.2
  have y2 := md_YW y2
  have I2 := J2.1
  refine sg_pop (pc := 2017) dL_law_2017 rfl ?_
  refine sg_goto (pc := 2018) (tgt := 2465) dL_law_2018 (by decide) ?_
  refine sg_lsub (lv' := [(0, _), (1, _), (2, _), (3, _), (4, _)]) ⟨rfl, rfl, rfl, rfl, rfl, trivial⟩ ?_
  exact K _ _ _ _ J2 (by omega) (by omega)

set_option maxRecDepth 100000 in
set_option maxHeartbeats 1000000 in
theorem lw_c46 {w : sg_W} {Q : sg_O → sg_H → Prop} {h : sg_H} (g : sg_G w) (nc : jk_C w) (hJ : jz w) {d mc ms : Nat} (hd : 30 ≤ d) {B M O S j k n : Nat} {xs : List Int} {A : fa_A} (jJ : jk_J w B M O S xs h A) (hj : 6 * j + 6 ≤ xs.length) (hl : xs.length ≤ 3072) (hk : k + 1030 ≤ mc) (hn : n + (0 + 0) ≤ ms) (K : ∀ (h' : sg_H) (k' n' : Nat) (A' : fa_A), jk_J w B M O S xs h' A' → k' ≤ k + 1030 → n' ≤ n + (0 + 0) → sg_R w mi_L_law d mc ms Q 2465 [(0, sg_r S), (1, sg_r B), (2, sg_r M), (3, sg_r O), (4, sg_i (6 * (j : Int)))] [] h' k' n') : sg_R w mi_L_law d mc ms Q 2021 [(0, sg_r S), (1, sg_r B), (2, sg_r M), (3, sg_r O), (4, sg_i (6 * (j : Int)))] [] h k n := by
  obtain ⟨p1, e1⟩ : ∃ p, xs.getD (6 * (j : Int) + 1).toNat 0 = p := ⟨_, rfl⟩
  obtain ⟨p2, e2⟩ : ∃ p, xs.getD (6 * (j : Int) + 2).toNat 0 = p := ⟨_, rfl⟩
  obtain ⟨p3, e3⟩ : ∃ p, xs.getD (6 * (j : Int) + 3).toNat 0 = p := ⟨_, rfl⟩
  obtain ⟨p4, e4⟩ : ∃ p, xs.getD (6 * (j : Int) + 4).toNat 0 = p := ⟨_, rfl⟩
  obtain ⟨p5, e5⟩ : ∃ p, xs.getD (6 * (j : Int) + 5).toNat 0 = p := ⟨_, rfl⟩
  refine sg_aload_n (pc := 2021) (j := 1) dL_law_2021 rfl rfl ?_
  refine sg_aload_n (pc := 2022) (j := 0) dL_law_2022 rfl rfl ?_
  refine sg_iload (pc := 2023) dL_law_2023 rfl ?_
  refine sg_iconst (pc := 2025) (z := 1) dL_law_2025 (by decide) ?_
  first | refine sg_iaddB (pc := 2026) dL_law_2026 (by omega) (by omega) ?_ | refine sg_iadd (pc := 2026) dL_law_2026 ?_
  refine sg_iald (pc := 2027) dL_law_2027 jJ.1.2.2.2.2.2.2.2.2.2 rfl (by omega) (jk_x (by omega) (by omega)) ?_
  try rw [e1]
  try rw [e2]
  try rw [e3]
  try rw [e4]
  try rw [e5]
  refine sg_cE1 (pc := 2028) (d' := d - 1) (mc' := 0) (ms' := 0) 6 g dL_law_2028 cb_X5_units ml_L_342 mn_X5_units rfl mv_X5_units (Nat.le_of_ble_eq_true rfl) (ck_oc jJ.1.2.2.1) (Nat.le_of_ble_eq_true rfl) (by first | exact jl_d0 hd rfl | omega) (by first | exact Nat.le_of_ble_eq_true rfl | omega) (by first | exact Nat.le_of_ble_eq_true rfl | omega) ?_
  refine s_X5_units (B := B) g (by first | exact jl_d1 hd rfl | omega) (fun v1 c1 => sg_K1 ?_)
  have I1 := jJ.1
  have X1 : jk_X (jk_cut B h) (jk_cut B h) := jk_X0
  have F1 : jk_F B h h := jk_F0
  refine sg_pop (pc := 2031) dL_law_2031 rfl ?_
  refine sg_aload_n (pc := 2032) (j := 2) dL_law_2032 rfl rfl ?_
  refine sg_aload_n (pc := 2033) (j := 0) dL_law_2033 rfl rfl ?_
  refine sg_iload (pc := 2034) dL_law_2034 rfl ?_
  refine sg_iconst (pc := 2036) (z := 1) dL_law_2036 (by decide) ?_
  first | refine sg_iaddB (pc := 2037) dL_law_2037 (by omega) (by omega) ?_ | refine sg_iadd (pc := 2037) dL_law_2037 ?_
  refine sg_iald (pc := 2038) dL_law_2038 I1.2.2.2.2.2.2.2.2.2 rfl (by omega) (jk_x (by omega) (by omega)) ?_
  try rw [e1]
  try rw [e2]
  try rw [e3]
  try rw [e4]
  try rw [e5]
  refine st_as (fun H r => jk_tgR (B := B) r) ?_
  have m2 := jk_Im I1
  have ab0 := jk_Jt jJ I1 X1
  refine sg_cE1 (pc := 2039) (d' := d - 1) (mc' := 0) (ms' := 0) 8 g dL_law_2039 cb_X7_units ml_L_345 mn_X7_units rfl mv_X7_units (Nat.le_of_ble_eq_true rfl) (md_oc m2) (Nat.le_of_ble_eq_true rfl) (by first | exact jl_d0 hd rfl | omega) (by first | exact Nat.le_of_ble_eq_true rfl | omega) (by first | exact Nat.le_of_ble_eq_true rfl | omega) ?_
  refine s_X7_units g (by first | exact jl_d1 hd rfl | omega) m2 (fun v2 h2 c2_0 y2 => sg_K1 ?_)
  refine st_as (fun H r => jk_unR I1.1 r) ?_
  have J2 : jk_J w B M O S xs (jk_unt B h2) A := jk_JM I1 (md_YW y2) (cf_XF jJ.2.1 F1) (y2.2.2.trans ab0) jJ.2.2.2
  have y2 := md_YW y2
  have I2 := J2.1
  refine sg_pop (pc := 2042) dL_law_2042 rfl ?_
  refine sg_goto (pc := 2043) (tgt := 2465) dL_law_2043 (by decide) ?_
  refine sg_lsub (lv' := [(0, _), (1, _), (2, _), (3, _), (4, _)]) ⟨rfl, rfl, rfl, rfl, rfl, trivial⟩ ?_
  exact K _ _ _ _ J2 (by omega) (by omega)

set_option maxRecDepth 100000 in
set_option maxHeartbeats 1000000 in
theorem lw_c47 {w : sg_W} {Q : sg_O → sg_H → Prop} {h : sg_H} (g : sg_G w) (nc : jk_C w) (hJ : jz w) {d mc ms : Nat} (hd : 30 ≤ d) {B M O S j k n : Nat} {xs : List Int} {A : fa_A} (jJ : jk_J w B M O S xs h A) (hj : 6 * j + 6 ≤ xs.length) (hl : xs.length ≤ 3072) (hk : k + 1030 ≤ mc) (hn : n + (48 + 2) ≤ ms) (K : ∀ (h' : sg_H) (k' n' : Nat) (A' : fa_A), jk_J w B M O S xs h' A' → k' ≤ k + 1030 → n' ≤ n + (48 + 2) → sg_R w mi_L_law d mc ms Q 2465 [(0, sg_r S), (1, sg_r B), (2, sg_r M), (3, sg_r O), (4, sg_i (6 * (j : Int)))] [] h' k' n') : sg_R w mi_L_law d mc ms Q 2046 [(0, sg_r S), (1, sg_r B), (2, sg_r M), (3, sg_r O), (4, sg_i (6 * (j : Int)))] [] h k n := by
  obtain ⟨p1, e1⟩ : ∃ p, xs.getD (6 * (j : Int) + 1).toNat 0 = p := ⟨_, rfl⟩
  obtain ⟨p2, e2⟩ : ∃ p, xs.getD (6 * (j : Int) + 2).toNat 0 = p := ⟨_, rfl⟩
  obtain ⟨p3, e3⟩ : ∃ p, xs.getD (6 * (j : Int) + 3).toNat 0 = p := ⟨_, rfl⟩
  obtain ⟨p4, e4⟩ : ∃ p, xs.getD (6 * (j : Int) + 4).toNat 0 = p := ⟨_, rfl⟩
  obtain ⟨p5, e5⟩ : ∃ p, xs.getD (6 * (j : Int) + 5).toNat 0 = p := ⟨_, rfl⟩
  refine sg_aload_n (pc := 2046) (j := 1) dL_law_2046 rfl rfl ?_
  refine sg_aload_n (pc := 2047) (j := 0) dL_law_2047 rfl rfl ?_
  refine sg_iload (pc := 2048) dL_law_2048 rfl ?_
  refine sg_iconst (pc := 2050) (z := 1) dL_law_2050 (by decide) ?_
  first | refine sg_iaddB (pc := 2051) dL_law_2051 (by omega) (by omega) ?_ | refine sg_iadd (pc := 2051) dL_law_2051 ?_
  refine sg_iald (pc := 2052) dL_law_2052 jJ.1.2.2.2.2.2.2.2.2.2 rfl (by omega) (jk_x (by omega) (by omega)) ?_
  try rw [e1]
  try rw [e2]
  try rw [e3]
  try rw [e4]
  try rw [e5]
  refine sg_aload_n (pc := 2053) (j := 0) dL_law_2053 rfl rfl ?_
  refine sg_iload (pc := 2054) dL_law_2054 rfl ?_
  refine sg_iconst (pc := 2056) (z := 2) dL_law_2056 (by decide) ?_
  first | refine sg_iaddB (pc := 2057) dL_law_2057 (by omega) (by omega) ?_ | refine sg_iadd (pc := 2057) dL_law_2057 ?_
  refine sg_iald (pc := 2058) dL_law_2058 jJ.1.2.2.2.2.2.2.2.2.2 rfl (by omega) (jk_x (by omega) (by omega)) ?_
  try rw [e1]
  try rw [e2]
  try rw [e3]
  try rw [e4]
  try rw [e5]
  refine sg_if_eq (pc := 2059) (tgt := 2066) dL_law_2059 (by decide) (fun c2059 => ?_) (fun c2059 => ?_)
  · refine sg_iconst (pc := 2066) (z := 0) dL_law_2066 (by decide) ?_
    refine sg_aload_n (pc := 2067) (j := 3) dL_law_2067 rfl rfl ?_
    refine st_cS4 (pc := 2068) (d' := d - 1) (mc' := 8) (ms' := 48) g dL_law_2068 cb_L_half cw_L_half ml_L_346 ms_L_half (Nat.le_of_ble_eq_true rfl) (by first | exact jl_d0 hd rfl | omega) (by first | exact Nat.le_of_ble_eq_true rfl | omega) (by first | exact Nat.le_of_ble_eq_true rfl | omega) ?_
    refine s_L_half g nc (by omega) jJ.1 (fun v1 h1 I1 X1 F1 k1 o1 => sg_K1 ?_)
    refine sg_istore (pc := 2071) dL_law_2071 (by decide) ?_
    refine sg_aload_n (pc := 2073) (j := 2) dL_law_2073 rfl rfl ?_
    refine sg_aload_n (pc := 2074) (j := 0) dL_law_2074 rfl rfl ?_
    refine sg_iload (pc := 2075) dL_law_2075 rfl ?_
    refine sg_iconst (pc := 2077) (z := 1) dL_law_2077 (by decide) ?_
    first | refine sg_iaddB (pc := 2078) dL_law_2078 (by omega) (by omega) ?_ | refine sg_iadd (pc := 2078) dL_law_2078 ?_
    refine sg_iald (pc := 2079) dL_law_2079 I1.2.2.2.2.2.2.2.2.2 rfl (by omega) (jk_x (by omega) (by omega)) ?_
    try rw [e1]
    try rw [e2]
    try rw [e3]
    try rw [e4]
    try rw [e5]
    refine sg_aload_n (pc := 2080) (j := 0) dL_law_2080 rfl rfl ?_
    refine sg_iload (pc := 2081) dL_law_2081 rfl ?_
    refine sg_iconst (pc := 2083) (z := 2) dL_law_2083 (by decide) ?_
    first | refine sg_iaddB (pc := 2084) dL_law_2084 (by omega) (by omega) ?_ | refine sg_iadd (pc := 2084) dL_law_2084 ?_
    refine sg_iald (pc := 2085) dL_law_2085 I1.2.2.2.2.2.2.2.2.2 rfl (by omega) (jk_x (by omega) (by omega)) ?_
    try rw [e1]
    try rw [e2]
    try rw [e3]
    try rw [e4]
    try rw [e5]
    refine sg_if_eq (pc := 2086) (tgt := 2093) dL_law_2086 (by decide) (fun c2086 => ?_) (fun c2086 => absurd c2059 c2086)
    refine sg_iconst (pc := 2093) (z := 0) dL_law_2093 (by decide) ?_
    refine st_as (fun H r => jk_tgR (B := B) r) ?_
    have m2 := jk_Im I1
    have ab0 := jk_Jt jJ I1 X1
    refine sg_cE2 (pc := 2094) (d' := d - 1) (mc' := 1) (ms' := 2) 8 g dL_law_2094 cb_X7_half ml_L_348 mn_X7_half rfl mv_X7_half (Nat.le_of_ble_eq_true rfl) (md_oc m2) (Nat.le_of_ble_eq_true rfl) (by first | exact jl_d0 hd rfl | omega) (by first | exact Nat.le_of_ble_eq_true rfl | omega) (by first | exact Nat.le_of_ble_eq_true rfl | omega) ?_
    refine s_X7_half g (by first | exact jl_d1 hd rfl | omega) m2 (fun v2 h2 c2_0 c2_1 y2 => sg_K1 ?_)
    refine st_as (fun H r => jk_unR I1.1 r) ?_
    have J2 : jk_J w B M O S xs (jk_unt B h2) A := jk_JM I1 (md_YW y2) (cf_XF jJ.2.1 F1) (y2.2.2.trans ab0) jJ.2.2.2
    have y2 := md_YW y2
    have I2 := J2.1
    refine sg_istore (pc := 2097) dL_law_2097 (by decide) ?_
    refine sg_goto (pc := 2099) (tgt := 2465) dL_law_2099 (by decide) ?_
    refine sg_lsub (lv' := [(0, _), (1, _), (2, _), (3, _), (4, _)]) ⟨rfl, rfl, rfl, rfl, rfl, trivial⟩ ?_
    exact K _ _ _ _ J2 (by omega) (by omega)
  · refine sg_iconst (pc := 2062) (z := 1) dL_law_2062 (by decide) ?_
    refine sg_goto (pc := 2063) (tgt := 2067) dL_law_2063 (by decide) ?_
    refine sg_aload_n (pc := 2067) (j := 3) dL_law_2067 rfl rfl ?_
    refine st_cS4 (pc := 2068) (d' := d - 1) (mc' := 8) (ms' := 48) g dL_law_2068 cb_L_half cw_L_half ml_L_346 ms_L_half (Nat.le_of_ble_eq_true rfl) (by first | exact jl_d0 hd rfl | omega) (by first | exact Nat.le_of_ble_eq_true rfl | omega) (by first | exact Nat.le_of_ble_eq_true rfl | omega) ?_
    refine s_L_half g nc (by omega) jJ.1 (fun v1 h1 I1 X1 F1 k1 o1 => sg_K1 ?_)
    refine sg_istore (pc := 2071) dL_law_2071 (by decide) ?_
    refine sg_aload_n (pc := 2073) (j := 2) dL_law_2073 rfl rfl ?_
    refine sg_aload_n (pc := 2074) (j := 0) dL_law_2074 rfl rfl ?_
    refine sg_iload (pc := 2075) dL_law_2075 rfl ?_
    refine sg_iconst (pc := 2077) (z := 1) dL_law_2077 (by decide) ?_
    first | refine sg_iaddB (pc := 2078) dL_law_2078 (by omega) (by omega) ?_ | refine sg_iadd (pc := 2078) dL_law_2078 ?_
    refine sg_iald (pc := 2079) dL_law_2079 I1.2.2.2.2.2.2.2.2.2 rfl (by omega) (jk_x (by omega) (by omega)) ?_
    try rw [e1]
    try rw [e2]
    try rw [e3]
    try rw [e4]
    try rw [e5]
    refine sg_aload_n (pc := 2080) (j := 0) dL_law_2080 rfl rfl ?_
    refine sg_iload (pc := 2081) dL_law_2081 rfl ?_
    refine sg_iconst (pc := 2083) (z := 2) dL_law_2083 (by decide) ?_
    first | refine sg_iaddB (pc := 2084) dL_law_2084 (by omega) (by omega) ?_ | refine sg_iadd (pc := 2084) dL_law_2084 ?_
    refine sg_iald (pc := 2085) dL_law_2085 I1.2.2.2.2.2.2.2.2.2 rfl (by omega) (jk_x (by omega) (by omega)) ?_
    try rw [e1]
    try rw [e2]
    try rw [e3]
    try rw [e4]
    try rw [e5]
    refine sg_if_eq (pc := 2086) (tgt := 2093) dL_law_2086 (by decide) (fun c2086 => absurd c2086 c2059) (fun c2086 => ?_)
    refine sg_iconst (pc := 2089) (z := 1) dL_law_2089 (by decide) ?_
    refine sg_goto (pc := 2090) (tgt := 2094) dL_law_2090 (by decide) ?_
    refine st_as (fun H r => jk_tgR (B := B) r) ?_
    have m2 := jk_Im I1
    have ab0 := jk_Jt jJ I1 X1
    refine sg_cE2 (pc := 2094) (d' := d - 1) (mc' := 1) (ms' := 2) 8 g dL_law_2094 cb_X7_half ml_L_348 mn_X7_half rfl mv_X7_half (Nat.le_of_ble_eq_true rfl) (md_oc m2) (Nat.le_of_ble_eq_true rfl) (by first | exact jl_d0 hd rfl | omega) (by first | exact Nat.le_of_ble_eq_true rfl | omega) (by first | exact Nat.le_of_ble_eq_true rfl | omega) ?_
    refine s_X7_half g (by first | exact jl_d1 hd rfl | omega) m2 (fun v2 h2 c2_0 c2_1 y2 => sg_K1 ?_)
    refine st_as (fun H r => jk_unR I1.1 r) ?_
    have J2 : jk_J w B M O S xs (jk_unt B h2) A := jk_JM I1 (md_YW y2) (cf_XF jJ.2.1 F1) (y2.2.2.trans ab0) jJ.2.2.2
    have y2 := md_YW y2
    have I2 := J2.1
    refine sg_istore (pc := 2097) dL_law_2097 (by decide) ?_
    refine sg_goto (pc := 2099) (tgt := 2465) dL_law_2099 (by decide) ?_
    refine sg_lsub (lv' := [(0, _), (1, _), (2, _), (3, _), (4, _)]) ⟨rfl, rfl, rfl, rfl, rfl, trivial⟩ ?_
    exact K _ _ _ _ J2 (by omega) (by omega)

set_option maxRecDepth 100000 in
set_option maxHeartbeats 1000000 in
theorem lw_c48 {w : sg_W} {Q : sg_O → sg_H → Prop} {h : sg_H} (g : sg_G w) (nc : jk_C w) (hJ : jz w) {d mc ms : Nat} (hd : 30 ≤ d) {B M O S j k n : Nat} {xs : List Int} {A : fa_A} (jJ : jk_J w B M O S xs h A) (hj : 6 * j + 6 ≤ xs.length) (hl : xs.length ≤ 3072) (hk : k + 1030 ≤ mc) (hn : n + (48 + 0) ≤ ms) (K : ∀ (h' : sg_H) (k' n' : Nat) (A' : fa_A), jk_J w B M O S xs h' A' → k' ≤ k + 1030 → n' ≤ n + (48 + 0) → sg_R w mi_L_law d mc ms Q 2465 [(0, sg_r S), (1, sg_r B), (2, sg_r M), (3, sg_r O), (4, sg_i (6 * (j : Int)))] [] h' k' n') : sg_R w mi_L_law d mc ms Q 2102 [(0, sg_r S), (1, sg_r B), (2, sg_r M), (3, sg_r O), (4, sg_i (6 * (j : Int)))] [] h k n := by
  obtain ⟨p1, e1⟩ : ∃ p, xs.getD (6 * (j : Int) + 1).toNat 0 = p := ⟨_, rfl⟩
  obtain ⟨p2, e2⟩ : ∃ p, xs.getD (6 * (j : Int) + 2).toNat 0 = p := ⟨_, rfl⟩
  obtain ⟨p3, e3⟩ : ∃ p, xs.getD (6 * (j : Int) + 3).toNat 0 = p := ⟨_, rfl⟩
  obtain ⟨p4, e4⟩ : ∃ p, xs.getD (6 * (j : Int) + 4).toNat 0 = p := ⟨_, rfl⟩
  obtain ⟨p5, e5⟩ : ∃ p, xs.getD (6 * (j : Int) + 5).toNat 0 = p := ⟨_, rfl⟩
  refine sg_aload_n (pc := 2102) (j := 1) dL_law_2102 rfl rfl ?_
  refine sg_aload_n (pc := 2103) (j := 0) dL_law_2103 rfl rfl ?_
  refine sg_iload (pc := 2104) dL_law_2104 rfl ?_
  refine sg_iconst (pc := 2106) (z := 1) dL_law_2106 (by decide) ?_
  first | refine sg_iaddB (pc := 2107) dL_law_2107 (by omega) (by omega) ?_ | refine sg_iadd (pc := 2107) dL_law_2107 ?_
  refine sg_iald (pc := 2108) dL_law_2108 jJ.1.2.2.2.2.2.2.2.2.2 rfl (by omega) (jk_x (by omega) (by omega)) ?_
  try rw [e1]
  try rw [e2]
  try rw [e3]
  try rw [e4]
  try rw [e5]
  refine sg_aload_n (pc := 2109) (j := 0) dL_law_2109 rfl rfl ?_
  refine sg_iload (pc := 2110) dL_law_2110 rfl ?_
  refine sg_iconst (pc := 2112) (z := 2) dL_law_2112 (by decide) ?_
  first | refine sg_iaddB (pc := 2113) dL_law_2113 (by omega) (by omega) ?_ | refine sg_iadd (pc := 2113) dL_law_2113 ?_
  refine sg_iald (pc := 2114) dL_law_2114 jJ.1.2.2.2.2.2.2.2.2.2 rfl (by omega) (jk_x (by omega) (by omega)) ?_
  try rw [e1]
  try rw [e2]
  try rw [e3]
  try rw [e4]
  try rw [e5]
  refine sg_aload_n (pc := 2115) (j := 3) dL_law_2115 rfl rfl ?_
  refine st_cS4 (pc := 2116) (d' := d - 1) (mc' := 8) (ms' := 48) g dL_law_2116 cb_L_code cw_L_code ml_L_349 ms_L_code (Nat.le_of_ble_eq_true rfl) (by first | exact jl_d0 hd rfl | omega) (by first | exact Nat.le_of_ble_eq_true rfl | omega) (by first | exact Nat.le_of_ble_eq_true rfl | omega) ?_
  refine s_L_code g nc (by omega) jJ.1 (fun v1 h1 I1 X1 F1 k1 o1 => sg_K1 ?_)
  refine sg_istore (pc := 2119) dL_law_2119 (by decide) ?_
  refine sg_aload_n (pc := 2121) (j := 2) dL_law_2121 rfl rfl ?_
  refine sg_aload_n (pc := 2122) (j := 0) dL_law_2122 rfl rfl ?_
  refine sg_iload (pc := 2123) dL_law_2123 rfl ?_
  refine sg_iconst (pc := 2125) (z := 1) dL_law_2125 (by decide) ?_
  first | refine sg_iaddB (pc := 2126) dL_law_2126 (by omega) (by omega) ?_ | refine sg_iadd (pc := 2126) dL_law_2126 ?_
  refine sg_iald (pc := 2127) dL_law_2127 I1.2.2.2.2.2.2.2.2.2 rfl (by omega) (jk_x (by omega) (by omega)) ?_
  try rw [e1]
  try rw [e2]
  try rw [e3]
  try rw [e4]
  try rw [e5]
  refine sg_aload_n (pc := 2128) (j := 0) dL_law_2128 rfl rfl ?_
  refine sg_iload (pc := 2129) dL_law_2129 rfl ?_
  refine sg_iconst (pc := 2131) (z := 2) dL_law_2131 (by decide) ?_
  first | refine sg_iaddB (pc := 2132) dL_law_2132 (by omega) (by omega) ?_ | refine sg_iadd (pc := 2132) dL_law_2132 ?_
  refine sg_iald (pc := 2133) dL_law_2133 I1.2.2.2.2.2.2.2.2.2 rfl (by omega) (jk_x (by omega) (by omega)) ?_
  try rw [e1]
  try rw [e2]
  try rw [e3]
  try rw [e4]
  try rw [e5]
  refine st_as (fun H r => jk_tgR (B := B) r) ?_
  have m2 := jk_Im I1
  have ab0 := jk_Jt jJ I1 X1
  refine sg_cE2 (pc := 2134) (d' := d - 1) (mc' := 0) (ms' := 0) 8 g dL_law_2134 cb_X7_code ml_L_351 mn_X7_code rfl mv_X7_code (Nat.le_of_ble_eq_true rfl) (md_oc m2) (Nat.le_of_ble_eq_true rfl) (by first | exact jl_d0 hd rfl | omega) (by first | exact Nat.le_of_ble_eq_true rfl | omega) (by first | exact Nat.le_of_ble_eq_true rfl | omega) ?_
  refine s_X7_code g (by first | exact jl_d1 hd rfl | omega) m2 (fun v2 h2 c2_0 c2_1 y2 => sg_K1 ?_)
  refine st_as (fun H r => jk_unR I1.1 r) ?_
  have J2 : jk_J w B M O S xs (jk_unt B h2) A := jk_JM I1 (md_YW y2) (cf_XF jJ.2.1 F1) (y2.2.2.trans ab0) jJ.2.2.2
  have y2 := md_YW y2
  have I2 := J2.1
  refine sg_istore (pc := 2137) dL_law_2137 (by decide) ?_
  refine sg_goto (pc := 2139) (tgt := 2465) dL_law_2139 (by decide) ?_
  refine sg_lsub (lv' := [(0, _), (1, _), (2, _), (3, _), (4, _)]) ⟨rfl, rfl, rfl, rfl, rfl, trivial⟩ ?_
  exact K _ _ _ _ J2 (by omega) (by omega)

set_option maxRecDepth 100000 in
set_option maxHeartbeats 1000000 in
theorem lw_c49 {w : sg_W} {Q : sg_O → sg_H → Prop} {h : sg_H} (g : sg_G w) (nc : jk_C w) (hJ : jz w) {d mc ms : Nat} (hd : 30 ≤ d) {B M O S j k n : Nat} {xs : List Int} {A : fa_A} (jJ : jk_J w B M O S xs h A) (hj : 6 * j + 6 ≤ xs.length) (hl : xs.length ≤ 3072) (hk : k + 1030 ≤ mc) (hn : n + (48 + 0) ≤ ms) (K : ∀ (h' : sg_H) (k' n' : Nat) (A' : fa_A), jk_J w B M O S xs h' A' → k' ≤ k + 1030 → n' ≤ n + (48 + 0) → sg_R w mi_L_law d mc ms Q 2465 [(0, sg_r S), (1, sg_r B), (2, sg_r M), (3, sg_r O), (4, sg_i (6 * (j : Int)))] [] h' k' n') : sg_R w mi_L_law d mc ms Q 2142 [(0, sg_r S), (1, sg_r B), (2, sg_r M), (3, sg_r O), (4, sg_i (6 * (j : Int)))] [] h k n := by
  obtain ⟨p1, e1⟩ : ∃ p, xs.getD (6 * (j : Int) + 1).toNat 0 = p := ⟨_, rfl⟩
  obtain ⟨p2, e2⟩ : ∃ p, xs.getD (6 * (j : Int) + 2).toNat 0 = p := ⟨_, rfl⟩
  obtain ⟨p3, e3⟩ : ∃ p, xs.getD (6 * (j : Int) + 3).toNat 0 = p := ⟨_, rfl⟩
  obtain ⟨p4, e4⟩ : ∃ p, xs.getD (6 * (j : Int) + 4).toNat 0 = p := ⟨_, rfl⟩
  obtain ⟨p5, e5⟩ : ∃ p, xs.getD (6 * (j : Int) + 5).toNat 0 = p := ⟨_, rfl⟩
  refine sg_aload_n (pc := 2142) (j := 1) dL_law_2142 rfl rfl ?_
  refine sg_aload_n (pc := 2143) (j := 0) dL_law_2143 rfl rfl ?_
  refine sg_iload (pc := 2144) dL_law_2144 rfl ?_
  refine sg_iconst (pc := 2146) (z := 1) dL_law_2146 (by decide) ?_
  first | refine sg_iaddB (pc := 2147) dL_law_2147 (by omega) (by omega) ?_ | refine sg_iadd (pc := 2147) dL_law_2147 ?_
  refine sg_iald (pc := 2148) dL_law_2148 jJ.1.2.2.2.2.2.2.2.2.2 rfl (by omega) (jk_x (by omega) (by omega)) ?_
  try rw [e1]
  try rw [e2]
  try rw [e3]
  try rw [e4]
  try rw [e5]
  refine sg_aload_n (pc := 2149) (j := 0) dL_law_2149 rfl rfl ?_
  refine sg_iload (pc := 2150) dL_law_2150 rfl ?_
  refine sg_iconst (pc := 2152) (z := 2) dL_law_2152 (by decide) ?_
  first | refine sg_iaddB (pc := 2153) dL_law_2153 (by omega) (by omega) ?_ | refine sg_iadd (pc := 2153) dL_law_2153 ?_
  refine sg_iald (pc := 2154) dL_law_2154 jJ.1.2.2.2.2.2.2.2.2.2 rfl (by omega) (jk_x (by omega) (by omega)) ?_
  try rw [e1]
  try rw [e2]
  try rw [e3]
  try rw [e4]
  try rw [e5]
  refine sg_aload_n (pc := 2155) (j := 3) dL_law_2155 rfl rfl ?_
  refine st_cS4 (pc := 2156) (d' := d - 1) (mc' := 8) (ms' := 48) g dL_law_2156 cb_L_ofUnit cw_L_ofUnit ml_L_352 ms_L_ofUnit (Nat.le_of_ble_eq_true rfl) (by first | exact jl_d0 hd rfl | omega) (by first | exact Nat.le_of_ble_eq_true rfl | omega) (by first | exact Nat.le_of_ble_eq_true rfl | omega) ?_
  refine s_L_ofUnit g nc (by omega) jJ.1 (fun v1 h1 I1 X1 F1 k1 o1 => sg_K1 ?_)
  refine sg_istore (pc := 2159) dL_law_2159 (by decide) ?_
  refine sg_aload_n (pc := 2161) (j := 2) dL_law_2161 rfl rfl ?_
  refine sg_aload_n (pc := 2162) (j := 0) dL_law_2162 rfl rfl ?_
  refine sg_iload (pc := 2163) dL_law_2163 rfl ?_
  refine sg_iconst (pc := 2165) (z := 1) dL_law_2165 (by decide) ?_
  first | refine sg_iaddB (pc := 2166) dL_law_2166 (by omega) (by omega) ?_ | refine sg_iadd (pc := 2166) dL_law_2166 ?_
  refine sg_iald (pc := 2167) dL_law_2167 I1.2.2.2.2.2.2.2.2.2 rfl (by omega) (jk_x (by omega) (by omega)) ?_
  try rw [e1]
  try rw [e2]
  try rw [e3]
  try rw [e4]
  try rw [e5]
  refine sg_aload_n (pc := 2168) (j := 0) dL_law_2168 rfl rfl ?_
  refine sg_iload (pc := 2169) dL_law_2169 rfl ?_
  refine sg_iconst (pc := 2171) (z := 2) dL_law_2171 (by decide) ?_
  first | refine sg_iaddB (pc := 2172) dL_law_2172 (by omega) (by omega) ?_ | refine sg_iadd (pc := 2172) dL_law_2172 ?_
  refine sg_iald (pc := 2173) dL_law_2173 I1.2.2.2.2.2.2.2.2.2 rfl (by omega) (jk_x (by omega) (by omega)) ?_
  try rw [e1]
  try rw [e2]
  try rw [e3]
  try rw [e4]
  try rw [e5]
  refine st_as (fun H r => jk_tgR (B := B) r) ?_
  have m2 := jk_Im I1
  have ab0 := jk_Jt jJ I1 X1
  refine sg_cE2 (pc := 2174) (d' := d - 1) (mc' := 0) (ms' := 0) 8 g dL_law_2174 cb_X7_ofUnit ml_L_354 mn_X7_ofUnit rfl mv_X7_ofUnit (Nat.le_of_ble_eq_true rfl) (md_oc m2) (Nat.le_of_ble_eq_true rfl) (by first | exact jl_d0 hd rfl | omega) (by first | exact Nat.le_of_ble_eq_true rfl | omega) (by first | exact Nat.le_of_ble_eq_true rfl | omega) ?_
  refine s_X7_ofUnit g (by first | exact jl_d1 hd rfl | omega) m2 (fun v2 h2 c2_0 c2_1 y2 => sg_K1 ?_)
  refine st_as (fun H r => jk_unR I1.1 r) ?_
  have J2 : jk_J w B M O S xs (jk_unt B h2) A := jk_JM I1 (md_YW y2) (cf_XF jJ.2.1 F1) (y2.2.2.trans ab0) jJ.2.2.2
  have y2 := md_YW y2
  have I2 := J2.1
  refine sg_istore (pc := 2177) dL_law_2177 (by decide) ?_
  refine sg_goto (pc := 2179) (tgt := 2465) dL_law_2179 (by decide) ?_
  refine sg_lsub (lv' := [(0, _), (1, _), (2, _), (3, _), (4, _)]) ⟨rfl, rfl, rfl, rfl, rfl, trivial⟩ ?_
  exact K _ _ _ _ J2 (by omega) (by omega)

