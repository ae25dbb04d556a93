set_option maxRecDepth 100000 in
set_option maxHeartbeats 1000000 in
theorem lw_c40 {w : sg_W} {Q : sg_O → sg_H → Prop} {h : sg_H} (g : sg_G w) (nc : jk_C w) (hJ : jz w) {d mc ms : Nat} (hd : 30 ≤ d) {B M O S j k n : Nat} {xs : List Int} {A : fa_A} (jJ : jk_J w B M O S xs h A) (hj : 6 * j + 6 ≤ xs.length) (hl : xs.length ≤ 3072) (hk : k + 1030 ≤ mc) (hn : n + (48 + 180) ≤ ms) (K : ∀ (h' : sg_H) (k' n' : Nat) (A' : fa_A), jk_J w B M O S xs h' A' → k' ≤ k + 1030 → n' ≤ n + (48 + 180) → sg_R w mi_L_law d mc ms Q 2472 [(0, sg_r S), (1, sg_r B), (2, sg_r M), (3, sg_r O), (4, sg_i (6 * (j : Int)))] [] h' k' n') : sg_R w mi_L_law d mc ms Q 1798 [(0, sg_r S), (1, sg_r B), (2, sg_r M), (3, sg_r O), (4, sg_i (6 * (j : Int)))] [] h k n := by
  obtain ⟨p1, e1⟩ : ∃ p, xs.getD (6 * (j : Int) + 1).toNat 0 = p := ⟨_, rfl⟩
  obtain ⟨p2, e2⟩ : ∃ p, xs.getD (6 * (j : Int) + 2).toNat 0 = p := ⟨_, rfl⟩
  obtain ⟨p3, e3⟩ : ∃ p, xs.getD (6 * (j : Int) + 3).toNat 0 = p := ⟨_, rfl⟩
  obtain ⟨p4, e4⟩ : ∃ p, xs.getD (6 * (j : Int) + 4).toNat 0 = p := ⟨_, rfl⟩
  obtain ⟨p5, e5⟩ : ∃ p, xs.getD (6 * (j : Int) + 5).toNat 0 = p := ⟨_, rfl⟩
  refine sg_aload_n (pc := 1798) (j := 1) dL_law_1798 rfl rfl ?_
  refine sg_aload_n (pc := 1799) (j := 0) dL_law_1799 rfl rfl ?_
  refine sg_iload (pc := 1800) dL_law_1800 rfl ?_
  refine sg_iconst (pc := 1802) (z := 1) dL_law_1802 (by decide) ?_
  first | refine sg_iaddB (pc := 1803) dL_law_1803 (by omega) (by omega) ?_ | refine sg_iadd (pc := 1803) dL_law_1803 ?_
  refine sg_iald (pc := 1804) dL_law_1804 jJ.1.2.2.2.2.2.2.2.2.2 rfl (by omega) (jk_x (by omega) (by omega)) ?_
  try rw [e1]
  try rw [e2]
  try rw [e3]
  try rw [e4]
  try rw [e5]
  refine sg_aload_n (pc := 1805) (j := 0) dL_law_1805 rfl rfl ?_
  refine sg_iload (pc := 1806) dL_law_1806 rfl ?_
  refine sg_iconst (pc := 1808) (z := 2) dL_law_1808 (by decide) ?_
  first | refine sg_iaddB (pc := 1809) dL_law_1809 (by omega) (by omega) ?_ | refine sg_iadd (pc := 1809) dL_law_1809 ?_
  refine sg_iald (pc := 1810) dL_law_1810 jJ.1.2.2.2.2.2.2.2.2.2 rfl (by omega) (jk_x (by omega) (by omega)) ?_
  try rw [e1]
  try rw [e2]
  try rw [e3]
  try rw [e4]
  try rw [e5]
  refine sg_aload_n (pc := 1811) (j := 0) dL_law_1811 rfl rfl ?_
  refine sg_iload (pc := 1812) dL_law_1812 rfl ?_
  refine sg_iconst (pc := 1814) (z := 3) dL_law_1814 (by decide) ?_
  first | refine sg_iaddB (pc := 1815) dL_law_1815 (by omega) (by omega) ?_ | refine sg_iadd (pc := 1815) dL_law_1815 ?_
  refine sg_iald (pc := 1816) dL_law_1816 jJ.1.2.2.2.2.2.2.2.2.2 rfl (by omega) (jk_x (by omega) (by omega)) ?_
  try rw [e1]
  try rw [e2]
  try rw [e3]
  try rw [e4]
  try rw [e5]
  refine sg_if_eq (pc := 1817) (tgt := 1824) dL_law_1817 (by decide) (fun c1817 => ?_) (fun c1817 => ?_)
  · refine sg_iconst (pc := 1824) (z := 0) dL_law_1824 (by decide) ?_
    refine sg_aload_n (pc := 1825) (j := 3) dL_law_1825 rfl rfl ?_
    obtain ⟨L, hL⟩ : ∃ X, fa_L A p1.toNat = X := ⟨_, rfl⟩
    refine st_cS5 (pc := 1826) (d' := d - 1) (mc' := 8) (ms' := 48) g dL_law_1826 cb_L_word cw_L_word ml_L_321 ms_L_word (Nat.le_of_ble_eq_true rfl) (by first | exact jl_d0 hd rfl | omega) (by first | exact Nat.le_of_ble_eq_true rfl | omega) (by first | exact Nat.le_of_ble_eq_true rfl | omega) ?_
    refine f_L_word g nc (by omega) jJ.1 jJ.2.1 jJ.2.2.2 hL (fun v1 h1 I1 X1 k0 k1 F1 r1 => sg_K1 ?_)
    refine sg_istore (pc := 1829) dL_law_1829 (by decide) ?_
    refine sg_aload_n (pc := 1831) (j := 2) dL_law_1831 rfl rfl ?_
    refine sg_aload_n (pc := 1832) (j := 0) dL_law_1832 rfl rfl ?_
    refine sg_iload (pc := 1833) dL_law_1833 rfl ?_
    refine sg_iconst (pc := 1835) (z := 1) dL_law_1835 (by decide) ?_
    first | refine sg_iaddB (pc := 1836) dL_law_1836 (by omega) (by omega) ?_ | refine sg_iadd (pc := 1836) dL_law_1836 ?_
    refine sg_iald (pc := 1837) dL_law_1837 I1.2.2.2.2.2.2.2.2.2 rfl (by omega) (jk_x (by omega) (by omega)) ?_
    try rw [e1]
    try rw [e2]
    try rw [e3]
    try rw [e4]
    try rw [e5]
    refine sg_aload_n (pc := 1838) (j := 0) dL_law_1838 rfl rfl ?_
    refine sg_iload (pc := 1839) dL_law_1839 rfl ?_
    refine sg_iconst (pc := 1841) (z := 2) dL_law_1841 (by decide) ?_
    first | refine sg_iaddB (pc := 1842) dL_law_1842 (by omega) (by omega) ?_ | refine sg_iadd (pc := 1842) dL_law_1842 ?_
    refine sg_iald (pc := 1843) dL_law_1843 I1.2.2.2.2.2.2.2.2.2 rfl (by omega) (jk_x (by omega) (by omega)) ?_
    try rw [e1]
    try rw [e2]
    try rw [e3]
    try rw [e4]
    try rw [e5]
    refine sg_aload_n (pc := 1844) (j := 0) dL_law_1844 rfl rfl ?_
    refine sg_iload (pc := 1845) dL_law_1845 rfl ?_
    refine sg_iconst (pc := 1847) (z := 3) dL_law_1847 (by decide) ?_
    first | refine sg_iaddB (pc := 1848) dL_law_1848 (by omega) (by omega) ?_ | refine sg_iadd (pc := 1848) dL_law_1848 ?_
    refine sg_iald (pc := 1849) dL_law_1849 I1.2.2.2.2.2.2.2.2.2 rfl (by omega) (jk_x (by omega) (by omega)) ?_
    try rw [e1]
    try rw [e2]
    try rw [e3]
    try rw [e4]
    try rw [e5]
    refine sg_if_eq (pc := 1850) (tgt := 1857) dL_law_1850 (by decide) (fun c1850 => ?_) (fun c1850 => absurd c1817 c1850)
    refine sg_iconst (pc := 1857) (z := 0) dL_law_1857 (by decide) ?_
    refine st_as (fun H r => jk_tgR (B := B) r) ?_
    have m2 := jk_Im I1
    have ab0 := jk_Jt jJ I1 X1
    refine sg_cE3 (pc := 1858) (d' := d - 1) (mc' := 48) (ms' := 180) 8 g dL_law_1858 cb_X7_word ml_L_323 mn_X7_word rfl mv_X7_word (Nat.le_of_ble_eq_true rfl) (md_oc m2) (Nat.le_of_ble_eq_true rfl) (by first | exact jl_d0 hd rfl | omega) (by first | exact Nat.le_of_ble_eq_true rfl | omega) (by first | exact Nat.le_of_ble_eq_true rfl | omega) ?_
    refine s_X7_word g (by first | exact jl_d1 hd rfl | omega) m2 (fun v2 h2  y2 => sg_K1 ?_)
    refine st_as (fun H r => jk_unR I1.1 r) ?_
    have J2 : jk_J w B M O S xs (jk_unt B h2) A := jk_JM I1 (md_YW y2) (cf_XF jJ.2.1 F1) (y2.2.2.trans ab0) jJ.2.2.2
    have y2 := md_YW y2
    have I2 := J2.1
    refine sg_istore (pc := 1861) dL_law_1861 (by decide) ?_
    refine sg_goto (pc := 1863) (tgt := 2472) dL_law_1863 (by decide) ?_
    refine sg_lsub (lv' := [(0, _), (1, _), (2, _), (3, _), (4, _)]) ⟨rfl, rfl, rfl, rfl, rfl, trivial⟩ ?_
    exact K _ _ _ _ J2 (by omega) (by omega)
  · refine sg_iconst (pc := 1820) (z := 1) dL_law_1820 (by decide) ?_
    refine sg_goto (pc := 1821) (tgt := 1825) dL_law_1821 (by decide) ?_
    refine sg_aload_n (pc := 1825) (j := 3) dL_law_1825 rfl rfl ?_
    obtain ⟨L, hL⟩ : ∃ X, fa_L A p1.toNat = X := ⟨_, rfl⟩
    refine st_cS5 (pc := 1826) (d' := d - 1) (mc' := 8) (ms' := 48) g dL_law_1826 cb_L_word cw_L_word ml_L_321 ms_L_word (Nat.le_of_ble_eq_true rfl) (by first | exact jl_d0 hd rfl | omega) (by first | exact Nat.le_of_ble_eq_true rfl | omega) (by first | exact Nat.le_of_ble_eq_true rfl | omega) ?_
    refine f_L_word g nc (by omega) jJ.1 jJ.2.1 jJ.2.2.2 hL (fun v1 h1 I1 X1 k0 k1 F1 r1 => sg_K1 ?_)
    refine sg_istore (pc := 1829) dL_law_1829 (by decide) ?_
    refine sg_aload_n (pc := 1831) (j := 2) dL_law_1831 rfl rfl ?_
    refine sg_aload_n (pc := 1832) (j := 0) dL_law_1832 rfl rfl ?_
    refine sg_iload (pc := 1833) dL_law_1833 rfl ?_
    refine sg_iconst (pc := 1835) (z := 1) dL_law_1835 (by decide) ?_
    first | refine sg_iaddB (pc := 1836) dL_law_1836 (by omega) (by omega) ?_ | refine sg_iadd (pc := 1836) dL_law_1836 ?_
    refine sg_iald (pc := 1837) dL_law_1837 I1.2.2.2.2.2.2.2.2.2 rfl (by omega) (jk_x (by omega) (by omega)) ?_
    try rw [e1]
    try rw [e2]
    try rw [e3]
    try rw [e4]
    try rw [e5]
    refine sg_aload_n (pc := 1838) (j := 0) dL_law_1838 rfl rfl ?_
    refine sg_iload (pc := 1839) dL_law_1839 rfl ?_
    refine sg_iconst (pc := 1841) (z := 2) dL_law_1841 (by decide) ?_
    first | refine sg_iaddB (pc := 1842) dL_law_1842 (by omega) (by omega) ?_ | refine sg_iadd (pc := 1842) dL_law_1842 ?_
    refine sg_iald (pc := 1843) dL_law_1843 I1.2.2.2.2.2.2.2.2.2 rfl (by omega) (jk_x (by omega) (by omega)) ?_
    try rw [e1]
    try rw [e2]
    try rw [e3]
    try rw [e4]
    try rw [e5]
    refine sg_aload_n (pc := 1844) (j := 0) dL_law_1844 rfl rfl ?_
    refine sg_iload (pc := 1845) dL_law_1845 rfl ?_
    refine sg_iconst (pc := 1847) (z := 3) dL_law_1847 (by decide) ?_
    first | refine sg_iaddB (pc := 1848) dL_law_1848 (by omega) (by omega) ?_ | refine sg_iadd (pc := 1848) dL_law_1848 ?_
    refine sg_iald (pc := 1849) dL_law_1849 I1.2.2.2.2.2.2.2.2.2 rfl (by omega) (jk_x (by omega) (by omega)) ?_
    try rw [e1]
    try rw [e2]
    try rw [e3]
    try rw [e4]
    try rw [e5]
    refine sg_if_eq (pc := 1850) (tgt := 1857) dL_law_1850 (by decide) (fun c1850 => absurd c1850 c1817) (fun c1850 => ?_)
    refine sg_iconst (pc := 1853) (z := 1) dL_law_1853 (by decide) ?_
    refine sg_goto (pc := 1854) (tgt := 1858) dL_law_1854 (by decide) ?_
    refine st_as (fun H r => jk_tgR (B := B) r) ?_
    have m2 := jk_Im I1
    have ab0 := jk_Jt jJ I1 X1
    refine sg_cE3 (pc := 1858) (d' := d - 1) (mc' := 48) (ms' := 180) 8 g dL_law_1858 cb_X7_word ml_L_323 mn_X7_word rfl mv_X7_word (Nat.le_of_ble_eq_true rfl) (md_oc m2) (Nat.le_of_ble_eq_true rfl) (by first | exact jl_d0 hd rfl | omega) (by first | exact Nat.le_of_ble_eq_true rfl | omega) (by first | exact Nat.le_of_ble_eq_true rfl | omega) ?_
    refine s_X7_word g (by first | exact jl_d1 hd rfl | omega) m2 (fun v2 h2  y2 => sg_K1 ?_)
    refine st_as (fun H r => jk_unR I1.1 r) ?_
    have J2 : jk_J w B M O S xs (jk_unt B h2) A := jk_JM I1 (md_YW y2) (cf_XF jJ.2.1 F1) (y2.2.2.trans ab0) jJ.2.2.2
    have y2 := md_YW y2
    have I2 := J2.1
    refine sg_istore (pc := 1861) dL_law_1861 (by decide) ?_
    refine sg_goto (pc := 1863) (tgt := 2472) dL_law_1863 (by decide) ?_
    refine sg_lsub (lv' := [(0, _), (1, _), (2, _), (3, _), (4, _)]) ⟨rfl, rfl, rfl, rfl, rfl, trivial⟩ ?_
    exact K _ _ _ _ J2 (by omega) (by omega)

set_option maxRecDepth 100000 in
set_option maxHeartbeats 1000000 in
theorem lw_c41 {w : sg_W} {Q : sg_O → sg_H → Prop} {h : sg_H} (g : sg_G w) (nc : jk_C w) (hJ : jz w) {d mc ms : Nat} (hd : 30 ≤ d) {B M O S j k n : Nat} {xs : List Int} {A : fa_A} (jJ : jk_J w B M O S xs h A) (hj : 6 * j + 6 ≤ xs.length) (hl : xs.length ≤ 3072) (hk : k + 1030 ≤ mc) (hn : n + (48 + 0) ≤ ms) (K : ∀ (h' : sg_H) (k' n' : Nat) (A' : fa_A), jk_J w B M O S xs h' A' → k' ≤ k + 1030 → n' ≤ n + (48 + 0) → sg_R w mi_L_law d mc ms Q 2472 [(0, sg_r S), (1, sg_r B), (2, sg_r M), (3, sg_r O), (4, sg_i (6 * (j : Int)))] [] h' k' n') : sg_R w mi_L_law d mc ms Q 1866 [(0, sg_r S), (1, sg_r B), (2, sg_r M), (3, sg_r O), (4, sg_i (6 * (j : Int)))] [] h k n := by
  obtain ⟨p1, e1⟩ : ∃ p, xs.getD (6 * (j : Int) + 1).toNat 0 = p := ⟨_, rfl⟩
  obtain ⟨p2, e2⟩ : ∃ p, xs.getD (6 * (j : Int) + 2).toNat 0 = p := ⟨_, rfl⟩
  obtain ⟨p3, e3⟩ : ∃ p, xs.getD (6 * (j : Int) + 3).toNat 0 = p := ⟨_, rfl⟩
  obtain ⟨p4, e4⟩ : ∃ p, xs.getD (6 * (j : Int) + 4).toNat 0 = p := ⟨_, rfl⟩
  obtain ⟨p5, e5⟩ : ∃ p, xs.getD (6 * (j : Int) + 5).toNat 0 = p := ⟨_, rfl⟩
  refine sg_aload_n (pc := 1866) (j := 1) dL_law_1866 rfl rfl ?_
  refine sg_aload_n (pc := 1867) (j := 0) dL_law_1867 rfl rfl ?_
  refine sg_iload (pc := 1868) dL_law_1868 rfl ?_
  refine sg_iconst (pc := 1870) (z := 1) dL_law_1870 (by decide) ?_
  first | refine sg_iaddB (pc := 1871) dL_law_1871 (by omega) (by omega) ?_ | refine sg_iadd (pc := 1871) dL_law_1871 ?_
  refine sg_iald (pc := 1872) dL_law_1872 jJ.1.2.2.2.2.2.2.2.2.2 rfl (by omega) (jk_x (by omega) (by omega)) ?_
  try rw [e1]
  try rw [e2]
  try rw [e3]
  try rw [e4]
  try rw [e5]
  refine sg_aload_n (pc := 1873) (j := 0) dL_law_1873 rfl rfl ?_
  refine sg_iload (pc := 1874) dL_law_1874 rfl ?_
  refine sg_iconst (pc := 1876) (z := 2) dL_law_1876 (by decide) ?_
  first | refine sg_iaddB (pc := 1877) dL_law_1877 (by omega) (by omega) ?_ | refine sg_iadd (pc := 1877) dL_law_1877 ?_
  refine sg_iald (pc := 1878) dL_law_1878 jJ.1.2.2.2.2.2.2.2.2.2 rfl (by omega) (jk_x (by omega) (by omega)) ?_
  try rw [e1]
  try rw [e2]
  try rw [e3]
  try rw [e4]
  try rw [e5]
  refine sg_aload_n (pc := 1879) (j := 3) dL_law_1879 rfl rfl ?_
  obtain ⟨L, hL⟩ : ∃ X, fa_L A p1.toNat = X := ⟨_, rfl⟩
  obtain ⟨Z, hZ⟩ : ∃ X, fa_L A p2.toNat = X := ⟨_, rfl⟩
  refine st_cS4 (pc := 1880) (d' := d - 1) (mc' := 8) (ms' := 48) g dL_law_1880 cb_L_isAlike cw_L_isAlike ml_L_324 ms_L_isAlike (Nat.le_of_ble_eq_true rfl) (by first | exact jl_d0 hd rfl | omega) (by first | exact Nat.le_of_ble_eq_true rfl | omega) (by first | exact Nat.le_of_ble_eq_true rfl | omega) ?_
  refine f_L_isAlike g nc (by omega) jJ.1 jJ.2.1 jJ.2.2.2 hL hZ (fun v1 h1 I1 X1 k0 k1 F1 r1 => sg_K1 ?_)
  refine sg_istore (pc := 1883) dL_law_1883 (by decide) ?_
  refine sg_aload_n (pc := 1885) (j := 2) dL_law_1885 rfl rfl ?_
  refine sg_aload_n (pc := 1886) (j := 0) dL_law_1886 rfl rfl ?_
  refine sg_iload (pc := 1887) dL_law_1887 rfl ?_
  refine sg_iconst (pc := 1889) (z := 1) dL_law_1889 (by decide) ?_
  first | refine sg_iaddB (pc := 1890) dL_law_1890 (by omega) (by omega) ?_ | refine sg_iadd (pc := 1890) dL_law_1890 ?_
  refine sg_iald (pc := 1891) dL_law_1891 I1.2.2.2.2.2.2.2.2.2 rfl (by omega) (jk_x (by omega) (by omega)) ?_
  try rw [e1]
  try rw [e2]
  try rw [e3]
  try rw [e4]
  try rw [e5]
  refine sg_aload_n (pc := 1892) (j := 0) dL_law_1892 rfl rfl ?_
  refine sg_iload (pc := 1893) dL_law_1893 rfl ?_
  refine sg_iconst (pc := 1895) (z := 2) dL_law_1895 (by decide) ?_
  first | refine sg_iaddB (pc := 1896) dL_law_1896 (by omega) (by omega) ?_ | refine sg_iadd (pc := 1896) dL_law_1896 ?_
  refine sg_iald (pc := 1897) dL_law_1897 I1.2.2.2.2.2.2.2.2.2 rfl (by omega) (jk_x (by omega) (by omega)) ?_
  try rw [e1]
  try rw [e2]
  try rw [e3]
  try rw [e4]
  try rw [e5]
  refine st_as (fun H r => jk_tgR (B := B) r) ?_
  have m2 := jk_Im I1
  have ab0 := jk_Jt jJ I1 X1
  refine sg_cE2 (pc := 1898) (d' := d - 1) (mc' := 0) (ms' := 0) 8 g dL_law_1898 cb_X7_isAlike ml_L_326 mn_X7_isAlike rfl mv_X7_isAlike (Nat.le_of_ble_eq_true rfl) (md_oc m2) (Nat.le_of_ble_eq_true rfl) (by first | exact jl_d0 hd rfl | omega) (by first | exact Nat.le_of_ble_eq_true rfl | omega) (by first | exact Nat.le_of_ble_eq_true rfl | omega) ?_
  refine f_X7_isAlike g (by first | exact jl_d1 hd rfl | omega) ab0 hL hZ m2 (fun v2 h2 t0 t1 q2 y2 => sg_K1 ?_)
  refine st_as (fun H r => jk_unR I1.1 r) ?_
  have J2 : jk_J w B M O S xs (jk_unt B h2) A := jk_JM I1 (md_YW y2) (cf_XF jJ.2.1 F1) (y2.2.2.trans ab0) jJ.2.2.2
  have y2 := md_YW y2
  have ek : md_t h2 M = v1 := (Classical.byCases (fun q1 => (t0 q1).trans (show v1 = 1 from k0 q1).symm) (fun q1 => (t1 q1).trans (show v1 = 0 from k1 q1).symm))
  clear k0 t0 k1 t1
  have I2 := J2.1
  have eo := jk_oM I1 y2
  refine sg_istore (pc := 1901) dL_law_1901 (by decide) ?_
  refine sg_aload_n (pc := 1903) (j := 2) dL_law_1903 rfl rfl ?_
  obtain ⟨tv, eT⟩ := jk_th I2
  refine sg_cE0 (pc := 1904) (d' := d - 1) (mc' := 0) (ms' := 0) 8 g dL_law_1904 cb_X7_thrown ml_L_327 mn_X7_thrown rfl mv_X7_thrown (Nat.le_of_ble_eq_true rfl) ⟨_, eT⟩ (Nat.le_of_ble_eq_true rfl) (by first | exact jl_d0 hd rfl | omega) (by first | exact Nat.le_of_ble_eq_true rfl | omega) (by first | exact Nat.le_of_ble_eq_true rfl | omega) ?_
  refine s_X7_thrown g (by first | exact jl_d1 hd rfl | omega) eT (sg_K1 ?_)
  refine sg_iload (pc := 1907) dL_law_1907 rfl ?_
  refine sg_icmp_eq (pc := 1909) (tgt := 1914) dL_law_1909 (by decide) (fun ct => ?_) (fun ct => absurd ?_ ct)
  · refine sg_iload (pc := 1914) dL_law_1914 rfl ?_
    refine sg_if_ne (pc := 1916) (tgt := 1939) dL_law_1916 (by decide) (fun c1916 => ?_) (fun c1916 => ?_)
    · refine sg_goto (pc := 1939) (tgt := 2472) dL_law_1939 (by decide) ?_
      refine sg_lsub (lv' := [(0, _), (1, _), (2, _), (3, _), (4, _)]) ⟨rfl, rfl, rfl, rfl, rfl, trivial⟩ ?_
      exact K _ _ _ _ J2 (by omega) (by omega)
    · refine sg_aload_n (pc := 1919) (j := 3) dL_law_1919 rfl rfl ?_
      obtain ⟨ro, eO⟩ := jk_oz I2
      refine sg_getN (pc := 1920) g dL_law_1920 fk_L_13 eO rfl rfl ?_
      refine sg_iload (pc := 1923) dL_law_1923 rfl ?_
      refine sg_if_eq (pc := 1925) (tgt := 1932) dL_law_1925 (by decide) (fun c1925 => ?_) (fun c1925 => ?_)
      · refine sg_lconst (pc := 1932) (z := 0) dL_law_1932 (by decide) ?_
        refine sg_lcmp (pc := 1933) dL_law_1933 (fun zc ec => ?_)
        refine sg_if_eq (pc := 1934) (tgt := 1939) dL_law_1934 (by decide) (fun cq => ?_) (fun cq => absurd (ec.mpr ?_) cq)
        · refine sg_goto (pc := 1939) (tgt := 2472) dL_law_1939 (by decide) ?_
          refine sg_lsub (lv' := [(0, _), (1, _), (2, _), (3, _), (4, _)]) ⟨rfl, rfl, rfl, rfl, rfl, trivial⟩ ?_
          exact K _ _ _ _ J2 (by omega) (by omega)
        · rw [eo]
          rcases r1 (by omega) with u | u <;> rcases q2 (by omega) with v | v <;> first | omega | exact absurd v.2 u.2 | exact absurd u.2 v.2
      · refine sg_lconst (pc := 1928) (z := 1) dL_law_1928 (by decide) ?_
        refine sg_goto (pc := 1929) (tgt := 1933) dL_law_1929 (by decide) ?_
        refine sg_lcmp (pc := 1933) dL_law_1933 (fun zc ec => ?_)
        refine sg_if_eq (pc := 1934) (tgt := 1939) dL_law_1934 (by decide) (fun cq => ?_) (fun cq => absurd (ec.mpr ?_) cq)
        · refine sg_goto (pc := 1939) (tgt := 2472) dL_law_1939 (by decide) ?_
          refine sg_lsub (lv' := [(0, _), (1, _), (2, _), (3, _), (4, _)]) ⟨rfl, rfl, rfl, rfl, rfl, trivial⟩ ?_
          exact K _ _ _ _ J2 (by omega) (by omega)
        · rw [eo]
          rcases r1 (by omega) with u | u <;> rcases q2 (by omega) with v | v <;> first | omega | exact absurd v.2 u.2 | exact absurd u.2 v.2
  · omega

set_option maxRecDepth 100000 in
set_option maxHeartbeats 1000000 in
theorem lw_c42 {w : sg_W} {Q : sg_O → sg_H → Prop} {h : sg_H} (g : sg_G w) (nc : jk_C w) (hJ : jz w) {d mc ms : Nat} (hd : 30 ≤ d) {B M O S j k n : Nat} {xs : List Int} {A : fa_A} (jJ : jk_J w B M O S xs h A) (hj : 6 * j + 6 ≤ xs.length) (hl : xs.length ≤ 3072) (hk : k + 1030 ≤ mc) (hn : n + (48 + 0) ≤ ms) (K : ∀ (h' : sg_H) (k' n' : Nat) (A' : fa_A), jk_J w B M O S xs h' A' → k' ≤ k + 1030 → n' ≤ n + (48 + 0) → sg_R w mi_L_law d mc ms Q 2472 [(0, sg_r S), (1, sg_r B), (2, sg_r M), (3, sg_r O), (4, sg_i (6 * (j : Int)))] [] h' k' n') : sg_R w mi_L_law d mc ms Q 1942 [(0, sg_r S), (1, sg_r B), (2, sg_r M), (3, sg_r O), (4, sg_i (6 * (j : Int)))] [] h k n := by
  obtain ⟨p1, e1⟩ : ∃ p, xs.getD (6 * (j : Int) + 1).toNat 0 = p := ⟨_, rfl⟩
  obtain ⟨p2, e2⟩ : ∃ p, xs.getD (6 * (j : Int) + 2).toNat 0 = p := ⟨_, rfl⟩
  obtain ⟨p3, e3⟩ : ∃ p, xs.getD (6 * (j : Int) + 3).toNat 0 = p := ⟨_, rfl⟩
  obtain ⟨p4, e4⟩ : ∃ p, xs.getD (6 * (j : Int) + 4).toNat 0 = p := ⟨_, rfl⟩
  obtain ⟨p5, e5⟩ : ∃ p, xs.getD (6 * (j : Int) + 5).toNat 0 = p := ⟨_, rfl⟩
  refine sg_aload_n (pc := 1942) (j := 1) dL_law_1942 rfl rfl ?_
  refine sg_aload_n (pc := 1943) (j := 0) dL_law_1943 rfl rfl ?_
  refine sg_iload (pc := 1944) dL_law_1944 rfl ?_
  refine sg_iconst (pc := 1946) (z := 1) dL_law_1946 (by decide) ?_
  first | refine sg_iaddB (pc := 1947) dL_law_1947 (by omega) (by omega) ?_ | refine sg_iadd (pc := 1947) dL_law_1947 ?_
  refine sg_iald (pc := 1948) dL_law_1948 jJ.1.2.2.2.2.2.2.2.2.2 rfl (by omega) (jk_x (by omega) (by omega)) ?_
  try rw [e1]
  try rw [e2]
  try rw [e3]
  try rw [e4]
  try rw [e5]
  refine sg_aload_n (pc := 1949) (j := 0) dL_law_1949 rfl rfl ?_
  refine sg_iload (pc := 1950) dL_law_1950 rfl ?_
  refine sg_iconst (pc := 1952) (z := 2) dL_law_1952 (by decide) ?_
  first | refine sg_iaddB (pc := 1953) dL_law_1953 (by omega) (by omega) ?_ | refine sg_iadd (pc := 1953) dL_law_1953 ?_
  refine sg_iald (pc := 1954) dL_law_1954 jJ.1.2.2.2.2.2.2.2.2.2 rfl (by omega) (jk_x (by omega) (by omega)) ?_
  try rw [e1]
  try rw [e2]
  try rw [e3]
  try rw [e4]
  try rw [e5]
  refine sg_aload_n (pc := 1955) (j := 3) dL_law_1955 rfl rfl ?_
  obtain ⟨L, hL⟩ : ∃ X, fa_L A p1.toNat = X := ⟨_, rfl⟩
  obtain ⟨Z, hZ⟩ : ∃ X, fa_L A p2.toNat = X := ⟨_, rfl⟩
  refine st_cS4 (pc := 1956) (d' := d - 1) (mc' := 8) (ms' := 48) g dL_law_1956 cb_L_order cw_L_order ml_L_330 ms_L_order (Nat.le_of_ble_eq_true rfl) (by first | exact jl_d0 hd rfl | omega) (by first | exact Nat.le_of_ble_eq_true rfl | omega) (by first | exact Nat.le_of_ble_eq_true rfl | omega) ?_
  refine f_L_order g nc (by omega) jJ.1 jJ.2.1 jJ.2.2.2 hL hZ (fun v1 h1 I1 X1 k0 k1 F1 r1 => sg_K1 ?_)
  refine sg_istore (pc := 1959) dL_law_1959 (by decide) ?_
  refine sg_aload_n (pc := 1961) (j := 2) dL_law_1961 rfl rfl ?_
  refine sg_aload_n (pc := 1962) (j := 0) dL_law_1962 rfl rfl ?_
  refine sg_iload (pc := 1963) dL_law_1963 rfl ?_
  refine sg_iconst (pc := 1965) (z := 1) dL_law_1965 (by decide) ?_
  first | refine sg_iaddB (pc := 1966) dL_law_1966 (by omega) (by omega) ?_ | refine sg_iadd (pc := 1966) dL_law_1966 ?_
  refine sg_iald (pc := 1967) dL_law_1967 I1.2.2.2.2.2.2.2.2.2 rfl (by omega) (jk_x (by omega) (by omega)) ?_
  try rw [e1]
  try rw [e2]
  try rw [e3]
  try rw [e4]
  try rw [e5]
  refine sg_aload_n (pc := 1968) (j := 0) dL_law_1968 rfl rfl ?_
  refine sg_iload (pc := 1969) dL_law_1969 rfl ?_
  refine sg_iconst (pc := 1971) (z := 2) dL_law_1971 (by decide) ?_
  first | refine sg_iaddB (pc := 1972) dL_law_1972 (by omega) (by omega) ?_ | refine sg_iadd (pc := 1972) dL_law_1972 ?_
  refine sg_iald (pc := 1973) dL_law_1973 I1.2.2.2.2.2.2.2.2.2 rfl (by omega) (jk_x (by omega) (by omega)) ?_
  try rw [e1]
  try rw [e2]
  try rw [e3]
  try rw [e4]
  try rw [e5]
  refine st_as (fun H r => jk_tgR (B := B) r) ?_
  have m2 := jk_Im I1
  have ab0 := jk_Jt jJ I1 X1
  refine sg_cE2 (pc := 1974) (d' := d - 1) (mc' := 0) (ms' := 0) 8 g dL_law_1974 cb_X7_order ml_L_332 mn_X7_order rfl mv_X7_order (Nat.le_of_ble_eq_true rfl) (md_oc m2) (Nat.le_of_ble_eq_true rfl) (by first | exact jl_d0 hd rfl | omega) (by first | exact Nat.le_of_ble_eq_true rfl | omega) (by first | exact Nat.le_of_ble_eq_true rfl | omega) ?_
  refine s_X7_order g (by first | exact jl_d1 hd rfl | omega) m2 (fun v2 h2  y2 => sg_K1 ?_)
  refine st_as (fun H r => jk_unR I1.1 r) ?_
  have J2 : jk_J w B M O S xs (jk_unt B h2) A := jk_JM I1 (md_YW y2) (cf_XF jJ.2.1 F1) (y2.2.2.trans ab0) jJ.2.2.2
  have y2 := md_YW y2
  have I2 := J2.1
  refine sg_istore (pc := 1977) dL_law_1977 (by decide) ?_
  refine sg_goto (pc := 1979) (tgt := 2472) dL_law_1979 (by decide) ?_
  refine sg_lsub (lv' := [(0, _), (1, _), (2, _), (3, _), (4, _)]) ⟨rfl, rfl, rfl, rfl, rfl, trivial⟩ ?_
  exact K _ _ _ _ J2 (by omega) (by omega)

set_option maxRecDepth 100000 in
set_option maxHeartbeats 1000000 in
theorem lw_c43 {w : sg_W} {Q : sg_O → sg_H → Prop} {h : sg_H} (g : sg_G w) (nc : jk_C w) (hJ : jz w) {d mc ms : Nat} (hd : 30 ≤ d) {B M O S j k n : Nat} {xs : List Int} {A : fa_A} (jJ : jk_J w B M O S xs h A) (hj : 6 * j + 6 ≤ xs.length) (hl : xs.length ≤ 3072) (hk : k + 1030 ≤ mc) (hn : n + (0 + 0) ≤ ms) (K : ∀ (h' : sg_H) (k' n' : Nat) (A' : fa_A), jk_J w B M O S xs h' A' → k' ≤ k + 1030 → n' ≤ n + (0 + 0) → sg_R w mi_L_law d mc ms Q 2472 [(0, sg_r S), (1, sg_r B), (2, sg_r M), (3, sg_r O), (4, sg_i (6 * (j : Int)))] [] h' k' n') : sg_R w mi_L_law d mc ms Q 1982 [(0, sg_r S), (1, sg_r B), (2, sg_r M), (3, sg_r O), (4, sg_i (6 * (j : Int)))] [] h k n := by
  obtain ⟨p1, e1⟩ : ∃ p, xs.getD (6 * (j : Int) + 1).toNat 0 = p := ⟨_, rfl⟩
  obtain ⟨p2, e2⟩ : ∃ p, xs.getD (6 * (j : Int) + 2).toNat 0 = p := ⟨_, rfl⟩
  obtain ⟨p3, e3⟩ : ∃ p, xs.getD (6 * (j : Int) + 3).toNat 0 = p := ⟨_, rfl⟩
  obtain ⟨p4, e4⟩ : ∃ p, xs.getD (6 * (j : Int) + 4).toNat 0 = p := ⟨_, rfl⟩
  obtain ⟨p5, e5⟩ : ∃ p, xs.getD (6 * (j : Int) + 5).toNat 0 = p := ⟨_, rfl⟩
  refine sg_aload_n (pc := 1982) (j := 1) dL_law_1982 rfl rfl ?_
  refine sg_aload_n (pc := 1983) (j := 0) dL_law_1983 rfl rfl ?_
  refine sg_iload (pc := 1984) dL_law_1984 rfl ?_
  refine sg_iconst (pc := 1986) (z := 1) dL_law_1986 (by decide) ?_
  first | refine sg_iaddB (pc := 1987) dL_law_1987 (by omega) (by omega) ?_ | refine sg_iadd (pc := 1987) dL_law_1987 ?_
  refine sg_iald (pc := 1988) dL_law_1988 jJ.1.2.2.2.2.2.2.2.2.2 rfl (by omega) (jk_x (by omega) (by omega)) ?_
  try rw [e1]
  try rw [e2]
  try rw [e3]
  try rw [e4]
  try rw [e5]
  refine sg_cE1 (pc := 1989) (d' := d - 1) (mc' := 0) (ms' := 0) 6 g dL_law_1989 cb_X5_isCode ml_L_333 mn_X5_isCode rfl mv_X5_isCode (Nat.le_of_ble_eq_true rfl) (ck_oc jJ.1.2.2.1) (Nat.le_of_ble_eq_true rfl) (by first | exact jl_d0 hd rfl | omega) (by first | exact Nat.le_of_ble_eq_true rfl | omega) (by first | exact Nat.le_of_ble_eq_true rfl | omega) ?_
  refine s_X5_isCode (B := B) g (by first | exact jl_d1 hd rfl | omega) (fun v1 c1 => sg_K1 ?_)
  have I1 := jJ.1
  have X1 : jk_X (jk_cut B h) (jk_cut B h) := jk_X0
  have F1 : jk_F B h h := jk_F0
  refine sg_pop (pc := 1992) dL_law_1992 rfl ?_
  refine sg_aload_n (pc := 1993) (j := 2) dL_law_1993 rfl rfl ?_
  refine sg_aload_n (pc := 1994) (j := 0) dL_law_1994 rfl rfl ?_
  refine sg_iload (pc := 1995) dL_law_1995 rfl ?_
  refine sg_iconst (pc := 1997) (z := 1) dL_law_1997 (by decide) ?_
  first | refine sg_iaddB (pc := 1998) dL_law_1998 (by omega) (by omega) ?_ | refine sg_iadd (pc := 1998) dL_law_1998 ?_
  refine sg_iald (pc := 1999) dL_law_1999 I1.2.2.2.2.2.2.2.2.2 rfl (by omega) (jk_x (by omega) (by omega)) ?_
  try rw [e1]
  try rw [e2]
  try rw [e3]
  try rw [e4]
  try rw [e5]
  refine st_as (fun H r => jk_tgR (B := B) r) ?_
  have m2 := jk_Im I1
  have ab0 := jk_Jt jJ I1 X1
  refine sg_cE1 (pc := 2000) (d' := d - 1) (mc' := 0) (ms' := 0) 8 g dL_law_2000 cb_X7_isCode ml_L_336 mn_X7_isCode rfl mv_X7_isCode (Nat.le_of_ble_eq_true rfl) (md_oc m2) (Nat.le_of_ble_eq_true rfl) (by first | exact jl_d0 hd rfl | omega) (by first | exact Nat.le_of_ble_eq_true rfl | omega) (by first | exact Nat.le_of_ble_eq_true rfl | omega) ?_
  refine s_X7_isCode g (by first | exact jl_d1 hd rfl | omega) m2 (fun v2 h2 c2_0 c2_1 y2 => sg_K1 ?_)
  refine st_as (fun H r => jk_unR I1.1 r) ?_
  have J2 : jk_J w B M O S xs (jk_unt B h2) A := jk_JM I1 (md_YW y2) (cf_XF jJ.2.1 F1) (y2.2.2.trans ab0) jJ.2.2.2
  have y2 := md_YW y2
  have I2 := J2.1
  refine sg_pop (pc := 2003) dL_law_2003 rfl ?_
  refine sg_goto (pc := 2004) (tgt := 2472) dL_law_2004 (by decide) ?_
  refine sg_lsub (lv' := [(0, _), (1, _), (2, _), (3, _), (4, _)]) ⟨rfl, rfl, rfl, rfl, rfl, trivial⟩ ?_
  exact K _ _ _ _ J2 (by omega) (by omega)

set_option maxRecDepth 100000 in
set_option maxHeartbeats 1000000 in
theorem lw_c44 {w : sg_W} {Q : sg_O → sg_H → Prop} {h : sg_H} (g : sg_G w) (nc : jk_C w) (hJ : jz w) {d mc ms : Nat} (hd : 30 ≤ d) {B M O S j k n : Nat} {xs : List Int} {A : fa_A} (jJ : jk_J w B M O S xs h A) (hj : 6 * j + 6 ≤ xs.length) (hl : xs.length ≤ 3072) (hk : k + 1030 ≤ mc) (hn : n + (0 + 0) ≤ ms) (K : ∀ (h' : sg_H) (k' n' : Nat) (A' : fa_A), jk_J w B M O S xs h' A' → k' ≤ k + 1030 → n' ≤ n + (0 + 0) → sg_R w mi_L_law d mc ms Q 2472 [(0, sg_r S), (1, sg_r B), (2, sg_r M), (3, sg_r O), (4, sg_i (6 * (j : Int)))] [] h' k' n') : sg_R w mi_L_law d mc ms Q 2007 [(0, sg_r S), (1, sg_r B), (2, sg_r M), (3, sg_r O), (4, sg_i (6 * (j : Int)))] [] h k n := by
  obtain ⟨p1, e1⟩ : ∃ p, xs.getD (6 * (j : Int) + 1).toNat 0 = p := ⟨_, rfl⟩
  obtain ⟨p2, e2⟩ : ∃ p, xs.getD (6 * (j : Int) + 2).toNat 0 = p := ⟨_, rfl⟩
  obtain ⟨p3, e3⟩ : ∃ p, xs.getD (6 * (j : Int) + 3).toNat 0 = p := ⟨_, rfl⟩
  obtain ⟨p4, e4⟩ : ∃ p, xs.getD (6 * (j : Int) + 4).toNat 0 = p := ⟨_, rfl⟩
  obtain ⟨p5, e5⟩ : ∃ p, xs.getD (6 * (j : Int) + 5).toNat 0 = p := ⟨_, rfl⟩
  refine sg_aload_n (pc := 2007) (j := 1) dL_law_2007 rfl rfl ?_
  refine sg_aload_n (pc := 2008) (j := 0) dL_law_2008 rfl rfl ?_
  refine sg_iload (pc := 2009) dL_law_2009 rfl ?_
  refine sg_iconst (pc := 2011) (z := 1) dL_law_2011 (by decide) ?_
  first | refine sg_iaddB (pc := 2012) dL_law_2012 (by omega) (by omega) ?_ | refine sg_iadd (pc := 2012) dL_law_2012 ?_
  refine sg_iald (pc := 2013) dL_law_2013 jJ.1.2.2.2.2.2.2.2.2.2 rfl (by omega) (jk_x (by omega) (by omega)) ?_
  try rw [e1]
  try rw [e2]
  try rw [e3]
  try rw [e4]
  try rw [e5]
  refine sg_cE1 (pc := 2014) (d' := d - 1) (mc' := 0) (ms' := 0) 6 g dL_law_2014 cb_X5_isPlain ml_L_337 mn_X5_isPlain rfl mv_X5_isPlain (Nat.le_of_ble_eq_true rfl) (ck_oc jJ.1.2.2.1) (Nat.le_of_ble_eq_true rfl) (by first | exact jl_d0 hd rfl | omega) (by first | exact Nat.le_of_ble_eq_true rfl | omega) (by first | exact Nat.le_of_ble_eq_true rfl | omega) ?_
  refine s_X5_isPlain (B := B) g (by first | exact jl_d1 hd rfl | omega) (fun v1 c1 => sg_K1 ?_)
  have I1 := jJ.1
  have X1 : jk_X (jk_cut B h) (jk_cut B h) := jk_X0
  have F1 : jk_F B h h := jk_F0
  refine sg_pop (pc := 2017) dL_law_2017 rfl ?_
  refine sg_aload_n (pc := 2018) (j := 2) dL_law_2018 rfl rfl ?_
  refine sg_aload_n (pc := 2019) (j := 0) dL_law_2019 rfl rfl ?_
  refine sg_iload (pc := 2020) dL_law_2020 rfl ?_
  refine sg_iconst (pc := 2022) (z := 1) dL_law_2022 (by decide) ?_
  first | refine sg_iaddB (pc := 2023) dL_law_2023 (by omega) (by omega) ?_ | refine sg_iadd (pc := 2023) dL_law_2023 ?_
  refine sg_iald (pc := 2024) dL_law_2024 I1.2.2.2.2.2.2.2.2.2 rfl (by omega) (jk_x (by omega) (by omega)) ?_
  try rw [e1]
  try rw [e2]
  try rw [e3]
  try rw [e4]
  try rw [e5]
  refine st_as (fun H r => jk_tgR (B := B) r) ?_
  have m2 := jk_Im I1
  have ab0 := jk_Jt jJ I1 X1
  refine sg_cE1 (pc := 2025) (d' := d - 1) (mc' := 0) (ms' := 0) 8 g dL_law_2025 cb_X7_isPlain ml_L_340 mn_X7_isPlain rfl mv_X7_isPlain (Nat.le_of_ble_eq_true rfl) (md_oc m2) (Nat.le_of_ble_eq_true rfl) (by first | exact jl_d0 hd rfl | omega) (by first | exact Nat.le_of_ble_eq_true rfl | omega) (by first | exact Nat.le_of_ble_eq_true rfl | omega) ?_
  refine s_X7_isPlain g (by first | exact jl_d1 hd rfl | omega) m2 (fun v2 h2 c2_0 c2_1 y2 => sg_K1 ?_)
  refine st_as (fun H r => jk_unR I1.1 r) ?_
  have J2 : jk_J w B M O S xs (jk_unt B h2) A := jk_JM I1 (md_YW y2) (cf_XF jJ.2.1 F1) (y2.2.2.trans ab0) jJ.2.2.2
  have y2 := md_YW y2
  have I2 := J2.1
  refine sg_pop (pc := 2028) dL_law_2028 rfl ?_
  refine sg_goto (pc := 2029) (tgt := 2472) dL_law_2029 (by decide) ?_
  refine sg_lsub (lv' := [(0, _), (1, _), (2, _), (3, _), (4, _)]) ⟨rfl, rfl, rfl, rfl, rfl, trivial⟩ ?_
  exact K _ _ _ _ J2 (by omega) (by omega)

set_option maxRecDepth 100000 in
set_option maxHeartbeats 1000000 in
theorem lw_c45 {w : sg_W} {Q : sg_O → sg_H → Prop} {h : sg_H} (g : sg_G w) (nc : jk_C w) (hJ : jz w) {d mc ms : Nat} (hd : 30 ≤ d) {B M O S j k n : Nat} {xs : List Int} {A : fa_A} (jJ : jk_J w B M O S xs h A) (hj : 6 * j + 6 ≤ xs.length) (hl : xs.length ≤ 3072) (hk : k + 1030 ≤ mc) (hn : n + (0 + 0) ≤ ms) (K : ∀ (h' : sg_H) (k' n' : Nat) (A' : fa_A), jk_J w B M O S xs h' A' → k' ≤ k + 1030 → n' ≤ n + (0 + 0) → sg_R w mi_L_law d mc ms Q 2472 [(0, sg_r S), (1, sg_r B), (2, sg_r M), (3, sg_r O), (4, sg_i (6 * (j : Int)))] [] h' k' n') : sg_R w mi_L_law d mc ms Q 2032 [(0, sg_r S), (1, sg_r B), (2, sg_r M), (3, sg_r O), (4, sg_i (6 * (j : Int)))] [] h k n := by
  obtain ⟨p1, e1⟩ : ∃ p, xs.getD (6 * (j : Int) + 1).toNat 0 = p := ⟨_, rfl⟩
  obtain ⟨p2, e2⟩ : ∃ p, xs.getD (6 * (j : Int) + 2).toNat 0 = p := ⟨_, rfl⟩
  obtain ⟨p3, e3⟩ : ∃ p, xs.getD (6 * (j : Int) + 3).toNat 0 = p := ⟨_, rfl⟩
  obtain ⟨p4, e4⟩ : ∃ p, xs.getD (6 * (j : Int) + 4).toNat 0 = p := ⟨_, rfl⟩
  obtain ⟨p5, e5⟩ : ∃ p, xs.getD (6 * (j : Int) + 5).toNat 0 = p := ⟨_, rfl⟩
  refine sg_aload_n (pc := 2032) (j := 1) dL_law_2032 rfl rfl ?_
  refine sg_aload_n (pc := 2033) (j := 0) dL_law_2033 rfl rfl ?_
  refine sg_iload (pc := 2034) dL_law_2034 rfl ?_
  refine sg_iconst (pc := 2036) (z := 1) dL_law_2036 (by decide) ?_
  first | refine sg_iaddB (pc := 2037) dL_law_2037 (by omega) (by omega) ?_ | refine sg_iadd (pc := 2037) dL_law_2037 ?_
  refine sg_iald (pc := 2038) dL_law_2038 jJ.1.2.2.2.2.2.2.2.2.2 rfl (by omega) (jk_x (by omega) (by omega)) ?_
  try rw [e1]
  try rw [e2]
  try rw [e3]
  try rw [e4]
  try rw [e5]
  refine sg_cE1 (pc := 2039) (d' := d - 1) (mc' := 0) (ms' := 0) 6 g dL_law_2039 cb_X5_isWide ml_L_341 mn_X5_isWide rfl mv_X5_isWide (Nat.le_of_ble_eq_true rfl) (ck_oc jJ.1.2.2.1) (Nat.le_of_ble_eq_true rfl) (by first | exact jl_d0 hd rfl | omega) (by first | exact Nat.le_of_ble_eq_true rfl | omega) (by first | exact Nat.le_of_ble_eq_true rfl | omega) ?_
  refine s_X5_isWide (B := B) g (by first | exact jl_d1 hd rfl | omega) (fun v1 c1 => sg_K1 ?_)
  have I1 := jJ.1
  have X1 : jk_X (jk_cut B h) (jk_cut B h) := jk_X0
  have F1 : jk_F B h h := jk_F0
  refine sg_pop (pc := 2042) dL_law_2042 rfl ?_
  refine sg_aload_n (pc := 2043) (j := 2) dL_law_2043 rfl rfl ?_
  refine sg_aload_n (pc := 2044) (j := 0) dL_law_2044 rfl rfl ?_
  refine sg_iload (pc := 2045) dL_law_2045 rfl ?_
  refine sg_iconst (pc := 2047) (z := 1) dL_law_2047 (by decide) ?_
  first | refine sg_iaddB (pc := 2048) dL_law_2048 (by omega) (by omega) ?_ | refine sg_iadd (pc := 2048) dL_law_2048 ?_
  refine sg_iald (pc := 2049) dL_law_2049 I1.2.2.2.2.2.2.2.2.2 rfl (by omega) (jk_x (by omega) (by omega)) ?_
  try rw [e1]
  try rw [e2]
  try rw [e3]
  try rw [e4]
  try rw [e5]
  refine st_as (fun H r => jk_tgR (B := B) r) ?_
  have m2 := jk_Im I1
  have ab0 := jk_Jt jJ I1 X1
  refine sg_cE1 (pc := 2050) (d' := d - 1) (mc' := 0) (ms' := 0) 8 g dL_law_2050 cb_X7_isWide ml_L_344 mn_X7_isWide rfl mv_X7_isWide (Nat.le_of_ble_eq_true rfl) (md_oc m2) (Nat.le_of_ble_eq_true rfl) (by first | exact jl_d0 hd rfl | omega) (by first | exact Nat.le_of_ble_eq_true rfl | omega) (by first | exact Nat.le_of_ble_eq_true rfl | omega) ?_
  refine s_X7_isWide g (by first | exact jl_d1 hd rfl | omega) m2 (fun v2 h2 c2_0 c2_1 y2 => sg_K1 ?_)
  refine st_as (fun H r => jk_unR I1.1 r) ?_
  have J2 : jk_J w B M O S xs (jk_unt B h2) A := jk_JM I1 (md_YW y2) (cf_XF jJ.2.1 F1) (y2.2.2.trans ab0) jJ.2.2.2
  have y2 := md_YW y2
  have I2 := J2.1
  refine sg_pop (pc := 2053) dL_law_2053 rfl ?_
  refine sg_goto (pc := 2054) (tgt := 2472) dL_law_2054 (by decide) ?_
  refine sg_lsub (lv' := [(0, _), (1, _), (2, _), (3, _), (4, _)]) ⟨rfl, rfl, rfl, rfl, rfl, trivial⟩ ?_
  exact K _ _ _ _ J2 (by omega) (by omega)

set_option maxRecDepth 100000 in
set_option maxHeartbeats 1000000 in
theorem lw_c46 {w : sg_W} {Q : sg_O → sg_H → Prop} {h : sg_H} (g : sg_G w) (nc : jk_C w) (hJ : jz w) {d mc ms : Nat} (hd : 30 ≤ d) {B M O S j k n : Nat} {xs : List Int} {A : fa_A} (jJ : jk_J w B M O S xs h A) (hj : 6 * j + 6 ≤ xs.length) (hl : xs.length ≤ 3072) (hk : k + 1030 ≤ mc) (hn : n + (0 + 0) ≤ ms) (K : ∀ (h' : sg_H) (k' n' : Nat) (A' : fa_A), jk_J w B M O S xs h' A' → k' ≤ k + 1030 → n' ≤ n + (0 + 0) → sg_R w mi_L_law d mc ms Q 2472 [(0, sg_r S), (1, sg_r B), (2, sg_r M), (3, sg_r O), (4, sg_i (6 * (j : Int)))] [] h' k' n') : sg_R w mi_L_law d mc ms Q 2057 [(0, sg_r S), (1, sg_r B), (2, sg_r M), (3, sg_r O), (4, sg_i (6 * (j : Int)))] [] h k n := by
  obtain ⟨p1, e1⟩ : ∃ p, xs.getD (6 * (j : Int) + 1).toNat 0 = p := ⟨_, rfl⟩
  obtain ⟨p2, e2⟩ : ∃ p, xs.getD (6 * (j : Int) + 2).toNat 0 = p := ⟨_, rfl⟩
  obtain ⟨p3, e3⟩ : ∃ p, xs.getD (6 * (j : Int) + 3).toNat 0 = p := ⟨_, rfl⟩
  obtain ⟨p4, e4⟩ : ∃ p, xs.getD (6 * (j : Int) + 4).toNat 0 = p := ⟨_, rfl⟩
  obtain ⟨p5, e5⟩ : ∃ p, xs.getD (6 * (j : Int) + 5).toNat 0 = p := ⟨_, rfl⟩
  refine sg_aload_n (pc := 2057) (j := 1) dL_law_2057 rfl rfl ?_
  refine sg_aload_n (pc := 2058) (j := 0) dL_law_2058 rfl rfl ?_
  refine sg_iload (pc := 2059) dL_law_2059 rfl ?_
  refine sg_iconst (pc := 2061) (z := 1) dL_law_2061 (by decide) ?_
  first | refine sg_iaddB (pc := 2062) dL_law_2062 (by omega) (by omega) ?_ | refine sg_iadd (pc := 2062) dL_law_2062 ?_
  refine sg_iald (pc := 2063) dL_law_2063 jJ.1.2.2.2.2.2.2.2.2.2 rfl (by omega) (jk_x (by omega) (by omega)) ?_
  try rw [e1]
  try rw [e2]
  try rw [e3]
  try rw [e4]
  try rw [e5]
  refine sg_cE1 (pc := 2064) (d' := d - 1) (mc' := 0) (ms' := 0) 6 g dL_law_2064 cb_X5_units ml_L_345 mn_X5_units rfl mv_X5_units (Nat.le_of_ble_eq_true rfl) (ck_oc jJ.1.2.2.1) (Nat.le_of_ble_eq_true rfl) (by first | exact jl_d0 hd rfl | omega) (by first | exact Nat.le_of_ble_eq_true rfl | omega) (by first | exact Nat.le_of_ble_eq_true rfl | omega) ?_
  refine s_X5_units (B := B) g (by first | exact jl_d1 hd rfl | omega) (fun v1 c1 => sg_K1 ?_)
  have I1 := jJ.1
  have X1 : jk_X (jk_cut B h) (jk_cut B h) := jk_X0
  have F1 : jk_F B h h := jk_F0
  refine sg_pop (pc := 2067) dL_law_2067 rfl ?_
  refine sg_aload_n (pc := 2068) (j := 2) dL_law_2068 rfl rfl ?_
  refine sg_aload_n (pc := 2069) (j := 0) dL_law_2069 rfl rfl ?_
  refine sg_iload (pc := 2070) dL_law_2070 rfl ?_
  refine sg_iconst (pc := 2072) (z := 1) dL_law_2072 (by decide) ?_
  first | refine sg_iaddB (pc := 2073) dL_law_2073 (by omega) (by omega) ?_ | refine sg_iadd (pc := 2073) dL_law_2073 ?_
  refine sg_iald (pc := 2074) dL_law_2074 I1.2.2.2.2.2.2.2.2.2 rfl (by omega) (jk_x (by omega) (by omega)) ?_
  try rw [e1]
  try rw [e2]
  try rw [e3]
  try rw [e4]
  try rw [e5]
  refine st_as (fun H r => jk_tgR (B := B) r) ?_
  have m2 := jk_Im I1
  have ab0 := jk_Jt jJ I1 X1
  refine sg_cE1 (pc := 2075) (d' := d - 1) (mc' := 0) (ms' := 0) 8 g dL_law_2075 cb_X7_units ml_L_348 mn_X7_units rfl mv_X7_units (Nat.le_of_ble_eq_true rfl) (md_oc m2) (Nat.le_of_ble_eq_true rfl) (by first | exact jl_d0 hd rfl | omega) (by first | exact Nat.le_of_ble_eq_true rfl | omega) (by first | exact Nat.le_of_ble_eq_true rfl | omega) ?_
  refine s_X7_units g (by first | exact jl_d1 hd rfl | omega) m2 (fun v2 h2 c2_0 y2 => sg_K1 ?_)
  refine st_as (fun H r => jk_unR I1.1 r) ?_
  have J2 : jk_J w B M O S xs (jk_unt B h2) A := jk_JM I1 (md_YW y2) (cf_XF jJ.2.1 F1) (y2.2.2.trans ab0) jJ.2.2.2
  have y2 := md_YW y2
  have I2 := J2.1
  refine sg_pop (pc := 2078) dL_law_2078 rfl ?_
  refine sg_goto (pc := 2079) (tgt := 2472) dL_law_2079 (by decide) ?_
  refine sg_lsub (lv' := [(0, _), (1, _), (2, _), (3, _), (4, _)]) ⟨rfl, rfl, rfl, rfl, rfl, trivial⟩ ?_
  exact K _ _ _ _ J2 (by omega) (by omega)

set_option maxRecDepth 100000 in
set_option maxHeartbeats 1000000 in
theorem lw_c47 {w : sg_W} {Q : sg_O → sg_H → Prop} {h : sg_H} (g : sg_G w) (nc : jk_C w) (hJ : jz w) {d mc ms : Nat} (hd : 30 ≤ d) {B M O S j k n : Nat} {xs : List Int} {A : fa_A} (jJ : jk_J w B M O S xs h A) (hj : 6 * j + 6 ≤ xs.length) (hl : xs.length ≤ 3072) (hk : k + 1030 ≤ mc) (hn : n + (48 + 2) ≤ ms) (K : ∀ (h' : sg_H) (k' n' : Nat) (A' : fa_A), jk_J w B M O S xs h' A' → k' ≤ k + 1030 → n' ≤ n + (48 + 2) → sg_R w mi_L_law d mc ms Q 2472 [(0, sg_r S), (1, sg_r B), (2, sg_r M), (3, sg_r O), (4, sg_i (6 * (j : Int)))] [] h' k' n') : sg_R w mi_L_law d mc ms Q 2082 [(0, sg_r S), (1, sg_r B), (2, sg_r M), (3, sg_r O), (4, sg_i (6 * (j : Int)))] [] h k n := by
  obtain ⟨p1, e1⟩ : ∃ p, xs.getD (6 * (j : Int) + 1).toNat 0 = p := ⟨_, rfl⟩
  obtain ⟨p2, e2⟩ : ∃ p, xs.getD (6 * (j : Int) + 2).toNat 0 = p := ⟨_, rfl⟩
  obtain ⟨p3, e3⟩ : ∃ p, xs.getD (6 * (j : Int) + 3).toNat 0 = p := ⟨_, rfl⟩
  obtain ⟨p4, e4⟩ : ∃ p, xs.getD (6 * (j : Int) + 4).toNat 0 = p := ⟨_, rfl⟩
  obtain ⟨p5, e5⟩ : ∃ p, xs.getD (6 * (j : Int) + 5).toNat 0 = p := ⟨_, rfl⟩
  refine sg_aload_n (pc := 2082) (j := 1) dL_law_2082 rfl rfl ?_
  refine sg_aload_n (pc := 2083) (j := 0) dL_law_2083 rfl rfl ?_
  refine sg_iload (pc := 2084) dL_law_2084 rfl ?_
  refine sg_iconst (pc := 2086) (z := 1) dL_law_2086 (by decide) ?_
  first | refine sg_iaddB (pc := 2087) dL_law_2087 (by omega) (by omega) ?_ | refine sg_iadd (pc := 2087) dL_law_2087 ?_
  refine sg_iald (pc := 2088) dL_law_2088 jJ.1.2.2.2.2.2.2.2.2.2 rfl (by omega) (jk_x (by omega) (by omega)) ?_
  try rw [e1]
  try rw [e2]
  try rw [e3]
  try rw [e4]
  try rw [e5]
  refine sg_aload_n (pc := 2089) (j := 0) dL_law_2089 rfl rfl ?_
  refine sg_iload (pc := 2090) dL_law_2090 rfl ?_
  refine sg_iconst (pc := 2092) (z := 2) dL_law_2092 (by decide) ?_
  first | refine sg_iaddB (pc := 2093) dL_law_2093 (by omega) (by omega) ?_ | refine sg_iadd (pc := 2093) dL_law_2093 ?_
  refine sg_iald (pc := 2094) dL_law_2094 jJ.1.2.2.2.2.2.2.2.2.2 rfl (by omega) (jk_x (by omega) (by omega)) ?_
  try rw [e1]
  try rw [e2]
  try rw [e3]
  try rw [e4]
  try rw [e5]
  refine sg_if_eq (pc := 2095) (tgt := 2102) dL_law_2095 (by decide) (fun c2095 => ?_) (fun c2095 => ?_)
  · refine sg_iconst (pc := 2102) (z := 0) dL_law_2102 (by decide) ?_
    refine sg_aload_n (pc := 2103) (j := 3) dL_law_2103 rfl rfl ?_
    refine st_cS4 (pc := 2104) (d' := d - 1) (mc' := 8) (ms' := 48) g dL_law_2104 cb_L_half cw_L_half ml_L_349 ms_L_half (Nat.le_of_ble_eq_true rfl) (by first | exact jl_d0 hd rfl | omega) (by first | exact Nat.le_of_ble_eq_true rfl | omega) (by first | exact Nat.le_of_ble_eq_true rfl | omega) ?_
    refine s_L_half g nc (by omega) jJ.1 (fun v1 h1 I1 X1 F1 k1 o1 => sg_K1 ?_)
    refine sg_istore (pc := 2107) dL_law_2107 (by decide) ?_
    refine sg_aload_n (pc := 2109) (j := 2) dL_law_2109 rfl rfl ?_
    refine sg_aload_n (pc := 2110) (j := 0) dL_law_2110 rfl rfl ?_
    refine sg_iload (pc := 2111) dL_law_2111 rfl ?_
    refine sg_iconst (pc := 2113) (z := 1) dL_law_2113 (by decide) ?_
    first | refine sg_iaddB (pc := 2114) dL_law_2114 (by omega) (by omega) ?_ | refine sg_iadd (pc := 2114) dL_law_2114 ?_
    refine sg_iald (pc := 2115) dL_law_2115 I1.2.2.2.2.2.2.2.2.2 rfl (by omega) (jk_x (by omega) (by omega)) ?_
    try rw [e1]
    try rw [e2]
    try rw [e3]
    try rw [e4]
    try rw [e5]
    refine sg_aload_n (pc := 2116) (j := 0) dL_law_2116 rfl rfl ?_
    refine sg_iload (pc := 2117) dL_law_2117 rfl ?_
    refine sg_iconst (pc := 2119) (z := 2) dL_law_2119 (by decide) ?_
    first | refine sg_iaddB (pc := 2120) dL_law_2120 (by omega) (by omega) ?_ | refine sg_iadd (pc := 2120) dL_law_2120 ?_
    refine sg_iald (pc := 2121) dL_law_2121 I1.2.2.2.2.2.2.2.2.2 rfl (by omega) (jk_x (by omega) (by omega)) ?_
    try rw [e1]
    try rw [e2]
    try rw [e3]
    try rw [e4]
    try rw [e5]
    refine sg_if_eq (pc := 2122) (tgt := 2129) dL_law_2122 (by decide) (fun c2122 => ?_) (fun c2122 => absurd c2095 c2122)
    refine sg_iconst (pc := 2129) (z := 0) dL_law_2129 (by decide) ?_
    refine st_as (fun H r => jk_tgR (B := B) r) ?_
    have m2 := jk_Im I1
    have ab0 := jk_Jt jJ I1 X1
    refine sg_cE2 (pc := 2130) (d' := d - 1) (mc' := 1) (ms' := 2) 8 g dL_law_2130 cb_X7_half ml_L_351 mn_X7_half rfl mv_X7_half (Nat.le_of_ble_eq_true rfl) (md_oc m2) (Nat.le_of_ble_eq_true rfl) (by first | exact jl_d0 hd rfl | omega) (by first | exact Nat.le_of_ble_eq_true rfl | omega) (by first | exact Nat.le_of_ble_eq_true rfl | omega) ?_
    refine s_X7_half g (by first | exact jl_d1 hd rfl | omega) m2 (fun v2 h2 c2_0 c2_1 y2 => sg_K1 ?_)
    refine st_as (fun H r => jk_unR I1.1 r) ?_
    have J2 : jk_J w B M O S xs (jk_unt B h2) A := jk_JM I1 (md_YW y2) (cf_XF jJ.2.1 F1) (y2.2.2.trans ab0) jJ.2.2.2
    have y2 := md_YW y2
    have I2 := J2.1
    refine sg_istore (pc := 2133) dL_law_2133 (by decide) ?_
    refine sg_goto (pc := 2135) (tgt := 2472) dL_law_2135 (by decide) ?_
    refine sg_lsub (lv' := [(0, _), (1, _), (2, _), (3, _), (4, _)]) ⟨rfl, rfl, rfl, rfl, rfl, trivial⟩ ?_
    exact K _ _ _ _ J2 (by omega) (by omega)
  · refine sg_iconst (pc := 2098) (z := 1) dL_law_2098 (by decide) ?_
    refine sg_goto (pc := 2099) (tgt := 2103) dL_law_2099 (by decide) ?_
    refine sg_aload_n (pc := 2103) (j := 3) dL_law_2103 rfl rfl ?_
    refine st_cS4 (pc := 2104) (d' := d - 1) (mc' := 8) (ms' := 48) g dL_law_2104 cb_L_half cw_L_half ml_L_349 ms_L_half (Nat.le_of_ble_eq_true rfl) (by first | exact jl_d0 hd rfl | omega) (by first | exact Nat.le_of_ble_eq_true rfl | omega) (by first | exact Nat.le_of_ble_eq_true rfl | omega) ?_
    refine s_L_half g nc (by omega) jJ.1 (fun v1 h1 I1 X1 F1 k1 o1 => sg_K1 ?_)
    refine sg_istore (pc := 2107) dL_law_2107 (by decide) ?_
    refine sg_aload_n (pc := 2109) (j := 2) dL_law_2109 rfl rfl ?_
    refine sg_aload_n (pc := 2110) (j := 0) dL_law_2110 rfl rfl ?_
    refine sg_iload (pc := 2111) dL_law_2111 rfl ?_
    refine sg_iconst (pc := 2113) (z := 1) dL_law_2113 (by decide) ?_
    first | refine sg_iaddB (pc := 2114) dL_law_2114 (by omega) (by omega) ?_ | refine sg_iadd (pc := 2114) dL_law_2114 ?_
    refine sg_iald (pc := 2115) dL_law_2115 I1.2.2.2.2.2.2.2.2.2 rfl (by omega) (jk_x (by omega) (by omega)) ?_
    try rw [e1]
    try rw [e2]
    try rw [e3]
    try rw [e4]
    try rw [e5]
    refine sg_aload_n (pc := 2116) (j := 0) dL_law_2116 rfl rfl ?_
    refine sg_iload (pc := 2117) dL_law_2117 rfl ?_
    refine sg_iconst (pc := 2119) (z := 2) dL_law_2119 (by decide) ?_
    first | refine sg_iaddB (pc := 2120) dL_law_2120 (by omega) (by omega) ?_ | refine sg_iadd (pc := 2120) dL_law_2120 ?_
    refine sg_iald (pc := 2121) dL_law_2121 I1.2.2.2.2.2.2.2.2.2 rfl (by omega) (jk_x (by omega) (by omega)) ?_
    try rw [e1]
    try rw [e2]
    try rw [e3]
    try rw [e4]
    try rw [e5]
    refine sg_if_eq (pc := 2122) (tgt := 2129) dL_law_2122 (by decide) (fun c2122 => absurd c2122 c2095) (fun c2122 => ?_)
    refine sg_iconst (pc := 2125) (z := 1) dL_law_2125 (by decide) ?_
    refine sg_goto (pc := 2126) (tgt := 2130) dL_law_2126 (by decide) ?_
    refine st_as (fun H r => jk_tgR (B := B) r) ?_
    have m2 := jk_Im I1
    have ab0 := jk_Jt jJ I1 X1
    refine sg_cE2 (pc := 2130) (d' := d - 1) (mc' := 1) (ms' := 2) 8 g dL_law_2130 cb_X7_half ml_L_351 mn_X7_half rfl mv_X7_half (Nat.le_of_ble_eq_true rfl) (md_oc m2) (Nat.le_of_ble_eq_true rfl) (by first | exact jl_d0 hd rfl | omega) (by first | exact Nat.le_of_ble_eq_true rfl | omega) (by first | exact Nat.le_of_ble_eq_true rfl | omega) ?_
    refine s_X7_half g (by first | exact jl_d1 hd rfl | omega) m2 (fun v2 h2 c2_0 c2_1 y2 => sg_K1 ?_)
    refine st_as (fun H r => jk_unR I1.1 r) ?_
    have J2 : jk_J w B M O S xs (jk_unt B h2) A := jk_JM I1 (md_YW y2) (cf_XF jJ.2.1 F1) (y2.2.2.trans ab0) jJ.2.2.2
    have y2 := md_YW y2
    have I2 := J2.1
    refine sg_istore (pc := 2133) dL_law_2133 (by decide) ?_
    refine sg_goto (pc := 2135) (tgt := 2472) dL_law_2135 (by decide) ?_
    refine sg_lsub (lv' := [(0, _), (1, _), (2, _), (3, _), (4, _)]) ⟨rfl, rfl, rfl, rfl, rfl, trivial⟩ ?_
    exact K _ _ _ _ J2 (by omega) (by omega)

set_option maxRecDepth 100000 in
set_option maxHeartbeats 1000000 in
theorem lw_c48 {w : sg_W} {Q : sg_O → sg_H → Prop} {h : sg_H} (g : sg_G w) (nc : jk_C w) (hJ : jz w) {d mc ms : Nat} (hd : 30 ≤ d) {B M O S j k n : Nat} {xs : List Int} {A : fa_A} (jJ : jk_J w B M O S xs h A) (hj : 6 * j + 6 ≤ xs.length) (hl : xs.length ≤ 3072) (hk : k + 1030 ≤ mc) (hn : n + (48 + 0) ≤ ms) (K : ∀ (h' : sg_H) (k' n' : Nat) (A' : fa_A), jk_J w B M O S xs h' A' → k' ≤ k + 1030 → n' ≤ n + (48 + 0) → sg_R w mi_L_law d mc ms Q 2472 [(0, sg_r S), (1, sg_r B), (2, sg_r M), (3, sg_r O), (4, sg_i (6 * (j : Int)))] [] h' k' n') : sg_R w mi_L_law d mc ms Q 2138 [(0, sg_r S), (1, sg_r B), (2, sg_r M), (3, sg_r O), (4, sg_i (6 * (j : Int)))] [] h k n := by
  obtain ⟨p1, e1⟩ : ∃ p, xs.getD (6 * (j : Int) + 1).toNat 0 = p := ⟨_, rfl⟩
  obtain ⟨p2, e2⟩ : ∃ p, xs.getD (6 * (j : Int) + 2).toNat 0 = p := ⟨_, rfl⟩
  obtain ⟨p3, e3⟩ : ∃ p, xs.getD (6 * (j : Int) + 3).toNat 0 = p := ⟨_, rfl⟩
  obtain ⟨p4, e4⟩ : ∃ p, xs.getD (6 * (j : Int) + 4).toNat 0 = p := ⟨_, rfl⟩
  obtain ⟨p5, e5⟩ : ∃ p, xs.getD (6 * (j : Int) + 5).toNat 0 = p := ⟨_, rfl⟩
  refine sg_aload_n (pc := 2138) (j := 1) dL_law_2138 rfl rfl ?_
  refine sg_aload_n (pc := 2139) (j := 0) dL_law_2139 rfl rfl ?_
  refine sg_iload (pc := 2140) dL_law_2140 rfl ?_
  refine sg_iconst (pc := 2142) (z := 1) dL_law_2142 (by decide) ?_
  first | refine sg_iaddB (pc := 2143) dL_law_2143 (by omega) (by omega) ?_ | refine sg_iadd (pc := 2143) dL_law_2143 ?_
  refine sg_iald (pc := 2144) dL_law_2144 jJ.1.2.2.2.2.2.2.2.2.2 rfl (by omega) (jk_x (by omega) (by omega)) ?_
  try rw [e1]
  try rw [e2]
  try rw [e3]
  try rw [e4]
  try rw [e5]
  refine sg_aload_n (pc := 2145) (j := 0) dL_law_2145 rfl rfl ?_
  refine sg_iload (pc := 2146) dL_law_2146 rfl ?_
  refine sg_iconst (pc := 2148) (z := 2) dL_law_2148 (by decide) ?_
  first | refine sg_iaddB (pc := 2149) dL_law_2149 (by omega) (by omega) ?_ | refine sg_iadd (pc := 2149) dL_law_2149 ?_
  refine sg_iald (pc := 2150) dL_law_2150 jJ.1.2.2.2.2.2.2.2.2.2 rfl (by omega) (jk_x (by omega) (by omega)) ?_
  try rw [e1]
  try rw [e2]
  try rw [e3]
  try rw [e4]
  try rw [e5]
  refine sg_aload_n (pc := 2151) (j := 3) dL_law_2151 rfl rfl ?_
  refine st_cS4 (pc := 2152) (d' := d - 1) (mc' := 8) (ms' := 48) g dL_law_2152 cb_L_code cw_L_code ml_L_352 ms_L_code (Nat.le_of_ble_eq_true rfl) (by first | exact jl_d0 hd rfl | omega) (by first | exact Nat.le_of_ble_eq_true rfl | omega) (by first | exact Nat.le_of_ble_eq_true rfl | omega) ?_
  refine s_L_code g nc (by omega) jJ.1 (fun v1 h1 I1 X1 F1 k1 o1 => sg_K1 ?_)
  refine sg_istore (pc := 2155) dL_law_2155 (by decide) ?_
  refine sg_aload_n (pc := 2157) (j := 2) dL_law_2157 rfl rfl ?_
  refine sg_aload_n (pc := 2158) (j := 0) dL_law_2158 rfl rfl ?_
  refine sg_iload (pc := 2159) dL_law_2159 rfl ?_
  refine sg_iconst (pc := 2161) (z := 1) dL_law_2161 (by decide) ?_
  first | refine sg_iaddB (pc := 2162) dL_law_2162 (by omega) (by omega) ?_ | refine sg_iadd (pc := 2162) dL_law_2162 ?_
  refine sg_iald (pc := 2163) dL_law_2163 I1.2.2.2.2.2.2.2.2.2 rfl (by omega) (jk_x (by omega) (by omega)) ?_
  try rw [e1]
  try rw [e2]
  try rw [e3]
  try rw [e4]
  try rw [e5]
  refine sg_aload_n (pc := 2164) (j := 0) dL_law_2164 rfl rfl ?_
  refine sg_iload (pc := 2165) dL_law_2165 rfl ?_
  refine sg_iconst (pc := 2167) (z := 2) dL_law_2167 (by decide) ?_
  first | refine sg_iaddB (pc := 2168) dL_law_2168 (by omega) (by omega) ?_ | refine sg_iadd (pc := 2168) dL_law_2168 ?_
  refine sg_iald (pc := 2169) dL_law_2169 I1.2.2.2.2.2.2.2.2.2 rfl (by omega) (jk_x (by omega) (by omega)) ?_
  try rw [e1]
  try rw [e2]
  try rw [e3]
  try rw [e4]
  try rw [e5]
  refine st_as (fun H r => jk_tgR (B := B) r) ?_
  have m2 := jk_Im I1
  have ab0 := jk_Jt jJ I1 X1
  refine sg_cE2 (pc := 2170) (d' := d - 1) (mc' := 0) (ms' := 0) 8 g dL_law_2170 cb_X7_code ml_L_354 mn_X7_code rfl mv_X7_code (Nat.le_of_ble_eq_true rfl) (md_oc m2) (Nat.le_of_ble_eq_true rfl) (by first | exact jl_d0 hd rfl | omega) (by first | exact Nat.le_of_ble_eq_true rfl | omega) (by first | exact Nat.le_of_ble_eq_true rfl | omega) ?_
  refine s_X7_code g (by first | exact jl_d1 hd rfl | omega) m2 (fun v2 h2 c2_0 c2_1 y2 => sg_K1 ?_)
  refine st_as (fun H r => jk_unR I1.1 r) ?_
  have J2 : jk_J w B M O S xs (jk_unt B h2) A := jk_JM I1 (md_YW y2) (cf_XF jJ.2.1 F1) (y2.2.2.trans ab0) jJ.2.2.2
  have y2 := md_YW y2
  have I2 := J2.1
  refine sg_istore (pc := 2173) dL_law_2173 (by decide) ?_
  refine sg_goto (pc := 2175) (tgt := 2472) dL_law_2175 (by decide) ?_
  refine sg_lsub (lv' := [(0, _), (1, _), (2, _), (3, _), (4, _)]) ⟨rfl, rfl, rfl, rfl, rfl, trivial⟩ ?_
  exact K _ _ _ _ J2 (by omega) (by omega)

set_option maxRecDepth 100000 in
set_option maxHeartbeats 1000000 in
theorem lw_c49 {w : sg_W} {Q : sg_O → sg_H → Prop} {h : sg_H} (g : sg_G w) (nc : jk_C w) (hJ : jz w) {d mc ms : Nat} (hd : 30 ≤ d) {B M O S j k n : Nat} {xs : List Int} {A : fa_A} (jJ : jk_J w B M O S xs h A) (hj : 6 * j + 6 ≤ xs.length) (hl : xs.length ≤ 3072) (hk : k + 1030 ≤ mc) (hn : n + (48 + 0) ≤ ms) (K : ∀ (h' : sg_H) (k' n' : Nat) (A' : fa_A), jk_J w B M O S xs h' A' → k' ≤ k + 1030 → n' ≤ n + (48 + 0) → sg_R w mi_L_law d mc ms Q 2472 [(0, sg_r S), (1, sg_r B), (2, sg_r M), (3, sg_r O), (4, sg_i (6 * (j : Int)))] [] h' k' n') : sg_R w mi_L_law d mc ms Q 2178 [(0, sg_r S), (1, sg_r B), (2, sg_r M), (3, sg_r O), (4, sg_i (6 * (j : Int)))] [] h k n := by
  obtain ⟨p1, e1⟩ : ∃ p, xs.getD (6 * (j : Int) + 1).toNat 0 = p := ⟨_, rfl⟩
  obtain ⟨p2, e2⟩ : ∃ p, xs.getD (6 * (j : Int) + 2).toNat 0 = p := ⟨_, rfl⟩
  obtain ⟨p3, e3⟩ : ∃ p, xs.getD (6 * (j : Int) + 3).toNat 0 = p := ⟨_, rfl⟩
  obtain ⟨p4, e4⟩ : ∃ p, xs.getD (6 * (j : Int) + 4).toNat 0 = p := ⟨_, rfl⟩
  obtain ⟨p5, e5⟩ : ∃ p, xs.getD (6 * (j : Int) + 5).toNat 0 = p := ⟨_, rfl⟩
  refine sg_aload_n (pc := 2178) (j := 1) dL_law_2178 rfl rfl ?_
  refine sg_aload_n (pc := 2179) (j := 0) dL_law_2179 rfl rfl ?_
  refine sg_iload (pc := 2180) dL_law_2180 rfl ?_
  refine sg_iconst (pc := 2182) (z := 1) dL_law_2182 (by decide) ?_
  first | refine sg_iaddB (pc := 2183) dL_law_2183 (by omega) (by omega) ?_ | refine sg_iadd (pc := 2183) dL_law_2183 ?_
  refine sg_iald (pc := 2184) dL_law_2184 jJ.1.2.2.2.2.2.2.2.2.2 rfl (by omega) (jk_x (by omega) (by omega)) ?_
  try rw [e1]
  try rw [e2]
  try rw [e3]
  try rw [e4]
  try rw [e5]
  refine sg_aload_n (pc := 2185) (j := 0) dL_law_2185 rfl rfl ?_
  refine sg_iload (pc := 2186) dL_law_2186 rfl ?_
  refine sg_iconst (pc := 2188) (z := 2) dL_law_2188 (by decide) ?_
  first | refine sg_iaddB (pc := 2189) dL_law_2189 (by omega) (by omega) ?_ | refine sg_iadd (pc := 2189) dL_law_2189 ?_
  refine sg_iald (pc := 2190) dL_law_2190 jJ.1.2.2.2.2.2.2.2.2.2 rfl (by omega) (jk_x (by omega) (by omega)) ?_
  try rw [e1]
  try rw [e2]
  try rw [e3]
  try rw [e4]
  try rw [e5]
  refine sg_aload_n (pc := 2191) (j := 3) dL_law_2191 rfl rfl ?_
  refine st_cS4 (pc := 2192) (d' := d - 1) (mc' := 8) (ms' := 48) g dL_law_2192 cb_L_ofUnit cw_L_ofUnit ml_L_355 ms_L_ofUnit (Nat.le_of_ble_eq_true rfl) (by first | exact jl_d0 hd rfl | omega) (by first | exact Nat.le_of_ble_eq_true rfl | omega) (by first | exact Nat.le_of_ble_eq_true rfl | omega) ?_
  refine s_L_ofUnit g nc (by omega) jJ.1 (fun v1 h1 I1 X1 F1 k1 o1 => sg_K1 ?_)
  refine sg_istore (pc := 2195) dL_law_2195 (by decide) ?_
  refine sg_aload_n (pc := 2197) (j := 2) dL_law_2197 rfl rfl ?_
  refine sg_aload_n (pc := 2198) (j := 0) dL_law_2198 rfl rfl ?_
  refine sg_iload (pc := 2199) dL_law_2199 rfl ?_
  refine sg_iconst (pc := 2201) (z := 1) dL_law_2201 (by decide) ?_
  first | refine sg_iaddB (pc := 2202) dL_law_2202 (by omega) (by omega) ?_ | refine sg_iadd (pc := 2202) dL_law_2202 ?_
  refine sg_iald (pc := 2203) dL_law_2203 I1.2.2.2.2.2.2.2.2.2 rfl (by omega) (jk_x (by omega) (by omega)) ?_
  try rw [e1]
  try rw [e2]
  try rw [e3]
  try rw [e4]
  try rw [e5]
  refine sg_aload_n (pc := 2204) (j := 0) dL_law_2204 rfl rfl ?_
  refine sg_iload (pc := 2205) dL_law_2205 rfl ?_
  refine sg_iconst (pc := 2207) (z := 2) dL_law_2207 (by decide) ?_
  first | refine sg_iaddB (pc := 2208) dL_law_2208 (by omega) (by omega) ?_ | refine sg_iadd (pc := 2208) dL_law_2208 ?_
  refine sg_iald (pc := 2209) dL_law_2209 I1.2.2.2.2.2.2.2.2.2 rfl (by omega) (jk_x (by omega) (by omega)) ?_
  try rw [e1]
  try rw [e2]
  try rw [e3]
  try rw [e4]
  try rw [e5]
  refine st_as (fun H r => jk_tgR (B := B) r) ?_
  have m2 := jk_Im I1
  have ab0 := jk_Jt jJ I1 X1
  refine sg_cE2 (pc := 2210) (d' := d - 1) (mc' := 0) (ms' := 0) 8 g dL_law_2210 cb_X7_ofUnit ml_L_357 mn_X7_ofUnit rfl mv_X7_ofUnit (Nat.le_of_ble_eq_true rfl) (md_oc m2) (Nat.le_of_ble_eq_true rfl) (by first | exact jl_d0 hd rfl | omega) (by first | exact Nat.le_of_ble_eq_true rfl | omega) (by first | exact Nat.le_of_ble_eq_true rfl | omega) ?_
  refine s_X7_ofUnit g (by first | exact jl_d1 hd rfl | omega) m2 (fun v2 h2 c2_0 c2_1 y2 => sg_K1 ?_)
  refine st_as (fun H r => jk_unR I1.1 r) ?_
  have J2 : jk_J w B M O S xs (jk_unt B h2) A := jk_JM I1 (md_YW y2) (cf_XF jJ.2.1 F1) (y2.2.2.trans ab0) jJ.2.2.2
  have y2 := md_YW y2
  have I2 := J2.1
  refine sg_istore (pc := 2213) dL_law_2213 (by decide) ?_
  refine sg_goto (pc := 2215) (tgt := 2472) dL_law_2215 (by decide) ?_
  refine sg_lsub (lv' := [(0, _), (1, _), (2, _), (3, _), (4, _)]) ⟨rfl, rfl, rfl, rfl, rfl, trivial⟩ ?_
  exact K _ _ _ _ J2 (by omega) (by omega)

