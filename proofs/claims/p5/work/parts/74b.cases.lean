set_option maxRecDepth 100000 in
set_option maxHeartbeats 1000000 in
theorem lw_c10 {w : sg_W} {Q : sg_O → sg_H → Prop} {h : sg_H} (g : sg_G w) (nc : jk_C w) (hJ : jz w) {d mc ms : Nat} (hd : 30 ≤ d) {B M O S j k n : Nat} {xs : List Int} {A : fa_A} (jJ : jk_J w B M O S xs h A) (hj : 6 * j + 6 ≤ xs.length) (hl : xs.length ≤ 3072) (hk : k + 1030 ≤ mc) (hn : n + (48 + 56) ≤ ms) (K : ∀ (h' : sg_H) (k' n' : Nat) (A' : fa_A), jk_J w B M O S xs h' A' → k' ≤ k + 1030 → n' ≤ n + (48 + 56) → sg_R w mi_L_law d mc ms Q 2465 [(0, sg_r S), (1, sg_r B), (2, sg_r M), (3, sg_r O), (4, sg_i (6 * (j : Int)))] [] h' k' n') : sg_R w mi_L_law d mc ms Q 749 [(0, sg_r S), (1, sg_r B), (2, sg_r M), (3, sg_r O), (4, sg_i (6 * (j : Int)))] [] h k n := by
  obtain ⟨p1, e1⟩ : ∃ p, xs.getD (6 * (j : Int) + 1).toNat 0 = p := ⟨_, rfl⟩
  obtain ⟨p2, e2⟩ : ∃ p, xs.getD (6 * (j : Int) + 2).toNat 0 = p := ⟨_, rfl⟩
  obtain ⟨p3, e3⟩ : ∃ p, xs.getD (6 * (j : Int) + 3).toNat 0 = p := ⟨_, rfl⟩
  obtain ⟨p4, e4⟩ : ∃ p, xs.getD (6 * (j : Int) + 4).toNat 0 = p := ⟨_, rfl⟩
  obtain ⟨p5, e5⟩ : ∃ p, xs.getD (6 * (j : Int) + 5).toNat 0 = p := ⟨_, rfl⟩
  refine sg_aload_n (pc := 749) (j := 1) dL_law_749 rfl rfl ?_
  refine sg_aload_n (pc := 750) (j := 0) dL_law_750 rfl rfl ?_
  refine sg_iload (pc := 751) dL_law_751 rfl ?_
  refine sg_iconst (pc := 753) (z := 1) dL_law_753 (by decide) ?_
  first | refine sg_iaddB (pc := 754) dL_law_754 (by omega) (by omega) ?_ | refine sg_iadd (pc := 754) dL_law_754 ?_
  refine sg_iald (pc := 755) dL_law_755 jJ.1.2.2.2.2.2.2.2.2.2 rfl (by omega) (jk_x (by omega) (by omega)) ?_
  try rw [e1]
  try rw [e2]
  try rw [e3]
  try rw [e4]
  try rw [e5]
  refine sg_aload_n (pc := 756) (j := 0) dL_law_756 rfl rfl ?_
  refine sg_iload (pc := 757) dL_law_757 rfl ?_
  refine sg_iconst (pc := 759) (z := 2) dL_law_759 (by decide) ?_
  first | refine sg_iaddB (pc := 760) dL_law_760 (by omega) (by omega) ?_ | refine sg_iadd (pc := 760) dL_law_760 ?_
  refine sg_iald (pc := 761) dL_law_761 jJ.1.2.2.2.2.2.2.2.2.2 rfl (by omega) (jk_x (by omega) (by omega)) ?_
  try rw [e1]
  try rw [e2]
  try rw [e3]
  try rw [e4]
  try rw [e5]
  refine sg_aload_n (pc := 762) (j := 3) dL_law_762 rfl rfl ?_
  obtain ⟨L, hL⟩ : ∃ X, fa_L A p1.toNat = X := ⟨_, rfl⟩
  obtain ⟨Z, hZ⟩ : ∃ X, fa_L A p2.toNat = X := ⟨_, rfl⟩
  refine st_cS4 (pc := 763) (d' := d - 1) (mc' := 8) (ms' := 48) g dL_law_763 cb_L_read cw_L_read ml_L_230 ms_L_read (Nat.le_of_ble_eq_true rfl) (by first | exact jl_d0 hd rfl | omega) (by first | exact Nat.le_of_ble_eq_true rfl | omega) (by first | exact Nat.le_of_ble_eq_true rfl | omega) ?_
  refine f_L_read g nc (by omega) jJ.1 jJ.2.1 jJ.2.2.2 hL hZ (fun v1 h1 I1 X1 k0 k1 k2 x1 r1 => sg_K1 ?_)
  refine sg_istore (pc := 766) dL_law_766 (by decide) ?_
  refine sg_aload_n (pc := 768) (j := 2) dL_law_768 rfl rfl ?_
  refine sg_aload_n (pc := 769) (j := 0) dL_law_769 rfl rfl ?_
  refine sg_iload (pc := 770) dL_law_770 rfl ?_
  refine sg_iconst (pc := 772) (z := 1) dL_law_772 (by decide) ?_
  first | refine sg_iaddB (pc := 773) dL_law_773 (by omega) (by omega) ?_ | refine sg_iadd (pc := 773) dL_law_773 ?_
  refine sg_iald (pc := 774) dL_law_774 I1.2.2.2.2.2.2.2.2.2 rfl (by omega) (jk_x (by omega) (by omega)) ?_
  try rw [e1]
  try rw [e2]
  try rw [e3]
  try rw [e4]
  try rw [e5]
  refine sg_aload_n (pc := 775) (j := 0) dL_law_775 rfl rfl ?_
  refine sg_iload (pc := 776) dL_law_776 rfl ?_
  refine sg_iconst (pc := 778) (z := 2) dL_law_778 (by decide) ?_
  first | refine sg_iaddB (pc := 779) dL_law_779 (by omega) (by omega) ?_ | refine sg_iadd (pc := 779) dL_law_779 ?_
  refine sg_iald (pc := 780) dL_law_780 I1.2.2.2.2.2.2.2.2.2 rfl (by omega) (jk_x (by omega) (by omega)) ?_
  try rw [e1]
  try rw [e2]
  try rw [e3]
  try rw [e4]
  try rw [e5]
  refine st_as (fun H r => jk_tgR (B := B) r) ?_
  have m2 := jk_Im I1
  have ab0 := jk_Jt jJ I1 X1
  refine sg_cE2 (pc := 781) (d' := d - 1) (mc' := 3) (ms' := 56) 8 g dL_law_781 cb_X7_read ml_L_232 mn_X7_read rfl mv_X7_read (Nat.le_of_ble_eq_true rfl) (md_oc m2) (Nat.le_of_ble_eq_true rfl) (by first | exact jl_d0 hd rfl | omega) (by first | exact Nat.le_of_ble_eq_true rfl | omega) (by first | exact Nat.le_of_ble_eq_true rfl | omega) ?_
  refine f_X7_read g (by first | exact jl_d1 hd rfl | omega) ab0 hL hZ jJ.2.2.2 m2 (fun v2 h2 t0 t1 t2 q2 n2 y2 => sg_K1 ?_)
  refine st_as (fun H r => jk_unR I1.1 r) ?_
  obtain ⟨A2, J2⟩ : ∃ A2, jk_J w B M O S xs (jk_unt B h2) A2 := by
    by_cases hz : v1 = 0
    · obtain ⟨c1, c2⟩ := r1 hz
      have n1 := jk_n (k0) hz (by decide)
      have n2 := jk_n (k1 n1) hz (by decide)
      obtain ⟨d1, d2⟩ := q2 (t2 n1 n2)
      exact ⟨_, jk_JM I1 y2 c2 d2 (ok_read jJ.2.2.2 hL hZ n1 n2)⟩
    · refine ⟨A, jk_JM I1 y2 (x1 hz) (n2 (fun hm => hz ?_)) jJ.2.2.2⟩
      have m1 := jk_n (t0) hm (by decide)
      have m2 := jk_n (t1 m1) hm (by decide)
      exact k2 m1 m2
  clear k0 t0 k1 t1 k2 t2
  have I2 := J2.1
  refine sg_istore (pc := 784) dL_law_784 (by decide) ?_
  refine sg_goto (pc := 786) (tgt := 2465) dL_law_786 (by decide) ?_
  refine sg_lsub (lv' := [(0, _), (1, _), (2, _), (3, _), (4, _)]) ⟨rfl, rfl, rfl, rfl, rfl, trivial⟩ ?_
  exact K _ _ _ _ J2 (by omega) (by omega)

set_option maxRecDepth 100000 in
set_option maxHeartbeats 1000000 in
theorem lw_c11 {w : sg_W} {Q : sg_O → sg_H → Prop} {h : sg_H} (g : sg_G w) (nc : jk_C w) (hJ : jz w) {d mc ms : Nat} (hd : 30 ≤ d) {B M O S j k n : Nat} {xs : List Int} {A : fa_A} (jJ : jk_J w B M O S xs h A) (hj : 6 * j + 6 ≤ xs.length) (hl : xs.length ≤ 3072) (hk : k + 1030 ≤ mc) (hn : n + (48 + 82) ≤ ms) (K : ∀ (h' : sg_H) (k' n' : Nat) (A' : fa_A), jk_J w B M O S xs h' A' → k' ≤ k + 1030 → n' ≤ n + (48 + 82) → sg_R w mi_L_law d mc ms Q 2465 [(0, sg_r S), (1, sg_r B), (2, sg_r M), (3, sg_r O), (4, sg_i (6 * (j : Int)))] [] h' k' n') : sg_R w mi_L_law d mc ms Q 789 [(0, sg_r S), (1, sg_r B), (2, sg_r M), (3, sg_r O), (4, sg_i (6 * (j : Int)))] [] h k n := by
  obtain ⟨p1, e1⟩ : ∃ p, xs.getD (6 * (j : Int) + 1).toNat 0 = p := ⟨_, rfl⟩
  obtain ⟨p2, e2⟩ : ∃ p, xs.getD (6 * (j : Int) + 2).toNat 0 = p := ⟨_, rfl⟩
  obtain ⟨p3, e3⟩ : ∃ p, xs.getD (6 * (j : Int) + 3).toNat 0 = p := ⟨_, rfl⟩
  obtain ⟨p4, e4⟩ : ∃ p, xs.getD (6 * (j : Int) + 4).toNat 0 = p := ⟨_, rfl⟩
  obtain ⟨p5, e5⟩ : ∃ p, xs.getD (6 * (j : Int) + 5).toNat 0 = p := ⟨_, rfl⟩
  refine sg_aload_n (pc := 789) (j := 1) dL_law_789 rfl rfl ?_
  refine sg_aload_n (pc := 790) (j := 0) dL_law_790 rfl rfl ?_
  refine sg_iload (pc := 791) dL_law_791 rfl ?_
  refine sg_iconst (pc := 793) (z := 1) dL_law_793 (by decide) ?_
  first | refine sg_iaddB (pc := 794) dL_law_794 (by omega) (by omega) ?_ | refine sg_iadd (pc := 794) dL_law_794 ?_
  refine sg_iald (pc := 795) dL_law_795 jJ.1.2.2.2.2.2.2.2.2.2 rfl (by omega) (jk_x (by omega) (by omega)) ?_
  try rw [e1]
  try rw [e2]
  try rw [e3]
  try rw [e4]
  try rw [e5]
  refine sg_aload_n (pc := 796) (j := 0) dL_law_796 rfl rfl ?_
  refine sg_iload (pc := 797) dL_law_797 rfl ?_
  refine sg_iconst (pc := 799) (z := 2) dL_law_799 (by decide) ?_
  first | refine sg_iaddB (pc := 800) dL_law_800 (by omega) (by omega) ?_ | refine sg_iadd (pc := 800) dL_law_800 ?_
  refine sg_iald (pc := 801) dL_law_801 jJ.1.2.2.2.2.2.2.2.2.2 rfl (by omega) (jk_x (by omega) (by omega)) ?_
  try rw [e1]
  try rw [e2]
  try rw [e3]
  try rw [e4]
  try rw [e5]
  refine sg_aload_n (pc := 802) (j := 3) dL_law_802 rfl rfl ?_
  obtain ⟨L, hL⟩ : ∃ X, fa_L A (4 + p1.toNat) = X := ⟨_, rfl⟩
  refine st_cS4 (pc := 803) (d' := d - 1) (mc' := 8) (ms' := 48) g dL_law_803 cb_L_send cw_L_send ml_L_233 ms_L_send (Nat.le_of_ble_eq_true rfl) (by first | exact jl_d0 hd rfl | omega) (by first | exact Nat.le_of_ble_eq_true rfl | omega) (by first | exact Nat.le_of_ble_eq_true rfl | omega) ?_
  refine f_L_send g nc (by omega) jJ.1 jJ.2.1 jJ.2.2.2 hL (fun v1 h1 I1 X1 k0 k1 k2 x1 r1 => sg_K1 ?_)
  refine sg_istore (pc := 806) dL_law_806 (by decide) ?_
  refine sg_aload_n (pc := 808) (j := 2) dL_law_808 rfl rfl ?_
  refine sg_aload_n (pc := 809) (j := 0) dL_law_809 rfl rfl ?_
  refine sg_iload (pc := 810) dL_law_810 rfl ?_
  refine sg_iconst (pc := 812) (z := 1) dL_law_812 (by decide) ?_
  first | refine sg_iaddB (pc := 813) dL_law_813 (by omega) (by omega) ?_ | refine sg_iadd (pc := 813) dL_law_813 ?_
  refine sg_iald (pc := 814) dL_law_814 I1.2.2.2.2.2.2.2.2.2 rfl (by omega) (jk_x (by omega) (by omega)) ?_
  try rw [e1]
  try rw [e2]
  try rw [e3]
  try rw [e4]
  try rw [e5]
  refine sg_aload_n (pc := 815) (j := 0) dL_law_815 rfl rfl ?_
  refine sg_iload (pc := 816) dL_law_816 rfl ?_
  refine sg_iconst (pc := 818) (z := 2) dL_law_818 (by decide) ?_
  first | refine sg_iaddB (pc := 819) dL_law_819 (by omega) (by omega) ?_ | refine sg_iadd (pc := 819) dL_law_819 ?_
  refine sg_iald (pc := 820) dL_law_820 I1.2.2.2.2.2.2.2.2.2 rfl (by omega) (jk_x (by omega) (by omega)) ?_
  try rw [e1]
  try rw [e2]
  try rw [e3]
  try rw [e4]
  try rw [e5]
  refine st_as (fun H r => jk_tgR (B := B) r) ?_
  have m2 := jk_Im I1
  have ab0 := jk_Jt jJ I1 X1
  refine sg_cE2 (pc := 821) (d' := d - 1) (mc' := 4) (ms' := 82) 8 g dL_law_821 cb_X7_send ml_L_235 mn_X7_send rfl mv_X7_send (Nat.le_of_ble_eq_true rfl) (md_oc m2) (Nat.le_of_ble_eq_true rfl) (by first | exact jl_d0 hd rfl | omega) (by first | exact Nat.le_of_ble_eq_true rfl | omega) (by first | exact Nat.le_of_ble_eq_true rfl | omega) ?_
  refine f_X7_send g (by first | exact jl_d1 hd rfl | omega) ab0 hL jJ.2.2.2 m2 (fun v2 h2 t0 t1 t2 q2 n2 y2 => sg_K1 ?_)
  refine st_as (fun H r => jk_unR I1.1 r) ?_
  obtain ⟨A2, J2⟩ : ∃ A2, jk_J w B M O S xs (jk_unt B h2) A2 := by
    by_cases hz : v1 = 0
    · obtain ⟨c1, c2⟩ := r1 hz
      have n1 := jk_n (k0) hz (by decide)
      have n2 := jk_n (k1 n1) hz (by decide)
      obtain ⟨d1, d2⟩ := q2 (t2 n1 n2)
      exact ⟨_, jk_JM I1 y2 c2 d2 (ok_send jJ.2.2.2 hL n1 n2)⟩
    · refine ⟨A, jk_JM I1 y2 (x1 hz) (n2 (fun hm => hz ?_)) jJ.2.2.2⟩
      have m1 := jk_n (t0) hm (by decide)
      have m2 := jk_n (t1 m1) hm (by decide)
      exact k2 m1 m2
  clear k0 t0 k1 t1 k2 t2
  have I2 := J2.1
  refine sg_istore (pc := 824) dL_law_824 (by decide) ?_
  refine sg_goto (pc := 826) (tgt := 2465) dL_law_826 (by decide) ?_
  refine sg_lsub (lv' := [(0, _), (1, _), (2, _), (3, _), (4, _)]) ⟨rfl, rfl, rfl, rfl, rfl, trivial⟩ ?_
  exact K _ _ _ _ J2 (by omega) (by omega)

set_option maxRecDepth 100000 in
set_option maxHeartbeats 1000000 in
theorem lw_c12 {w : sg_W} {Q : sg_O → sg_H → Prop} {h : sg_H} (g : sg_G w) (nc : jk_C w) (hJ : jz w) {d mc ms : Nat} (hd : 30 ≤ d) {B M O S j k n : Nat} {xs : List Int} {A : fa_A} (jJ : jk_J w B M O S xs h A) (hj : 6 * j + 6 ≤ xs.length) (hl : xs.length ≤ 3072) (hk : k + 1030 ≤ mc) (hn : n + (48 + 81) ≤ ms) (K : ∀ (h' : sg_H) (k' n' : Nat) (A' : fa_A), jk_J w B M O S xs h' A' → k' ≤ k + 1030 → n' ≤ n + (48 + 81) → sg_R w mi_L_law d mc ms Q 2465 [(0, sg_r S), (1, sg_r B), (2, sg_r M), (3, sg_r O), (4, sg_i (6 * (j : Int)))] [] h' k' n') : sg_R w mi_L_law d mc ms Q 829 [(0, sg_r S), (1, sg_r B), (2, sg_r M), (3, sg_r O), (4, sg_i (6 * (j : Int)))] [] h k n := by
  obtain ⟨p1, e1⟩ : ∃ p, xs.getD (6 * (j : Int) + 1).toNat 0 = p := ⟨_, rfl⟩
  obtain ⟨p2, e2⟩ : ∃ p, xs.getD (6 * (j : Int) + 2).toNat 0 = p := ⟨_, rfl⟩
  obtain ⟨p3, e3⟩ : ∃ p, xs.getD (6 * (j : Int) + 3).toNat 0 = p := ⟨_, rfl⟩
  obtain ⟨p4, e4⟩ : ∃ p, xs.getD (6 * (j : Int) + 4).toNat 0 = p := ⟨_, rfl⟩
  obtain ⟨p5, e5⟩ : ∃ p, xs.getD (6 * (j : Int) + 5).toNat 0 = p := ⟨_, rfl⟩
  refine sg_aload_n (pc := 829) (j := 1) dL_law_829 rfl rfl ?_
  refine sg_aload_n (pc := 830) (j := 0) dL_law_830 rfl rfl ?_
  refine sg_iload (pc := 831) dL_law_831 rfl ?_
  refine sg_iconst (pc := 833) (z := 1) dL_law_833 (by decide) ?_
  first | refine sg_iaddB (pc := 834) dL_law_834 (by omega) (by omega) ?_ | refine sg_iadd (pc := 834) dL_law_834 ?_
  refine sg_iald (pc := 835) dL_law_835 jJ.1.2.2.2.2.2.2.2.2.2 rfl (by omega) (jk_x (by omega) (by omega)) ?_
  try rw [e1]
  try rw [e2]
  try rw [e3]
  try rw [e4]
  try rw [e5]
  refine sg_aload_n (pc := 836) (j := 0) dL_law_836 rfl rfl ?_
  refine sg_iload (pc := 837) dL_law_837 rfl ?_
  refine sg_iconst (pc := 839) (z := 2) dL_law_839 (by decide) ?_
  first | refine sg_iaddB (pc := 840) dL_law_840 (by omega) (by omega) ?_ | refine sg_iadd (pc := 840) dL_law_840 ?_
  refine sg_iald (pc := 841) dL_law_841 jJ.1.2.2.2.2.2.2.2.2.2 rfl (by omega) (jk_x (by omega) (by omega)) ?_
  try rw [e1]
  try rw [e2]
  try rw [e3]
  try rw [e4]
  try rw [e5]
  refine sg_aload_n (pc := 842) (j := 3) dL_law_842 rfl rfl ?_
  obtain ⟨L, hL⟩ : ∃ X, fa_L A (4 + p1.toNat) = X := ⟨_, rfl⟩
  refine st_cS4 (pc := 843) (d' := d - 1) (mc' := 8) (ms' := 48) g dL_law_843 cb_L_put cw_L_put ml_L_236 ms_L_put (Nat.le_of_ble_eq_true rfl) (by first | exact jl_d0 hd rfl | omega) (by first | exact Nat.le_of_ble_eq_true rfl | omega) (by first | exact Nat.le_of_ble_eq_true rfl | omega) ?_
  refine f_L_put g nc (by omega) jJ.1 jJ.2.1 jJ.2.2.2 hL (fun v1 h1 I1 X1 k0 k1 k2 x1 r1 => sg_K1 ?_)
  refine sg_istore (pc := 846) dL_law_846 (by decide) ?_
  refine sg_aload_n (pc := 848) (j := 2) dL_law_848 rfl rfl ?_
  refine sg_aload_n (pc := 849) (j := 0) dL_law_849 rfl rfl ?_
  refine sg_iload (pc := 850) dL_law_850 rfl ?_
  refine sg_iconst (pc := 852) (z := 1) dL_law_852 (by decide) ?_
  first | refine sg_iaddB (pc := 853) dL_law_853 (by omega) (by omega) ?_ | refine sg_iadd (pc := 853) dL_law_853 ?_
  refine sg_iald (pc := 854) dL_law_854 I1.2.2.2.2.2.2.2.2.2 rfl (by omega) (jk_x (by omega) (by omega)) ?_
  try rw [e1]
  try rw [e2]
  try rw [e3]
  try rw [e4]
  try rw [e5]
  refine sg_aload_n (pc := 855) (j := 0) dL_law_855 rfl rfl ?_
  refine sg_iload (pc := 856) dL_law_856 rfl ?_
  refine sg_iconst (pc := 858) (z := 2) dL_law_858 (by decide) ?_
  first | refine sg_iaddB (pc := 859) dL_law_859 (by omega) (by omega) ?_ | refine sg_iadd (pc := 859) dL_law_859 ?_
  refine sg_iald (pc := 860) dL_law_860 I1.2.2.2.2.2.2.2.2.2 rfl (by omega) (jk_x (by omega) (by omega)) ?_
  try rw [e1]
  try rw [e2]
  try rw [e3]
  try rw [e4]
  try rw [e5]
  refine st_as (fun H r => jk_tgR (B := B) r) ?_
  have m2 := jk_Im I1
  have ab0 := jk_Jt jJ I1 X1
  refine sg_cE2 (pc := 861) (d' := d - 1) (mc' := 4) (ms' := 81) 8 g dL_law_861 cb_X7_put ml_L_238 mn_X7_put rfl mv_X7_put (Nat.le_of_ble_eq_true rfl) (md_oc m2) (Nat.le_of_ble_eq_true rfl) (by first | exact jl_d0 hd rfl | omega) (by first | exact Nat.le_of_ble_eq_true rfl | omega) (by first | exact Nat.le_of_ble_eq_true rfl | omega) ?_
  refine f_X7_put g (by first | exact jl_d1 hd rfl | omega) ab0 hL jJ.2.2.2 m2 (fun v2 h2 t0 t1 t2 q2 n2 y2 => sg_K1 ?_)
  refine st_as (fun H r => jk_unR I1.1 r) ?_
  obtain ⟨A2, J2⟩ : ∃ A2, jk_J w B M O S xs (jk_unt B h2) A2 := by
    by_cases hz : v1 = 0
    · obtain ⟨c1, c2⟩ := r1 hz
      have n1 := jk_n (k0) hz (by decide)
      have n2 := jk_n (k1 n1) hz (by decide)
      obtain ⟨d1, d2⟩ := q2 (t2 n1 n2)
      exact ⟨_, jk_JM I1 y2 c2 d2 (ok_put jJ.2.2.2 hL n1 n2)⟩
    · refine ⟨A, jk_JM I1 y2 (x1 hz) (n2 (fun hm => hz ?_)) jJ.2.2.2⟩
      have m1 := jk_n (t0) hm (by decide)
      have m2 := jk_n (t1 m1) hm (by decide)
      exact k2 m1 m2
  clear k0 t0 k1 t1 k2 t2
  have I2 := J2.1
  refine sg_istore (pc := 864) dL_law_864 (by decide) ?_
  refine sg_goto (pc := 866) (tgt := 2465) dL_law_866 (by decide) ?_
  refine sg_lsub (lv' := [(0, _), (1, _), (2, _), (3, _), (4, _)]) ⟨rfl, rfl, rfl, rfl, rfl, trivial⟩ ?_
  exact K _ _ _ _ J2 (by omega) (by omega)

set_option maxRecDepth 100000 in
set_option maxHeartbeats 1000000 in
theorem lw_c13 {w : sg_W} {Q : sg_O → sg_H → Prop} {h : sg_H} (g : sg_G w) (nc : jk_C w) (hJ : jz w) {d mc ms : Nat} (hd : 30 ≤ d) {B M O S j k n : Nat} {xs : List Int} {A : fa_A} (jJ : jk_J w B M O S xs h A) (hj : 6 * j + 6 ≤ xs.length) (hl : xs.length ≤ 3072) (hk : k + 1030 ≤ mc) (hn : n + (48 + 56) ≤ ms) (K : ∀ (h' : sg_H) (k' n' : Nat) (A' : fa_A), jk_J w B M O S xs h' A' → k' ≤ k + 1030 → n' ≤ n + (48 + 56) → sg_R w mi_L_law d mc ms Q 2465 [(0, sg_r S), (1, sg_r B), (2, sg_r M), (3, sg_r O), (4, sg_i (6 * (j : Int)))] [] h' k' n') : sg_R w mi_L_law d mc ms Q 869 [(0, sg_r S), (1, sg_r B), (2, sg_r M), (3, sg_r O), (4, sg_i (6 * (j : Int)))] [] h k n := by
  obtain ⟨p1, e1⟩ : ∃ p, xs.getD (6 * (j : Int) + 1).toNat 0 = p := ⟨_, rfl⟩
  obtain ⟨p2, e2⟩ : ∃ p, xs.getD (6 * (j : Int) + 2).toNat 0 = p := ⟨_, rfl⟩
  obtain ⟨p3, e3⟩ : ∃ p, xs.getD (6 * (j : Int) + 3).toNat 0 = p := ⟨_, rfl⟩
  obtain ⟨p4, e4⟩ : ∃ p, xs.getD (6 * (j : Int) + 4).toNat 0 = p := ⟨_, rfl⟩
  obtain ⟨p5, e5⟩ : ∃ p, xs.getD (6 * (j : Int) + 5).toNat 0 = p := ⟨_, rfl⟩
  refine sg_aload_n (pc := 869) (j := 1) dL_law_869 rfl rfl ?_
  refine sg_aload_n (pc := 870) (j := 0) dL_law_870 rfl rfl ?_
  refine sg_iload (pc := 871) dL_law_871 rfl ?_
  refine sg_iconst (pc := 873) (z := 1) dL_law_873 (by decide) ?_
  first | refine sg_iaddB (pc := 874) dL_law_874 (by omega) (by omega) ?_ | refine sg_iadd (pc := 874) dL_law_874 ?_
  refine sg_iald (pc := 875) dL_law_875 jJ.1.2.2.2.2.2.2.2.2.2 rfl (by omega) (jk_x (by omega) (by omega)) ?_
  try rw [e1]
  try rw [e2]
  try rw [e3]
  try rw [e4]
  try rw [e5]
  refine sg_aload_n (pc := 876) (j := 0) dL_law_876 rfl rfl ?_
  refine sg_iload (pc := 877) dL_law_877 rfl ?_
  refine sg_iconst (pc := 879) (z := 2) dL_law_879 (by decide) ?_
  first | refine sg_iaddB (pc := 880) dL_law_880 (by omega) (by omega) ?_ | refine sg_iadd (pc := 880) dL_law_880 ?_
  refine sg_iald (pc := 881) dL_law_881 jJ.1.2.2.2.2.2.2.2.2.2 rfl (by omega) (jk_x (by omega) (by omega)) ?_
  try rw [e1]
  try rw [e2]
  try rw [e3]
  try rw [e4]
  try rw [e5]
  refine sg_aload_n (pc := 882) (j := 3) dL_law_882 rfl rfl ?_
  obtain ⟨L, hL⟩ : ∃ X, fa_L A (4 + p1.toNat) = X := ⟨_, rfl⟩
  refine st_cS4 (pc := 883) (d' := d - 1) (mc' := 8) (ms' := 48) g dL_law_883 cb_L_cut cw_L_cut ml_L_239 ms_L_cut (Nat.le_of_ble_eq_true rfl) (by first | exact jl_d0 hd rfl | omega) (by first | exact Nat.le_of_ble_eq_true rfl | omega) (by first | exact Nat.le_of_ble_eq_true rfl | omega) ?_
  refine f_L_cut g nc (by omega) jJ.1 jJ.2.1 jJ.2.2.2 hL (fun v1 h1 I1 X1 k0 k1 k2 x1 r1 => sg_K1 ?_)
  refine sg_istore (pc := 886) dL_law_886 (by decide) ?_
  refine sg_aload_n (pc := 888) (j := 2) dL_law_888 rfl rfl ?_
  refine sg_aload_n (pc := 889) (j := 0) dL_law_889 rfl rfl ?_
  refine sg_iload (pc := 890) dL_law_890 rfl ?_
  refine sg_iconst (pc := 892) (z := 1) dL_law_892 (by decide) ?_
  first | refine sg_iaddB (pc := 893) dL_law_893 (by omega) (by omega) ?_ | refine sg_iadd (pc := 893) dL_law_893 ?_
  refine sg_iald (pc := 894) dL_law_894 I1.2.2.2.2.2.2.2.2.2 rfl (by omega) (jk_x (by omega) (by omega)) ?_
  try rw [e1]
  try rw [e2]
  try rw [e3]
  try rw [e4]
  try rw [e5]
  refine sg_aload_n (pc := 895) (j := 0) dL_law_895 rfl rfl ?_
  refine sg_iload (pc := 896) dL_law_896 rfl ?_
  refine sg_iconst (pc := 898) (z := 2) dL_law_898 (by decide) ?_
  first | refine sg_iaddB (pc := 899) dL_law_899 (by omega) (by omega) ?_ | refine sg_iadd (pc := 899) dL_law_899 ?_
  refine sg_iald (pc := 900) dL_law_900 I1.2.2.2.2.2.2.2.2.2 rfl (by omega) (jk_x (by omega) (by omega)) ?_
  try rw [e1]
  try rw [e2]
  try rw [e3]
  try rw [e4]
  try rw [e5]
  refine st_as (fun H r => jk_tgR (B := B) r) ?_
  have m2 := jk_Im I1
  have ab0 := jk_Jt jJ I1 X1
  refine sg_cE2 (pc := 901) (d' := d - 1) (mc' := 3) (ms' := 56) 8 g dL_law_901 cb_X7_cut ml_L_241 mn_X7_cut rfl mv_X7_cut (Nat.le_of_ble_eq_true rfl) (md_oc m2) (Nat.le_of_ble_eq_true rfl) (by first | exact jl_d0 hd rfl | omega) (by first | exact Nat.le_of_ble_eq_true rfl | omega) (by first | exact Nat.le_of_ble_eq_true rfl | omega) ?_
  refine f_X7_cut g (by first | exact jl_d1 hd rfl | omega) ab0 hL jJ.2.2.2 m2 (fun v2 h2 t0 t1 t2 q2 n2 y2 => sg_K1 ?_)
  refine st_as (fun H r => jk_unR I1.1 r) ?_
  obtain ⟨A2, J2⟩ : ∃ A2, jk_J w B M O S xs (jk_unt B h2) A2 := by
    by_cases hz : v1 = 0
    · obtain ⟨c1, c2⟩ := r1 hz
      have n1 := jk_n (k0) hz (by decide)
      have n2 := jk_n (k1 n1) hz (by decide)
      obtain ⟨d1, d2⟩ := q2 (t2 n1 n2)
      exact ⟨_, jk_JM I1 y2 c2 d2 (ok_cut jJ.2.2.2 hL n1 n2)⟩
    · refine ⟨A, jk_JM I1 y2 (x1 hz) (n2 (fun hm => hz ?_)) jJ.2.2.2⟩
      have m1 := jk_n (t0) hm (by decide)
      have m2 := jk_n (t1 m1) hm (by decide)
      exact k2 m1 m2
  clear k0 t0 k1 t1 k2 t2
  have I2 := J2.1
  refine sg_istore (pc := 904) dL_law_904 (by decide) ?_
  refine sg_goto (pc := 906) (tgt := 2465) dL_law_906 (by decide) ?_
  refine sg_lsub (lv' := [(0, _), (1, _), (2, _), (3, _), (4, _)]) ⟨rfl, rfl, rfl, rfl, rfl, trivial⟩ ?_
  exact K _ _ _ _ J2 (by omega) (by omega)

set_option maxRecDepth 100000 in
set_option maxHeartbeats 1000000 in
theorem lw_c14 {w : sg_W} {Q : sg_O → sg_H → Prop} {h : sg_H} (g : sg_G w) (nc : jk_C w) (hJ : jz w) {d mc ms : Nat} (hd : 30 ≤ d) {B M O S j k n : Nat} {xs : List Int} {A : fa_A} (jJ : jk_J w B M O S xs h A) (hj : 6 * j + 6 ≤ xs.length) (hl : xs.length ≤ 3072) (hk : k + 1030 ≤ mc) (hn : n + (48 + 56) ≤ ms) (K : ∀ (h' : sg_H) (k' n' : Nat) (A' : fa_A), jk_J w B M O S xs h' A' → k' ≤ k + 1030 → n' ≤ n + (48 + 56) → sg_R w mi_L_law d mc ms Q 2465 [(0, sg_r S), (1, sg_r B), (2, sg_r M), (3, sg_r O), (4, sg_i (6 * (j : Int)))] [] h' k' n') : sg_R w mi_L_law d mc ms Q 909 [(0, sg_r S), (1, sg_r B), (2, sg_r M), (3, sg_r O), (4, sg_i (6 * (j : Int)))] [] h k n := by
  obtain ⟨p1, e1⟩ : ∃ p, xs.getD (6 * (j : Int) + 1).toNat 0 = p := ⟨_, rfl⟩
  obtain ⟨p2, e2⟩ : ∃ p, xs.getD (6 * (j : Int) + 2).toNat 0 = p := ⟨_, rfl⟩
  obtain ⟨p3, e3⟩ : ∃ p, xs.getD (6 * (j : Int) + 3).toNat 0 = p := ⟨_, rfl⟩
  obtain ⟨p4, e4⟩ : ∃ p, xs.getD (6 * (j : Int) + 4).toNat 0 = p := ⟨_, rfl⟩
  obtain ⟨p5, e5⟩ : ∃ p, xs.getD (6 * (j : Int) + 5).toNat 0 = p := ⟨_, rfl⟩
  refine sg_aload_n (pc := 909) (j := 1) dL_law_909 rfl rfl ?_
  refine sg_aload_n (pc := 910) (j := 0) dL_law_910 rfl rfl ?_
  refine sg_iload (pc := 911) dL_law_911 rfl ?_
  refine sg_iconst (pc := 913) (z := 1) dL_law_913 (by decide) ?_
  first | refine sg_iaddB (pc := 914) dL_law_914 (by omega) (by omega) ?_ | refine sg_iadd (pc := 914) dL_law_914 ?_
  refine sg_iald (pc := 915) dL_law_915 jJ.1.2.2.2.2.2.2.2.2.2 rfl (by omega) (jk_x (by omega) (by omega)) ?_
  try rw [e1]
  try rw [e2]
  try rw [e3]
  try rw [e4]
  try rw [e5]
  refine sg_aload_n (pc := 916) (j := 3) dL_law_916 rfl rfl ?_
  obtain ⟨L, hL⟩ : ∃ X, fa_L A (4 + p1.toNat) = X := ⟨_, rfl⟩
  refine st_cS3 (pc := 917) (d' := d - 1) (mc' := 8) (ms' := 48) g dL_law_917 cb_L_flip cw_L_flip ml_L_242 ms_L_flip (Nat.le_of_ble_eq_true rfl) (by first | exact jl_d0 hd rfl | omega) (by first | exact Nat.le_of_ble_eq_true rfl | omega) (by first | exact Nat.le_of_ble_eq_true rfl | omega) ?_
  refine f_L_flip g nc (by omega) jJ.1 jJ.2.1 jJ.2.2.2 hL (fun v1 h1 I1 X1 k0 k1 x1 r1 => sg_K1 ?_)
  refine sg_istore (pc := 920) dL_law_920 (by decide) ?_
  refine sg_aload_n (pc := 922) (j := 2) dL_law_922 rfl rfl ?_
  refine sg_aload_n (pc := 923) (j := 0) dL_law_923 rfl rfl ?_
  refine sg_iload (pc := 924) dL_law_924 rfl ?_
  refine sg_iconst (pc := 926) (z := 1) dL_law_926 (by decide) ?_
  first | refine sg_iaddB (pc := 927) dL_law_927 (by omega) (by omega) ?_ | refine sg_iadd (pc := 927) dL_law_927 ?_
  refine sg_iald (pc := 928) dL_law_928 I1.2.2.2.2.2.2.2.2.2 rfl (by omega) (jk_x (by omega) (by omega)) ?_
  try rw [e1]
  try rw [e2]
  try rw [e3]
  try rw [e4]
  try rw [e5]
  refine st_as (fun H r => jk_tgR (B := B) r) ?_
  have m2 := jk_Im I1
  have ab0 := jk_Jt jJ I1 X1
  refine sg_cE1 (pc := 929) (d' := d - 1) (mc' := 3) (ms' := 56) 8 g dL_law_929 cb_X7_flip ml_L_244 mn_X7_flip rfl mv_X7_flip (Nat.le_of_ble_eq_true rfl) (md_oc m2) (Nat.le_of_ble_eq_true rfl) (by first | exact jl_d0 hd rfl | omega) (by first | exact Nat.le_of_ble_eq_true rfl | omega) (by first | exact Nat.le_of_ble_eq_true rfl | omega) ?_
  refine f_X7_flip g (by first | exact jl_d1 hd rfl | omega) ab0 hL jJ.2.2.2 m2 (fun v2 h2 t0 t1 q2 n2 y2 => sg_K1 ?_)
  refine st_as (fun H r => jk_unR I1.1 r) ?_
  obtain ⟨A2, J2⟩ : ∃ A2, jk_J w B M O S xs (jk_unt B h2) A2 := by
    by_cases hz : v1 = 0
    · obtain ⟨c1, c2⟩ := r1 hz
      have n1 := jk_n (k0) hz (by decide)
      obtain ⟨d1, d2⟩ := q2 (t1 n1)
      exact ⟨_, jk_JM I1 y2 c2 d2 (ok_flip jJ.2.2.2 hL n1)⟩
    · refine ⟨A, jk_JM I1 y2 (x1 hz) (n2 (fun hm => hz ?_)) jJ.2.2.2⟩
      have m1 := jk_n (t0) hm (by decide)
      exact k1 m1
  clear k0 t0 k1 t1
  have I2 := J2.1
  refine sg_istore (pc := 932) dL_law_932 (by decide) ?_
  refine sg_goto (pc := 934) (tgt := 2465) dL_law_934 (by decide) ?_
  refine sg_lsub (lv' := [(0, _), (1, _), (2, _), (3, _), (4, _)]) ⟨rfl, rfl, rfl, rfl, rfl, trivial⟩ ?_
  exact K _ _ _ _ J2 (by omega) (by omega)

set_option maxRecDepth 100000 in
set_option maxHeartbeats 1000000 in
theorem lw_c15 {w : sg_W} {Q : sg_O → sg_H → Prop} {h : sg_H} (g : sg_G w) (nc : jk_C w) (hJ : jz w) {d mc ms : Nat} (hd : 30 ≤ d) {B M O S j k n : Nat} {xs : List Int} {A : fa_A} (jJ : jk_J w B M O S xs h A) (hj : 6 * j + 6 ≤ xs.length) (hl : xs.length ≤ 3072) (hk : k + 1030 ≤ mc) (hn : n + (48 + 2100) ≤ ms) (K : ∀ (h' : sg_H) (k' n' : Nat) (A' : fa_A), jk_J w B M O S xs h' A' → k' ≤ k + 1030 → n' ≤ n + (48 + 2100) → sg_R w mi_L_law d mc ms Q 2465 [(0, sg_r S), (1, sg_r B), (2, sg_r M), (3, sg_r O), (4, sg_i (6 * (j : Int)))] [] h' k' n') : sg_R w mi_L_law d mc ms Q 937 [(0, sg_r S), (1, sg_r B), (2, sg_r M), (3, sg_r O), (4, sg_i (6 * (j : Int)))] [] h k n := by
  obtain ⟨p1, e1⟩ : ∃ p, xs.getD (6 * (j : Int) + 1).toNat 0 = p := ⟨_, rfl⟩
  obtain ⟨p2, e2⟩ : ∃ p, xs.getD (6 * (j : Int) + 2).toNat 0 = p := ⟨_, rfl⟩
  obtain ⟨p3, e3⟩ : ∃ p, xs.getD (6 * (j : Int) + 3).toNat 0 = p := ⟨_, rfl⟩
  obtain ⟨p4, e4⟩ : ∃ p, xs.getD (6 * (j : Int) + 4).toNat 0 = p := ⟨_, rfl⟩
  obtain ⟨p5, e5⟩ : ∃ p, xs.getD (6 * (j : Int) + 5).toNat 0 = p := ⟨_, rfl⟩
  refine sg_aload_n (pc := 937) (j := 1) dL_law_937 rfl rfl ?_
  refine sg_aload_n (pc := 938) (j := 0) dL_law_938 rfl rfl ?_
  refine sg_iload (pc := 939) dL_law_939 rfl ?_
  refine sg_iconst (pc := 941) (z := 1) dL_law_941 (by decide) ?_
  first | refine sg_iaddB (pc := 942) dL_law_942 (by omega) (by omega) ?_ | refine sg_iadd (pc := 942) dL_law_942 ?_
  refine sg_iald (pc := 943) dL_law_943 jJ.1.2.2.2.2.2.2.2.2.2 rfl (by omega) (jk_x (by omega) (by omega)) ?_
  try rw [e1]
  try rw [e2]
  try rw [e3]
  try rw [e4]
  try rw [e5]
  refine sg_aload_n (pc := 944) (j := 3) dL_law_944 rfl rfl ?_
  obtain ⟨L, hL⟩ : ∃ X, fa_L A (4 + p1.toNat) = X := ⟨_, rfl⟩
  refine st_cS3 (pc := 945) (d' := d - 1) (mc' := 8) (ms' := 48) g dL_law_945 cb_L_reverse cw_L_reverse ml_L_245 ms_L_reverse (Nat.le_of_ble_eq_true rfl) (by first | exact jl_d0 hd rfl | omega) (by first | exact Nat.le_of_ble_eq_true rfl | omega) (by first | exact Nat.le_of_ble_eq_true rfl | omega) ?_
  refine f_L_reverse g nc (by omega) jJ.1 jJ.2.1 jJ.2.2.2 hL (fun v1 h1 I1 X1 k0 k1 x1 r1 => sg_K1 ?_)
  refine sg_istore (pc := 948) dL_law_948 (by decide) ?_
  refine sg_aload_n (pc := 950) (j := 2) dL_law_950 rfl rfl ?_
  refine sg_aload_n (pc := 951) (j := 0) dL_law_951 rfl rfl ?_
  refine sg_iload (pc := 952) dL_law_952 rfl ?_
  refine sg_iconst (pc := 954) (z := 1) dL_law_954 (by decide) ?_
  first | refine sg_iaddB (pc := 955) dL_law_955 (by omega) (by omega) ?_ | refine sg_iadd (pc := 955) dL_law_955 ?_
  refine sg_iald (pc := 956) dL_law_956 I1.2.2.2.2.2.2.2.2.2 rfl (by omega) (jk_x (by omega) (by omega)) ?_
  try rw [e1]
  try rw [e2]
  try rw [e3]
  try rw [e4]
  try rw [e5]
  refine st_as (fun H r => jk_tgR (B := B) r) ?_
  have m2 := jk_Im I1
  have ab0 := jk_Jt jJ I1 X1
  refine sg_cE1 (pc := 957) (d' := d - 1) (mc' := 210) (ms' := 2100) 8 g dL_law_957 cb_X7_reverse ml_L_247 mn_X7_reverse rfl mv_X7_reverse (Nat.le_of_ble_eq_true rfl) (md_oc m2) (Nat.le_of_ble_eq_true rfl) (by first | exact jl_d0 hd rfl | omega) (by first | exact Nat.le_of_ble_eq_true rfl | omega) (by first | exact Nat.le_of_ble_eq_true rfl | omega) ?_
  refine f_X7_reverse g (by first | exact jl_d1 hd rfl | omega) ab0 hL jJ.2.2.2 m2 (fun v2 h2 t0 t1 q2 n2 y2 => sg_K1 ?_)
  refine st_as (fun H r => jk_unR I1.1 r) ?_
  obtain ⟨A2, J2⟩ : ∃ A2, jk_J w B M O S xs (jk_unt B h2) A2 := by
    by_cases hz : v1 = 0
    · obtain ⟨c1, c2⟩ := r1 hz
      have n1 := jk_n (k0) hz (by decide)
      obtain ⟨d1, d2⟩ := q2 (t1 n1)
      exact ⟨_, jk_JM I1 y2 c2 d2 (ok_reverse jJ.2.2.2 hL n1)⟩
    · refine ⟨A, jk_JM I1 y2 (x1 hz) (n2 (fun hm => hz ?_)) jJ.2.2.2⟩
      have m1 := jk_n (t0) hm (by decide)
      exact k1 m1
  clear k0 t0 k1 t1
  have I2 := J2.1
  refine sg_istore (pc := 960) dL_law_960 (by decide) ?_
  refine sg_goto (pc := 962) (tgt := 2465) dL_law_962 (by decide) ?_
  refine sg_lsub (lv' := [(0, _), (1, _), (2, _), (3, _), (4, _)]) ⟨rfl, rfl, rfl, rfl, rfl, trivial⟩ ?_
  exact K _ _ _ _ J2 (by omega) (by omega)

set_option maxRecDepth 100000 in
set_option maxHeartbeats 1000000 in
theorem lw_c16 {w : sg_W} {Q : sg_O → sg_H → Prop} {h : sg_H} (g : sg_G w) (nc : jk_C w) (hJ : jz w) {d mc ms : Nat} (hd : 30 ≤ d) {B M O S j k n : Nat} {xs : List Int} {A : fa_A} (jJ : jk_J w B M O S xs h A) (hj : 6 * j + 6 ≤ xs.length) (hl : xs.length ≤ 3072) (hk : k + 1030 ≤ mc) (hn : n + (48 + 0) ≤ ms) (K : ∀ (h' : sg_H) (k' n' : Nat) (A' : fa_A), jk_J w B M O S xs h' A' → k' ≤ k + 1030 → n' ≤ n + (48 + 0) → sg_R w mi_L_law d mc ms Q 2465 [(0, sg_r S), (1, sg_r B), (2, sg_r M), (3, sg_r O), (4, sg_i (6 * (j : Int)))] [] h' k' n') : sg_R w mi_L_law d mc ms Q 965 [(0, sg_r S), (1, sg_r B), (2, sg_r M), (3, sg_r O), (4, sg_i (6 * (j : Int)))] [] h k n := by
  obtain ⟨p1, e1⟩ : ∃ p, xs.getD (6 * (j : Int) + 1).toNat 0 = p := ⟨_, rfl⟩
  obtain ⟨p2, e2⟩ : ∃ p, xs.getD (6 * (j : Int) + 2).toNat 0 = p := ⟨_, rfl⟩
  obtain ⟨p3, e3⟩ : ∃ p, xs.getD (6 * (j : Int) + 3).toNat 0 = p := ⟨_, rfl⟩
  obtain ⟨p4, e4⟩ : ∃ p, xs.getD (6 * (j : Int) + 4).toNat 0 = p := ⟨_, rfl⟩
  obtain ⟨p5, e5⟩ : ∃ p, xs.getD (6 * (j : Int) + 5).toNat 0 = p := ⟨_, rfl⟩
  refine sg_aload_n (pc := 965) (j := 1) dL_law_965 rfl rfl ?_
  refine sg_aload_n (pc := 966) (j := 3) dL_law_966 rfl rfl ?_
  refine st_cS2 (pc := 967) (d' := d - 1) (mc' := 8) (ms' := 48) g dL_law_967 cb_L_undo cw_L_undo ml_L_248 ms_L_undo (Nat.le_of_ble_eq_true rfl) (by first | exact jl_d0 hd rfl | omega) (by first | exact Nat.le_of_ble_eq_true rfl | omega) (by first | exact Nat.le_of_ble_eq_true rfl | omega) ?_
  refine f_L_undo g nc (by omega) jJ.1 jJ.2.1 jJ.2.2.2 (fun v1 h1 I1 X1 k0 k1 x1 r1 => sg_K1 ?_)
  refine sg_istore (pc := 970) dL_law_970 (by decide) ?_
  refine sg_aload_n (pc := 972) (j := 2) dL_law_972 rfl rfl ?_
  refine st_as (fun H r => jk_tgR (B := B) r) ?_
  have m2 := jk_Im I1
  have ab0 := jk_Jt jJ I1 X1
  refine sg_cE0 (pc := 973) (d' := d - 1) (mc' := 0) (ms' := 0) 8 g dL_law_973 cb_X7_undo ml_L_251 mn_X7_undo rfl mv_X7_undo (Nat.le_of_ble_eq_true rfl) (md_oc m2) (Nat.le_of_ble_eq_true rfl) (by first | exact jl_d0 hd rfl | omega) (by first | exact Nat.le_of_ble_eq_true rfl | omega) (by first | exact Nat.le_of_ble_eq_true rfl | omega) ?_
  refine f_X7_undo g (by first | exact jl_d1 hd rfl | omega) ab0 m2 (fun v2 h2 t0 t1 q2 n2 y2 => sg_K1 ?_)
  refine st_as (fun H r => jk_unR I1.1 r) ?_
  obtain ⟨A2, J2⟩ : ∃ A2, jk_J w B M O S xs (jk_unt B h2) A2 := by
    by_cases hz : v1 = 0
    · obtain ⟨c1, c2⟩ := r1 hz
      have n1 := jk_n (k0) hz (by decide)
      obtain ⟨d1, d2⟩ := q2 (t1 n1)
      exact ⟨_, jk_JM I1 y2 c2 d2 (ok_undo jJ.2.2.2 n1)⟩
    · refine ⟨A, jk_JM I1 y2 (x1 hz) (n2 (fun hm => hz ?_)) jJ.2.2.2⟩
      have m1 := jk_n (t0) hm (by decide)
      exact k1 m1
  clear k0 t0 k1 t1
  have I2 := J2.1
  refine sg_istore (pc := 976) dL_law_976 (by decide) ?_
  refine sg_goto (pc := 978) (tgt := 2465) dL_law_978 (by decide) ?_
  refine sg_lsub (lv' := [(0, _), (1, _), (2, _), (3, _), (4, _)]) ⟨rfl, rfl, rfl, rfl, rfl, trivial⟩ ?_
  exact K _ _ _ _ J2 (by omega) (by omega)

set_option maxRecDepth 100000 in
set_option maxHeartbeats 1000000 in
theorem lw_c17 {w : sg_W} {Q : sg_O → sg_H → Prop} {h : sg_H} (g : sg_G w) (nc : jk_C w) (hJ : jz w) {d mc ms : Nat} (hd : 30 ≤ d) {B M O S j k n : Nat} {xs : List Int} {A : fa_A} (jJ : jk_J w B M O S xs h A) (hj : 6 * j + 6 ≤ xs.length) (hl : xs.length ≤ 3072) (hk : k + 1030 ≤ mc) (hn : n + (0 + 0) ≤ ms) (K : ∀ (h' : sg_H) (k' n' : Nat) (A' : fa_A), jk_J w B M O S xs h' A' → k' ≤ k + 1030 → n' ≤ n + (0 + 0) → sg_R w mi_L_law d mc ms Q 2465 [(0, sg_r S), (1, sg_r B), (2, sg_r M), (3, sg_r O), (4, sg_i (6 * (j : Int)))] [] h' k' n') : sg_R w mi_L_law d mc ms Q 981 [(0, sg_r S), (1, sg_r B), (2, sg_r M), (3, sg_r O), (4, sg_i (6 * (j : Int)))] [] h k n := by
  obtain ⟨p1, e1⟩ : ∃ p, xs.getD (6 * (j : Int) + 1).toNat 0 = p := ⟨_, rfl⟩
  obtain ⟨p2, e2⟩ : ∃ p, xs.getD (6 * (j : Int) + 2).toNat 0 = p := ⟨_, rfl⟩
  obtain ⟨p3, e3⟩ : ∃ p, xs.getD (6 * (j : Int) + 3).toNat 0 = p := ⟨_, rfl⟩
  obtain ⟨p4, e4⟩ : ∃ p, xs.getD (6 * (j : Int) + 4).toNat 0 = p := ⟨_, rfl⟩
  obtain ⟨p5, e5⟩ : ∃ p, xs.getD (6 * (j : Int) + 5).toNat 0 = p := ⟨_, rfl⟩
  refine sg_aload_n (pc := 981) (j := 1) dL_law_981 rfl rfl ?_
  refine sg_cE0 (pc := 982) (d' := d - 1) (mc' := 0) (ms' := 0) 6 g dL_law_982 cb_X5_knock ml_L_252 mn_X5_knock rfl mv_X5_knock (Nat.le_of_ble_eq_true rfl) (ck_oc jJ.1.2.2.1) (Nat.le_of_ble_eq_true rfl) (by first | exact jl_d0 hd rfl | omega) (by first | exact Nat.le_of_ble_eq_true rfl | omega) (by first | exact Nat.le_of_ble_eq_true rfl | omega) ?_
  refine f_X5_knock g (by first | exact jl_d1 hd rfl | omega) jJ.2.1 (fun h1 cx1 F1 => sg_K1 ?_)
  obtain ⟨I1, X1⟩ := jk_IY jJ.1 (⟨cx1.1, F1⟩ : ck_Y h h1 B)
  refine sg_pop (pc := 985) dL_law_985 rfl ?_
  refine sg_aload_n (pc := 986) (j := 2) dL_law_986 rfl rfl ?_
  refine st_as (fun H r => jk_tgR (B := B) r) ?_
  have m2 := jk_Im I1
  have ab0 := jk_Jt jJ I1 X1
  refine sg_cE0 (pc := 987) (d' := d - 1) (mc' := 0) (ms' := 0) 8 g dL_law_987 cb_X7_knock ml_L_255 mn_X7_knock rfl mv_X7_knock (Nat.le_of_ble_eq_true rfl) (md_oc m2) (Nat.le_of_ble_eq_true rfl) (by first | exact jl_d0 hd rfl | omega) (by first | exact Nat.le_of_ble_eq_true rfl | omega) (by first | exact Nat.le_of_ble_eq_true rfl | omega) ?_
  refine s_X7_knock g (by first | exact jl_d1 hd rfl | omega) m2 (fun v2 h2 c2_0 t2 ab2 y2 => sg_K1 ?_)
  refine st_as (fun H r => jk_unR I1.1 r) ?_
  rw [ab0] at c2_0 ab2
  have J2 : jk_J w B M O S xs (jk_unt B h2) _ := jk_JM I1 y2 cx1 (ab2.trans (by rw [c2_0])) (ok_kn jJ.2.2.2)
  have I2 := J2.1
  refine sg_pop (pc := 990) dL_law_990 rfl ?_
  refine sg_goto (pc := 991) (tgt := 2465) dL_law_991 (by decide) ?_
  refine sg_lsub (lv' := [(0, _), (1, _), (2, _), (3, _), (4, _)]) ⟨rfl, rfl, rfl, rfl, rfl, trivial⟩ ?_
  exact K _ _ _ _ J2 (by omega) (by omega)

set_option maxRecDepth 100000 in
set_option maxHeartbeats 1000000 in
theorem lw_c18 {w : sg_W} {Q : sg_O → sg_H → Prop} {h : sg_H} (g : sg_G w) (nc : jk_C w) (hJ : jz w) {d mc ms : Nat} (hd : 30 ≤ d) {B M O S j k n : Nat} {xs : List Int} {A : fa_A} (jJ : jk_J w B M O S xs h A) (hj : 6 * j + 6 ≤ xs.length) (hl : xs.length ≤ 3072) (hk : k + 1030 ≤ mc) (hn : n + (48 + 0) ≤ ms) (K : ∀ (h' : sg_H) (k' n' : Nat) (A' : fa_A), jk_J w B M O S xs h' A' → k' ≤ k + 1030 → n' ≤ n + (48 + 0) → sg_R w mi_L_law d mc ms Q 2465 [(0, sg_r S), (1, sg_r B), (2, sg_r M), (3, sg_r O), (4, sg_i (6 * (j : Int)))] [] h' k' n') : sg_R w mi_L_law d mc ms Q 994 [(0, sg_r S), (1, sg_r B), (2, sg_r M), (3, sg_r O), (4, sg_i (6 * (j : Int)))] [] h k n := by
  obtain ⟨p1, e1⟩ : ∃ p, xs.getD (6 * (j : Int) + 1).toNat 0 = p := ⟨_, rfl⟩
  obtain ⟨p2, e2⟩ : ∃ p, xs.getD (6 * (j : Int) + 2).toNat 0 = p := ⟨_, rfl⟩
  obtain ⟨p3, e3⟩ : ∃ p, xs.getD (6 * (j : Int) + 3).toNat 0 = p := ⟨_, rfl⟩
  obtain ⟨p4, e4⟩ : ∃ p, xs.getD (6 * (j : Int) + 4).toNat 0 = p := ⟨_, rfl⟩
  obtain ⟨p5, e5⟩ : ∃ p, xs.getD (6 * (j : Int) + 5).toNat 0 = p := ⟨_, rfl⟩
  refine sg_aload_n (pc := 994) (j := 1) dL_law_994 rfl rfl ?_
  refine sg_aload_n (pc := 995) (j := 0) dL_law_995 rfl rfl ?_
  refine sg_iload (pc := 996) dL_law_996 rfl ?_
  refine sg_iconst (pc := 998) (z := 1) dL_law_998 (by decide) ?_
  first | refine sg_iaddB (pc := 999) dL_law_999 (by omega) (by omega) ?_ | refine sg_iadd (pc := 999) dL_law_999 ?_
  refine sg_iald (pc := 1000) dL_law_1000 jJ.1.2.2.2.2.2.2.2.2.2 rfl (by omega) (jk_x (by omega) (by omega)) ?_
  try rw [e1]
  try rw [e2]
  try rw [e3]
  try rw [e4]
  try rw [e5]
  refine sg_aload_n (pc := 1001) (j := 3) dL_law_1001 rfl rfl ?_
  refine st_cS3 (pc := 1002) (d' := d - 1) (mc' := 8) (ms' := 48) g dL_law_1002 cb_L_isDigit cw_L_isDigit ml_L_256 ms_L_isDigit (Nat.le_of_ble_eq_true rfl) (by first | exact jl_d0 hd rfl | omega) (by first | exact Nat.le_of_ble_eq_true rfl | omega) (by first | exact Nat.le_of_ble_eq_true rfl | omega) ?_
  refine s_L_isDigit g nc (by omega) jJ.1 (fun v1 h1 I1 X1 F1 k1 o1 => sg_K1 ?_)
  refine sg_istore (pc := 1005) dL_law_1005 (by decide) ?_
  refine sg_aload_n (pc := 1007) (j := 2) dL_law_1007 rfl rfl ?_
  refine sg_aload_n (pc := 1008) (j := 0) dL_law_1008 rfl rfl ?_
  refine sg_iload (pc := 1009) dL_law_1009 rfl ?_
  refine sg_iconst (pc := 1011) (z := 1) dL_law_1011 (by decide) ?_
  first | refine sg_iaddB (pc := 1012) dL_law_1012 (by omega) (by omega) ?_ | refine sg_iadd (pc := 1012) dL_law_1012 ?_
  refine sg_iald (pc := 1013) dL_law_1013 I1.2.2.2.2.2.2.2.2.2 rfl (by omega) (jk_x (by omega) (by omega)) ?_
  try rw [e1]
  try rw [e2]
  try rw [e3]
  try rw [e4]
  try rw [e5]
  refine st_as (fun H r => jk_tgR (B := B) r) ?_
  have m2 := jk_Im I1
  have ab0 := jk_Jt jJ I1 X1
  refine sg_cE1 (pc := 1014) (d' := d - 1) (mc' := 0) (ms' := 0) 8 g dL_law_1014 cb_X7_isDigit ml_L_258 mn_X7_isDigit rfl mv_X7_isDigit (Nat.le_of_ble_eq_true rfl) (md_oc m2) (Nat.le_of_ble_eq_true rfl) (by first | exact jl_d0 hd rfl | omega) (by first | exact Nat.le_of_ble_eq_true rfl | omega) (by first | exact Nat.le_of_ble_eq_true rfl | omega) ?_
  refine s_X7_isDigit g (by first | exact jl_d1 hd rfl | omega) m2 (fun v2 h2 c2_0 c2_1 c2_2 y2 => sg_K1 ?_)
  refine st_as (fun H r => jk_unR I1.1 r) ?_
  have J2 : jk_J w B M O S xs (jk_unt B h2) A := jk_JM I1 (md_YW y2) (cf_XF jJ.2.1 F1) (y2.2.2.trans ab0) jJ.2.2.2
  have y2 := md_YW y2
  have I2 := J2.1
  refine sg_istore (pc := 1017) dL_law_1017 (by decide) ?_
  refine sg_goto (pc := 1019) (tgt := 2465) dL_law_1019 (by decide) ?_
  refine sg_lsub (lv' := [(0, _), (1, _), (2, _), (3, _), (4, _)]) ⟨rfl, rfl, rfl, rfl, rfl, trivial⟩ ?_
  exact K _ _ _ _ J2 (by omega) (by omega)

set_option maxRecDepth 100000 in
set_option maxHeartbeats 1000000 in
theorem lw_c19 {w : sg_W} {Q : sg_O → sg_H → Prop} {h : sg_H} (g : sg_G w) (nc : jk_C w) (hJ : jz w) {d mc ms : Nat} (hd : 30 ≤ d) {B M O S j k n : Nat} {xs : List Int} {A : fa_A} (jJ : jk_J w B M O S xs h A) (hj : 6 * j + 6 ≤ xs.length) (hl : xs.length ≤ 3072) (hk : k + 1030 ≤ mc) (hn : n + (48 + 0) ≤ ms) (K : ∀ (h' : sg_H) (k' n' : Nat) (A' : fa_A), jk_J w B M O S xs h' A' → k' ≤ k + 1030 → n' ≤ n + (48 + 0) → sg_R w mi_L_law d mc ms Q 2465 [(0, sg_r S), (1, sg_r B), (2, sg_r M), (3, sg_r O), (4, sg_i (6 * (j : Int)))] [] h' k' n') : sg_R w mi_L_law d mc ms Q 1022 [(0, sg_r S), (1, sg_r B), (2, sg_r M), (3, sg_r O), (4, sg_i (6 * (j : Int)))] [] h k n := by
  obtain ⟨p1, e1⟩ : ∃ p, xs.getD (6 * (j : Int) + 1).toNat 0 = p := ⟨_, rfl⟩
  obtain ⟨p2, e2⟩ : ∃ p, xs.getD (6 * (j : Int) + 2).toNat 0 = p := ⟨_, rfl⟩
  obtain ⟨p3, e3⟩ : ∃ p, xs.getD (6 * (j : Int) + 3).toNat 0 = p := ⟨_, rfl⟩
  obtain ⟨p4, e4⟩ : ∃ p, xs.getD (6 * (j : Int) + 4).toNat 0 = p := ⟨_, rfl⟩
  obtain ⟨p5, e5⟩ : ∃ p, xs.getD (6 * (j : Int) + 5).toNat 0 = p := ⟨_, rfl⟩
  refine sg_aload_n (pc := 1022) (j := 1) dL_law_1022 rfl rfl ?_
  refine sg_aload_n (pc := 1023) (j := 0) dL_law_1023 rfl rfl ?_
  refine sg_iload (pc := 1024) dL_law_1024 rfl ?_
  refine sg_iconst (pc := 1026) (z := 1) dL_law_1026 (by decide) ?_
  first | refine sg_iaddB (pc := 1027) dL_law_1027 (by omega) (by omega) ?_ | refine sg_iadd (pc := 1027) dL_law_1027 ?_
  refine sg_iald (pc := 1028) dL_law_1028 jJ.1.2.2.2.2.2.2.2.2.2 rfl (by omega) (jk_x (by omega) (by omega)) ?_
  try rw [e1]
  try rw [e2]
  try rw [e3]
  try rw [e4]
  try rw [e5]
  refine sg_aload_n (pc := 1029) (j := 3) dL_law_1029 rfl rfl ?_
  refine st_cS3 (pc := 1030) (d' := d - 1) (mc' := 8) (ms' := 48) g dL_law_1030 cb_L_isLetter cw_L_isLetter ml_L_259 ms_L_isLetter (Nat.le_of_ble_eq_true rfl) (by first | exact jl_d0 hd rfl | omega) (by first | exact Nat.le_of_ble_eq_true rfl | omega) (by first | exact Nat.le_of_ble_eq_true rfl | omega) ?_
  refine s_L_isLetter g nc (by omega) jJ.1 (fun v1 h1 I1 X1 F1 k1 o1 => sg_K1 ?_)
  refine sg_istore (pc := 1033) dL_law_1033 (by decide) ?_
  refine sg_aload_n (pc := 1035) (j := 2) dL_law_1035 rfl rfl ?_
  refine sg_aload_n (pc := 1036) (j := 0) dL_law_1036 rfl rfl ?_
  refine sg_iload (pc := 1037) dL_law_1037 rfl ?_
  refine sg_iconst (pc := 1039) (z := 1) dL_law_1039 (by decide) ?_
  first | refine sg_iaddB (pc := 1040) dL_law_1040 (by omega) (by omega) ?_ | refine sg_iadd (pc := 1040) dL_law_1040 ?_
  refine sg_iald (pc := 1041) dL_law_1041 I1.2.2.2.2.2.2.2.2.2 rfl (by omega) (jk_x (by omega) (by omega)) ?_
  try rw [e1]
  try rw [e2]
  try rw [e3]
  try rw [e4]
  try rw [e5]
  refine st_as (fun H r => jk_tgR (B := B) r) ?_
  have m2 := jk_Im I1
  have ab0 := jk_Jt jJ I1 X1
  refine sg_cE1 (pc := 1042) (d' := d - 1) (mc' := 0) (ms' := 0) 8 g dL_law_1042 cb_X7_isLetter ml_L_261 mn_X7_isLetter rfl mv_X7_isLetter (Nat.le_of_ble_eq_true rfl) (md_oc m2) (Nat.le_of_ble_eq_true rfl) (by first | exact jl_d0 hd rfl | omega) (by first | exact Nat.le_of_ble_eq_true rfl | omega) (by first | exact Nat.le_of_ble_eq_true rfl | omega) ?_
  refine s_X7_isLetter g (by first | exact jl_d1 hd rfl | omega) m2 (fun v2 h2 c2_0 c2_1 c2_2 y2 => sg_K1 ?_)
  refine st_as (fun H r => jk_unR I1.1 r) ?_
  have J2 : jk_J w B M O S xs (jk_unt B h2) A := jk_JM I1 (md_YW y2) (cf_XF jJ.2.1 F1) (y2.2.2.trans ab0) jJ.2.2.2
  have y2 := md_YW y2
  have I2 := J2.1
  refine sg_istore (pc := 1045) dL_law_1045 (by decide) ?_
  refine sg_goto (pc := 1047) (tgt := 2465) dL_law_1047 (by decide) ?_
  refine sg_lsub (lv' := [(0, _), (1, _), (2, _), (3, _), (4, _)]) ⟨rfl, rfl, rfl, rfl, rfl, trivial⟩ ?_
  exact K _ _ _ _ J2 (by omega) (by omega)

