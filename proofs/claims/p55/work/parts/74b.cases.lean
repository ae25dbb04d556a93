set_option maxRecDepth 100000 in
set_option maxHeartbeats 1000000 in
theorem lw_c10 {w : sg_W} {Q : sg_O → sg_H → Prop} {h : sg_H} (g : sg_G w) (nc : jk_C w) (hJ : jz w) {d mc ms : Nat} (hd : 30 ≤ d) {B M O S j k n : Nat} {xs : List Int} {A : fa_A} (jJ : jk_J w B M O S xs h A) (hj : 6 * j + 6 ≤ xs.length) (hl : xs.length ≤ 3072) (hk : k + 1030 ≤ mc) (hn : n + (48 + 56) ≤ ms) (K : ∀ (h' : sg_H) (k' n' : Nat) (A' : fa_A), jk_J w B M O S xs h' A' → k' ≤ k + 1030 → n' ≤ n + (48 + 56) → sg_R w mi_L_law d mc ms Q 2465 [(0, sg_r S), (1, sg_r B), (2, sg_r M), (3, sg_r O), (4, sg_i (6 * (j : Int)))] [] h' k' n') : sg_R w mi_L_law d mc ms Q 720 [(0, sg_r S), (1, sg_r B), (2, sg_r M), (3, sg_r O), (4, sg_i (6 * (j : Int)))] [] h k n := by
  obtain ⟨p1, e1⟩ : ∃ p, xs.getD (6 * (j : Int) + 1).toNat 0 = p := ⟨_, rfl⟩
  obtain ⟨p2, e2⟩ : ∃ p, xs.getD (6 * (j : Int) + 2).toNat 0 = p := ⟨_, rfl⟩
  obtain ⟨p3, e3⟩ : ∃ p, xs.getD (6 * (j : Int) + 3).toNat 0 = p := ⟨_, rfl⟩
  obtain ⟨p4, e4⟩ : ∃ p, xs.getD (6 * (j : Int) + 4).toNat 0 = p := ⟨_, rfl⟩
  obtain ⟨p5, e5⟩ : ∃ p, xs.getD (6 * (j : Int) + 5).toNat 0 = p := ⟨_, rfl⟩
  refine sg_aload_n (pc := 720) (j := 1) dL_law_720 rfl rfl ?_
  refine sg_aload_n (pc := 721) (j := 0) dL_law_721 rfl rfl ?_
  refine sg_iload (pc := 722) dL_law_722 rfl ?_
  refine sg_iconst (pc := 724) (z := 1) dL_law_724 (by decide) ?_
  first | refine sg_iaddB (pc := 725) dL_law_725 (by omega) (by omega) ?_ | refine sg_iadd (pc := 725) dL_law_725 ?_
  refine sg_iald (pc := 726) dL_law_726 jJ.1.2.2.2.2.2.2.2.2.2 rfl (by omega) (jk_x (by omega) (by omega)) ?_
  try rw [e1]
  try rw [e2]
  try rw [e3]
  try rw [e4]
  try rw [e5]
  refine sg_aload_n (pc := 727) (j := 0) dL_law_727 rfl rfl ?_
  refine sg_iload (pc := 728) dL_law_728 rfl ?_
  refine sg_iconst (pc := 730) (z := 2) dL_law_730 (by decide) ?_
  first | refine sg_iaddB (pc := 731) dL_law_731 (by omega) (by omega) ?_ | refine sg_iadd (pc := 731) dL_law_731 ?_
  refine sg_iald (pc := 732) dL_law_732 jJ.1.2.2.2.2.2.2.2.2.2 rfl (by omega) (jk_x (by omega) (by omega)) ?_
  try rw [e1]
  try rw [e2]
  try rw [e3]
  try rw [e4]
  try rw [e5]
  refine sg_aload_n (pc := 733) (j := 3) dL_law_733 rfl rfl ?_
  obtain ⟨L, hL⟩ : ∃ X, fa_L A p1.toNat = X := ⟨_, rfl⟩
  obtain ⟨Z, hZ⟩ : ∃ X, fa_L A p2.toNat = X := ⟨_, rfl⟩
  refine st_cS4 (pc := 734) (d' := d - 1) (mc' := 8) (ms' := 48) g dL_law_734 cb_L_read cw_L_read ml_L_227 ms_L_read (Nat.le_of_ble_eq_true rfl) (by first | exact jl_d0 hd rfl | omega) (by first | exact Nat.le_of_ble_eq_true rfl | omega) (by first | exact Nat.le_of_ble_eq_true rfl | omega) ?_
  refine f_L_read g nc (by omega) jJ.1 jJ.2.1 jJ.2.2.2 hL hZ (fun v1 h1 I1 X1 k0 k1 k2 x1 r1 => sg_K1 ?_)
  refine sg_istore (pc := 737) dL_law_737 (by decide) ?_
  refine sg_aload_n (pc := 739) (j := 2) dL_law_739 rfl rfl ?_
  refine sg_aload_n (pc := 740) (j := 0) dL_law_740 rfl rfl ?_
  refine sg_iload (pc := 741) dL_law_741 rfl ?_
  refine sg_iconst (pc := 743) (z := 1) dL_law_743 (by decide) ?_
  first | refine sg_iaddB (pc := 744) dL_law_744 (by omega) (by omega) ?_ | refine sg_iadd (pc := 744) dL_law_744 ?_
  refine sg_iald (pc := 745) dL_law_745 I1.2.2.2.2.2.2.2.2.2 rfl (by omega) (jk_x (by omega) (by omega)) ?_
  try rw [e1]
  try rw [e2]
  try rw [e3]
  try rw [e4]
  try rw [e5]
  refine sg_aload_n (pc := 746) (j := 0) dL_law_746 rfl rfl ?_
  refine sg_iload (pc := 747) dL_law_747 rfl ?_
  refine sg_iconst (pc := 749) (z := 2) dL_law_749 (by decide) ?_
  first | refine sg_iaddB (pc := 750) dL_law_750 (by omega) (by omega) ?_ | refine sg_iadd (pc := 750) dL_law_750 ?_
  refine sg_iald (pc := 751) dL_law_751 I1.2.2.2.2.2.2.2.2.2 rfl (by omega) (jk_x (by omega) (by omega)) ?_
  try rw [e1]
  try rw [e2]
  try rw [e3]
  try rw [e4]
  try rw [e5]
  refine st_as (fun H r => jk_tgR (B := B) r) ?_
  have m2 := jk_Im I1
  have ab0 := jk_Jt jJ I1 X1
  refine sg_cE2 (pc := 752) (d' := d - 1) (mc' := 3) (ms' := 56) 8 g dL_law_752 cb_X7_read ml_L_229 mn_X7_read rfl mv_X7_read (Nat.le_of_ble_eq_true rfl) (md_oc m2) (Nat.le_of_ble_eq_true rfl) (by first | exact jl_d0 hd rfl | omega) (by first | exact Nat.le_of_ble_eq_true rfl | omega) (by first | exact Nat.le_of_ble_eq_true rfl | omega) ?_
  refine f_X7_read g (by first | exact jl_d1 hd rfl | omega) ab0 hL hZ jJ.2.2.2 m2 (fun v2 h2 t0 t1 t2 q2 n2 y2 => sg_K1 ?_)
  refine st_as (fun H r => jk_unR I1.1 r) ?_
  obtain ⟨A2, J2⟩ : ∃ A2, jk_J w B M O S xs (jk_unt B h2) A2 := by
    by_cases hz : v1 = 0
    · obtain ⟨c1, c2⟩ := r1 hz
      have n1 := jk_n (k0) hz (by decide)
      have n2 := jk_n (k1 n1) hz (by decide)
      obtain ⟨d1, d2⟩ := q2 (t2 n1 n2)
      exact ⟨_, jk_JM I1 y2 c2 d2 (ok_read jJ.2.2.2 hL hZ n1 n2)⟩
    · refine ⟨A, jk_JM I1 y2 (x1 hz) (n2 (fun hm => hz ?_)) jJ.2.2.2⟩
      have m1 := jk_n (t0) hm (by decide)
      have m2 := jk_n (t1 m1) hm (by decide)
      exact k2 m1 m2
  clear k0 t0 k1 t1 k2 t2
  have I2 := J2.1
  refine sg_istore (pc := 755) dL_law_755 (by decide) ?_
  refine sg_goto (pc := 757) (tgt := 2465) dL_law_757 (by decide) ?_
  refine sg_lsub (lv' := [(0, _), (1, _), (2, _), (3, _), (4, _)]) ⟨rfl, rfl, rfl, rfl, rfl, trivial⟩ ?_
  exact K _ _ _ _ J2 (by omega) (by omega)

set_option maxRecDepth 100000 in
set_option maxHeartbeats 1000000 in
theorem lw_c11 {w : sg_W} {Q : sg_O → sg_H → Prop} {h : sg_H} (g : sg_G w) (nc : jk_C w) (hJ : jz w) {d mc ms : Nat} (hd : 30 ≤ d) {B M O S j k n : Nat} {xs : List Int} {A : fa_A} (jJ : jk_J w B M O S xs h A) (hj : 6 * j + 6 ≤ xs.length) (hl : xs.length ≤ 3072) (hk : k + 1030 ≤ mc) (hn : n + (48 + 82) ≤ ms) (K : ∀ (h' : sg_H) (k' n' : Nat) (A' : fa_A), jk_J w B M O S xs h' A' → k' ≤ k + 1030 → n' ≤ n + (48 + 82) → sg_R w mi_L_law d mc ms Q 2465 [(0, sg_r S), (1, sg_r B), (2, sg_r M), (3, sg_r O), (4, sg_i (6 * (j : Int)))] [] h' k' n') : sg_R w mi_L_law d mc ms Q 760 [(0, sg_r S), (1, sg_r B), (2, sg_r M), (3, sg_r O), (4, sg_i (6 * (j : Int)))] [] h k n := by
  obtain ⟨p1, e1⟩ : ∃ p, xs.getD (6 * (j : Int) + 1).toNat 0 = p := ⟨_, rfl⟩
  obtain ⟨p2, e2⟩ : ∃ p, xs.getD (6 * (j : Int) + 2).toNat 0 = p := ⟨_, rfl⟩
  obtain ⟨p3, e3⟩ : ∃ p, xs.getD (6 * (j : Int) + 3).toNat 0 = p := ⟨_, rfl⟩
  obtain ⟨p4, e4⟩ : ∃ p, xs.getD (6 * (j : Int) + 4).toNat 0 = p := ⟨_, rfl⟩
  obtain ⟨p5, e5⟩ : ∃ p, xs.getD (6 * (j : Int) + 5).toNat 0 = p := ⟨_, rfl⟩
  refine sg_aload_n (pc := 760) (j := 1) dL_law_760 rfl rfl ?_
  refine sg_aload_n (pc := 761) (j := 0) dL_law_761 rfl rfl ?_
  refine sg_iload (pc := 762) dL_law_762 rfl ?_
  refine sg_iconst (pc := 764) (z := 1) dL_law_764 (by decide) ?_
  first | refine sg_iaddB (pc := 765) dL_law_765 (by omega) (by omega) ?_ | refine sg_iadd (pc := 765) dL_law_765 ?_
  refine sg_iald (pc := 766) dL_law_766 jJ.1.2.2.2.2.2.2.2.2.2 rfl (by omega) (jk_x (by omega) (by omega)) ?_
  try rw [e1]
  try rw [e2]
  try rw [e3]
  try rw [e4]
  try rw [e5]
  refine sg_aload_n (pc := 767) (j := 0) dL_law_767 rfl rfl ?_
  refine sg_iload (pc := 768) dL_law_768 rfl ?_
  refine sg_iconst (pc := 770) (z := 2) dL_law_770 (by decide) ?_
  first | refine sg_iaddB (pc := 771) dL_law_771 (by omega) (by omega) ?_ | refine sg_iadd (pc := 771) dL_law_771 ?_
  refine sg_iald (pc := 772) dL_law_772 jJ.1.2.2.2.2.2.2.2.2.2 rfl (by omega) (jk_x (by omega) (by omega)) ?_
  try rw [e1]
  try rw [e2]
  try rw [e3]
  try rw [e4]
  try rw [e5]
  refine sg_aload_n (pc := 773) (j := 3) dL_law_773 rfl rfl ?_
  obtain ⟨L, hL⟩ : ∃ X, fa_L A (4 + p1.toNat) = X := ⟨_, rfl⟩
  refine st_cS4 (pc := 774) (d' := d - 1) (mc' := 8) (ms' := 48) g dL_law_774 cb_L_send cw_L_send ml_L_230 ms_L_send (Nat.le_of_ble_eq_true rfl) (by first | exact jl_d0 hd rfl | omega) (by first | exact Nat.le_of_ble_eq_true rfl | omega) (by first | exact Nat.le_of_ble_eq_true rfl | omega) ?_
  refine f_L_send g nc (by omega) jJ.1 jJ.2.1 jJ.2.2.2 hL (fun v1 h1 I1 X1 k0 k1 k2 x1 r1 => sg_K1 ?_)
  refine sg_istore (pc := 777) dL_law_777 (by decide) ?_
  refine sg_aload_n (pc := 779) (j := 2) dL_law_779 rfl rfl ?_
  refine sg_aload_n (pc := 780) (j := 0) dL_law_780 rfl rfl ?_
  refine sg_iload (pc := 781) dL_law_781 rfl ?_
  refine sg_iconst (pc := 783) (z := 1) dL_law_783 (by decide) ?_
  first | refine sg_iaddB (pc := 784) dL_law_784 (by omega) (by omega) ?_ | refine sg_iadd (pc := 784) dL_law_784 ?_
  refine sg_iald (pc := 785) dL_law_785 I1.2.2.2.2.2.2.2.2.2 rfl (by omega) (jk_x (by omega) (by omega)) ?_
  try rw [e1]
  try rw [e2]
  try rw [e3]
  try rw [e4]
  try rw [e5]
  refine sg_aload_n (pc := 786) (j := 0) dL_law_786 rfl rfl ?_
  refine sg_iload (pc := 787) dL_law_787 rfl ?_
  refine sg_iconst (pc := 789) (z := 2) dL_law_789 (by decide) ?_
  first | refine sg_iaddB (pc := 790) dL_law_790 (by omega) (by omega) ?_ | refine sg_iadd (pc := 790) dL_law_790 ?_
  refine sg_iald (pc := 791) dL_law_791 I1.2.2.2.2.2.2.2.2.2 rfl (by omega) (jk_x (by omega) (by omega)) ?_
  try rw [e1]
  try rw [e2]
  try rw [e3]
  try rw [e4]
  try rw [e5]
  refine st_as (fun H r => jk_tgR (B := B) r) ?_
  have m2 := jk_Im I1
  have ab0 := jk_Jt jJ I1 X1
  refine sg_cE2 (pc := 792) (d' := d - 1) (mc' := 4) (ms' := 82) 8 g dL_law_792 cb_X7_send ml_L_232 mn_X7_send rfl mv_X7_send (Nat.le_of_ble_eq_true rfl) (md_oc m2) (Nat.le_of_ble_eq_true rfl) (by first | exact jl_d0 hd rfl | omega) (by first | exact Nat.le_of_ble_eq_true rfl | omega) (by first | exact Nat.le_of_ble_eq_true rfl | omega) ?_
  refine f_X7_send g (by first | exact jl_d1 hd rfl | omega) ab0 hL jJ.2.2.2 m2 (fun v2 h2 t0 t1 t2 q2 n2 y2 => sg_K1 ?_)
  refine st_as (fun H r => jk_unR I1.1 r) ?_
  obtain ⟨A2, J2⟩ : ∃ A2, jk_J w B M O S xs (jk_unt B h2) A2 := by
    by_cases hz : v1 = 0
    · obtain ⟨c1, c2⟩ := r1 hz
      have n1 := jk_n (k0) hz (by decide)
      have n2 := jk_n (k1 n1) hz (by decide)
      obtain ⟨d1, d2⟩ := q2 (t2 n1 n2)
      exact ⟨_, jk_JM I1 y2 c2 d2 (ok_send jJ.2.2.2 hL n1 n2)⟩
    · refine ⟨A, jk_JM I1 y2 (x1 hz) (n2 (fun hm => hz ?_)) jJ.2.2.2⟩
      have m1 := jk_n (t0) hm (by decide)
      have m2 := jk_n (t1 m1) hm (by decide)
      exact k2 m1 m2
  clear k0 t0 k1 t1 k2 t2
  have I2 := J2.1
  refine sg_istore (pc := 795) dL_law_795 (by decide) ?_
  refine sg_goto (pc := 797) (tgt := 2465) dL_law_797 (by decide) ?_
  refine sg_lsub (lv' := [(0, _), (1, _), (2, _), (3, _), (4, _)]) ⟨rfl, rfl, rfl, rfl, rfl, trivial⟩ ?_
  exact K _ _ _ _ J2 (by omega) (by omega)

set_option maxRecDepth 100000 in
set_option maxHeartbeats 1000000 in
theorem lw_c12 {w : sg_W} {Q : sg_O → sg_H → Prop} {h : sg_H} (g : sg_G w) (nc : jk_C w) (hJ : jz w) {d mc ms : Nat} (hd : 30 ≤ d) {B M O S j k n : Nat} {xs : List Int} {A : fa_A} (jJ : jk_J w B M O S xs h A) (hj : 6 * j + 6 ≤ xs.length) (hl : xs.length ≤ 3072) (hk : k + 1030 ≤ mc) (hn : n + (48 + 81) ≤ ms) (K : ∀ (h' : sg_H) (k' n' : Nat) (A' : fa_A), jk_J w B M O S xs h' A' → k' ≤ k + 1030 → n' ≤ n + (48 + 81) → sg_R w mi_L_law d mc ms Q 2465 [(0, sg_r S), (1, sg_r B), (2, sg_r M), (3, sg_r O), (4, sg_i (6 * (j : Int)))] [] h' k' n') : sg_R w mi_L_law d mc ms Q 800 [(0, sg_r S), (1, sg_r B), (2, sg_r M), (3, sg_r O), (4, sg_i (6 * (j : Int)))] [] h k n := by
  obtain ⟨p1, e1⟩ : ∃ p, xs.getD (6 * (j : Int) + 1).toNat 0 = p := ⟨_, rfl⟩
  obtain ⟨p2, e2⟩ : ∃ p, xs.getD (6 * (j : Int) + 2).toNat 0 = p := ⟨_, rfl⟩
  obtain ⟨p3, e3⟩ : ∃ p, xs.getD (6 * (j : Int) + 3).toNat 0 = p := ⟨_, rfl⟩
  obtain ⟨p4, e4⟩ : ∃ p, xs.getD (6 * (j : Int) + 4).toNat 0 = p := ⟨_, rfl⟩
  obtain ⟨p5, e5⟩ : ∃ p, xs.getD (6 * (j : Int) + 5).toNat 0 = p := ⟨_, rfl⟩
  refine sg_aload_n (pc := 800) (j := 1) dL_law_800 rfl rfl ?_
  refine sg_aload_n (pc := 801) (j := 0) dL_law_801 rfl rfl ?_
  refine sg_iload (pc := 802) dL_law_802 rfl ?_
  refine sg_iconst (pc := 804) (z := 1) dL_law_804 (by decide) ?_
  first | refine sg_iaddB (pc := 805) dL_law_805 (by omega) (by omega) ?_ | refine sg_iadd (pc := 805) dL_law_805 ?_
  refine sg_iald (pc := 806) dL_law_806 jJ.1.2.2.2.2.2.2.2.2.2 rfl (by omega) (jk_x (by omega) (by omega)) ?_
  try rw [e1]
  try rw [e2]
  try rw [e3]
  try rw [e4]
  try rw [e5]
  refine sg_aload_n (pc := 807) (j := 0) dL_law_807 rfl rfl ?_
  refine sg_iload (pc := 808) dL_law_808 rfl ?_
  refine sg_iconst (pc := 810) (z := 2) dL_law_810 (by decide) ?_
  first | refine sg_iaddB (pc := 811) dL_law_811 (by omega) (by omega) ?_ | refine sg_iadd (pc := 811) dL_law_811 ?_
  refine sg_iald (pc := 812) dL_law_812 jJ.1.2.2.2.2.2.2.2.2.2 rfl (by omega) (jk_x (by omega) (by omega)) ?_
  try rw [e1]
  try rw [e2]
  try rw [e3]
  try rw [e4]
  try rw [e5]
  refine sg_aload_n (pc := 813) (j := 3) dL_law_813 rfl rfl ?_
  obtain ⟨L, hL⟩ : ∃ X, fa_L A (4 + p1.toNat) = X := ⟨_, rfl⟩
  refine st_cS4 (pc := 814) (d' := d - 1) (mc' := 8) (ms' := 48) g dL_law_814 cb_L_put cw_L_put ml_L_233 ms_L_put (Nat.le_of_ble_eq_true rfl) (by first | exact jl_d0 hd rfl | omega) (by first | exact Nat.le_of_ble_eq_true rfl | omega) (by first | exact Nat.le_of_ble_eq_true rfl | omega) ?_
  refine f_L_put g nc (by omega) jJ.1 jJ.2.1 jJ.2.2.2 hL (fun v1 h1 I1 X1 k0 k1 k2 x1 r1 => sg_K1 ?_)
  refine sg_istore (pc := 817) dL_law_817 (by decide) ?_
  refine sg_aload_n (pc := 819) (j := 2) dL_law_819 rfl rfl ?_
  refine sg_aload_n (pc := 820) (j := 0) dL_law_820 rfl rfl ?_
  refine sg_iload (pc := 821) dL_law_821 rfl ?_
  refine sg_iconst (pc := 823) (z := 1) dL_law_823 (by decide) ?_
  first | refine sg_iaddB (pc := 824) dL_law_824 (by omega) (by omega) ?_ | refine sg_iadd (pc := 824) dL_law_824 ?_
  refine sg_iald (pc := 825) dL_law_825 I1.2.2.2.2.2.2.2.2.2 rfl (by omega) (jk_x (by omega) (by omega)) ?_
  try rw [e1]
  try rw [e2]
  try rw [e3]
  try rw [e4]
  try rw [e5]
  refine sg_aload_n (pc := 826) (j := 0) dL_law_826 rfl rfl ?_
  refine sg_iload (pc := 827) dL_law_827 rfl ?_
  refine sg_iconst (pc := 829) (z := 2) dL_law_829 (by decide) ?_
  first | refine sg_iaddB (pc := 830) dL_law_830 (by omega) (by omega) ?_ | refine sg_iadd (pc := 830) dL_law_830 ?_
  refine sg_iald (pc := 831) dL_law_831 I1.2.2.2.2.2.2.2.2.2 rfl (by omega) (jk_x (by omega) (by omega)) ?_
  try rw [e1]
  try rw [e2]
  try rw [e3]
  try rw [e4]
  try rw [e5]
  refine st_as (fun H r => jk_tgR (B := B) r) ?_
  have m2 := jk_Im I1
  have ab0 := jk_Jt jJ I1 X1
  refine sg_cE2 (pc := 832) (d' := d - 1) (mc' := 4) (ms' := 81) 8 g dL_law_832 cb_X7_put ml_L_235 mn_X7_put rfl mv_X7_put (Nat.le_of_ble_eq_true rfl) (md_oc m2) (Nat.le_of_ble_eq_true rfl) (by first | exact jl_d0 hd rfl | omega) (by first | exact Nat.le_of_ble_eq_true rfl | omega) (by first | exact Nat.le_of_ble_eq_true rfl | omega) ?_
  refine f_X7_put g (by first | exact jl_d1 hd rfl | omega) ab0 hL jJ.2.2.2 m2 (fun v2 h2 t0 t1 t2 q2 n2 y2 => sg_K1 ?_)
  refine st_as (fun H r => jk_unR I1.1 r) ?_
  obtain ⟨A2, J2⟩ : ∃ A2, jk_J w B M O S xs (jk_unt B h2) A2 := by
    by_cases hz : v1 = 0
    · obtain ⟨c1, c2⟩ := r1 hz
      have n1 := jk_n (k0) hz (by decide)
      have n2 := jk_n (k1 n1) hz (by decide)
      obtain ⟨d1, d2⟩ := q2 (t2 n1 n2)
      exact ⟨_, jk_JM I1 y2 c2 d2 (ok_put jJ.2.2.2 hL n1 n2)⟩
    · refine ⟨A, jk_JM I1 y2 (x1 hz) (n2 (fun hm => hz ?_)) jJ.2.2.2⟩
      have m1 := jk_n (t0) hm (by decide)
      have m2 := jk_n (t1 m1) hm (by decide)
      exact k2 m1 m2
  clear k0 t0 k1 t1 k2 t2
  have I2 := J2.1
  refine sg_istore (pc := 835) dL_law_835 (by decide) ?_
  refine sg_goto (pc := 837) (tgt := 2465) dL_law_837 (by decide) ?_
  refine sg_lsub (lv' := [(0, _), (1, _), (2, _), (3, _), (4, _)]) ⟨rfl, rfl, rfl, rfl, rfl, trivial⟩ ?_
  exact K _ _ _ _ J2 (by omega) (by omega)

set_option maxRecDepth 100000 in
set_option maxHeartbeats 1000000 in
theorem lw_c13 {w : sg_W} {Q : sg_O → sg_H → Prop} {h : sg_H} (g : sg_G w) (nc : jk_C w) (hJ : jz w) {d mc ms : Nat} (hd : 30 ≤ d) {B M O S j k n : Nat} {xs : List Int} {A : fa_A} (jJ : jk_J w B M O S xs h A) (hj : 6 * j + 6 ≤ xs.length) (hl : xs.length ≤ 3072) (hk : k + 1030 ≤ mc) (hn : n + (48 + 56) ≤ ms) (K : ∀ (h' : sg_H) (k' n' : Nat) (A' : fa_A), jk_J w B M O S xs h' A' → k' ≤ k + 1030 → n' ≤ n + (48 + 56) → sg_R w mi_L_law d mc ms Q 2465 [(0, sg_r S), (1, sg_r B), (2, sg_r M), (3, sg_r O), (4, sg_i (6 * (j : Int)))] [] h' k' n') : sg_R w mi_L_law d mc ms Q 840 [(0, sg_r S), (1, sg_r B), (2, sg_r M), (3, sg_r O), (4, sg_i (6 * (j : Int)))] [] h k n := by
  obtain ⟨p1, e1⟩ : ∃ p, xs.getD (6 * (j : Int) + 1).toNat 0 = p := ⟨_, rfl⟩
  obtain ⟨p2, e2⟩ : ∃ p, xs.getD (6 * (j : Int) + 2).toNat 0 = p := ⟨_, rfl⟩
  obtain ⟨p3, e3⟩ : ∃ p, xs.getD (6 * (j : Int) + 3).toNat 0 = p := ⟨_, rfl⟩
  obtain ⟨p4, e4⟩ : ∃ p, xs.getD (6 * (j : Int) + 4).toNat 0 = p := ⟨_, rfl⟩
  obtain ⟨p5, e5⟩ : ∃ p, xs.getD (6 * (j : Int) + 5).toNat 0 = p := ⟨_, rfl⟩
  refine sg_aload_n (pc := 840) (j := 1) dL_law_840 rfl rfl ?_
  refine sg_aload_n (pc := 841) (j := 0) dL_law_841 rfl rfl ?_
  refine sg_iload (pc := 842) dL_law_842 rfl ?_
  refine sg_iconst (pc := 844) (z := 1) dL_law_844 (by decide) ?_
  first | refine sg_iaddB (pc := 845) dL_law_845 (by omega) (by omega) ?_ | refine sg_iadd (pc := 845) dL_law_845 ?_
  refine sg_iald (pc := 846) dL_law_846 jJ.1.2.2.2.2.2.2.2.2.2 rfl (by omega) (jk_x (by omega) (by omega)) ?_
  try rw [e1]
  try rw [e2]
  try rw [e3]
  try rw [e4]
  try rw [e5]
  refine sg_aload_n (pc := 847) (j := 0) dL_law_847 rfl rfl ?_
  refine sg_iload (pc := 848) dL_law_848 rfl ?_
  refine sg_iconst (pc := 850) (z := 2) dL_law_850 (by decide) ?_
  first | refine sg_iaddB (pc := 851) dL_law_851 (by omega) (by omega) ?_ | refine sg_iadd (pc := 851) dL_law_851 ?_
  refine sg_iald (pc := 852) dL_law_852 jJ.1.2.2.2.2.2.2.2.2.2 rfl (by omega) (jk_x (by omega) (by omega)) ?_
  try rw [e1]
  try rw [e2]
  try rw [e3]
  try rw [e4]
  try rw [e5]
  refine sg_aload_n (pc := 853) (j := 3) dL_law_853 rfl rfl ?_
  obtain ⟨L, hL⟩ : ∃ X, fa_L A (4 + p1.toNat) = X := ⟨_, rfl⟩
  refine st_cS4 (pc := 854) (d' := d - 1) (mc' := 8) (ms' := 48) g dL_law_854 cb_L_cut cw_L_cut ml_L_236 ms_L_cut (Nat.le_of_ble_eq_true rfl) (by first | exact jl_d0 hd rfl | omega) (by first | exact Nat.le_of_ble_eq_true rfl | omega) (by first | exact Nat.le_of_ble_eq_true rfl | omega) ?_
  refine f_L_cut g nc (by omega) jJ.1 jJ.2.1 jJ.2.2.2 hL (fun v1 h1 I1 X1 k0 k1 k2 x1 r1 => sg_K1 ?_)
  refine sg_istore (pc := 857) dL_law_857 (by decide) ?_
  refine sg_aload_n (pc := 859) (j := 2) dL_law_859 rfl rfl ?_
  refine sg_aload_n (pc := 860) (j := 0) dL_law_860 rfl rfl ?_
  refine sg_iload (pc := 861) dL_law_861 rfl ?_
  refine sg_iconst (pc := 863) (z := 1) dL_law_863 (by decide) ?_
  first | refine sg_iaddB (pc := 864) dL_law_864 (by omega) (by omega) ?_ | refine sg_iadd (pc := 864) dL_law_864 ?_
  refine sg_iald (pc := 865) dL_law_865 I1.2.2.2.2.2.2.2.2.2 rfl (by omega) (jk_x (by omega) (by omega)) ?_
  try rw [e1]
  try rw [e2]
  try rw [e3]
  try rw [e4]
  try rw [e5]
  refine sg_aload_n (pc := 866) (j := 0) dL_law_866 rfl rfl ?_
  refine sg_iload (pc := 867) dL_law_867 rfl ?_
  refine sg_iconst (pc := 869) (z := 2) dL_law_869 (by decide) ?_
  first | refine sg_iaddB (pc := 870) dL_law_870 (by omega) (by omega) ?_ | refine sg_iadd (pc := 870) dL_law_870 ?_
  refine sg_iald (pc := 871) dL_law_871 I1.2.2.2.2.2.2.2.2.2 rfl (by omega) (jk_x (by omega) (by omega)) ?_
  try rw [e1]
  try rw [e2]
  try rw [e3]
  try rw [e4]
  try rw [e5]
  refine st_as (fun H r => jk_tgR (B := B) r) ?_
  have m2 := jk_Im I1
  have ab0 := jk_Jt jJ I1 X1
  refine sg_cE2 (pc := 872) (d' := d - 1) (mc' := 3) (ms' := 56) 8 g dL_law_872 cb_X7_cut ml_L_238 mn_X7_cut rfl mv_X7_cut (Nat.le_of_ble_eq_true rfl) (md_oc m2) (Nat.le_of_ble_eq_true rfl) (by first | exact jl_d0 hd rfl | omega) (by first | exact Nat.le_of_ble_eq_true rfl | omega) (by first | exact Nat.le_of_ble_eq_true rfl | omega) ?_
  refine f_X7_cut g (by first | exact jl_d1 hd rfl | omega) ab0 hL jJ.2.2.2 m2 (fun v2 h2 t0 t1 t2 q2 n2 y2 => sg_K1 ?_)
  refine st_as (fun H r => jk_unR I1.1 r) ?_
  obtain ⟨A2, J2⟩ : ∃ A2, jk_J w B M O S xs (jk_unt B h2) A2 := by
    by_cases hz : v1 = 0
    · obtain ⟨c1, c2⟩ := r1 hz
      have n1 := jk_n (k0) hz (by decide)
      have n2 := jk_n (k1 n1) hz (by decide)
      obtain ⟨d1, d2⟩ := q2 (t2 n1 n2)
      exact ⟨_, jk_JM I1 y2 c2 d2 (ok_cut jJ.2.2.2 hL n1 n2)⟩
    · refine ⟨A, jk_JM I1 y2 (x1 hz) (n2 (fun hm => hz ?_)) jJ.2.2.2⟩
      have m1 := jk_n (t0) hm (by decide)
      have m2 := jk_n (t1 m1) hm (by decide)
      exact k2 m1 m2
  clear k0 t0 k1 t1 k2 t2
  have I2 := J2.1
  refine sg_istore (pc := 875) dL_law_875 (by decide) ?_
  refine sg_goto (pc := 877) (tgt := 2465) dL_law_877 (by decide) ?_
  refine sg_lsub (lv' := [(0, _), (1, _), (2, _), (3, _), (4, _)]) ⟨rfl, rfl, rfl, rfl, rfl, trivial⟩ ?_
  exact K _ _ _ _ J2 (by omega) (by omega)

set_option maxRecDepth 100000 in
set_option maxHeartbeats 1000000 in
theorem lw_c14 {w : sg_W} {Q : sg_O → sg_H → Prop} {h : sg_H} (g : sg_G w) (nc : jk_C w) (hJ : jz w) {d mc ms : Nat} (hd : 30 ≤ d) {B M O S j k n : Nat} {xs : List Int} {A : fa_A} (jJ : jk_J w B M O S xs h A) (hj : 6 * j + 6 ≤ xs.length) (hl : xs.length ≤ 3072) (hk : k + 1030 ≤ mc) (hn : n + (48 + 56) ≤ ms) (K : ∀ (h' : sg_H) (k' n' : Nat) (A' : fa_A), jk_J w B M O S xs h' A' → k' ≤ k + 1030 → n' ≤ n + (48 + 56) → sg_R w mi_L_law d mc ms Q 2465 [(0, sg_r S), (1, sg_r B), (2, sg_r M), (3, sg_r O), (4, sg_i (6 * (j : Int)))] [] h' k' n') : sg_R w mi_L_law d mc ms Q 880 [(0, sg_r S), (1, sg_r B), (2, sg_r M), (3, sg_r O), (4, sg_i (6 * (j : Int)))] [] h k n := by
  obtain ⟨p1, e1⟩ : ∃ p, xs.getD (6 * (j : Int) + 1).toNat 0 = p := ⟨_, rfl⟩
  obtain ⟨p2, e2⟩ : ∃ p, xs.getD (6 * (j : Int) + 2).toNat 0 = p := ⟨_, rfl⟩
  obtain ⟨p3, e3⟩ : ∃ p, xs.getD (6 * (j : Int) + 3).toNat 0 = p := ⟨_, rfl⟩
  obtain ⟨p4, e4⟩ : ∃ p, xs.getD (6 * (j : Int) + 4).toNat 0 = p := ⟨_, rfl⟩
  obtain ⟨p5, e5⟩ : ∃ p, xs.getD (6 * (j : Int) + 5).toNat 0 = p := ⟨_, rfl⟩
  refine sg_aload_n (pc := 880) (j := 1) dL_law_880 rfl rfl ?_
  refine sg_aload_n (pc := 881) (j := 0) dL_law_881 rfl rfl ?_
  refine sg_iload (pc := 882) dL_law_882 rfl ?_
  refine sg_iconst (pc := 884) (z := 1) dL_law_884 (by decide) ?_
  first | refine sg_iaddB (pc := 885) dL_law_885 (by omega) (by omega) ?_ | refine sg_iadd (pc := 885) dL_law_885 ?_
  refine sg_iald (pc := 886) dL_law_886 jJ.1.2.2.2.2.2.2.2.2.2 rfl (by omega) (jk_x (by omega) (by omega)) ?_
  try rw [e1]
  try rw [e2]
  try rw [e3]
  try rw [e4]
  try rw [e5]
  refine sg_aload_n (pc := 887) (j := 3) dL_law_887 rfl rfl ?_
  obtain ⟨L, hL⟩ : ∃ X, fa_L A (4 + p1.toNat) = X := ⟨_, rfl⟩
  refine st_cS3 (pc := 888) (d' := d - 1) (mc' := 8) (ms' := 48) g dL_law_888 cb_L_flip cw_L_flip ml_L_239 ms_L_flip (Nat.le_of_ble_eq_true rfl) (by first | exact jl_d0 hd rfl | omega) (by first | exact Nat.le_of_ble_eq_true rfl | omega) (by first | exact Nat.le_of_ble_eq_true rfl | omega) ?_
  refine f_L_flip g nc (by omega) jJ.1 jJ.2.1 jJ.2.2.2 hL (fun v1 h1 I1 X1 k0 k1 x1 r1 => sg_K1 ?_)
  refine sg_istore (pc := 891) dL_law_891 (by decide) ?_
  refine sg_aload_n (pc := 893) (j := 2) dL_law_893 rfl rfl ?_
  refine sg_aload_n (pc := 894) (j := 0) dL_law_894 rfl rfl ?_
  refine sg_iload (pc := 895) dL_law_895 rfl ?_
  refine sg_iconst (pc := 897) (z := 1) dL_law_897 (by decide) ?_
  first | refine sg_iaddB (pc := 898) dL_law_898 (by omega) (by omega) ?_ | refine sg_iadd (pc := 898) dL_law_898 ?_
  refine sg_iald (pc := 899) dL_law_899 I1.2.2.2.2.2.2.2.2.2 rfl (by omega) (jk_x (by omega) (by omega)) ?_
  try rw [e1]
  try rw [e2]
  try rw [e3]
  try rw [e4]
  try rw [e5]
  refine st_as (fun H r => jk_tgR (B := B) r) ?_
  have m2 := jk_Im I1
  have ab0 := jk_Jt jJ I1 X1
  refine sg_cE1 (pc := 900) (d' := d - 1) (mc' := 3) (ms' := 56) 8 g dL_law_900 cb_X7_flip ml_L_241 mn_X7_flip rfl mv_X7_flip (Nat.le_of_ble_eq_true rfl) (md_oc m2) (Nat.le_of_ble_eq_true rfl) (by first | exact jl_d0 hd rfl | omega) (by first | exact Nat.le_of_ble_eq_true rfl | omega) (by first | exact Nat.le_of_ble_eq_true rfl | omega) ?_
  refine f_X7_flip g (by first | exact jl_d1 hd rfl | omega) ab0 hL jJ.2.2.2 m2 (fun v2 h2 t0 t1 q2 n2 y2 => sg_K1 ?_)
  refine st_as (fun H r => jk_unR I1.1 r) ?_
  obtain ⟨A2, J2⟩ : ∃ A2, jk_J w B M O S xs (jk_unt B h2) A2 := by
    by_cases hz : v1 = 0
    · obtain ⟨c1, c2⟩ := r1 hz
      have n1 := jk_n (k0) hz (by decide)
      obtain ⟨d1, d2⟩ := q2 (t1 n1)
      exact ⟨_, jk_JM I1 y2 c2 d2 (ok_flip jJ.2.2.2 hL n1)⟩
    · refine ⟨A, jk_JM I1 y2 (x1 hz) (n2 (fun hm => hz ?_)) jJ.2.2.2⟩
      have m1 := jk_n (t0) hm (by decide)
      exact k1 m1
  clear k0 t0 k1 t1
  have I2 := J2.1
  refine sg_istore (pc := 903) dL_law_903 (by decide) ?_
  refine sg_goto (pc := 905) (tgt := 2465) dL_law_905 (by decide) ?_
  refine sg_lsub (lv' := [(0, _), (1, _), (2, _), (3, _), (4, _)]) ⟨rfl, rfl, rfl, rfl, rfl, trivial⟩ ?_
  exact K _ _ _ _ J2 (by omega) (by omega)

set_option maxRecDepth 100000 in
set_option maxHeartbeats 1000000 in
theorem lw_c15 {w : sg_W} {Q : sg_O → sg_H → Prop} {h : sg_H} (g : sg_G w) (nc : jk_C w) (hJ : jz w) {d mc ms : Nat} (hd : 30 ≤ d) {B M O S j k n : Nat} {xs : List Int} {A : fa_A} (jJ : jk_J w B M O S xs h A) (hj : 6 * j + 6 ≤ xs.length) (hl : xs.length ≤ 3072) (hk : k + 1030 ≤ mc) (hn : n + (48 + 2100) ≤ ms) (K : ∀ (h' : sg_H) (k' n' : Nat) (A' : fa_A), jk_J w B M O S xs h' A' → k' ≤ k + 1030 → n' ≤ n + (48 + 2100) → sg_R w mi_L_law d mc ms Q 2465 [(0, sg_r S), (1, sg_r B), (2, sg_r M), (3, sg_r O), (4, sg_i (6 * (j : Int)))] [] h' k' n') : sg_R w mi_L_law d mc ms Q 908 [(0, sg_r S), (1, sg_r B), (2, sg_r M), (3, sg_r O), (4, sg_i (6 * (j : Int)))] [] h k n := by
  obtain ⟨p1, e1⟩ : ∃ p, xs.getD (6 * (j : Int) + 1).toNat 0 = p := ⟨_, rfl⟩
  obtain ⟨p2, e2⟩ : ∃ p, xs.getD (6 * (j : Int) + 2).toNat 0 = p := ⟨_, rfl⟩
  obtain ⟨p3, e3⟩ : ∃ p, xs.getD (6 * (j : Int) + 3).toNat 0 = p := ⟨_, rfl⟩
  obtain ⟨p4, e4⟩ : ∃ p, xs.getD (6 * (j : Int) + 4).toNat 0 = p := ⟨_, rfl⟩
  obtain ⟨p5, e5⟩ : ∃ p, xs.getD (6 * (j : Int) + 5).toNat 0 = p := ⟨_, rfl⟩
  refine sg_aload_n (pc := 908) (j := 1) dL_law_908 rfl rfl ?_
  refine sg_aload_n (pc := 909) (j := 0) dL_law_909 rfl rfl ?_
  refine sg_iload (pc := 910) dL_law_910 rfl ?_
  refine sg_iconst (pc := 912) (z := 1) dL_law_912 (by decide) ?_
  first | refine sg_iaddB (pc := 913) dL_law_913 (by omega) (by omega) ?_ | refine sg_iadd (pc := 913) dL_law_913 ?_
  refine sg_iald (pc := 914) dL_law_914 jJ.1.2.2.2.2.2.2.2.2.2 rfl (by omega) (jk_x (by omega) (by omega)) ?_
  try rw [e1]
  try rw [e2]
  try rw [e3]
  try rw [e4]
  try rw [e5]
  refine sg_aload_n (pc := 915) (j := 3) dL_law_915 rfl rfl ?_
  obtain ⟨L, hL⟩ : ∃ X, fa_L A (4 + p1.toNat) = X := ⟨_, rfl⟩
  refine st_cS3 (pc := 916) (d' := d - 1) (mc' := 8) (ms' := 48) g dL_law_916 cb_L_reverse cw_L_reverse ml_L_242 ms_L_reverse (Nat.le_of_ble_eq_true rfl) (by first | exact jl_d0 hd rfl | omega) (by first | exact Nat.le_of_ble_eq_true rfl | omega) (by first | exact Nat.le_of_ble_eq_true rfl | omega) ?_
  refine f_L_reverse g nc (by omega) jJ.1 jJ.2.1 jJ.2.2.2 hL (fun v1 h1 I1 X1 k0 k1 x1 r1 => sg_K1 ?_)
  refine sg_istore (pc := 919) dL_law_919 (by decide) ?_
  refine sg_aload_n (pc := 921) (j := 2) dL_law_921 rfl rfl ?_
  refine sg_aload_n (pc := 922) (j := 0) dL_law_922 rfl rfl ?_
  refine sg_iload (pc := 923) dL_law_923 rfl ?_
  refine sg_iconst (pc := 925) (z := 1) dL_law_925 (by decide) ?_
  first | refine sg_iaddB (pc := 926) dL_law_926 (by omega) (by omega) ?_ | refine sg_iadd (pc := 926) dL_law_926 ?_
  refine sg_iald (pc := 927) dL_law_927 I1.2.2.2.2.2.2.2.2.2 rfl (by omega) (jk_x (by omega) (by omega)) ?_
  try rw [e1]
  try rw [e2]
  try rw [e3]
  try rw [e4]
  try rw [e5]
  refine st_as (fun H r => jk_tgR (B := B) r) ?_
  have m2 := jk_Im I1
  have ab0 := jk_Jt jJ I1 X1
  refine sg_cE1 (pc := 928) (d' := d - 1) (mc' := 210) (ms' := 2100) 8 g dL_law_928 cb_X7_reverse ml_L_244 mn_X7_reverse rfl mv_X7_reverse (Nat.le_of_ble_eq_true rfl) (md_oc m2) (Nat.le_of_ble_eq_true rfl) (by first | exact jl_d0 hd rfl | omega) (by first | exact Nat.le_of_ble_eq_true rfl | omega) (by first | exact Nat.le_of_ble_eq_true rfl | omega) ?_
  refine f_X7_reverse g (by first | exact jl_d1 hd rfl | omega) ab0 hL jJ.2.2.2 m2 (fun v2 h2 t0 t1 q2 n2 y2 => sg_K1 ?_)
  refine st_as (fun H r => jk_unR I1.1 r) ?_
  obtain ⟨A2, J2⟩ : ∃ A2, jk_J w B M O S xs (jk_unt B h2) A2 := by
    by_cases hz : v1 = 0
    · obtain ⟨c1, c2⟩ := r1 hz
      have n1 := jk_n (k0) hz (by decide)
      obtain ⟨d1, d2⟩ := q2 (t1 n1)
      exact ⟨_, jk_JM I1 y2 c2 d2 (ok_reverse jJ.2.2.2 hL n1)⟩
    · refine ⟨A, jk_JM I1 y2 (x1 hz) (n2 (fun hm => hz ?_)) jJ.2.2.2⟩
      have m1 := jk_n (t0) hm (by decide)
      exact k1 m1
  clear k0 t0 k1 t1
  have I2 := J2.1
  refine sg_istore (pc := 931) dL_law_931 (by decide) ?_
  refine sg_goto (pc := 933) (tgt := 2465) dL_law_933 (by decide) ?_
  refine sg_lsub (lv' := [(0, _), (1, _), (2, _), (3, _), (4, _)]) ⟨rfl, rfl, rfl, rfl, rfl, trivial⟩ ?_
  exact K _ _ _ _ J2 (by omega) (by omega)

set_option maxRecDepth 100000 in
set_option maxHeartbeats 1000000 in
theorem lw_c16 {w : sg_W} {Q : sg_O → sg_H → Prop} {h : sg_H} (g : sg_G w) (nc : jk_C w) (hJ : jz w) {d mc ms : Nat} (hd : 30 ≤ d) {B M O S j k n : Nat} {xs : List Int} {A : fa_A} (jJ : jk_J w B M O S xs h A) (hj : 6 * j + 6 ≤ xs.length) (hl : xs.length ≤ 3072) (hk : k + 1030 ≤ mc) (hn : n + (48 + 0) ≤ ms) (K : ∀ (h' : sg_H) (k' n' : Nat) (A' : fa_A), jk_J w B M O S xs h' A' → k' ≤ k + 1030 → n' ≤ n + (48 + 0) → sg_R w mi_L_law d mc ms Q 2465 [(0, sg_r S), (1, sg_r B), (2, sg_r M), (3, sg_r O), (4, sg_i (6 * (j : Int)))] [] h' k' n') : sg_R w mi_L_law d mc ms Q 936 [(0, sg_r S), (1, sg_r B), (2, sg_r M), (3, sg_r O), (4, sg_i (6 * (j : Int)))] [] h k n := by
  obtain ⟨p1, e1⟩ : ∃ p, xs.getD (6 * (j : Int) + 1).toNat 0 = p := ⟨_, rfl⟩
  obtain ⟨p2, e2⟩ : ∃ p, xs.getD (6 * (j : Int) + 2).toNat 0 = p := ⟨_, rfl⟩
  obtain ⟨p3, e3⟩ : ∃ p, xs.getD (6 * (j : Int) + 3).toNat 0 = p := ⟨_, rfl⟩
  obtain ⟨p4, e4⟩ : ∃ p, xs.getD (6 * (j : Int) + 4).toNat 0 = p := ⟨_, rfl⟩
  obtain ⟨p5, e5⟩ : ∃ p, xs.getD (6 * (j : Int) + 5).toNat 0 = p := ⟨_, rfl⟩
  refine sg_aload_n (pc := 936) (j := 1) dL_law_936 rfl rfl ?_
  refine sg_aload_n (pc := 937) (j := 3) dL_law_937 rfl rfl ?_
  refine st_cS2 (pc := 938) (d' := d - 1) (mc' := 8) (ms' := 48) g dL_law_938 cb_L_undo cw_L_undo ml_L_245 ms_L_undo (Nat.le_of_ble_eq_true rfl) (by first | exact jl_d0 hd rfl | omega) (by first | exact Nat.le_of_ble_eq_true rfl | omega) (by first | exact Nat.le_of_ble_eq_true rfl | omega) ?_
  refine f_L_undo g nc (by omega) jJ.1 jJ.2.1 jJ.2.2.2 (fun v1 h1 I1 X1 k0 k1 x1 r1 => sg_K1 ?_)
  refine sg_istore (pc := 941) dL_law_941 (by decide) ?_
  refine sg_aload_n (pc := 943) (j := 2) dL_law_943 rfl rfl ?_
  refine st_as (fun H r => jk_tgR (B := B) r) ?_
  have m2 := jk_Im I1
  have ab0 := jk_Jt jJ I1 X1
  refine sg_cE0 (pc := 944) (d' := d - 1) (mc' := 0) (ms' := 0) 8 g dL_law_944 cb_X7_undo ml_L_248 mn_X7_undo rfl mv_X7_undo (Nat.le_of_ble_eq_true rfl) (md_oc m2) (Nat.le_of_ble_eq_true rfl) (by first | exact jl_d0 hd rfl | omega) (by first | exact Nat.le_of_ble_eq_true rfl | omega) (by first | exact Nat.le_of_ble_eq_true rfl | omega) ?_
  refine f_X7_undo g (by first | exact jl_d1 hd rfl | omega) ab0 m2 (fun v2 h2 t0 t1 q2 n2 y2 => sg_K1 ?_)
  refine st_as (fun H r => jk_unR I1.1 r) ?_
  obtain ⟨A2, J2⟩ : ∃ A2, jk_J w B M O S xs (jk_unt B h2) A2 := by
    by_cases hz : v1 = 0
    · obtain ⟨c1, c2⟩ := r1 hz
      have n1 := jk_n (k0) hz (by decide)
      obtain ⟨d1, d2⟩ := q2 (t1 n1)
      exact ⟨_, jk_JM I1 y2 c2 d2 (ok_undo jJ.2.2.2 n1)⟩
    · refine ⟨A, jk_JM I1 y2 (x1 hz) (n2 (fun hm => hz ?_)) jJ.2.2.2⟩
      have m1 := jk_n (t0) hm (by decide)
      exact k1 m1
  clear k0 t0 k1 t1
  have I2 := J2.1
  refine sg_istore (pc := 947) dL_law_947 (by decide) ?_
  refine sg_goto (pc := 949) (tgt := 2465) dL_law_949 (by decide) ?_
  refine sg_lsub (lv' := [(0, _), (1, _), (2, _), (3, _), (4, _)]) ⟨rfl, rfl, rfl, rfl, rfl, trivial⟩ ?_
  exact K _ _ _ _ J2 (by omega) (by omega)

set_option maxRecDepth 100000 in
set_option maxHeartbeats 1000000 in
theorem lw_c17 {w : sg_W} {Q : sg_O → sg_H → Prop} {h : sg_H} (g : sg_G w) (nc : jk_C w) (hJ : jz w) {d mc ms : Nat} (hd : 30 ≤ d) {B M O S j k n : Nat} {xs : List Int} {A : fa_A} (jJ : jk_J w B M O S xs h A) (hj : 6 * j + 6 ≤ xs.length) (hl : xs.length ≤ 3072) (hk : k + 1030 ≤ mc) (hn : n + (0 + 0) ≤ ms) (K : ∀ (h' : sg_H) (k' n' : Nat) (A' : fa_A), jk_J w B M O S xs h' A' → k' ≤ k + 1030 → n' ≤ n + (0 + 0) → sg_R w mi_L_law d mc ms Q 2465 [(0, sg_r S), (1, sg_r B), (2, sg_r M), (3, sg_r O), (4, sg_i (6 * (j : Int)))] [] h' k' n') : sg_R w mi_L_law d mc ms Q 952 [(0, sg_r S), (1, sg_r B), (2, sg_r M), (3, sg_r O), (4, sg_i (6 * (j : Int)))] [] h k n := by
  obtain ⟨p1, e1⟩ : ∃ p, xs.getD (6 * (j : Int) + 1).toNat 0 = p := ⟨_, rfl⟩
  obtain ⟨p2, e2⟩ : ∃ p, xs.getD (6 * (j : Int) + 2).toNat 0 = p := ⟨_, rfl⟩
  obtain ⟨p3, e3⟩ : ∃ p, xs.getD (6 * (j : Int) + 3).toNat 0 = p := ⟨_, rfl⟩
  obtain ⟨p4, e4⟩ : ∃ p, xs.getD (6 * (j : Int) + 4).toNat 0 = p := ⟨_, rfl⟩
  obtain ⟨p5, e5⟩ : ∃ p, xs.getD (6 * (j : Int) + 5).toNat 0 = p := ⟨_, rfl⟩
  refine sg_aload_n (pc := 952) (j := 1) dL_law_952 rfl rfl ?_
  refine sg_cE0 (pc := 953) (d' := d - 1) (mc' := 0) (ms' := 0) 6 g dL_law_953 cb_X5_knock ml_L_249 mn_X5_knock rfl mv_X5_knock (Nat.le_of_ble_eq_true rfl) (ck_oc jJ.1.2.2.1) (Nat.le_of_ble_eq_true rfl) (by first | exact jl_d0 hd rfl | omega) (by first | exact Nat.le_of_ble_eq_true rfl | omega) (by first | exact Nat.le_of_ble_eq_true rfl | omega) ?_
  refine f_X5_knock g (by first | exact jl_d1 hd rfl | omega) jJ.2.1 (fun h1 cx1 F1 => sg_K1 ?_)
  obtain ⟨I1, X1⟩ := jk_IY jJ.1 (⟨cx1.1, F1⟩ : ck_Y h h1 B)
  refine sg_pop (pc := 956) dL_law_956 rfl ?_
  refine sg_aload_n (pc := 957) (j := 2) dL_law_957 rfl rfl ?_
  refine st_as (fun H r => jk_tgR (B := B) r) ?_
  have m2 := jk_Im I1
  have ab0 := jk_Jt jJ I1 X1
  refine sg_cE0 (pc := 958) (d' := d - 1) (mc' := 0) (ms' := 0) 8 g dL_law_958 cb_X7_knock ml_L_252 mn_X7_knock rfl mv_X7_knock (Nat.le_of_ble_eq_true rfl) (md_oc m2) (Nat.le_of_ble_eq_true rfl) (by first | exact jl_d0 hd rfl | omega) (by first | exact Nat.le_of_ble_eq_true rfl | omega) (by first | exact Nat.le_of_ble_eq_true rfl | omega) ?_
  refine s_X7_knock g (by first | exact jl_d1 hd rfl | omega) m2 (fun v2 h2 c2_0 t2 ab2 y2 => sg_K1 ?_)
  refine st_as (fun H r => jk_unR I1.1 r) ?_
  rw [ab0] at c2_0 ab2
  have J2 : jk_J w B M O S xs (jk_unt B h2) _ := jk_JM I1 y2 cx1 (ab2.trans (by rw [c2_0])) (ok_kn jJ.2.2.2)
  have I2 := J2.1
  refine sg_pop (pc := 961) dL_law_961 rfl ?_
  refine sg_goto (pc := 962) (tgt := 2465) dL_law_962 (by decide) ?_
  refine sg_lsub (lv' := [(0, _), (1, _), (2, _), (3, _), (4, _)]) ⟨rfl, rfl, rfl, rfl, rfl, trivial⟩ ?_
  exact K _ _ _ _ J2 (by omega) (by omega)

set_option maxRecDepth 100000 in
set_option maxHeartbeats 1000000 in
theorem lw_c18 {w : sg_W} {Q : sg_O → sg_H → Prop} {h : sg_H} (g : sg_G w) (nc : jk_C w) (hJ : jz w) {d mc ms : Nat} (hd : 30 ≤ d) {B M O S j k n : Nat} {xs : List Int} {A : fa_A} (jJ : jk_J w B M O S xs h A) (hj : 6 * j + 6 ≤ xs.length) (hl : xs.length ≤ 3072) (hk : k + 1030 ≤ mc) (hn : n + (48 + 0) ≤ ms) (K : ∀ (h' : sg_H) (k' n' : Nat) (A' : fa_A), jk_J w B M O S xs h' A' → k' ≤ k + 1030 → n' ≤ n + (48 + 0) → sg_R w mi_L_law d mc ms Q 2465 [(0, sg_r S), (1, sg_r B), (2, sg_r M), (3, sg_r O), (4, sg_i (6 * (j : Int)))] [] h' k' n') : sg_R w mi_L_law d mc ms Q 965 [(0, sg_r S), (1, sg_r B), (2, sg_r M), (3, sg_r O), (4, sg_i (6 * (j : Int)))] [] h k n := by
  obtain ⟨p1, e1⟩ : ∃ p, xs.getD (6 * (j : Int) + 1).toNat 0 = p := ⟨_, rfl⟩
  obtain ⟨p2, e2⟩ : ∃ p, xs.getD (6 * (j : Int) + 2).toNat 0 = p := ⟨_, rfl⟩
  obtain ⟨p3, e3⟩ : ∃ p, xs.getD (6 * (j : Int) + 3).toNat 0 = p := ⟨_, rfl⟩
  obtain ⟨p4, e4⟩ : ∃ p, xs.getD (6 * (j : Int) + 4).toNat 0 = p := ⟨_, rfl⟩
  obtain ⟨p5, e5⟩ : ∃ p, xs.getD (6 * (j : Int) + 5).toNat 0 = p := ⟨_, rfl⟩
  refine sg_aload_n (pc := 965) (j := 1) dL_law_965 rfl rfl ?_
  refine sg_aload_n (pc := 966) (j := 0) dL_law_966 rfl rfl ?_
  refine sg_iload (pc := 967) dL_law_967 rfl ?_
  refine sg_iconst (pc := 969) (z := 1) dL_law_969 (by decide) ?_
  first | refine sg_iaddB (pc := 970) dL_law_970 (by omega) (by omega) ?_ | refine sg_iadd (pc := 970) dL_law_970 ?_
  refine sg_iald (pc := 971) dL_law_971 jJ.1.2.2.2.2.2.2.2.2.2 rfl (by omega) (jk_x (by omega) (by omega)) ?_
  try rw [e1]
  try rw [e2]
  try rw [e3]
  try rw [e4]
  try rw [e5]
  refine sg_aload_n (pc := 972) (j := 3) dL_law_972 rfl rfl ?_
  refine st_cS3 (pc := 973) (d' := d - 1) (mc' := 8) (ms' := 48) g dL_law_973 cb_L_isDigit cw_L_isDigit ml_L_253 ms_L_isDigit (Nat.le_of_ble_eq_true rfl) (by first | exact jl_d0 hd rfl | omega) (by first | exact Nat.le_of_ble_eq_true rfl | omega) (by first | exact Nat.le_of_ble_eq_true rfl | omega) ?_
  refine s_L_isDigit g nc (by omega) jJ.1 (fun v1 h1 I1 X1 F1 k1 o1 => sg_K1 ?_)
  refine sg_istore (pc := 976) dL_law_976 (by decide) ?_
  refine sg_aload_n (pc := 978) (j := 2) dL_law_978 rfl rfl ?_
  refine sg_aload_n (pc := 979) (j := 0) dL_law_979 rfl rfl ?_
  refine sg_iload (pc := 980) dL_law_980 rfl ?_
  refine sg_iconst (pc := 982) (z := 1) dL_law_982 (by decide) ?_
  first | refine sg_iaddB (pc := 983) dL_law_983 (by omega) (by omega) ?_ | refine sg_iadd (pc := 983) dL_law_983 ?_
  refine sg_iald (pc := 984) dL_law_984 I1.2.2.2.2.2.2.2.2.2 rfl (by omega) (jk_x (by omega) (by omega)) ?_
  try rw [e1]
  try rw [e2]
  try rw [e3]
  try rw [e4]
  try rw [e5]
  refine st_as (fun H r => jk_tgR (B := B) r) ?_
  have m2 := jk_Im I1
  have ab0 := jk_Jt jJ I1 X1
  refine sg_cE1 (pc := 985) (d' := d - 1) (mc' := 0) (ms' := 0) 8 g dL_law_985 cb_X7_isDigit ml_L_255 mn_X7_isDigit rfl mv_X7_isDigit (Nat.le_of_ble_eq_true rfl) (md_oc m2) (Nat.le_of_ble_eq_true rfl) (by first | exact jl_d0 hd rfl | omega) (by first | exact Nat.le_of_ble_eq_true rfl | omega) (by first | exact Nat.le_of_ble_eq_true rfl | omega) ?_
  refine s_X7_isDigit g (by first | exact jl_d1 hd rfl | omega) m2 (fun v2 h2 c2_0 c2_1 c2_2 y2 => sg_K1 ?_)
  refine st_as (fun H r => jk_unR I1.1 r) ?_
  have J2 : jk_J w B M O S xs (jk_unt B h2) A := jk_JM I1 (md_YW y2) (cf_XF jJ.2.1 F1) (y2.2.2.trans ab0) jJ.2.2.2
  have y2 := md_YW y2
  have I2 := J2.1
  refine sg_istore (pc := 988) dL_law_988 (by decide) ?_
  refine sg_goto (pc := 990) (tgt := 2465) dL_law_990 (by decide) ?_
  refine sg_lsub (lv' := [(0, _), (1, _), (2, _), (3, _), (4, _)]) ⟨rfl, rfl, rfl, rfl, rfl, trivial⟩ ?_
  exact K _ _ _ _ J2 (by omega) (by omega)

set_option maxRecDepth 100000 in
set_option maxHeartbeats 1000000 in
theorem lw_c19 {w : sg_W} {Q : sg_O → sg_H → Prop} {h : sg_H} (g : sg_G w) (nc : jk_C w) (hJ : jz w) {d mc ms : Nat} (hd : 30 ≤ d) {B M O S j k n : Nat} {xs : List Int} {A : fa_A} (jJ : jk_J w B M O S xs h A) (hj : 6 * j + 6 ≤ xs.length) (hl : xs.length ≤ 3072) (hk : k + 1030 ≤ mc) (hn : n + (48 + 0) ≤ ms) (K : ∀ (h' : sg_H) (k' n' : Nat) (A' : fa_A), jk_J w B M O S xs h' A' → k' ≤ k + 1030 → n' ≤ n + (48 + 0) → sg_R w mi_L_law d mc ms Q 2465 [(0, sg_r S), (1, sg_r B), (2, sg_r M), (3, sg_r O), (4, sg_i (6 * (j : Int)))] [] h' k' n') : sg_R w mi_L_law d mc ms Q 993 [(0, sg_r S), (1, sg_r B), (2, sg_r M), (3, sg_r O), (4, sg_i (6 * (j : Int)))] [] h k n := by
  obtain ⟨p1, e1⟩ : ∃ p, xs.getD (6 * (j : Int) + 1).toNat 0 = p := ⟨_, rfl⟩
  obtain ⟨p2, e2⟩ : ∃ p, xs.getD (6 * (j : Int) + 2).toNat 0 = p := ⟨_, rfl⟩
  obtain ⟨p3, e3⟩ : ∃ p, xs.getD (6 * (j : Int) + 3).toNat 0 = p := ⟨_, rfl⟩
  obtain ⟨p4, e4⟩ : ∃ p, xs.getD (6 * (j : Int) + 4).toNat 0 = p := ⟨_, rfl⟩
  obtain ⟨p5, e5⟩ : ∃ p, xs.getD (6 * (j : Int) + 5).toNat 0 = p := ⟨_, rfl⟩
  refine sg_aload_n (pc := 993) (j := 1) dL_law_993 rfl rfl ?_
  refine sg_aload_n (pc := 994) (j := 0) dL_law_994 rfl rfl ?_
  refine sg_iload (pc := 995) dL_law_995 rfl ?_
  refine sg_iconst (pc := 997) (z := 1) dL_law_997 (by decide) ?_
  first | refine sg_iaddB (pc := 998) dL_law_998 (by omega) (by omega) ?_ | refine sg_iadd (pc := 998) dL_law_998 ?_
  refine sg_iald (pc := 999) dL_law_999 jJ.1.2.2.2.2.2.2.2.2.2 rfl (by omega) (jk_x (by omega) (by omega)) ?_
  try rw [e1]
  try rw [e2]
  try rw [e3]
  try rw [e4]
  try rw [e5]
  refine sg_aload_n (pc := 1000) (j := 3) dL_law_1000 rfl rfl ?_
  refine st_cS3 (pc := 1001) (d' := d - 1) (mc' := 8) (ms' := 48) g dL_law_1001 cb_L_isLetter cw_L_isLetter ml_L_256 ms_L_isLetter (Nat.le_of_ble_eq_true rfl) (by first | exact jl_d0 hd rfl | omega) (by first | exact Nat.le_of_ble_eq_true rfl | omega) (by first | exact Nat.le_of_ble_eq_true rfl | omega) ?_
  refine s_L_isLetter g nc (by omega) jJ.1 (fun v1 h1 I1 X1 F1 k1 o1 => sg_K1 ?_)
  refine sg_istore (pc := 1004) dL_law_1004 (by decide) ?_
  refine sg_aload_n (pc := 1006) (j := 2) dL_law_1006 rfl rfl ?_
  refine sg_aload_n (pc := 1007) (j := 0) dL_law_1007 rfl rfl ?_
  refine sg_iload (pc := 1008) dL_law_1008 rfl ?_
  refine sg_iconst (pc := 1010) (z := 1) dL_law_1010 (by decide) ?_
  first | refine sg_iaddB (pc := 1011) dL_law_1011 (by omega) (by omega) ?_ | refine sg_iadd (pc := 1011) dL_law_1011 ?_
  refine sg_iald (pc := 1012) dL_law_1012 I1.2.2.2.2.2.2.2.2.2 rfl (by omega) (jk_x (by omega) (by omega)) ?_
  try rw [e1]
  try rw [e2]
  try rw [e3]
  try rw [e4]
  try rw [e5]
  refine st_as (fun H r => jk_tgR (B := B) r) ?_
  have m2 := jk_Im I1
  have ab0 := jk_Jt jJ I1 X1
  refine sg_cE1 (pc := 1013) (d' := d - 1) (mc' := 0) (ms' := 0) 8 g dL_law_1013 cb_X7_isLetter ml_L_258 mn_X7_isLetter rfl mv_X7_isLetter (Nat.le_of_ble_eq_true rfl) (md_oc m2) (Nat.le_of_ble_eq_true rfl) (by first | exact jl_d0 hd rfl | omega) (by first | exact Nat.le_of_ble_eq_true rfl | omega) (by first | exact Nat.le_of_ble_eq_true rfl | omega) ?_
  refine s_X7_isLetter g (by first | exact jl_d1 hd rfl | omega) m2 (fun v2 h2 c2_0 c2_1 c2_2 y2 => sg_K1 ?_)
  refine st_as (fun H r => jk_unR I1.1 r) ?_
  have J2 : jk_J w B M O S xs (jk_unt B h2) A := jk_JM I1 (md_YW y2) (cf_XF jJ.2.1 F1) (y2.2.2.trans ab0) jJ.2.2.2
  have y2 := md_YW y2
  have I2 := J2.1
  refine sg_istore (pc := 1016) dL_law_1016 (by decide) ?_
  refine sg_goto (pc := 1018) (tgt := 2465) dL_law_1018 (by decide) ?_
  refine sg_lsub (lv' := [(0, _), (1, _), (2, _), (3, _), (4, _)]) ⟨rfl, rfl, rfl, rfl, rfl, trivial⟩ ?_
  exact K _ _ _ _ J2 (by omega) (by omega)

