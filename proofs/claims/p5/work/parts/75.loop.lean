set_option maxRecDepth 100000 in
set_option maxHeartbeats 4000000 in
theorem lw_loop {w : sg_W} {Q : sg_O → sg_H → Prop} (g : sg_G w) (nc : jk_C w) (hJ : jz w) {d : Nat} (hd : 30 ≤ d) {B M O S : Nat} {xs : List Int} (hl : xs.length ≤ 3072) (hQ : ∀ h', Q (.inl (some (sg_i 1))) h') : ∀ (N : Nat) (h : sg_H) (j k n : Nat) (A : fa_A), jk_J w B M O S xs h A → 6 * j ≤ xs.length → k ≤ 120 + 1030 * j → ((j = 0 ∧ n ≤ 1649 ∧ (∀ row : Int, (0 ≤ row ∧ row < 4) → md_n (jk_cut B h) (md_a (jk_cut B h) (md_r (jk_cut B h) M) row) = 0)) ∨ (1 ≤ j ∧ n + 5891 ≤ 1649 + 14091 * j)) → xs.length + 6 - 6 * j < N → sg_R w mi_L_law d 601024 7293034 Q 27 [(0, sg_r S), (1, sg_r B), (2, sg_r M), (3, sg_r O), (4, sg_i (6 * (j : Int)))] [] h k n := by
  intro N
  induction N with
  | zero => intro h j k n A jJ hj kb nb hm; exact absurd hm (Nat.not_lt_zero _)
  | succ N ih =>
    intro h j k n A jJ hj kb nb hm
    have hI := jJ.1
    have back : ∀ (h' : sg_H) (k' n' : Nat) (A' : fa_A), 6 * j + 6 ≤ xs.length → jk_J w B M O S xs h' A' → k' ≤ k + 1030 → ((j = 0 ∧ n' ≤ n + 8200) ∨ (1 ≤ j ∧ n' ≤ n + 14091)) → sg_R w mi_L_law d 601024 7293034 Q 2465 [(0, sg_r S), (1, sg_r B), (2, sg_r M), (3, sg_r O), (4, sg_i (6 * (j : Int)))] [] h' k' n' := by
      intro h' k' n' A' hj2 I2 kb2 nb2
      refine sg_iincB (pc := 2465) dc_L_law_2465 rfl (by decide) (by decide) (by omega) (by omega) ?_
      refine sg_goto (pc := 2468) (tgt := 27) dL_law_2468 (by decide) ?_
      rw [show 6 * (j : Int) + 6 = 6 * ((j + 1 : Nat) : Int) by omega]
      refine sg_lsub (lv' := [(0, _), (1, _), (2, _), (3, _), (4, _)]) ⟨rfl, rfl, rfl, rfl, rfl, trivial⟩ ?_
      exact ih h' (j + 1) k' n' A' I2 (by omega) (by omega) (Or.inr ⟨by omega, by omega⟩) (by omega)
    refine sg_iload (pc := 27) dL_law_27 rfl ?_
    refine sg_aload_n (pc := 29) (j := 0) dL_law_29 rfl rfl ?_
    refine sg_alenN (N := xs.length) (pc := 30) dL_law_30 hI.2.2.2.2.2.2.2.2.2 (by decide) (by simp) (by omega) ?_
    refine sg_bipush (pc := 31) (z := 6) dL_law_31 (by decide) ?_
    refine sg_isubB (pc := 33) dL_law_33 (by omega) (by omega) ?_
    refine sg_icmp_gt (pc := 34) (tgt := 2471) dL_law_34 (by decide) (fun c34 => ?_) (fun c34 => ?_)
    · refine sg_iconst (pc := 2471) (z := 1) dL_law_2471 (by decide) ?_
      refine sg_zret (pc := 2472) dL_law_2472 rfl (Or.inr rfl) (by omega) (by rcases nb with q | q <;> omega) ?_
      exact hQ _
    refine sg_aload_n (pc := 37) (j := 0) dL_law_37 rfl rfl ?_
    refine sg_iload (pc := 38) dL_law_38 rfl ?_
    refine sg_iald (pc := 40) dL_law_40 hI.2.2.2.2.2.2.2.2.2 rfl (by omega) (jk_x (by omega) (by omega)) ?_
    refine sg_bipush (pc := 41) (z := 63) dL_law_41 (by decide) ?_
    refine sg_iand (pc := 43) dL_law_43 ?_
    obtain ⟨z, hz⟩ : ∃ z, z = sg_and (xs.getD (6 * (j : Int)).toNat 0) 63 := ⟨_, rfl⟩
    rw [← hz]
    clear hz
    by_cases cs : z < 0 ∨ 57 < z
    · refine sg_tsOut (pc := 44) (tgt := 2465) dc_L_law_44 cs (by decide) ?_
      exact back h k n A (by omega) jJ (by omega) (by omega)
    rcases (show z = 0 ∨ z = 1 ∨ z = 2 ∨ z = 3 ∨ z = 4 ∨ z = 5 ∨ z = 6 ∨ z = 7 ∨ z = 8 ∨ z = 9 ∨ z = 10 ∨ z = 11 ∨ z = 12 ∨ z = 13 ∨ z = 14 ∨ z = 15 ∨ z = 16 ∨ z = 17 ∨ z = 18 ∨ z = 19 ∨ z = 20 ∨ z = 21 ∨ z = 22 ∨ z = 23 ∨ z = 24 ∨ z = 25 ∨ z = 26 ∨ z = 27 ∨ z = 28 ∨ z = 29 ∨ z = 30 ∨ z = 31 ∨ z = 32 ∨ z = 33 ∨ z = 34 ∨ z = 35 ∨ z = 36 ∨ z = 37 ∨ z = 38 ∨ z = 39 ∨ z = 40 ∨ z = 41 ∨ z = 42 ∨ z = 43 ∨ z = 44 ∨ z = 45 ∨ z = 46 ∨ z = 47 ∨ z = 48 ∨ z = 49 ∨ z = 50 ∨ z = 51 ∨ z = 52 ∨ z = 53 ∨ z = 54 ∨ z = 55 ∨ z = 56 ∨ z = 57 by omega) with rfl | rfl | rfl | rfl | rfl | rfl | rfl | rfl | rfl | rfl | rfl | rfl | rfl | rfl | rfl | rfl | rfl | rfl | rfl | rfl | rfl | rfl | rfl | rfl | rfl | rfl | rfl | rfl | rfl | rfl | rfl | rfl | rfl | rfl | rfl | rfl | rfl | rfl | rfl | rfl | rfl | rfl | rfl | rfl | rfl | rfl | rfl | rfl | rfl | rfl | rfl | rfl | rfl | rfl | rfl | rfl | rfl | rfl
    · refine sg_tsIn (pc := 44) (tgt := 292) dc_L_law_44 (by omega) (by omega) rfl (by decide) ?_
      exact lw_c0 g nc hJ hd jJ (by omega) hl (by omega) (by omega) (fun h1 k1 n1 A1 I1 kb1 nb1 => back h1 k1 n1 A1 (by omega) I1 kb1 (by omega))
    · refine sg_tsIn (pc := 44) (tgt := 368) dc_L_law_44 (by omega) (by omega) rfl (by decide) ?_
      exact lw_c1 g nc hJ hd jJ (by omega) hl (by omega) (by omega) (fun h1 k1 n1 A1 I1 kb1 nb1 => back h1 k1 n1 A1 (by omega) I1 kb1 (by omega))
    · refine sg_tsIn (pc := 44) (tgt := 408) dc_L_law_44 (by omega) (by omega) rfl (by decide) ?_
      exact lw_c2 g nc hJ hd jJ (by omega) hl (by omega) (by omega) (fun h1 k1 n1 A1 I1 kb1 nb1 => back h1 k1 n1 A1 (by omega) I1 kb1 (by omega))
    · refine sg_tsIn (pc := 44) (tgt := 448) dc_L_law_44 (by omega) (by omega) rfl (by decide) ?_
      exact lw_c3 g nc hJ hd jJ (by omega) hl (by omega) (by omega) (fun h1 k1 n1 A1 I1 kb1 nb1 => back h1 k1 n1 A1 (by omega) I1 kb1 (by omega))
    · refine sg_tsIn (pc := 44) (tgt := 505) dc_L_law_44 (by omega) (by omega) rfl (by decide) ?_
      exact lw_c4 g nc hJ hd jJ (by omega) hl (by omega) (by omega) (fun h1 k1 n1 A1 I1 kb1 nb1 => back h1 k1 n1 A1 (by omega) I1 kb1 (by omega))
    · refine sg_tsIn (pc := 44) (tgt := 533) dc_L_law_44 (by omega) (by omega) rfl (by decide) ?_
      exact lw_c5 g nc hJ hd jJ (by omega) hl (by omega) (by omega) (fun h1 k1 n1 A1 I1 kb1 nb1 => back h1 k1 n1 A1 (by omega) I1 kb1 (by omega))
    · refine sg_tsIn (pc := 44) (tgt := 601) dc_L_law_44 (by omega) (by omega) rfl (by decide) ?_
      exact lw_c6 g nc hJ hd jJ (by omega) hl (by omega) (by omega) (fun h1 k1 n1 A1 I1 kb1 nb1 => back h1 k1 n1 A1 (by omega) I1 kb1 (by omega))
    · refine sg_tsIn (pc := 44) (tgt := 629) dc_L_law_44 (by omega) (by omega) rfl (by decide) ?_
      exact lw_c7 g nc hJ hd jJ (by omega) hl (by omega) (by omega) (fun h1 k1 n1 A1 I1 kb1 nb1 => back h1 k1 n1 A1 (by omega) I1 kb1 (by omega))
    · refine sg_tsIn (pc := 44) (tgt := 657) dc_L_law_44 (by omega) (by omega) rfl (by decide) ?_
      exact lw_c8 g nc hJ hd jJ (by omega) hl (by omega) (by omega) (fun h1 k1 n1 A1 I1 kb1 nb1 => back h1 k1 n1 A1 (by omega) I1 kb1 (by omega))
    · refine sg_tsIn (pc := 44) (tgt := 709) dc_L_law_44 (by omega) (by omega) rfl (by decide) ?_
      exact lw_c9 g nc hJ hd jJ (by omega) hl (by omega) (by omega) (fun h1 k1 n1 A1 I1 kb1 nb1 => back h1 k1 n1 A1 (by omega) I1 kb1 (by omega))
    · refine sg_tsIn (pc := 44) (tgt := 749) dc_L_law_44 (by omega) (by omega) rfl (by decide) ?_
      exact lw_c10 g nc hJ hd jJ (by omega) hl (by omega) (by omega) (fun h1 k1 n1 A1 I1 kb1 nb1 => back h1 k1 n1 A1 (by omega) I1 kb1 (by omega))
    · refine sg_tsIn (pc := 44) (tgt := 789) dc_L_law_44 (by omega) (by omega) rfl (by decide) ?_
      exact lw_c11 g nc hJ hd jJ (by omega) hl (by omega) (by omega) (fun h1 k1 n1 A1 I1 kb1 nb1 => back h1 k1 n1 A1 (by omega) I1 kb1 (by omega))
    · refine sg_tsIn (pc := 44) (tgt := 829) dc_L_law_44 (by omega) (by omega) rfl (by decide) ?_
      exact lw_c12 g nc hJ hd jJ (by omega) hl (by omega) (by omega) (fun h1 k1 n1 A1 I1 kb1 nb1 => back h1 k1 n1 A1 (by omega) I1 kb1 (by omega))
    · refine sg_tsIn (pc := 44) (tgt := 869) dc_L_law_44 (by omega) (by omega) rfl (by decide) ?_
      exact lw_c13 g nc hJ hd jJ (by omega) hl (by omega) (by omega) (fun h1 k1 n1 A1 I1 kb1 nb1 => back h1 k1 n1 A1 (by omega) I1 kb1 (by omega))
    · refine sg_tsIn (pc := 44) (tgt := 909) dc_L_law_44 (by omega) (by omega) rfl (by decide) ?_
      exact lw_c14 g nc hJ hd jJ (by omega) hl (by omega) (by omega) (fun h1 k1 n1 A1 I1 kb1 nb1 => back h1 k1 n1 A1 (by omega) I1 kb1 (by omega))
    · refine sg_tsIn (pc := 44) (tgt := 937) dc_L_law_44 (by omega) (by omega) rfl (by decide) ?_
      exact lw_c15 g nc hJ hd jJ (by omega) hl (by omega) (by omega) (fun h1 k1 n1 A1 I1 kb1 nb1 => back h1 k1 n1 A1 (by omega) I1 kb1 (by omega))
    · refine sg_tsIn (pc := 44) (tgt := 965) dc_L_law_44 (by omega) (by omega) rfl (by decide) ?_
      exact lw_c16 g nc hJ hd jJ (by omega) hl (by omega) (by omega) (fun h1 k1 n1 A1 I1 kb1 nb1 => back h1 k1 n1 A1 (by omega) I1 kb1 (by omega))
    · refine sg_tsIn (pc := 44) (tgt := 981) dc_L_law_44 (by omega) (by omega) rfl (by decide) ?_
      exact lw_c17 g nc hJ hd jJ (by omega) hl (by omega) (by omega) (fun h1 k1 n1 A1 I1 kb1 nb1 => back h1 k1 n1 A1 (by omega) I1 kb1 (by omega))
    · refine sg_tsIn (pc := 44) (tgt := 994) dc_L_law_44 (by omega) (by omega) rfl (by decide) ?_
      exact lw_c18 g nc hJ hd jJ (by omega) hl (by omega) (by omega) (fun h1 k1 n1 A1 I1 kb1 nb1 => back h1 k1 n1 A1 (by omega) I1 kb1 (by omega))
    · refine sg_tsIn (pc := 44) (tgt := 1022) dc_L_law_44 (by omega) (by omega) rfl (by decide) ?_
      exact lw_c19 g nc hJ hd jJ (by omega) hl (by omega) (by omega) (fun h1 k1 n1 A1 I1 kb1 nb1 => back h1 k1 n1 A1 (by omega) I1 kb1 (by omega))
    · refine sg_tsIn (pc := 44) (tgt := 1050) dc_L_law_44 (by omega) (by omega) rfl (by decide) ?_
      exact lw_c20 g nc hJ hd jJ (by omega) hl (by omega) (by omega) (fun h1 k1 n1 A1 I1 kb1 nb1 => back h1 k1 n1 A1 (by omega) I1 kb1 (by omega))
    · refine sg_tsIn (pc := 44) (tgt := 1078) dc_L_law_44 (by omega) (by omega) rfl (by decide) ?_
      exact lw_c21 g nc hJ hd jJ (by omega) hl (by omega) (by omega) (fun h1 k1 n1 A1 I1 kb1 nb1 => back h1 k1 n1 A1 (by omega) I1 kb1 (by omega))
    · refine sg_tsIn (pc := 44) (tgt := 1106) dc_L_law_44 (by omega) (by omega) rfl (by decide) ?_
      exact lw_c22 g nc hJ hd jJ (by omega) hl (by omega) (by omega) (fun h1 k1 n1 A1 I1 kb1 nb1 => back h1 k1 n1 A1 (by omega) I1 kb1 (by omega))
    · refine sg_tsIn (pc := 44) (tgt := 1134) dc_L_law_44 (by omega) (by omega) rfl (by decide) ?_
      exact lw_c23 g nc hJ hd jJ (by omega) hl (by omega) (by omega) (fun h1 k1 n1 A1 I1 kb1 nb1 => back h1 k1 n1 A1 (by omega) I1 kb1 (by omega))
    · refine sg_tsIn (pc := 44) (tgt := 1162) dc_L_law_44 (by omega) (by omega) rfl (by decide) ?_
      exact lw_c24 g nc hJ hd jJ (by omega) hl (by omega) (by omega) (fun h1 k1 n1 A1 I1 kb1 nb1 => back h1 k1 n1 A1 (by omega) I1 kb1 (by omega))
    · refine sg_tsIn (pc := 44) (tgt := 1218) dc_L_law_44 (by omega) (by omega) rfl (by decide) ?_
      exact lw_c25 g nc hJ hd jJ (by omega) hl (by omega) (by omega) (fun h1 k1 n1 A1 I1 kb1 nb1 => back h1 k1 n1 A1 (by omega) I1 kb1 (by omega))
    · refine sg_tsIn (pc := 44) (tgt := 1274) dc_L_law_44 (by omega) (by omega) rfl (by decide) ?_
      exact lw_c26 g nc hJ hd jJ (by omega) hl (by omega) (by omega) (fun h1 k1 n1 A1 I1 kb1 nb1 => back h1 k1 n1 A1 (by omega) I1 kb1 (by omega))
    · refine sg_tsIn (pc := 44) (tgt := 1330) dc_L_law_44 (by omega) (by omega) rfl (by decide) ?_
      exact lw_c27 g nc hJ hd jJ (by omega) hl (by omega) (by omega) (fun h1 k1 n1 A1 I1 kb1 nb1 => back h1 k1 n1 A1 (by omega) I1 kb1 (by omega))
    · refine sg_tsIn (pc := 44) (tgt := 1398) dc_L_law_44 (by omega) (by omega) rfl (by decide) ?_
      exact lw_c28 g nc hJ hd jJ (by omega) hl (by omega) (by omega) (fun h1 k1 n1 A1 I1 kb1 nb1 => back h1 k1 n1 A1 (by omega) I1 kb1 (by omega))
    · refine sg_tsIn (pc := 44) (tgt := 1435) dc_L_law_44 (by omega) (by omega) rfl (by decide) ?_
      exact lw_c29 g nc hJ hd jJ (by omega) hl (by omega) (by omega) (fun h1 k1 n1 A1 I1 kb1 nb1 => back h1 k1 n1 A1 (by omega) I1 kb1 (by omega))
    · refine sg_tsIn (pc := 44) (tgt := 1463) dc_L_law_44 (by omega) (by omega) rfl (by decide) ?_
      exact lw_c30 g nc hJ hd jJ (by omega) hl (by omega) (by omega) (fun h1 k1 n1 A1 I1 kb1 nb1 => back h1 k1 n1 A1 (by omega) I1 kb1 (by omega))
    · refine sg_tsIn (pc := 44) (tgt := 1503) dc_L_law_44 (by omega) (by omega) rfl (by decide) ?_
      exact lw_c31 g nc hJ hd jJ (by omega) hl (by omega) (by omega) (fun h1 k1 n1 A1 I1 kb1 nb1 => back h1 k1 n1 A1 (by omega) I1 kb1 (by omega))
    · refine sg_tsIn (pc := 44) (tgt := 1543) dc_L_law_44 (by omega) (by omega) rfl (by decide) ?_
      exact lw_c32 g nc hJ hd jJ (by omega) hl (by omega) (by omega) (fun h1 k1 n1 A1 I1 kb1 nb1 => back h1 k1 n1 A1 (by omega) I1 kb1 (by omega))
    · refine sg_tsIn (pc := 44) (tgt := 1595) dc_L_law_44 (by omega) (by omega) rfl (by decide) ?_
      exact lw_c33 g nc hJ hd jJ (by omega) hl (by omega) (by omega) (fun h1 k1 n1 A1 I1 kb1 nb1 => back h1 k1 n1 A1 (by omega) I1 kb1 (by omega))
    · refine sg_tsIn (pc := 44) (tgt := 1635) dc_L_law_44 (by omega) (by omega) rfl (by decide) ?_
      exact lw_c34 g nc hJ hd jJ (by omega) hl (by omega) (by omega) (fun h1 k1 n1 A1 I1 kb1 nb1 => back h1 k1 n1 A1 (by omega) I1 kb1 (by omega))
    · refine sg_tsIn (pc := 44) (tgt := 1663) dc_L_law_44 (by omega) (by omega) rfl (by decide) ?_
      rcases nb with ⟨j0, nb0, z0⟩ | ⟨j1, nb1⟩
      · exact lw_c35 (K0 := 0) g nc hJ hd jJ (by omega) hl (fun row hr => Nat.le_of_eq (z0 row hr)) (by omega) (by omega) (by rw [show jf (2 * 0) = 0 from rfl]; omega) (fun h1 k1 n1 A1 I1 kb1 nb1 => back h1 k1 n1 A1 (by omega) I1 kb1 (by rw [show jf (2 * 0) = 0 from rfl] at nb1; omega))
      · exact lw_c35 (K0 := 40) g nc hJ hd jJ (by omega) hl (fun row hr => md_n40 hI.2.2.2.1 hr.1 hr.2) (by omega) (by omega) (by rw [jf80]; omega) (fun h1 k1 n1 A1 I1 kb1 nb1 => back h1 k1 n1 A1 (by omega) I1 kb1 (by rw [jf80] at nb1; omega))
    · refine sg_tsIn (pc := 44) (tgt := 1691) dc_L_law_44 (by omega) (by omega) rfl (by decide) ?_
      exact lw_c36 g nc hJ hd jJ (by omega) hl (by omega) (by omega) (fun h1 k1 n1 A1 I1 kb1 nb1 => back h1 k1 n1 A1 (by omega) I1 kb1 (by omega))
    · refine sg_tsIn (pc := 44) (tgt := 1731) dc_L_law_44 (by omega) (by omega) rfl (by decide) ?_
      exact lw_c37 g nc hJ hd jJ (by omega) hl (by omega) (by omega) (fun h1 k1 n1 A1 I1 kb1 nb1 => back h1 k1 n1 A1 (by omega) I1 kb1 (by omega))
    · refine sg_tsIn (pc := 44) (tgt := 1771) dc_L_law_44 (by omega) (by omega) rfl (by decide) ?_
      exact lw_c38 g nc hJ hd jJ (by omega) hl (by omega) (by omega) (fun h1 k1 n1 A1 I1 kb1 nb1 => back h1 k1 n1 A1 (by omega) I1 kb1 (by omega))
    · refine sg_tsIn (pc := 44) (tgt := 1799) dc_L_law_44 (by omega) (by omega) rfl (by decide) ?_
      exact lw_c39 g nc hJ hd jJ (by omega) hl (by omega) (by omega) (fun h1 k1 n1 A1 I1 kb1 nb1 => back h1 k1 n1 A1 (by omega) I1 kb1 (by omega))
    · refine sg_tsIn (pc := 44) (tgt := 1827) dc_L_law_44 (by omega) (by omega) rfl (by decide) ?_
      exact lw_c40 g nc hJ hd jJ (by omega) hl (by omega) (by omega) (fun h1 k1 n1 A1 I1 kb1 nb1 => back h1 k1 n1 A1 (by omega) I1 kb1 (by omega))
    · refine sg_tsIn (pc := 44) (tgt := 1895) dc_L_law_44 (by omega) (by omega) rfl (by decide) ?_
      exact lw_c41 g nc hJ hd jJ (by omega) hl (by omega) (by omega) (fun h1 k1 n1 A1 I1 kb1 nb1 => back h1 k1 n1 A1 (by omega) I1 kb1 (by omega))
    · refine sg_tsIn (pc := 44) (tgt := 1935) dc_L_law_44 (by omega) (by omega) rfl (by decide) ?_
      exact lw_c42 g nc hJ hd jJ (by omega) hl (by omega) (by omega) (fun h1 k1 n1 A1 I1 kb1 nb1 => back h1 k1 n1 A1 (by omega) I1 kb1 (by omega))
    · refine sg_tsIn (pc := 44) (tgt := 1975) dc_L_law_44 (by omega) (by omega) rfl (by decide) ?_
      exact lw_c43 g nc hJ hd jJ (by omega) hl (by omega) (by omega) (fun h1 k1 n1 A1 I1 kb1 nb1 => back h1 k1 n1 A1 (by omega) I1 kb1 (by omega))
    · refine sg_tsIn (pc := 44) (tgt := 2000) dc_L_law_44 (by omega) (by omega) rfl (by decide) ?_
      exact lw_c44 g nc hJ hd jJ (by omega) hl (by omega) (by omega) (fun h1 k1 n1 A1 I1 kb1 nb1 => back h1 k1 n1 A1 (by omega) I1 kb1 (by omega))
    · refine sg_tsIn (pc := 44) (tgt := 2025) dc_L_law_44 (by omega) (by omega) rfl (by decide) ?_
      exact lw_c45 g nc hJ hd jJ (by omega) hl (by omega) (by omega) (fun h1 k1 n1 A1 I1 kb1 nb1 => back h1 k1 n1 A1 (by omega) I1 kb1 (by omega))
    · refine sg_tsIn (pc := 44) (tgt := 2050) dc_L_law_44 (by omega) (by omega) rfl (by decide) ?_
      exact lw_c46 g nc hJ hd jJ (by omega) hl (by omega) (by omega) (fun h1 k1 n1 A1 I1 kb1 nb1 => back h1 k1 n1 A1 (by omega) I1 kb1 (by omega))
    · refine sg_tsIn (pc := 44) (tgt := 2075) dc_L_law_44 (by omega) (by omega) rfl (by decide) ?_
      exact lw_c47 g nc hJ hd jJ (by omega) hl (by omega) (by omega) (fun h1 k1 n1 A1 I1 kb1 nb1 => back h1 k1 n1 A1 (by omega) I1 kb1 (by omega))
    · refine sg_tsIn (pc := 44) (tgt := 2131) dc_L_law_44 (by omega) (by omega) rfl (by decide) ?_
      exact lw_c48 g nc hJ hd jJ (by omega) hl (by omega) (by omega) (fun h1 k1 n1 A1 I1 kb1 nb1 => back h1 k1 n1 A1 (by omega) I1 kb1 (by omega))
    · refine sg_tsIn (pc := 44) (tgt := 2171) dc_L_law_44 (by omega) (by omega) rfl (by decide) ?_
      exact lw_c49 g nc hJ hd jJ (by omega) hl (by omega) (by omega) (fun h1 k1 n1 A1 I1 kb1 nb1 => back h1 k1 n1 A1 (by omega) I1 kb1 (by omega))
    · refine sg_tsIn (pc := 44) (tgt := 2211) dc_L_law_44 (by omega) (by omega) rfl (by decide) ?_
      exact lw_c50 g nc hJ hd jJ (by omega) hl (by omega) (by omega) (fun h1 k1 n1 A1 I1 kb1 nb1 => back h1 k1 n1 A1 (by omega) I1 kb1 (by omega))
    · refine sg_tsIn (pc := 44) (tgt := 2251) dc_L_law_44 (by omega) (by omega) rfl (by decide) ?_
      exact lw_c51 g nc hJ hd jJ (by omega) hl (by omega) (by omega) (fun h1 k1 n1 A1 I1 kb1 nb1 => back h1 k1 n1 A1 (by omega) I1 kb1 (by omega))
    · refine sg_tsIn (pc := 44) (tgt := 2291) dc_L_law_44 (by omega) (by omega) rfl (by decide) ?_
      exact lw_c52 g nc hJ hd jJ (by omega) hl (by omega) (by omega) (fun h1 k1 n1 A1 I1 kb1 nb1 => back h1 k1 n1 A1 (by omega) I1 kb1 (by omega))
    · refine sg_tsIn (pc := 44) (tgt := 2331) dc_L_law_44 (by omega) (by omega) rfl (by decide) ?_
      exact lw_c53 g nc hJ hd jJ (by omega) hl (by omega) (by omega) (fun h1 k1 n1 A1 I1 kb1 nb1 => back h1 k1 n1 A1 (by omega) I1 kb1 (by omega))
    · refine sg_tsIn (pc := 44) (tgt := 2371) dc_L_law_44 (by omega) (by omega) rfl (by decide) ?_
      exact lw_c54 g nc hJ hd jJ (by omega) hl (by omega) (by omega) (fun h1 k1 n1 A1 I1 kb1 nb1 => back h1 k1 n1 A1 (by omega) I1 kb1 (by omega))
    · refine sg_tsIn (pc := 44) (tgt := 2411) dc_L_law_44 (by omega) (by omega) rfl (by decide) ?_
      exact lw_c55 g nc hJ hd jJ (by omega) hl (by omega) (by omega) (fun h1 k1 n1 A1 I1 kb1 nb1 => back h1 k1 n1 A1 (by omega) I1 kb1 (by omega))
    · refine sg_tsIn (pc := 44) (tgt := 2439) dc_L_law_44 (by omega) (by omega) rfl (by decide) ?_
      exact lw_c56 g nc hJ hd jJ (by omega) hl (by omega) (by omega) (fun h1 k1 n1 A1 I1 kb1 nb1 => back h1 k1 n1 A1 (by omega) I1 kb1 (by omega))
    · refine sg_tsIn (pc := 44) (tgt := 2452) dc_L_law_44 (by omega) (by omega) rfl (by decide) ?_
      exact lw_c57 g nc hJ hd jJ (by omega) hl (by omega) (by omega) (fun h1 k1 n1 A1 I1 kb1 nb1 => back h1 k1 n1 A1 (by omega) I1 kb1 (by omega))

