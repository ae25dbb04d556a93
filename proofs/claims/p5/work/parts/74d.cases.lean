set_option maxRecDepth 100000 in
set_option maxHeartbeats 1000000 in
theorem lw_c30 {w : sg_W} {Q : sg_O → sg_H → Prop} {h : sg_H} (g : sg_G w) (nc : jk_C w) (hJ : jz w) {d mc ms : Nat} (hd : 30 ≤ d) {B M O S j k n : Nat} {xs : List Int} {A : fa_A} (jJ : jk_J w B M O S xs h A) (hj : 6 * j + 6 ≤ xs.length) (hl : xs.length ≤ 3072) (hk : k + 1030 ≤ mc) (hn : n + (48 + 0) ≤ ms) (K : ∀ (h' : sg_H) (k' n' : Nat) (A' : fa_A), jk_J w B M O S xs h' A' → k' ≤ k + 1030 → n' ≤ n + (48 + 0) → sg_R w mi_L_law d mc ms Q 2465 [(0, sg_r S), (1, sg_r B), (2, sg_r M), (3, sg_r O), (4, sg_i (6 * (j : Int)))] [] h' k' n') : sg_R w mi_L_law d mc ms Q 1463 [(0, sg_r S), (1, sg_r B), (2, sg_r M), (3, sg_r O), (4, sg_i (6 * (j : Int)))] [] h k n := by
  obtain ⟨p1, e1⟩ : ∃ p, xs.getD (6 * (j : Int) + 1).toNat 0 = p := ⟨_, rfl⟩
  obtain ⟨p2, e2⟩ : ∃ p, xs.getD (6 * (j : Int) + 2).toNat 0 = p := ⟨_, rfl⟩
  obtain ⟨p3, e3⟩ : ∃ p, xs.getD (6 * (j : Int) + 3).toNat 0 = p := ⟨_, rfl⟩
  obtain ⟨p4, e4⟩ : ∃ p, xs.getD (6 * (j : Int) + 4).toNat 0 = p := ⟨_, rfl⟩
  obtain ⟨p5, e5⟩ : ∃ p, xs.getD (6 * (j : Int) + 5).toNat 0 = p := ⟨_, rfl⟩
  refine sg_aload_n (pc := 1463) (j := 1) dL_law_1463 rfl rfl ?_
  refine sg_aload_n (pc := 1464) (j := 0) dL_law_1464 rfl rfl ?_
  refine sg_iload (pc := 1465) dL_law_1465 rfl ?_
  refine sg_iconst (pc := 1467) (z := 1) dL_law_1467 (by decide) ?_
  first | refine sg_iaddB (pc := 1468) dL_law_1468 (by omega) (by omega) ?_ | refine sg_iadd (pc := 1468) dL_law_1468 ?_
  refine sg_iald (pc := 1469) dL_law_1469 jJ.1.2.2.2.2.2.2.2.2.2 rfl (by omega) (jk_x (by omega) (by omega)) ?_
  try rw [e1]
  try rw [e2]
  try rw [e3]
  try rw [e4]
  try rw [e5]
  refine sg_aload_n (pc := 1470) (j := 0) dL_law_1470 rfl rfl ?_
  refine sg_iload (pc := 1471) dL_law_1471 rfl ?_
  refine sg_iconst (pc := 1473) (z := 2) dL_law_1473 (by decide) ?_
  first | refine sg_iaddB (pc := 1474) dL_law_1474 (by omega) (by omega) ?_ | refine sg_iadd (pc := 1474) dL_law_1474 ?_
  refine sg_iald (pc := 1475) dL_law_1475 jJ.1.2.2.2.2.2.2.2.2.2 rfl (by omega) (jk_x (by omega) (by omega)) ?_
  try rw [e1]
  try rw [e2]
  try rw [e3]
  try rw [e4]
  try rw [e5]
  refine sg_aload_n (pc := 1476) (j := 3) dL_law_1476 rfl rfl ?_
  obtain ⟨L, hL⟩ : ∃ X, fa_L A p1.toNat = X := ⟨_, rfl⟩
  refine st_cS4 (pc := 1477) (d' := d - 1) (mc' := 8) (ms' := 48) g dL_law_1477 cb_L_at cw_L_at ml_L_294 ms_L_at (Nat.le_of_ble_eq_true rfl) (by first | exact jl_d0 hd rfl | omega) (by first | exact Nat.le_of_ble_eq_true rfl | omega) (by first | exact Nat.le_of_ble_eq_true rfl | omega) ?_
  refine f_L_at g nc (by omega) jJ.1 jJ.2.1 jJ.2.2.2 hL (fun v1 h1 I1 X1 k0 k1 F1 r1 => sg_K1 ?_)
  refine sg_istore (pc := 1480) dL_law_1480 (by decide) ?_
  refine sg_aload_n (pc := 1482) (j := 2) dL_law_1482 rfl rfl ?_
  refine sg_aload_n (pc := 1483) (j := 0) dL_law_1483 rfl rfl ?_
  refine sg_iload (pc := 1484) dL_law_1484 rfl ?_
  refine sg_iconst (pc := 1486) (z := 1) dL_law_1486 (by decide) ?_
  first | refine sg_iaddB (pc := 1487) dL_law_1487 (by omega) (by omega) ?_ | refine sg_iadd (pc := 1487) dL_law_1487 ?_
  refine sg_iald (pc := 1488) dL_law_1488 I1.2.2.2.2.2.2.2.2.2 rfl (by omega) (jk_x (by omega) (by omega)) ?_
  try rw [e1]
  try rw [e2]
  try rw [e3]
  try rw [e4]
  try rw [e5]
  refine sg_aload_n (pc := 1489) (j := 0) dL_law_1489 rfl rfl ?_
  refine sg_iload (pc := 1490) dL_law_1490 rfl ?_
  refine sg_iconst (pc := 1492) (z := 2) dL_law_1492 (by decide) ?_
  first | refine sg_iaddB (pc := 1493) dL_law_1493 (by omega) (by omega) ?_ | refine sg_iadd (pc := 1493) dL_law_1493 ?_
  refine sg_iald (pc := 1494) dL_law_1494 I1.2.2.2.2.2.2.2.2.2 rfl (by omega) (jk_x (by omega) (by omega)) ?_
  try rw [e1]
  try rw [e2]
  try rw [e3]
  try rw [e4]
  try rw [e5]
  refine st_as (fun H r => jk_tgR (B := B) r) ?_
  have m2 := jk_Im I1
  have ab0 := jk_Jt jJ I1 X1
  refine sg_cE2 (pc := 1495) (d' := d - 1) (mc' := 0) (ms' := 0) 8 g dL_law_1495 cb_X7_at ml_L_296 mn_X7_at rfl mv_X7_at (Nat.le_of_ble_eq_true rfl) (md_oc m2) (Nat.le_of_ble_eq_true rfl) (by first | exact jl_d0 hd rfl | omega) (by first | exact Nat.le_of_ble_eq_true rfl | omega) (by first | exact Nat.le_of_ble_eq_true rfl | omega) ?_
  refine s_X7_at g (by first | exact jl_d1 hd rfl | omega) m2 (fun v2 h2  y2 => sg_K1 ?_)
  refine st_as (fun H r => jk_unR I1.1 r) ?_
  have J2 : jk_J w B M O S xs (jk_unt B h2) A := jk_JM I1 (md_YW y2) (cf_XF jJ.2.1 F1) (y2.2.2.trans ab0) jJ.2.2.2
  have y2 := md_YW y2
  have I2 := J2.1
  refine sg_istore (pc := 1498) dL_law_1498 (by decide) ?_
  refine sg_goto (pc := 1500) (tgt := 2465) dL_law_1500 (by decide) ?_
  refine sg_lsub (lv' := [(0, _), (1, _), (2, _), (3, _), (4, _)]) ⟨rfl, rfl, rfl, rfl, rfl, trivial⟩ ?_
  exact K _ _ _ _ J2 (by omega) (by omega)

set_option maxRecDepth 100000 in
set_option maxHeartbeats 1000000 in
theorem lw_c31 {w : sg_W} {Q : sg_O → sg_H → Prop} {h : sg_H} (g : sg_G w) (nc : jk_C w) (hJ : jz w) {d mc ms : Nat} (hd : 30 ≤ d) {B M O S j k n : Nat} {xs : List Int} {A : fa_A} (jJ : jk_J w B M O S xs h A) (hj : 6 * j + 6 ≤ xs.length) (hl : xs.length ≤ 3072) (hk : k + 1030 ≤ mc) (hn : n + (48 + 0) ≤ ms) (K : ∀ (h' : sg_H) (k' n' : Nat) (A' : fa_A), jk_J w B M O S xs h' A' → k' ≤ k + 1030 → n' ≤ n + (48 + 0) → sg_R w mi_L_law d mc ms Q 2465 [(0, sg_r S), (1, sg_r B), (2, sg_r M), (3, sg_r O), (4, sg_i (6 * (j : Int)))] [] h' k' n') : sg_R w mi_L_law d mc ms Q 1503 [(0, sg_r S), (1, sg_r B), (2, sg_r M), (3, sg_r O), (4, sg_i (6 * (j : Int)))] [] h k n := by
  obtain ⟨p1, e1⟩ : ∃ p, xs.getD (6 * (j : Int) + 1).toNat 0 = p := ⟨_, rfl⟩
  obtain ⟨p2, e2⟩ : ∃ p, xs.getD (6 * (j : Int) + 2).toNat 0 = p := ⟨_, rfl⟩
  obtain ⟨p3, e3⟩ : ∃ p, xs.getD (6 * (j : Int) + 3).toNat 0 = p := ⟨_, rfl⟩
  obtain ⟨p4, e4⟩ : ∃ p, xs.getD (6 * (j : Int) + 4).toNat 0 = p := ⟨_, rfl⟩
  obtain ⟨p5, e5⟩ : ∃ p, xs.getD (6 * (j : Int) + 5).toNat 0 = p := ⟨_, rfl⟩
  refine sg_aload_n (pc := 1503) (j := 1) dL_law_1503 rfl rfl ?_
  refine sg_aload_n (pc := 1504) (j := 0) dL_law_1504 rfl rfl ?_
  refine sg_iload (pc := 1505) dL_law_1505 rfl ?_
  refine sg_iconst (pc := 1507) (z := 1) dL_law_1507 (by decide) ?_
  first | refine sg_iaddB (pc := 1508) dL_law_1508 (by omega) (by omega) ?_ | refine sg_iadd (pc := 1508) dL_law_1508 ?_
  refine sg_iald (pc := 1509) dL_law_1509 jJ.1.2.2.2.2.2.2.2.2.2 rfl (by omega) (jk_x (by omega) (by omega)) ?_
  try rw [e1]
  try rw [e2]
  try rw [e3]
  try rw [e4]
  try rw [e5]
  refine sg_aload_n (pc := 1510) (j := 0) dL_law_1510 rfl rfl ?_
  refine sg_iload (pc := 1511) dL_law_1511 rfl ?_
  refine sg_iconst (pc := 1513) (z := 2) dL_law_1513 (by decide) ?_
  first | refine sg_iaddB (pc := 1514) dL_law_1514 (by omega) (by omega) ?_ | refine sg_iadd (pc := 1514) dL_law_1514 ?_
  refine sg_iald (pc := 1515) dL_law_1515 jJ.1.2.2.2.2.2.2.2.2.2 rfl (by omega) (jk_x (by omega) (by omega)) ?_
  try rw [e1]
  try rw [e2]
  try rw [e3]
  try rw [e4]
  try rw [e5]
  refine sg_aload_n (pc := 1516) (j := 3) dL_law_1516 rfl rfl ?_
  obtain ⟨L, hL⟩ : ∃ X, fa_L A p1.toNat = X := ⟨_, rfl⟩
  refine st_cS4 (pc := 1517) (d' := d - 1) (mc' := 8) (ms' := 48) g dL_law_1517 cb_L_count cw_L_count ml_L_297 ms_L_count (Nat.le_of_ble_eq_true rfl) (by first | exact jl_d0 hd rfl | omega) (by first | exact Nat.le_of_ble_eq_true rfl | omega) (by first | exact Nat.le_of_ble_eq_true rfl | omega) ?_
  refine f_L_count g nc (by omega) jJ.1 jJ.2.1 jJ.2.2.2 hL (fun v1 h1 I1 X1 k0 k1 k2 F1 r1 => sg_K1 ?_)
  refine sg_istore (pc := 1520) dL_law_1520 (by decide) ?_
  refine sg_aload_n (pc := 1522) (j := 2) dL_law_1522 rfl rfl ?_
  refine sg_aload_n (pc := 1523) (j := 0) dL_law_1523 rfl rfl ?_
  refine sg_iload (pc := 1524) dL_law_1524 rfl ?_
  refine sg_iconst (pc := 1526) (z := 1) dL_law_1526 (by decide) ?_
  first | refine sg_iaddB (pc := 1527) dL_law_1527 (by omega) (by omega) ?_ | refine sg_iadd (pc := 1527) dL_law_1527 ?_
  refine sg_iald (pc := 1528) dL_law_1528 I1.2.2.2.2.2.2.2.2.2 rfl (by omega) (jk_x (by omega) (by omega)) ?_
  try rw [e1]
  try rw [e2]
  try rw [e3]
  try rw [e4]
  try rw [e5]
  refine sg_aload_n (pc := 1529) (j := 0) dL_law_1529 rfl rfl ?_
  refine sg_iload (pc := 1530) dL_law_1530 rfl ?_
  refine sg_iconst (pc := 1532) (z := 2) dL_law_1532 (by decide) ?_
  first | refine sg_iaddB (pc := 1533) dL_law_1533 (by omega) (by omega) ?_ | refine sg_iadd (pc := 1533) dL_law_1533 ?_
  refine sg_iald (pc := 1534) dL_law_1534 I1.2.2.2.2.2.2.2.2.2 rfl (by omega) (jk_x (by omega) (by omega)) ?_
  try rw [e1]
  try rw [e2]
  try rw [e3]
  try rw [e4]
  try rw [e5]
  refine st_as (fun H r => jk_tgR (B := B) r) ?_
  have m2 := jk_Im I1
  have ab0 := jk_Jt jJ I1 X1
  refine sg_cE2 (pc := 1535) (d' := d - 1) (mc' := 0) (ms' := 0) 8 g dL_law_1535 cb_X7_count ml_L_299 mn_X7_count rfl mv_X7_count (Nat.le_of_ble_eq_true rfl) (md_oc m2) (Nat.le_of_ble_eq_true rfl) (by first | exact jl_d0 hd rfl | omega) (by first | exact Nat.le_of_ble_eq_true rfl | omega) (by first | exact Nat.le_of_ble_eq_true rfl | omega) ?_
  refine s_X7_count g (by first | exact jl_d1 hd rfl | omega) m2 (fun v2 h2  y2 => sg_K1 ?_)
  refine st_as (fun H r => jk_unR I1.1 r) ?_
  have J2 : jk_J w B M O S xs (jk_unt B h2) A := jk_JM I1 (md_YW y2) (cf_XF jJ.2.1 F1) (y2.2.2.trans ab0) jJ.2.2.2
  have y2 := md_YW y2
  have I2 := J2.1
  refine sg_istore (pc := 1538) dL_law_1538 (by decide) ?_
  refine sg_goto (pc := 1540) (tgt := 2465) dL_law_1540 (by decide) ?_
  refine sg_lsub (lv' := [(0, _), (1, _), (2, _), (3, _), (4, _)]) ⟨rfl, rfl, rfl, rfl, rfl, trivial⟩ ?_
  exact K _ _ _ _ J2 (by omega) (by omega)

set_option maxRecDepth 100000 in
set_option maxHeartbeats 1000000 in
theorem lw_c32 {w : sg_W} {Q : sg_O → sg_H → Prop} {h : sg_H} (g : sg_G w) (nc : jk_C w) (hJ : jz w) {d mc ms : Nat} (hd : 30 ≤ d) {B M O S j k n : Nat} {xs : List Int} {A : fa_A} (jJ : jk_J w B M O S xs h A) (hj : 6 * j + 6 ≤ xs.length) (hl : xs.length ≤ 3072) (hk : k + 1030 ≤ mc) (hn : n + (48 + 0) ≤ ms) (K : ∀ (h' : sg_H) (k' n' : Nat) (A' : fa_A), jk_J w B M O S xs h' A' → k' ≤ k + 1030 → n' ≤ n + (48 + 0) → sg_R w mi_L_law d mc ms Q 2465 [(0, sg_r S), (1, sg_r B), (2, sg_r M), (3, sg_r O), (4, sg_i (6 * (j : Int)))] [] h' k' n') : sg_R w mi_L_law d mc ms Q 1543 [(0, sg_r S), (1, sg_r B), (2, sg_r M), (3, sg_r O), (4, sg_i (6 * (j : Int)))] [] h k n := by
  obtain ⟨p1, e1⟩ : ∃ p, xs.getD (6 * (j : Int) + 1).toNat 0 = p := ⟨_, rfl⟩
  obtain ⟨p2, e2⟩ : ∃ p, xs.getD (6 * (j : Int) + 2).toNat 0 = p := ⟨_, rfl⟩
  obtain ⟨p3, e3⟩ : ∃ p, xs.getD (6 * (j : Int) + 3).toNat 0 = p := ⟨_, rfl⟩
  obtain ⟨p4, e4⟩ : ∃ p, xs.getD (6 * (j : Int) + 4).toNat 0 = p := ⟨_, rfl⟩
  obtain ⟨p5, e5⟩ : ∃ p, xs.getD (6 * (j : Int) + 5).toNat 0 = p := ⟨_, rfl⟩
  refine sg_aload_n (pc := 1543) (j := 1) dL_law_1543 rfl rfl ?_
  refine sg_aload_n (pc := 1544) (j := 0) dL_law_1544 rfl rfl ?_
  refine sg_iload (pc := 1545) dL_law_1545 rfl ?_
  refine sg_iconst (pc := 1547) (z := 1) dL_law_1547 (by decide) ?_
  first | refine sg_iaddB (pc := 1548) dL_law_1548 (by omega) (by omega) ?_ | refine sg_iadd (pc := 1548) dL_law_1548 ?_
  refine sg_iald (pc := 1549) dL_law_1549 jJ.1.2.2.2.2.2.2.2.2.2 rfl (by omega) (jk_x (by omega) (by omega)) ?_
  try rw [e1]
  try rw [e2]
  try rw [e3]
  try rw [e4]
  try rw [e5]
  refine sg_aload_n (pc := 1550) (j := 0) dL_law_1550 rfl rfl ?_
  refine sg_iload (pc := 1551) dL_law_1551 rfl ?_
  refine sg_iconst (pc := 1553) (z := 2) dL_law_1553 (by decide) ?_
  first | refine sg_iaddB (pc := 1554) dL_law_1554 (by omega) (by omega) ?_ | refine sg_iadd (pc := 1554) dL_law_1554 ?_
  refine sg_iald (pc := 1555) dL_law_1555 jJ.1.2.2.2.2.2.2.2.2.2 rfl (by omega) (jk_x (by omega) (by omega)) ?_
  try rw [e1]
  try rw [e2]
  try rw [e3]
  try rw [e4]
  try rw [e5]
  refine sg_aload_n (pc := 1556) (j := 0) dL_law_1556 rfl rfl ?_
  refine sg_iload (pc := 1557) dL_law_1557 rfl ?_
  refine sg_iconst (pc := 1559) (z := 3) dL_law_1559 (by decide) ?_
  first | refine sg_iaddB (pc := 1560) dL_law_1560 (by omega) (by omega) ?_ | refine sg_iadd (pc := 1560) dL_law_1560 ?_
  refine sg_iald (pc := 1561) dL_law_1561 jJ.1.2.2.2.2.2.2.2.2.2 rfl (by omega) (jk_x (by omega) (by omega)) ?_
  try rw [e1]
  try rw [e2]
  try rw [e3]
  try rw [e4]
  try rw [e5]
  refine sg_aload_n (pc := 1562) (j := 3) dL_law_1562 rfl rfl ?_
  obtain ⟨L, hL⟩ : ∃ X, fa_L A p1.toNat = X := ⟨_, rfl⟩
  refine st_cS5 (pc := 1563) (d' := d - 1) (mc' := 8) (ms' := 48) g dL_law_1563 cb_L_first cw_L_first ml_L_300 ms_L_first (Nat.le_of_ble_eq_true rfl) (by first | exact jl_d0 hd rfl | omega) (by first | exact Nat.le_of_ble_eq_true rfl | omega) (by first | exact Nat.le_of_ble_eq_true rfl | omega) ?_
  refine f_L_first g nc (by omega) jJ.1 jJ.2.1 jJ.2.2.2 hL (fun v1 h1 I1 X1 k0 k1 k2 F1 r1 => sg_K1 ?_)
  refine sg_istore (pc := 1566) dL_law_1566 (by decide) ?_
  refine sg_aload_n (pc := 1568) (j := 2) dL_law_1568 rfl rfl ?_
  refine sg_aload_n (pc := 1569) (j := 0) dL_law_1569 rfl rfl ?_
  refine sg_iload (pc := 1570) dL_law_1570 rfl ?_
  refine sg_iconst (pc := 1572) (z := 1) dL_law_1572 (by decide) ?_
  first | refine sg_iaddB (pc := 1573) dL_law_1573 (by omega) (by omega) ?_ | refine sg_iadd (pc := 1573) dL_law_1573 ?_
  refine sg_iald (pc := 1574) dL_law_1574 I1.2.2.2.2.2.2.2.2.2 rfl (by omega) (jk_x (by omega) (by omega)) ?_
  try rw [e1]
  try rw [e2]
  try rw [e3]
  try rw [e4]
  try rw [e5]
  refine sg_aload_n (pc := 1575) (j := 0) dL_law_1575 rfl rfl ?_
  refine sg_iload (pc := 1576) dL_law_1576 rfl ?_
  refine sg_iconst (pc := 1578) (z := 2) dL_law_1578 (by decide) ?_
  first | refine sg_iaddB (pc := 1579) dL_law_1579 (by omega) (by omega) ?_ | refine sg_iadd (pc := 1579) dL_law_1579 ?_
  refine sg_iald (pc := 1580) dL_law_1580 I1.2.2.2.2.2.2.2.2.2 rfl (by omega) (jk_x (by omega) (by omega)) ?_
  try rw [e1]
  try rw [e2]
  try rw [e3]
  try rw [e4]
  try rw [e5]
  refine sg_aload_n (pc := 1581) (j := 0) dL_law_1581 rfl rfl ?_
  refine sg_iload (pc := 1582) dL_law_1582 rfl ?_
  refine sg_iconst (pc := 1584) (z := 3) dL_law_1584 (by decide) ?_
  first | refine sg_iaddB (pc := 1585) dL_law_1585 (by omega) (by omega) ?_ | refine sg_iadd (pc := 1585) dL_law_1585 ?_
  refine sg_iald (pc := 1586) dL_law_1586 I1.2.2.2.2.2.2.2.2.2 rfl (by omega) (jk_x (by omega) (by omega)) ?_
  try rw [e1]
  try rw [e2]
  try rw [e3]
  try rw [e4]
  try rw [e5]
  refine st_as (fun H r => jk_tgR (B := B) r) ?_
  have m2 := jk_Im I1
  have ab0 := jk_Jt jJ I1 X1
  refine sg_cE3 (pc := 1587) (d' := d - 1) (mc' := 0) (ms' := 0) 8 g dL_law_1587 cb_X7_first ml_L_302 mn_X7_first rfl mv_X7_first (Nat.le_of_ble_eq_true rfl) (md_oc m2) (Nat.le_of_ble_eq_true rfl) (by first | exact jl_d0 hd rfl | omega) (by first | exact Nat.le_of_ble_eq_true rfl | omega) (by first | exact Nat.le_of_ble_eq_true rfl | omega) ?_
  refine s_X7_first g (by first | exact jl_d1 hd rfl | omega) m2 (fun v2 h2  y2 => sg_K1 ?_)
  refine st_as (fun H r => jk_unR I1.1 r) ?_
  have J2 : jk_J w B M O S xs (jk_unt B h2) A := jk_JM I1 (md_YW y2) (cf_XF jJ.2.1 F1) (y2.2.2.trans ab0) jJ.2.2.2
  have y2 := md_YW y2
  have I2 := J2.1
  refine sg_istore (pc := 1590) dL_law_1590 (by decide) ?_
  refine sg_goto (pc := 1592) (tgt := 2465) dL_law_1592 (by decide) ?_
  refine sg_lsub (lv' := [(0, _), (1, _), (2, _), (3, _), (4, _)]) ⟨rfl, rfl, rfl, rfl, rfl, trivial⟩ ?_
  exact K _ _ _ _ J2 (by omega) (by omega)

set_option maxRecDepth 100000 in
set_option maxHeartbeats 1000000 in
theorem lw_c33 {w : sg_W} {Q : sg_O → sg_H → Prop} {h : sg_H} (g : sg_G w) (nc : jk_C w) (hJ : jz w) {d mc ms : Nat} (hd : 30 ≤ d) {B M O S j k n : Nat} {xs : List Int} {A : fa_A} (jJ : jk_J w B M O S xs h A) (hj : 6 * j + 6 ≤ xs.length) (hl : xs.length ≤ 3072) (hk : k + 1030 ≤ mc) (hn : n + (48 + 0) ≤ ms) (K : ∀ (h' : sg_H) (k' n' : Nat) (A' : fa_A), jk_J w B M O S xs h' A' → k' ≤ k + 1030 → n' ≤ n + (48 + 0) → sg_R w mi_L_law d mc ms Q 2465 [(0, sg_r S), (1, sg_r B), (2, sg_r M), (3, sg_r O), (4, sg_i (6 * (j : Int)))] [] h' k' n') : sg_R w mi_L_law d mc ms Q 1595 [(0, sg_r S), (1, sg_r B), (2, sg_r M), (3, sg_r O), (4, sg_i (6 * (j : Int)))] [] h k n := by
  obtain ⟨p1, e1⟩ : ∃ p, xs.getD (6 * (j : Int) + 1).toNat 0 = p := ⟨_, rfl⟩
  obtain ⟨p2, e2⟩ : ∃ p, xs.getD (6 * (j : Int) + 2).toNat 0 = p := ⟨_, rfl⟩
  obtain ⟨p3, e3⟩ : ∃ p, xs.getD (6 * (j : Int) + 3).toNat 0 = p := ⟨_, rfl⟩
  obtain ⟨p4, e4⟩ : ∃ p, xs.getD (6 * (j : Int) + 4).toNat 0 = p := ⟨_, rfl⟩
  obtain ⟨p5, e5⟩ : ∃ p, xs.getD (6 * (j : Int) + 5).toNat 0 = p := ⟨_, rfl⟩
  refine sg_aload_n (pc := 1595) (j := 1) dL_law_1595 rfl rfl ?_
  refine sg_aload_n (pc := 1596) (j := 0) dL_law_1596 rfl rfl ?_
  refine sg_iload (pc := 1597) dL_law_1597 rfl ?_
  refine sg_iconst (pc := 1599) (z := 1) dL_law_1599 (by decide) ?_
  first | refine sg_iaddB (pc := 1600) dL_law_1600 (by omega) (by omega) ?_ | refine sg_iadd (pc := 1600) dL_law_1600 ?_
  refine sg_iald (pc := 1601) dL_law_1601 jJ.1.2.2.2.2.2.2.2.2.2 rfl (by omega) (jk_x (by omega) (by omega)) ?_
  try rw [e1]
  try rw [e2]
  try rw [e3]
  try rw [e4]
  try rw [e5]
  refine sg_aload_n (pc := 1602) (j := 0) dL_law_1602 rfl rfl ?_
  refine sg_iload (pc := 1603) dL_law_1603 rfl ?_
  refine sg_iconst (pc := 1605) (z := 2) dL_law_1605 (by decide) ?_
  first | refine sg_iaddB (pc := 1606) dL_law_1606 (by omega) (by omega) ?_ | refine sg_iadd (pc := 1606) dL_law_1606 ?_
  refine sg_iald (pc := 1607) dL_law_1607 jJ.1.2.2.2.2.2.2.2.2.2 rfl (by omega) (jk_x (by omega) (by omega)) ?_
  try rw [e1]
  try rw [e2]
  try rw [e3]
  try rw [e4]
  try rw [e5]
  refine sg_aload_n (pc := 1608) (j := 3) dL_law_1608 rfl rfl ?_
  obtain ⟨L, hL⟩ : ∃ X, fa_L A p1.toNat = X := ⟨_, rfl⟩
  refine st_cS4 (pc := 1609) (d' := d - 1) (mc' := 8) (ms' := 48) g dL_law_1609 cb_L_last cw_L_last ml_L_303 ms_L_last (Nat.le_of_ble_eq_true rfl) (by first | exact jl_d0 hd rfl | omega) (by first | exact Nat.le_of_ble_eq_true rfl | omega) (by first | exact Nat.le_of_ble_eq_true rfl | omega) ?_
  refine f_L_last g nc (by omega) jJ.1 jJ.2.1 jJ.2.2.2 hL (fun v1 h1 I1 X1 k0 k1 k2 F1 r1 => sg_K1 ?_)
  refine sg_istore (pc := 1612) dL_law_1612 (by decide) ?_
  refine sg_aload_n (pc := 1614) (j := 2) dL_law_1614 rfl rfl ?_
  refine sg_aload_n (pc := 1615) (j := 0) dL_law_1615 rfl rfl ?_
  refine sg_iload (pc := 1616) dL_law_1616 rfl ?_
  refine sg_iconst (pc := 1618) (z := 1) dL_law_1618 (by decide) ?_
  first | refine sg_iaddB (pc := 1619) dL_law_1619 (by omega) (by omega) ?_ | refine sg_iadd (pc := 1619) dL_law_1619 ?_
  refine sg_iald (pc := 1620) dL_law_1620 I1.2.2.2.2.2.2.2.2.2 rfl (by omega) (jk_x (by omega) (by omega)) ?_
  try rw [e1]
  try rw [e2]
  try rw [e3]
  try rw [e4]
  try rw [e5]
  refine sg_aload_n (pc := 1621) (j := 0) dL_law_1621 rfl rfl ?_
  refine sg_iload (pc := 1622) dL_law_1622 rfl ?_
  refine sg_iconst (pc := 1624) (z := 2) dL_law_1624 (by decide) ?_
  first | refine sg_iaddB (pc := 1625) dL_law_1625 (by omega) (by omega) ?_ | refine sg_iadd (pc := 1625) dL_law_1625 ?_
  refine sg_iald (pc := 1626) dL_law_1626 I1.2.2.2.2.2.2.2.2.2 rfl (by omega) (jk_x (by omega) (by omega)) ?_
  try rw [e1]
  try rw [e2]
  try rw [e3]
  try rw [e4]
  try rw [e5]
  refine st_as (fun H r => jk_tgR (B := B) r) ?_
  have m2 := jk_Im I1
  have ab0 := jk_Jt jJ I1 X1
  refine sg_cE2 (pc := 1627) (d' := d - 1) (mc' := 0) (ms' := 0) 8 g dL_law_1627 cb_X7_last ml_L_305 mn_X7_last rfl mv_X7_last (Nat.le_of_ble_eq_true rfl) (md_oc m2) (Nat.le_of_ble_eq_true rfl) (by first | exact jl_d0 hd rfl | omega) (by first | exact Nat.le_of_ble_eq_true rfl | omega) (by first | exact Nat.le_of_ble_eq_true rfl | omega) ?_
  refine s_X7_last g (by first | exact jl_d1 hd rfl | omega) m2 (fun v2 h2  y2 => sg_K1 ?_)
  refine st_as (fun H r => jk_unR I1.1 r) ?_
  have J2 : jk_J w B M O S xs (jk_unt B h2) A := jk_JM I1 (md_YW y2) (cf_XF jJ.2.1 F1) (y2.2.2.trans ab0) jJ.2.2.2
  have y2 := md_YW y2
  have I2 := J2.1
  refine sg_istore (pc := 1630) dL_law_1630 (by decide) ?_
  refine sg_goto (pc := 1632) (tgt := 2465) dL_law_1632 (by decide) ?_
  refine sg_lsub (lv' := [(0, _), (1, _), (2, _), (3, _), (4, _)]) ⟨rfl, rfl, rfl, rfl, rfl, trivial⟩ ?_
  exact K _ _ _ _ J2 (by omega) (by omega)

set_option maxRecDepth 100000 in
set_option maxHeartbeats 1000000 in
theorem lw_c34 {w : sg_W} {Q : sg_O → sg_H → Prop} {h : sg_H} (g : sg_G w) (nc : jk_C w) (hJ : jz w) {d mc ms : Nat} (hd : 30 ≤ d) {B M O S j k n : Nat} {xs : List Int} {A : fa_A} (jJ : jk_J w B M O S xs h A) (hj : 6 * j + 6 ≤ xs.length) (hl : xs.length ≤ 3072) (hk : k + 1030 ≤ mc) (hn : n + (168 + 3061) ≤ ms) (K : ∀ (h' : sg_H) (k' n' : Nat) (A' : fa_A), jk_J w B M O S xs h' A' → k' ≤ k + 1030 → n' ≤ n + (168 + 3061) → sg_R w mi_L_law d mc ms Q 2465 [(0, sg_r S), (1, sg_r B), (2, sg_r M), (3, sg_r O), (4, sg_i (6 * (j : Int)))] [] h' k' n') : sg_R w mi_L_law d mc ms Q 1635 [(0, sg_r S), (1, sg_r B), (2, sg_r M), (3, sg_r O), (4, sg_i (6 * (j : Int)))] [] h k n := by
  obtain ⟨p1, e1⟩ : ∃ p, xs.getD (6 * (j : Int) + 1).toNat 0 = p := ⟨_, rfl⟩
  obtain ⟨p2, e2⟩ : ∃ p, xs.getD (6 * (j : Int) + 2).toNat 0 = p := ⟨_, rfl⟩
  obtain ⟨p3, e3⟩ : ∃ p, xs.getD (6 * (j : Int) + 3).toNat 0 = p := ⟨_, rfl⟩
  obtain ⟨p4, e4⟩ : ∃ p, xs.getD (6 * (j : Int) + 4).toNat 0 = p := ⟨_, rfl⟩
  obtain ⟨p5, e5⟩ : ∃ p, xs.getD (6 * (j : Int) + 5).toNat 0 = p := ⟨_, rfl⟩
  refine sg_aload_n (pc := 1635) (j := 1) dL_law_1635 rfl rfl ?_
  refine sg_aload_n (pc := 1636) (j := 0) dL_law_1636 rfl rfl ?_
  refine sg_iload (pc := 1637) dL_law_1637 rfl ?_
  refine sg_iconst (pc := 1639) (z := 1) dL_law_1639 (by decide) ?_
  first | refine sg_iaddB (pc := 1640) dL_law_1640 (by omega) (by omega) ?_ | refine sg_iadd (pc := 1640) dL_law_1640 ?_
  refine sg_iald (pc := 1641) dL_law_1641 jJ.1.2.2.2.2.2.2.2.2.2 rfl (by omega) (jk_x (by omega) (by omega)) ?_
  try rw [e1]
  try rw [e2]
  try rw [e3]
  try rw [e4]
  try rw [e5]
  refine sg_aload_n (pc := 1642) (j := 3) dL_law_1642 rfl rfl ?_
  refine st_cS3 (pc := 1643) (d' := d - 1) (mc' := 6) (ms' := 168) g dL_law_1643 cb_L_forms cw_L_forms ml_L_306 ms_L_forms (Nat.le_of_ble_eq_true rfl) (by first | exact jl_d0 hd rfl | omega) (by first | exact Nat.le_of_ble_eq_true rfl | omega) (by first | exact Nat.le_of_ble_eq_true rfl | omega) ?_
  refine s_L_forms g nc hJ (by omega) jJ.1 (fun v1 h1 I1 X1 F1 => sg_K1 ?_)
  refine sg_istore (pc := 1646) dL_law_1646 (by decide) ?_
  refine sg_aload_n (pc := 1648) (j := 2) dL_law_1648 rfl rfl ?_
  refine sg_aload_n (pc := 1649) (j := 0) dL_law_1649 rfl rfl ?_
  refine sg_iload (pc := 1650) dL_law_1650 rfl ?_
  refine sg_iconst (pc := 1652) (z := 1) dL_law_1652 (by decide) ?_
  first | refine sg_iaddB (pc := 1653) dL_law_1653 (by omega) (by omega) ?_ | refine sg_iadd (pc := 1653) dL_law_1653 ?_
  refine sg_iald (pc := 1654) dL_law_1654 I1.2.2.2.2.2.2.2.2.2 rfl (by omega) (jk_x (by omega) (by omega)) ?_
  try rw [e1]
  try rw [e2]
  try rw [e3]
  try rw [e4]
  try rw [e5]
  refine st_as (fun H r => jk_tgR (B := B) r) ?_
  have m2 := jk_Im I1
  have ab0 := jk_Jt jJ I1 X1
  refine sg_cE1 (pc := 1655) (d' := d - 1) (mc' := 240) (ms' := 3061) 8 g dL_law_1655 cb_X7_forms ml_L_308 mn_X7_forms rfl mv_X7_forms (Nat.le_of_ble_eq_true rfl) (md_oc m2) (Nat.le_of_ble_eq_true rfl) (by first | exact jl_d0 hd rfl | omega) (by first | exact Nat.le_of_ble_eq_true rfl | omega) (by first | exact Nat.le_of_ble_eq_true rfl | omega) ?_
  have q40 := jf40
  rw [← jf40]
  refine s_X7_forms g (by first | exact jl_d1 hd rfl | omega) m2 (fun v2 h2  y2 => sg_K1 ?_)
  refine st_as (fun H r => jk_unR I1.1 r) ?_
  have J2 : jk_J w B M O S xs (jk_unt B h2) A := jk_JM I1 (md_YW y2) (cf_XF jJ.2.1 F1) (y2.2.2.trans ab0) jJ.2.2.2
  have y2 := md_YW y2
  have I2 := J2.1
  refine sg_astore (pc := 1658) dL_law_1658 (by decide) ?_
  refine sg_goto (pc := 1660) (tgt := 2465) dL_law_1660 (by decide) ?_
  refine sg_lsub (lv' := [(0, _), (1, _), (2, _), (3, _), (4, _)]) ⟨rfl, rfl, rfl, rfl, rfl, trivial⟩ ?_
  exact K _ _ _ _ J2 (by omega) (by omega)

set_option maxRecDepth 100000 in
set_option maxHeartbeats 1000000 in
theorem lw_c35 {w : sg_W} {Q : sg_O → sg_H → Prop} {h : sg_H} (g : sg_G w) (nc : jk_C w) (hJ : jz w) {d mc ms : Nat} (hd : 30 ≤ d) {B M O S j k n : Nat} {xs : List Int} {A : fa_A} (jJ : jk_J w B M O S xs h A) (hj : 6 * j + 6 ≤ xs.length) (hl : xs.length ≤ 3072) {K0 : Nat} (hK : ∀ row : Int, (0 ≤ row ∧ row < 4) → md_n (jk_cut B h) (md_a (jk_cut B h) (md_r (jk_cut B h) M) row) ≤ K0) (hK2 : K0 ≤ 40) (hk : k + 1030 ≤ mc) (hn : n + (350 + (2 * K0 + jf (2 * K0))) ≤ ms) (K : ∀ (h' : sg_H) (k' n' : Nat) (A' : fa_A), jk_J w B M O S xs h' A' → k' ≤ k + 1030 → n' ≤ n + (350 + (2 * K0 + jf (2 * K0))) → sg_R w mi_L_law d mc ms Q 2465 [(0, sg_r S), (1, sg_r B), (2, sg_r M), (3, sg_r O), (4, sg_i (6 * (j : Int)))] [] h' k' n') : sg_R w mi_L_law d mc ms Q 1663 [(0, sg_r S), (1, sg_r B), (2, sg_r M), (3, sg_r O), (4, sg_i (6 * (j : Int)))] [] h k n := by
  obtain ⟨p1, e1⟩ : ∃ p, xs.getD (6 * (j : Int) + 1).toNat 0 = p := ⟨_, rfl⟩
  obtain ⟨p2, e2⟩ : ∃ p, xs.getD (6 * (j : Int) + 2).toNat 0 = p := ⟨_, rfl⟩
  obtain ⟨p3, e3⟩ : ∃ p, xs.getD (6 * (j : Int) + 3).toNat 0 = p := ⟨_, rfl⟩
  obtain ⟨p4, e4⟩ : ∃ p, xs.getD (6 * (j : Int) + 4).toNat 0 = p := ⟨_, rfl⟩
  obtain ⟨p5, e5⟩ : ∃ p, xs.getD (6 * (j : Int) + 5).toNat 0 = p := ⟨_, rfl⟩
  refine sg_aload_n (pc := 1663) (j := 1) dL_law_1663 rfl rfl ?_
  refine sg_aload_n (pc := 1664) (j := 0) dL_law_1664 rfl rfl ?_
  refine sg_iload (pc := 1665) dL_law_1665 rfl ?_
  refine sg_iconst (pc := 1667) (z := 1) dL_law_1667 (by decide) ?_
  first | refine sg_iaddB (pc := 1668) dL_law_1668 (by omega) (by omega) ?_ | refine sg_iadd (pc := 1668) dL_law_1668 ?_
  refine sg_iald (pc := 1669) dL_law_1669 jJ.1.2.2.2.2.2.2.2.2.2 rfl (by omega) (jk_x (by omega) (by omega)) ?_
  try rw [e1]
  try rw [e2]
  try rw [e3]
  try rw [e4]
  try rw [e5]
  refine sg_aload_n (pc := 1670) (j := 3) dL_law_1670 rfl rfl ?_
  refine st_cS3 (pc := 1671) (d' := d - 1) (mc' := 7) (ms' := 350) g dL_law_1671 cb_L_spelled cw_L_spelled ml_L_309 ms_L_spelled (Nat.le_of_ble_eq_true rfl) (by first | exact jl_d0 hd rfl | omega) (by first | exact Nat.le_of_ble_eq_true rfl | omega) (by first | exact Nat.le_of_ble_eq_true rfl | omega) ?_
  refine s_L_spelled g nc hJ (by omega) jJ.1 (fun v1 h1 I1 X1 F1 => sg_K1 ?_)
  refine sg_istore (pc := 1674) dL_law_1674 (by decide) ?_
  refine sg_aload_n (pc := 1676) (j := 2) dL_law_1676 rfl rfl ?_
  refine sg_aload_n (pc := 1677) (j := 0) dL_law_1677 rfl rfl ?_
  refine sg_iload (pc := 1678) dL_law_1678 rfl ?_
  refine sg_iconst (pc := 1680) (z := 1) dL_law_1680 (by decide) ?_
  first | refine sg_iaddB (pc := 1681) dL_law_1681 (by omega) (by omega) ?_ | refine sg_iadd (pc := 1681) dL_law_1681 ?_
  refine sg_iald (pc := 1682) dL_law_1682 I1.2.2.2.2.2.2.2.2.2 rfl (by omega) (jk_x (by omega) (by omega)) ?_
  try rw [e1]
  try rw [e2]
  try rw [e3]
  try rw [e4]
  try rw [e5]
  refine st_as (fun H r => jk_tgR (B := B) r) ?_
  have m2 := jk_Im I1
  have ab0 := jk_Jt jJ I1 X1
  refine sg_cE1 (pc := 1683) (d' := d - 1) (mc' := (1 + 12 * K0)) (ms' := (2 * K0 + jf (2 * K0))) 8 g dL_law_1683 cb_X7_spelled ml_L_311 mn_X7_spelled rfl mv_X7_spelled (Nat.le_of_ble_eq_true rfl) (md_oc m2) (Nat.le_of_ble_eq_true rfl) (by first | exact jl_d0 hd rfl | omega) (by first | exact Nat.le_of_ble_eq_true rfl | omega) (by first | exact Nat.le_of_ble_eq_true rfl | omega) ?_
  have hK1 : ∀ row : Int, (0 ≤ row ∧ row < 4) → md_n (jk_tag B h1) (md_a (jk_tag B h1) (md_r (jk_tag B h1) M) row) ≤ K0 := fun row hr => by
    rw [md_SX I1.2.2.2.1 jk_cutX hr.1 (by omega), md_SX jJ.1.2.2.2.1 X1 hr.1 (by omega)]
    exact hK row hr
  refine s_X7_spelled g (by first | exact jl_d1 hd rfl | omega) (hK1 _) hK2 m2 (fun v2 h2  y2 => sg_K1 ?_)
  refine st_as (fun H r => jk_unR I1.1 r) ?_
  have J2 : jk_J w B M O S xs (jk_unt B h2) A := jk_JM I1 (md_YW y2) (cf_XF jJ.2.1 F1) (y2.2.2.trans ab0) jJ.2.2.2
  have y2 := md_YW y2
  have I2 := J2.1
  refine sg_astore (pc := 1686) dL_law_1686 (by decide) ?_
  refine sg_goto (pc := 1688) (tgt := 2465) dL_law_1688 (by decide) ?_
  refine sg_lsub (lv' := [(0, _), (1, _), (2, _), (3, _), (4, _)]) ⟨rfl, rfl, rfl, rfl, rfl, trivial⟩ ?_
  exact K _ _ _ _ J2 (by omega) (by omega)

set_option maxRecDepth 100000 in
set_option maxHeartbeats 1000000 in
theorem lw_c36 {w : sg_W} {Q : sg_O → sg_H → Prop} {h : sg_H} (g : sg_G w) (nc : jk_C w) (hJ : jz w) {d mc ms : Nat} (hd : 30 ≤ d) {B M O S j k n : Nat} {xs : List Int} {A : fa_A} (jJ : jk_J w B M O S xs h A) (hj : 6 * j + 6 ≤ xs.length) (hl : xs.length ≤ 3072) (hk : k + 1030 ≤ mc) (hn : n + (48 + 0) ≤ ms) (K : ∀ (h' : sg_H) (k' n' : Nat) (A' : fa_A), jk_J w B M O S xs h' A' → k' ≤ k + 1030 → n' ≤ n + (48 + 0) → sg_R w mi_L_law d mc ms Q 2465 [(0, sg_r S), (1, sg_r B), (2, sg_r M), (3, sg_r O), (4, sg_i (6 * (j : Int)))] [] h' k' n') : sg_R w mi_L_law d mc ms Q 1691 [(0, sg_r S), (1, sg_r B), (2, sg_r M), (3, sg_r O), (4, sg_i (6 * (j : Int)))] [] h k n := by
  obtain ⟨p1, e1⟩ : ∃ p, xs.getD (6 * (j : Int) + 1).toNat 0 = p := ⟨_, rfl⟩
  obtain ⟨p2, e2⟩ : ∃ p, xs.getD (6 * (j : Int) + 2).toNat 0 = p := ⟨_, rfl⟩
  obtain ⟨p3, e3⟩ : ∃ p, xs.getD (6 * (j : Int) + 3).toNat 0 = p := ⟨_, rfl⟩
  obtain ⟨p4, e4⟩ : ∃ p, xs.getD (6 * (j : Int) + 4).toNat 0 = p := ⟨_, rfl⟩
  obtain ⟨p5, e5⟩ : ∃ p, xs.getD (6 * (j : Int) + 5).toNat 0 = p := ⟨_, rfl⟩
  refine sg_aload_n (pc := 1691) (j := 1) dL_law_1691 rfl rfl ?_
  refine sg_aload_n (pc := 1692) (j := 0) dL_law_1692 rfl rfl ?_
  refine sg_iload (pc := 1693) dL_law_1693 rfl ?_
  refine sg_iconst (pc := 1695) (z := 1) dL_law_1695 (by decide) ?_
  first | refine sg_iaddB (pc := 1696) dL_law_1696 (by omega) (by omega) ?_ | refine sg_iadd (pc := 1696) dL_law_1696 ?_
  refine sg_iald (pc := 1697) dL_law_1697 jJ.1.2.2.2.2.2.2.2.2.2 rfl (by omega) (jk_x (by omega) (by omega)) ?_
  try rw [e1]
  try rw [e2]
  try rw [e3]
  try rw [e4]
  try rw [e5]
  refine sg_aload_n (pc := 1698) (j := 0) dL_law_1698 rfl rfl ?_
  refine sg_iload (pc := 1699) dL_law_1699 rfl ?_
  refine sg_iconst (pc := 1701) (z := 2) dL_law_1701 (by decide) ?_
  first | refine sg_iaddB (pc := 1702) dL_law_1702 (by omega) (by omega) ?_ | refine sg_iadd (pc := 1702) dL_law_1702 ?_
  refine sg_iald (pc := 1703) dL_law_1703 jJ.1.2.2.2.2.2.2.2.2.2 rfl (by omega) (jk_x (by omega) (by omega)) ?_
  try rw [e1]
  try rw [e2]
  try rw [e3]
  try rw [e4]
  try rw [e5]
  refine sg_aload_n (pc := 1704) (j := 3) dL_law_1704 rfl rfl ?_
  obtain ⟨L, hL⟩ : ∃ X, fa_L A p1.toNat = X := ⟨_, rfl⟩
  refine st_cS4 (pc := 1705) (d' := d - 1) (mc' := 8) (ms' := 48) g dL_law_1705 cb_L_told cw_L_told ml_L_312 ms_L_told (Nat.le_of_ble_eq_true rfl) (by first | exact jl_d0 hd rfl | omega) (by first | exact Nat.le_of_ble_eq_true rfl | omega) (by first | exact Nat.le_of_ble_eq_true rfl | omega) ?_
  refine f_L_told g nc (by omega) jJ.1 jJ.2.1 jJ.2.2.2 hL (fun v1 h1 I1 X1 k0 k1 k2 F1 r1 => sg_K1 ?_)
  refine sg_istore (pc := 1708) dL_law_1708 (by decide) ?_
  refine sg_aload_n (pc := 1710) (j := 2) dL_law_1710 rfl rfl ?_
  refine sg_aload_n (pc := 1711) (j := 0) dL_law_1711 rfl rfl ?_
  refine sg_iload (pc := 1712) dL_law_1712 rfl ?_
  refine sg_iconst (pc := 1714) (z := 1) dL_law_1714 (by decide) ?_
  first | refine sg_iaddB (pc := 1715) dL_law_1715 (by omega) (by omega) ?_ | refine sg_iadd (pc := 1715) dL_law_1715 ?_
  refine sg_iald (pc := 1716) dL_law_1716 I1.2.2.2.2.2.2.2.2.2 rfl (by omega) (jk_x (by omega) (by omega)) ?_
  try rw [e1]
  try rw [e2]
  try rw [e3]
  try rw [e4]
  try rw [e5]
  refine sg_aload_n (pc := 1717) (j := 0) dL_law_1717 rfl rfl ?_
  refine sg_iload (pc := 1718) dL_law_1718 rfl ?_
  refine sg_iconst (pc := 1720) (z := 2) dL_law_1720 (by decide) ?_
  first | refine sg_iaddB (pc := 1721) dL_law_1721 (by omega) (by omega) ?_ | refine sg_iadd (pc := 1721) dL_law_1721 ?_
  refine sg_iald (pc := 1722) dL_law_1722 I1.2.2.2.2.2.2.2.2.2 rfl (by omega) (jk_x (by omega) (by omega)) ?_
  try rw [e1]
  try rw [e2]
  try rw [e3]
  try rw [e4]
  try rw [e5]
  refine st_as (fun H r => jk_tgR (B := B) r) ?_
  have m2 := jk_Im I1
  have ab0 := jk_Jt jJ I1 X1
  refine sg_cE2 (pc := 1723) (d' := d - 1) (mc' := 0) (ms' := 0) 8 g dL_law_1723 cb_X7_told ml_L_314 mn_X7_told rfl mv_X7_told (Nat.le_of_ble_eq_true rfl) (md_oc m2) (Nat.le_of_ble_eq_true rfl) (by first | exact jl_d0 hd rfl | omega) (by first | exact Nat.le_of_ble_eq_true rfl | omega) (by first | exact Nat.le_of_ble_eq_true rfl | omega) ?_
  refine s_X7_told g (by first | exact jl_d1 hd rfl | omega) m2 (fun v2 h2  y2 => sg_K1 ?_)
  refine st_as (fun H r => jk_unR I1.1 r) ?_
  have J2 : jk_J w B M O S xs (jk_unt B h2) A := jk_JM I1 (md_YW y2) (cf_XF jJ.2.1 F1) (y2.2.2.trans ab0) jJ.2.2.2
  have y2 := md_YW y2
  have I2 := J2.1
  refine sg_istore (pc := 1726) dL_law_1726 (by decide) ?_
  refine sg_goto (pc := 1728) (tgt := 2465) dL_law_1728 (by decide) ?_
  refine sg_lsub (lv' := [(0, _), (1, _), (2, _), (3, _), (4, _)]) ⟨rfl, rfl, rfl, rfl, rfl, trivial⟩ ?_
  exact K _ _ _ _ J2 (by omega) (by omega)

set_option maxRecDepth 100000 in
set_option maxHeartbeats 1000000 in
theorem lw_c37 {w : sg_W} {Q : sg_O → sg_H → Prop} {h : sg_H} (g : sg_G w) (nc : jk_C w) (hJ : jz w) {d mc ms : Nat} (hd : 30 ≤ d) {B M O S j k n : Nat} {xs : List Int} {A : fa_A} (jJ : jk_J w B M O S xs h A) (hj : 6 * j + 6 ≤ xs.length) (hl : xs.length ≤ 3072) (hk : k + 1030 ≤ mc) (hn : n + (48 + 0) ≤ ms) (K : ∀ (h' : sg_H) (k' n' : Nat) (A' : fa_A), jk_J w B M O S xs h' A' → k' ≤ k + 1030 → n' ≤ n + (48 + 0) → sg_R w mi_L_law d mc ms Q 2465 [(0, sg_r S), (1, sg_r B), (2, sg_r M), (3, sg_r O), (4, sg_i (6 * (j : Int)))] [] h' k' n') : sg_R w mi_L_law d mc ms Q 1731 [(0, sg_r S), (1, sg_r B), (2, sg_r M), (3, sg_r O), (4, sg_i (6 * (j : Int)))] [] h k n := by
  obtain ⟨p1, e1⟩ : ∃ p, xs.getD (6 * (j : Int) + 1).toNat 0 = p := ⟨_, rfl⟩
  obtain ⟨p2, e2⟩ : ∃ p, xs.getD (6 * (j : Int) + 2).toNat 0 = p := ⟨_, rfl⟩
  obtain ⟨p3, e3⟩ : ∃ p, xs.getD (6 * (j : Int) + 3).toNat 0 = p := ⟨_, rfl⟩
  obtain ⟨p4, e4⟩ : ∃ p, xs.getD (6 * (j : Int) + 4).toNat 0 = p := ⟨_, rfl⟩
  obtain ⟨p5, e5⟩ : ∃ p, xs.getD (6 * (j : Int) + 5).toNat 0 = p := ⟨_, rfl⟩
  refine sg_aload_n (pc := 1731) (j := 1) dL_law_1731 rfl rfl ?_
  refine sg_aload_n (pc := 1732) (j := 0) dL_law_1732 rfl rfl ?_
  refine sg_iload (pc := 1733) dL_law_1733 rfl ?_
  refine sg_iconst (pc := 1735) (z := 1) dL_law_1735 (by decide) ?_
  first | refine sg_iaddB (pc := 1736) dL_law_1736 (by omega) (by omega) ?_ | refine sg_iadd (pc := 1736) dL_law_1736 ?_
  refine sg_iald (pc := 1737) dL_law_1737 jJ.1.2.2.2.2.2.2.2.2.2 rfl (by omega) (jk_x (by omega) (by omega)) ?_
  try rw [e1]
  try rw [e2]
  try rw [e3]
  try rw [e4]
  try rw [e5]
  refine sg_aload_n (pc := 1738) (j := 0) dL_law_1738 rfl rfl ?_
  refine sg_iload (pc := 1739) dL_law_1739 rfl ?_
  refine sg_iconst (pc := 1741) (z := 2) dL_law_1741 (by decide) ?_
  first | refine sg_iaddB (pc := 1742) dL_law_1742 (by omega) (by omega) ?_ | refine sg_iadd (pc := 1742) dL_law_1742 ?_
  refine sg_iald (pc := 1743) dL_law_1743 jJ.1.2.2.2.2.2.2.2.2.2 rfl (by omega) (jk_x (by omega) (by omega)) ?_
  try rw [e1]
  try rw [e2]
  try rw [e3]
  try rw [e4]
  try rw [e5]
  refine sg_aload_n (pc := 1744) (j := 3) dL_law_1744 rfl rfl ?_
  obtain ⟨L, hL⟩ : ∃ X, fa_L A p1.toNat = X := ⟨_, rfl⟩
  refine st_cS4 (pc := 1745) (d' := d - 1) (mc' := 8) (ms' := 48) g dL_law_1745 cb_L_sum cw_L_sum ml_L_315 ms_L_sum (Nat.le_of_ble_eq_true rfl) (by first | exact jl_d0 hd rfl | omega) (by first | exact Nat.le_of_ble_eq_true rfl | omega) (by first | exact Nat.le_of_ble_eq_true rfl | omega) ?_
  refine f_L_sum g nc (by omega) jJ.1 jJ.2.1 jJ.2.2.2 hL (fun v1 h1 I1 X1 k0 k1 F1 r1 => sg_K1 ?_)
  refine sg_istore (pc := 1748) dL_law_1748 (by decide) ?_
  refine sg_aload_n (pc := 1750) (j := 2) dL_law_1750 rfl rfl ?_
  refine sg_aload_n (pc := 1751) (j := 0) dL_law_1751 rfl rfl ?_
  refine sg_iload (pc := 1752) dL_law_1752 rfl ?_
  refine sg_iconst (pc := 1754) (z := 1) dL_law_1754 (by decide) ?_
  first | refine sg_iaddB (pc := 1755) dL_law_1755 (by omega) (by omega) ?_ | refine sg_iadd (pc := 1755) dL_law_1755 ?_
  refine sg_iald (pc := 1756) dL_law_1756 I1.2.2.2.2.2.2.2.2.2 rfl (by omega) (jk_x (by omega) (by omega)) ?_
  try rw [e1]
  try rw [e2]
  try rw [e3]
  try rw [e4]
  try rw [e5]
  refine sg_aload_n (pc := 1757) (j := 0) dL_law_1757 rfl rfl ?_
  refine sg_iload (pc := 1758) dL_law_1758 rfl ?_
  refine sg_iconst (pc := 1760) (z := 2) dL_law_1760 (by decide) ?_
  first | refine sg_iaddB (pc := 1761) dL_law_1761 (by omega) (by omega) ?_ | refine sg_iadd (pc := 1761) dL_law_1761 ?_
  refine sg_iald (pc := 1762) dL_law_1762 I1.2.2.2.2.2.2.2.2.2 rfl (by omega) (jk_x (by omega) (by omega)) ?_
  try rw [e1]
  try rw [e2]
  try rw [e3]
  try rw [e4]
  try rw [e5]
  refine st_as (fun H r => jk_tgR (B := B) r) ?_
  have m2 := jk_Im I1
  have ab0 := jk_Jt jJ I1 X1
  refine sg_cE2 (pc := 1763) (d' := d - 1) (mc' := 0) (ms' := 0) 8 g dL_law_1763 cb_X7_sum ml_L_317 mn_X7_sum rfl mv_X7_sum (Nat.le_of_ble_eq_true rfl) (md_oc m2) (Nat.le_of_ble_eq_true rfl) (by first | exact jl_d0 hd rfl | omega) (by first | exact Nat.le_of_ble_eq_true rfl | omega) (by first | exact Nat.le_of_ble_eq_true rfl | omega) ?_
  refine s_X7_sum g (by first | exact jl_d1 hd rfl | omega) m2 (fun v2 h2  y2 => sg_K1 ?_)
  refine st_as (fun H r => jk_unR I1.1 r) ?_
  have J2 : jk_J w B M O S xs (jk_unt B h2) A := jk_JM I1 (md_YW y2) (cf_XF jJ.2.1 F1) (y2.2.2.trans ab0) jJ.2.2.2
  have y2 := md_YW y2
  have I2 := J2.1
  refine sg_istore (pc := 1766) dL_law_1766 (by decide) ?_
  refine sg_goto (pc := 1768) (tgt := 2465) dL_law_1768 (by decide) ?_
  refine sg_lsub (lv' := [(0, _), (1, _), (2, _), (3, _), (4, _)]) ⟨rfl, rfl, rfl, rfl, rfl, trivial⟩ ?_
  exact K _ _ _ _ J2 (by omega) (by omega)

set_option maxRecDepth 100000 in
set_option maxHeartbeats 1000000 in
theorem lw_c38 {w : sg_W} {Q : sg_O → sg_H → Prop} {h : sg_H} (g : sg_G w) (nc : jk_C w) (hJ : jz w) {d mc ms : Nat} (hd : 30 ≤ d) {B M O S j k n : Nat} {xs : List Int} {A : fa_A} (jJ : jk_J w B M O S xs h A) (hj : 6 * j + 6 ≤ xs.length) (hl : xs.length ≤ 3072) (hk : k + 1030 ≤ mc) (hn : n + (48 + 0) ≤ ms) (K : ∀ (h' : sg_H) (k' n' : Nat) (A' : fa_A), jk_J w B M O S xs h' A' → k' ≤ k + 1030 → n' ≤ n + (48 + 0) → sg_R w mi_L_law d mc ms Q 2465 [(0, sg_r S), (1, sg_r B), (2, sg_r M), (3, sg_r O), (4, sg_i (6 * (j : Int)))] [] h' k' n') : sg_R w mi_L_law d mc ms Q 1771 [(0, sg_r S), (1, sg_r B), (2, sg_r M), (3, sg_r O), (4, sg_i (6 * (j : Int)))] [] h k n := by
  obtain ⟨p1, e1⟩ : ∃ p, xs.getD (6 * (j : Int) + 1).toNat 0 = p := ⟨_, rfl⟩
  obtain ⟨p2, e2⟩ : ∃ p, xs.getD (6 * (j : Int) + 2).toNat 0 = p := ⟨_, rfl⟩
  obtain ⟨p3, e3⟩ : ∃ p, xs.getD (6 * (j : Int) + 3).toNat 0 = p := ⟨_, rfl⟩
  obtain ⟨p4, e4⟩ : ∃ p, xs.getD (6 * (j : Int) + 4).toNat 0 = p := ⟨_, rfl⟩
  obtain ⟨p5, e5⟩ : ∃ p, xs.getD (6 * (j : Int) + 5).toNat 0 = p := ⟨_, rfl⟩
  refine sg_aload_n (pc := 1771) (j := 1) dL_law_1771 rfl rfl ?_
  refine sg_aload_n (pc := 1772) (j := 0) dL_law_1772 rfl rfl ?_
  refine sg_iload (pc := 1773) dL_law_1773 rfl ?_
  refine sg_iconst (pc := 1775) (z := 1) dL_law_1775 (by decide) ?_
  first | refine sg_iaddB (pc := 1776) dL_law_1776 (by omega) (by omega) ?_ | refine sg_iadd (pc := 1776) dL_law_1776 ?_
  refine sg_iald (pc := 1777) dL_law_1777 jJ.1.2.2.2.2.2.2.2.2.2 rfl (by omega) (jk_x (by omega) (by omega)) ?_
  try rw [e1]
  try rw [e2]
  try rw [e3]
  try rw [e4]
  try rw [e5]
  refine sg_aload_n (pc := 1778) (j := 3) dL_law_1778 rfl rfl ?_
  obtain ⟨L, hL⟩ : ∃ X, fa_L A p1.toNat = X := ⟨_, rfl⟩
  refine st_cS3 (pc := 1779) (d' := d - 1) (mc' := 8) (ms' := 48) g dL_law_1779 cb_L_values cw_L_values ml_L_318 ms_L_values (Nat.le_of_ble_eq_true rfl) (by first | exact jl_d0 hd rfl | omega) (by first | exact Nat.le_of_ble_eq_true rfl | omega) (by first | exact Nat.le_of_ble_eq_true rfl | omega) ?_
  refine f_L_values g nc (by omega) jJ.1 jJ.2.1 jJ.2.2.2 hL (fun v1 h1 I1 X1 k0 k1 F1 r1 => sg_K1 ?_)
  refine sg_istore (pc := 1782) dL_law_1782 (by decide) ?_
  refine sg_aload_n (pc := 1784) (j := 2) dL_law_1784 rfl rfl ?_
  refine sg_aload_n (pc := 1785) (j := 0) dL_law_1785 rfl rfl ?_
  refine sg_iload (pc := 1786) dL_law_1786 rfl ?_
  refine sg_iconst (pc := 1788) (z := 1) dL_law_1788 (by decide) ?_
  first | refine sg_iaddB (pc := 1789) dL_law_1789 (by omega) (by omega) ?_ | refine sg_iadd (pc := 1789) dL_law_1789 ?_
  refine sg_iald (pc := 1790) dL_law_1790 I1.2.2.2.2.2.2.2.2.2 rfl (by omega) (jk_x (by omega) (by omega)) ?_
  try rw [e1]
  try rw [e2]
  try rw [e3]
  try rw [e4]
  try rw [e5]
  refine st_as (fun H r => jk_tgR (B := B) r) ?_
  have m2 := jk_Im I1
  have ab0 := jk_Jt jJ I1 X1
  refine sg_cE1 (pc := 1791) (d' := d - 1) (mc' := 0) (ms' := 0) 8 g dL_law_1791 cb_X7_values ml_L_320 mn_X7_values rfl mv_X7_values (Nat.le_of_ble_eq_true rfl) (md_oc m2) (Nat.le_of_ble_eq_true rfl) (by first | exact jl_d0 hd rfl | omega) (by first | exact Nat.le_of_ble_eq_true rfl | omega) (by first | exact Nat.le_of_ble_eq_true rfl | omega) ?_
  refine s_X7_values g (by first | exact jl_d1 hd rfl | omega) m2 (fun v2 h2  y2 => sg_K1 ?_)
  refine st_as (fun H r => jk_unR I1.1 r) ?_
  have J2 : jk_J w B M O S xs (jk_unt B h2) A := jk_JM I1 (md_YW y2) (cf_XF jJ.2.1 F1) (y2.2.2.trans ab0) jJ.2.2.2
  have y2 := md_YW y2
  have I2 := J2.1
  refine sg_istore (pc := 1794) dL_law_1794 (by decide) ?_
  refine sg_goto (pc := 1796) (tgt := 2465) dL_law_1796 (by decide) ?_
  refine sg_lsub (lv' := [(0, _), (1, _), (2, _), (3, _), (4, _)]) ⟨rfl, rfl, rfl, rfl, rfl, trivial⟩ ?_
  exact K _ _ _ _ J2 (by omega) (by omega)

set_option maxRecDepth 100000 in
set_option maxHeartbeats 1000000 in
theorem lw_c39 {w : sg_W} {Q : sg_O → sg_H → Prop} {h : sg_H} (g : sg_G w) (nc : jk_C w) (hJ : jz w) {d mc ms : Nat} (hd : 30 ≤ d) {B M O S j k n : Nat} {xs : List Int} {A : fa_A} (jJ : jk_J w B M O S xs h A) (hj : 6 * j + 6 ≤ xs.length) (hl : xs.length ≤ 3072) (hk : k + 1030 ≤ mc) (hn : n + (48 + 90) ≤ ms) (K : ∀ (h' : sg_H) (k' n' : Nat) (A' : fa_A), jk_J w B M O S xs h' A' → k' ≤ k + 1030 → n' ≤ n + (48 + 90) → sg_R w mi_L_law d mc ms Q 2465 [(0, sg_r S), (1, sg_r B), (2, sg_r M), (3, sg_r O), (4, sg_i (6 * (j : Int)))] [] h' k' n') : sg_R w mi_L_law d mc ms Q 1799 [(0, sg_r S), (1, sg_r B), (2, sg_r M), (3, sg_r O), (4, sg_i (6 * (j : Int)))] [] h k n := by
  obtain ⟨p1, e1⟩ : ∃ p, xs.getD (6 * (j : Int) + 1).toNat 0 = p := ⟨_, rfl⟩
  obtain ⟨p2, e2⟩ : ∃ p, xs.getD (6 * (j : Int) + 2).toNat 0 = p := ⟨_, rfl⟩
  obtain ⟨p3, e3⟩ : ∃ p, xs.getD (6 * (j : Int) + 3).toNat 0 = p := ⟨_, rfl⟩
  obtain ⟨p4, e4⟩ : ∃ p, xs.getD (6 * (j : Int) + 4).toNat 0 = p := ⟨_, rfl⟩
  obtain ⟨p5, e5⟩ : ∃ p, xs.getD (6 * (j : Int) + 5).toNat 0 = p := ⟨_, rfl⟩
  refine sg_aload_n (pc := 1799) (j := 1) dL_law_1799 rfl rfl ?_
  refine sg_aload_n (pc := 1800) (j := 0) dL_law_1800 rfl rfl ?_
  refine sg_iload (pc := 1801) dL_law_1801 rfl ?_
  refine sg_iconst (pc := 1803) (z := 1) dL_law_1803 (by decide) ?_
  first | refine sg_iaddB (pc := 1804) dL_law_1804 (by omega) (by omega) ?_ | refine sg_iadd (pc := 1804) dL_law_1804 ?_
  refine sg_iald (pc := 1805) dL_law_1805 jJ.1.2.2.2.2.2.2.2.2.2 rfl (by omega) (jk_x (by omega) (by omega)) ?_
  try rw [e1]
  try rw [e2]
  try rw [e3]
  try rw [e4]
  try rw [e5]
  refine sg_aload_n (pc := 1806) (j := 3) dL_law_1806 rfl rfl ?_
  obtain ⟨L, hL⟩ : ∃ X, fa_L A p1.toNat = X := ⟨_, rfl⟩
  refine st_cS3 (pc := 1807) (d' := d - 1) (mc' := 8) (ms' := 48) g dL_law_1807 cb_L_words cw_L_words ml_L_321 ms_L_words (Nat.le_of_ble_eq_true rfl) (by first | exact jl_d0 hd rfl | omega) (by first | exact Nat.le_of_ble_eq_true rfl | omega) (by first | exact Nat.le_of_ble_eq_true rfl | omega) ?_
  refine f_L_words g nc (by omega) jJ.1 jJ.2.1 jJ.2.2.2 hL (fun v1 h1 I1 X1 k0 k1 F1 r1 => sg_K1 ?_)
  refine sg_istore (pc := 1810) dL_law_1810 (by decide) ?_
  refine sg_aload_n (pc := 1812) (j := 2) dL_law_1812 rfl rfl ?_
  refine sg_aload_n (pc := 1813) (j := 0) dL_law_1813 rfl rfl ?_
  refine sg_iload (pc := 1814) dL_law_1814 rfl ?_
  refine sg_iconst (pc := 1816) (z := 1) dL_law_1816 (by decide) ?_
  first | refine sg_iaddB (pc := 1817) dL_law_1817 (by omega) (by omega) ?_ | refine sg_iadd (pc := 1817) dL_law_1817 ?_
  refine sg_iald (pc := 1818) dL_law_1818 I1.2.2.2.2.2.2.2.2.2 rfl (by omega) (jk_x (by omega) (by omega)) ?_
  try rw [e1]
  try rw [e2]
  try rw [e3]
  try rw [e4]
  try rw [e5]
  refine st_as (fun H r => jk_tgR (B := B) r) ?_
  have m2 := jk_Im I1
  have ab0 := jk_Jt jJ I1 X1
  refine sg_cE1 (pc := 1819) (d' := d - 1) (mc' := 24) (ms' := 90) 8 g dL_law_1819 cb_X7_words ml_L_323 mn_X7_words rfl mv_X7_words (Nat.le_of_ble_eq_true rfl) (md_oc m2) (Nat.le_of_ble_eq_true rfl) (by first | exact jl_d0 hd rfl | omega) (by first | exact Nat.le_of_ble_eq_true rfl | omega) (by first | exact Nat.le_of_ble_eq_true rfl | omega) ?_
  refine s_X7_words g (by first | exact jl_d1 hd rfl | omega) m2 (fun v2 h2  y2 => sg_K1 ?_)
  refine st_as (fun H r => jk_unR I1.1 r) ?_
  have J2 : jk_J w B M O S xs (jk_unt B h2) A := jk_JM I1 (md_YW y2) (cf_XF jJ.2.1 F1) (y2.2.2.trans ab0) jJ.2.2.2
  have y2 := md_YW y2
  have I2 := J2.1
  refine sg_istore (pc := 1822) dL_law_1822 (by decide) ?_
  refine sg_goto (pc := 1824) (tgt := 2465) dL_law_1824 (by decide) ?_
  refine sg_lsub (lv' := [(0, _), (1, _), (2, _), (3, _), (4, _)]) ⟨rfl, rfl, rfl, rfl, rfl, trivial⟩ ?_
  exact K _ _ _ _ J2 (by omega) (by omega)

