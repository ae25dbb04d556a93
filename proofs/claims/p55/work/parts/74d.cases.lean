set_option maxRecDepth 100000 in
set_option maxHeartbeats 1000000 in
theorem lw_c30 {w : sg_W} {Q : sg_O → sg_H → Prop} {h : sg_H} (g : sg_G w) (nc : jk_C w) (hJ : jz w) {d mc ms : Nat} (hd : 30 ≤ d) {B M O S j k n : Nat} {xs : List Int} {A : fa_A} (jJ : jk_J w B M O S xs h A) (hj : 6 * j + 6 ≤ xs.length) (hl : xs.length ≤ 3072) (hk : k + 1030 ≤ mc) (hn : n + (48 + 0) ≤ ms) (K : ∀ (h' : sg_H) (k' n' : Nat) (A' : fa_A), jk_J w B M O S xs h' A' → k' ≤ k + 1030 → n' ≤ n + (48 + 0) → sg_R w mi_L_law d mc ms Q 2465 [(0, sg_r S), (1, sg_r B), (2, sg_r M), (3, sg_r O), (4, sg_i (6 * (j : Int)))] [] h' k' n') : sg_R w mi_L_law d mc ms Q 1434 [(0, sg_r S), (1, sg_r B), (2, sg_r M), (3, sg_r O), (4, sg_i (6 * (j : Int)))] [] h k n := by
  obtain ⟨p1, e1⟩ : ∃ p, xs.getD (6 * (j : Int) + 1).toNat 0 = p := ⟨_, rfl⟩
  obtain ⟨p2, e2⟩ : ∃ p, xs.getD (6 * (j : Int) + 2).toNat 0 = p := ⟨_, rfl⟩
  obtain ⟨p3, e3⟩ : ∃ p, xs.getD (6 * (j : Int) + 3).toNat 0 = p := ⟨_, rfl⟩
  obtain ⟨p4, e4⟩ : ∃ p, xs.getD (6 * (j : Int) + 4).toNat 0 = p := ⟨_, rfl⟩
  obtain ⟨p5, e5⟩ : ∃ p, xs.getD (6 * (j : Int) + 5).toNat 0 = p := ⟨_, rfl⟩
  refine sg_aload_n (pc := 1434) (j := 1) dL_law_1434 rfl rfl ?_
  refine sg_aload_n (pc := 1435) (j := 0) dL_law_1435 rfl rfl ?_
  refine sg_iload (pc := 1436) dL_law_1436 rfl ?_
  refine sg_iconst (pc := 1438) (z := 1) dL_law_1438 (by decide) ?_
  first | refine sg_iaddB (pc := 1439) dL_law_1439 (by omega) (by omega) ?_ | refine sg_iadd (pc := 1439) dL_law_1439 ?_
  refine sg_iald (pc := 1440) dL_law_1440 jJ.1.2.2.2.2.2.2.2.2.2 rfl (by omega) (jk_x (by omega) (by omega)) ?_
  try rw [e1]
  try rw [e2]
  try rw [e3]
  try rw [e4]
  try rw [e5]
  refine sg_aload_n (pc := 1441) (j := 0) dL_law_1441 rfl rfl ?_
  refine sg_iload (pc := 1442) dL_law_1442 rfl ?_
  refine sg_iconst (pc := 1444) (z := 2) dL_law_1444 (by decide) ?_
  first | refine sg_iaddB (pc := 1445) dL_law_1445 (by omega) (by omega) ?_ | refine sg_iadd (pc := 1445) dL_law_1445 ?_
  refine sg_iald (pc := 1446) dL_law_1446 jJ.1.2.2.2.2.2.2.2.2.2 rfl (by omega) (jk_x (by omega) (by omega)) ?_
  try rw [e1]
  try rw [e2]
  try rw [e3]
  try rw [e4]
  try rw [e5]
  refine sg_aload_n (pc := 1447) (j := 3) dL_law_1447 rfl rfl ?_
  obtain ⟨L, hL⟩ : ∃ X, fa_L A p1.toNat = X := ⟨_, rfl⟩
  refine st_cS4 (pc := 1448) (d' := d - 1) (mc' := 8) (ms' := 48) g dL_law_1448 cb_L_at cw_L_at ml_L_291 ms_L_at (Nat.le_of_ble_eq_true rfl) (by first | exact jl_d0 hd rfl | omega) (by first | exact Nat.le_of_ble_eq_true rfl | omega) (by first | exact Nat.le_of_ble_eq_true rfl | omega) ?_
  refine f_L_at g nc (by omega) jJ.1 jJ.2.1 jJ.2.2.2 hL (fun v1 h1 I1 X1 k0 k1 F1 r1 => sg_K1 ?_)
  refine sg_istore (pc := 1451) dL_law_1451 (by decide) ?_
  refine sg_aload_n (pc := 1453) (j := 2) dL_law_1453 rfl rfl ?_
  refine sg_aload_n (pc := 1454) (j := 0) dL_law_1454 rfl rfl ?_
  refine sg_iload (pc := 1455) dL_law_1455 rfl ?_
  refine sg_iconst (pc := 1457) (z := 1) dL_law_1457 (by decide) ?_
  first | refine sg_iaddB (pc := 1458) dL_law_1458 (by omega) (by omega) ?_ | refine sg_iadd (pc := 1458) dL_law_1458 ?_
  refine sg_iald (pc := 1459) dL_law_1459 I1.2.2.2.2.2.2.2.2.2 rfl (by omega) (jk_x (by omega) (by omega)) ?_
  try rw [e1]
  try rw [e2]
  try rw [e3]
  try rw [e4]
  try rw [e5]
  refine sg_aload_n (pc := 1460) (j := 0) dL_law_1460 rfl rfl ?_
  refine sg_iload (pc := 1461) dL_law_1461 rfl ?_
  refine sg_iconst (pc := 1463) (z := 2) dL_law_1463 (by decide) ?_
  first | refine sg_iaddB (pc := 1464) dL_law_1464 (by omega) (by omega) ?_ | refine sg_iadd (pc := 1464) dL_law_1464 ?_
  refine sg_iald (pc := 1465) dL_law_1465 I1.2.2.2.2.2.2.2.2.2 rfl (by omega) (jk_x (by omega) (by omega)) ?_
  try rw [e1]
  try rw [e2]
  try rw [e3]
  try rw [e4]
  try rw [e5]
  refine st_as (fun H r => jk_tgR (B := B) r) ?_
  have m2 := jk_Im I1
  have ab0 := jk_Jt jJ I1 X1
  refine sg_cE2 (pc := 1466) (d' := d - 1) (mc' := 0) (ms' := 0) 8 g dL_law_1466 cb_X7_at ml_L_293 mn_X7_at rfl mv_X7_at (Nat.le_of_ble_eq_true rfl) (md_oc m2) (Nat.le_of_ble_eq_true rfl) (by first | exact jl_d0 hd rfl | omega) (by first | exact Nat.le_of_ble_eq_true rfl | omega) (by first | exact Nat.le_of_ble_eq_true rfl | omega) ?_
  refine s_X7_at g (by first | exact jl_d1 hd rfl | omega) m2 (fun v2 h2  y2 => sg_K1 ?_)
  refine st_as (fun H r => jk_unR I1.1 r) ?_
  have J2 : jk_J w B M O S xs (jk_unt B h2) A := jk_JM I1 (md_YW y2) (cf_XF jJ.2.1 F1) (y2.2.2.trans ab0) jJ.2.2.2
  have y2 := md_YW y2
  have I2 := J2.1
  refine sg_istore (pc := 1469) dL_law_1469 (by decide) ?_
  refine sg_goto (pc := 1471) (tgt := 2465) dL_law_1471 (by decide) ?_
  refine sg_lsub (lv' := [(0, _), (1, _), (2, _), (3, _), (4, _)]) ⟨rfl, rfl, rfl, rfl, rfl, trivial⟩ ?_
  exact K _ _ _ _ J2 (by omega) (by omega)

set_option maxRecDepth 100000 in
set_option maxHeartbeats 1000000 in
theorem lw_c31 {w : sg_W} {Q : sg_O → sg_H → Prop} {h : sg_H} (g : sg_G w) (nc : jk_C w) (hJ : jz w) {d mc ms : Nat} (hd : 30 ≤ d) {B M O S j k n : Nat} {xs : List Int} {A : fa_A} (jJ : jk_J w B M O S xs h A) (hj : 6 * j + 6 ≤ xs.length) (hl : xs.length ≤ 3072) (hk : k + 1030 ≤ mc) (hn : n + (48 + 0) ≤ ms) (K : ∀ (h' : sg_H) (k' n' : Nat) (A' : fa_A), jk_J w B M O S xs h' A' → k' ≤ k + 1030 → n' ≤ n + (48 + 0) → sg_R w mi_L_law d mc ms Q 2465 [(0, sg_r S), (1, sg_r B), (2, sg_r M), (3, sg_r O), (4, sg_i (6 * (j : Int)))] [] h' k' n') : sg_R w mi_L_law d mc ms Q 1474 [(0, sg_r S), (1, sg_r B), (2, sg_r M), (3, sg_r O), (4, sg_i (6 * (j : Int)))] [] h k n := by
  obtain ⟨p1, e1⟩ : ∃ p, xs.getD (6 * (j : Int) + 1).toNat 0 = p := ⟨_, rfl⟩
  obtain ⟨p2, e2⟩ : ∃ p, xs.getD (6 * (j : Int) + 2).toNat 0 = p := ⟨_, rfl⟩
  obtain ⟨p3, e3⟩ : ∃ p, xs.getD (6 * (j : Int) + 3).toNat 0 = p := ⟨_, rfl⟩
  obtain ⟨p4, e4⟩ : ∃ p, xs.getD (6 * (j : Int) + 4).toNat 0 = p := ⟨_, rfl⟩
  obtain ⟨p5, e5⟩ : ∃ p, xs.getD (6 * (j : Int) + 5).toNat 0 = p := ⟨_, rfl⟩
  refine sg_aload_n (pc := 1474) (j := 1) dL_law_1474 rfl rfl ?_
  refine sg_aload_n (pc := 1475) (j := 0) dL_law_1475 rfl rfl ?_
  refine sg_iload (pc := 1476) dL_law_1476 rfl ?_
  refine sg_iconst (pc := 1478) (z := 1) dL_law_1478 (by decide) ?_
  first | refine sg_iaddB (pc := 1479) dL_law_1479 (by omega) (by omega) ?_ | refine sg_iadd (pc := 1479) dL_law_1479 ?_
  refine sg_iald (pc := 1480) dL_law_1480 jJ.1.2.2.2.2.2.2.2.2.2 rfl (by omega) (jk_x (by omega) (by omega)) ?_
  try rw [e1]
  try rw [e2]
  try rw [e3]
  try rw [e4]
  try rw [e5]
  refine sg_aload_n (pc := 1481) (j := 0) dL_law_1481 rfl rfl ?_
  refine sg_iload (pc := 1482) dL_law_1482 rfl ?_
  refine sg_iconst (pc := 1484) (z := 2) dL_law_1484 (by decide) ?_
  first | refine sg_iaddB (pc := 1485) dL_law_1485 (by omega) (by omega) ?_ | refine sg_iadd (pc := 1485) dL_law_1485 ?_
  refine sg_iald (pc := 1486) dL_law_1486 jJ.1.2.2.2.2.2.2.2.2.2 rfl (by omega) (jk_x (by omega) (by omega)) ?_
  try rw [e1]
  try rw [e2]
  try rw [e3]
  try rw [e4]
  try rw [e5]
  refine sg_aload_n (pc := 1487) (j := 3) dL_law_1487 rfl rfl ?_
  obtain ⟨L, hL⟩ : ∃ X, fa_L A p1.toNat = X := ⟨_, rfl⟩
  refine st_cS4 (pc := 1488) (d' := d - 1) (mc' := 8) (ms' := 48) g dL_law_1488 cb_L_count cw_L_count ml_L_294 ms_L_count (Nat.le_of_ble_eq_true rfl) (by first | exact jl_d0 hd rfl | omega) (by first | exact Nat.le_of_ble_eq_true rfl | omega) (by first | exact Nat.le_of_ble_eq_true rfl | omega) ?_
  refine f_L_count g nc (by omega) jJ.1 jJ.2.1 jJ.2.2.2 hL (fun v1 h1 I1 X1 k0 k1 k2 F1 r1 => sg_K1 ?_)
  refine sg_istore (pc := 1491) dL_law_1491 (by decide) ?_
  refine sg_aload_n (pc := 1493) (j := 2) dL_law_1493 rfl rfl ?_
  refine sg_aload_n (pc := 1494) (j := 0) dL_law_1494 rfl rfl ?_
  refine sg_iload (pc := 1495) dL_law_1495 rfl ?_
  refine sg_iconst (pc := 1497) (z := 1) dL_law_1497 (by decide) ?_
  first | refine sg_iaddB (pc := 1498) dL_law_1498 (by omega) (by omega) ?_ | refine sg_iadd (pc := 1498) dL_law_1498 ?_
  refine sg_iald (pc := 1499) dL_law_1499 I1.2.2.2.2.2.2.2.2.2 rfl (by omega) (jk_x (by omega) (by omega)) ?_
  try rw [e1]
  try rw [e2]
  try rw [e3]
  try rw [e4]
  try rw [e5]
  refine sg_aload_n (pc := 1500) (j := 0) dL_law_1500 rfl rfl ?_
  refine sg_iload (pc := 1501) dL_law_1501 rfl ?_
  refine sg_iconst (pc := 1503) (z := 2) dL_law_1503 (by decide) ?_
  first | refine sg_iaddB (pc := 1504) dL_law_1504 (by omega) (by omega) ?_ | refine sg_iadd (pc := 1504) dL_law_1504 ?_
  refine sg_iald (pc := 1505) dL_law_1505 I1.2.2.2.2.2.2.2.2.2 rfl (by omega) (jk_x (by omega) (by omega)) ?_
  try rw [e1]
  try rw [e2]
  try rw [e3]
  try rw [e4]
  try rw [e5]
  refine st_as (fun H r => jk_tgR (B := B) r) ?_
  have m2 := jk_Im I1
  have ab0 := jk_Jt jJ I1 X1
  refine sg_cE2 (pc := 1506) (d' := d - 1) (mc' := 0) (ms' := 0) 8 g dL_law_1506 cb_X7_count ml_L_296 mn_X7_count rfl mv_X7_count (Nat.le_of_ble_eq_true rfl) (md_oc m2) (Nat.le_of_ble_eq_true rfl) (by first | exact jl_d0 hd rfl | omega) (by first | exact Nat.le_of_ble_eq_true rfl | omega) (by first | exact Nat.le_of_ble_eq_true rfl | omega) ?_
  refine s_X7_count g (by first | exact jl_d1 hd rfl | omega) m2 (fun v2 h2  y2 => sg_K1 ?_)
  refine st_as (fun H r => jk_unR I1.1 r) ?_
  have J2 : jk_J w B M O S xs (jk_unt B h2) A := jk_JM I1 (md_YW y2) (cf_XF jJ.2.1 F1) (y2.2.2.trans ab0) jJ.2.2.2
  have y2 := md_YW y2
  have I2 := J2.1
  refine sg_istore (pc := 1509) dL_law_1509 (by decide) ?_
  refine sg_goto (pc := 1511) (tgt := 2465) dL_law_1511 (by decide) ?_
  refine sg_lsub (lv' := [(0, _), (1, _), (2, _), (3, _), (4, _)]) ⟨rfl, rfl, rfl, rfl, rfl, trivial⟩ ?_
  exact K _ _ _ _ J2 (by omega) (by omega)

set_option maxRecDepth 100000 in
set_option maxHeartbeats 1000000 in
theorem lw_c32 {w : sg_W} {Q : sg_O → sg_H → Prop} {h : sg_H} (g : sg_G w) (nc : jk_C w) (hJ : jz w) {d mc ms : Nat} (hd : 30 ≤ d) {B M O S j k n : Nat} {xs : List Int} {A : fa_A} (jJ : jk_J w B M O S xs h A) (hj : 6 * j + 6 ≤ xs.length) (hl : xs.length ≤ 3072) (hk : k + 1030 ≤ mc) (hn : n + (48 + 0) ≤ ms) (K : ∀ (h' : sg_H) (k' n' : Nat) (A' : fa_A), jk_J w B M O S xs h' A' → k' ≤ k + 1030 → n' ≤ n + (48 + 0) → sg_R w mi_L_law d mc ms Q 2465 [(0, sg_r S), (1, sg_r B), (2, sg_r M), (3, sg_r O), (4, sg_i (6 * (j : Int)))] [] h' k' n') : sg_R w mi_L_law d mc ms Q 1514 [(0, sg_r S), (1, sg_r B), (2, sg_r M), (3, sg_r O), (4, sg_i (6 * (j : Int)))] [] h k n := by
  obtain ⟨p1, e1⟩ : ∃ p, xs.getD (6 * (j : Int) + 1).toNat 0 = p := ⟨_, rfl⟩
  obtain ⟨p2, e2⟩ : ∃ p, xs.getD (6 * (j : Int) + 2).toNat 0 = p := ⟨_, rfl⟩
  obtain ⟨p3, e3⟩ : ∃ p, xs.getD (6 * (j : Int) + 3).toNat 0 = p := ⟨_, rfl⟩
  obtain ⟨p4, e4⟩ : ∃ p, xs.getD (6 * (j : Int) + 4).toNat 0 = p := ⟨_, rfl⟩
  obtain ⟨p5, e5⟩ : ∃ p, xs.getD (6 * (j : Int) + 5).toNat 0 = p := ⟨_, rfl⟩
  refine sg_aload_n (pc := 1514) (j := 1) dL_law_1514 rfl rfl ?_
  refine sg_aload_n (pc := 1515) (j := 0) dL_law_1515 rfl rfl ?_
  refine sg_iload (pc := 1516) dL_law_1516 rfl ?_
  refine sg_iconst (pc := 1518) (z := 1) dL_law_1518 (by decide) ?_
  first | refine sg_iaddB (pc := 1519) dL_law_1519 (by omega) (by omega) ?_ | refine sg_iadd (pc := 1519) dL_law_1519 ?_
  refine sg_iald (pc := 1520) dL_law_1520 jJ.1.2.2.2.2.2.2.2.2.2 rfl (by omega) (jk_x (by omega) (by omega)) ?_
  try rw [e1]
  try rw [e2]
  try rw [e3]
  try rw [e4]
  try rw [e5]
  refine sg_aload_n (pc := 1521) (j := 0) dL_law_1521 rfl rfl ?_
  refine sg_iload (pc := 1522) dL_law_1522 rfl ?_
  refine sg_iconst (pc := 1524) (z := 2) dL_law_1524 (by decide) ?_
  first | refine sg_iaddB (pc := 1525) dL_law_1525 (by omega) (by omega) ?_ | refine sg_iadd (pc := 1525) dL_law_1525 ?_
  refine sg_iald (pc := 1526) dL_law_1526 jJ.1.2.2.2.2.2.2.2.2.2 rfl (by omega) (jk_x (by omega) (by omega)) ?_
  try rw [e1]
  try rw [e2]
  try rw [e3]
  try rw [e4]
  try rw [e5]
  refine sg_aload_n (pc := 1527) (j := 0) dL_law_1527 rfl rfl ?_
  refine sg_iload (pc := 1528) dL_law_1528 rfl ?_
  refine sg_iconst (pc := 1530) (z := 3) dL_law_1530 (by decide) ?_
  first | refine sg_iaddB (pc := 1531) dL_law_1531 (by omega) (by omega) ?_ | refine sg_iadd (pc := 1531) dL_law_1531 ?_
  refine sg_iald (pc := 1532) dL_law_1532 jJ.1.2.2.2.2.2.2.2.2.2 rfl (by omega) (jk_x (by omega) (by omega)) ?_
  try rw [e1]
  try rw [e2]
  try rw [e3]
  try rw [e4]
  try rw [e5]
  refine sg_aload_n (pc := 1533) (j := 3) dL_law_1533 rfl rfl ?_
  obtain ⟨L, hL⟩ : ∃ X, fa_L A p1.toNat = X := ⟨_, rfl⟩
  refine st_cS5 (pc := 1534) (d' := d - 1) (mc' := 8) (ms' := 48) g dL_law_1534 cb_L_first cw_L_first ml_L_297 ms_L_first (Nat.le_of_ble_eq_true rfl) (by first | exact jl_d0 hd rfl | omega) (by first | exact Nat.le_of_ble_eq_true rfl | omega) (by first | exact Nat.le_of_ble_eq_true rfl | omega) ?_
  refine f_L_first g nc (by omega) jJ.1 jJ.2.1 jJ.2.2.2 hL (fun v1 h1 I1 X1 k0 k1 k2 F1 r1 => sg_K1 ?_)
  refine sg_istore (pc := 1537) dL_law_1537 (by decide) ?_
  refine sg_aload_n (pc := 1539) (j := 2) dL_law_1539 rfl rfl ?_
  refine sg_aload_n (pc := 1540) (j := 0) dL_law_1540 rfl rfl ?_
  refine sg_iload (pc := 1541) dL_law_1541 rfl ?_
  refine sg_iconst (pc := 1543) (z := 1) dL_law_1543 (by decide) ?_
  first | refine sg_iaddB (pc := 1544) dL_law_1544 (by omega) (by omega) ?_ | refine sg_iadd (pc := 1544) dL_law_1544 ?_
  refine sg_iald (pc := 1545) dL_law_1545 I1.2.2.2.2.2.2.2.2.2 rfl (by omega) (jk_x (by omega) (by omega)) ?_
  try rw [e1]
  try rw [e2]
  try rw [e3]
  try rw [e4]
  try rw [e5]
  refine sg_aload_n (pc := 1546) (j := 0) dL_law_1546 rfl rfl ?_
  refine sg_iload (pc := 1547) dL_law_1547 rfl ?_
  refine sg_iconst (pc := 1549) (z := 2) dL_law_1549 (by decide) ?_
  first | refine sg_iaddB (pc := 1550) dL_law_1550 (by omega) (by omega) ?_ | refine sg_iadd (pc := 1550) dL_law_1550 ?_
  refine sg_iald (pc := 1551) dL_law_1551 I1.2.2.2.2.2.2.2.2.2 rfl (by omega) (jk_x (by omega) (by omega)) ?_
  try rw [e1]
  try rw [e2]
  try rw [e3]
  try rw [e4]
  try rw [e5]
  refine sg_aload_n (pc := 1552) (j := 0) dL_law_1552 rfl rfl ?_
  refine sg_iload (pc := 1553) dL_law_1553 rfl ?_
  refine sg_iconst (pc := 1555) (z := 3) dL_law_1555 (by decide) ?_
  first | refine sg_iaddB (pc := 1556) dL_law_1556 (by omega) (by omega) ?_ | refine sg_iadd (pc := 1556) dL_law_1556 ?_
  refine sg_iald (pc := 1557) dL_law_1557 I1.2.2.2.2.2.2.2.2.2 rfl (by omega) (jk_x (by omega) (by omega)) ?_
  try rw [e1]
  try rw [e2]
  try rw [e3]
  try rw [e4]
  try rw [e5]
  refine st_as (fun H r => jk_tgR (B := B) r) ?_
  have m2 := jk_Im I1
  have ab0 := jk_Jt jJ I1 X1
  refine sg_cE3 (pc := 1558) (d' := d - 1) (mc' := 0) (ms' := 0) 8 g dL_law_1558 cb_X7_first ml_L_299 mn_X7_first rfl mv_X7_first (Nat.le_of_ble_eq_true rfl) (md_oc m2) (Nat.le_of_ble_eq_true rfl) (by first | exact jl_d0 hd rfl | omega) (by first | exact Nat.le_of_ble_eq_true rfl | omega) (by first | exact Nat.le_of_ble_eq_true rfl | omega) ?_
  refine s_X7_first g (by first | exact jl_d1 hd rfl | omega) m2 (fun v2 h2  y2 => sg_K1 ?_)
  refine st_as (fun H r => jk_unR I1.1 r) ?_
  have J2 : jk_J w B M O S xs (jk_unt B h2) A := jk_JM I1 (md_YW y2) (cf_XF jJ.2.1 F1) (y2.2.2.trans ab0) jJ.2.2.2
  have y2 := md_YW y2
  have I2 := J2.1
  refine sg_istore (pc := 1561) dL_law_1561 (by decide) ?_
  refine sg_goto (pc := 1563) (tgt := 2465) dL_law_1563 (by decide) ?_
  refine sg_lsub (lv' := [(0, _), (1, _), (2, _), (3, _), (4, _)]) ⟨rfl, rfl, rfl, rfl, rfl, trivial⟩ ?_
  exact K _ _ _ _ J2 (by omega) (by omega)

set_option maxRecDepth 100000 in
set_option maxHeartbeats 1000000 in
theorem lw_c33 {w : sg_W} {Q : sg_O → sg_H → Prop} {h : sg_H} (g : sg_G w) (nc : jk_C w) (hJ : jz w) {d mc ms : Nat} (hd : 30 ≤ d) {B M O S j k n : Nat} {xs : List Int} {A : fa_A} (jJ : jk_J w B M O S xs h A) (hj : 6 * j + 6 ≤ xs.length) (hl : xs.length ≤ 3072) (hk : k + 1030 ≤ mc) (hn : n + (48 + 0) ≤ ms) (K : ∀ (h' : sg_H) (k' n' : Nat) (A' : fa_A), jk_J w B M O S xs h' A' → k' ≤ k + 1030 → n' ≤ n + (48 + 0) → sg_R w mi_L_law d mc ms Q 2465 [(0, sg_r S), (1, sg_r B), (2, sg_r M), (3, sg_r O), (4, sg_i (6 * (j : Int)))] [] h' k' n') : sg_R w mi_L_law d mc ms Q 1566 [(0, sg_r S), (1, sg_r B), (2, sg_r M), (3, sg_r O), (4, sg_i (6 * (j : Int)))] [] h k n := by
  obtain ⟨p1, e1⟩ : ∃ p, xs.getD (6 * (j : Int) + 1).toNat 0 = p := ⟨_, rfl⟩
  obtain ⟨p2, e2⟩ : ∃ p, xs.getD (6 * (j : Int) + 2).toNat 0 = p := ⟨_, rfl⟩
  obtain ⟨p3, e3⟩ : ∃ p, xs.getD (6 * (j : Int) + 3).toNat 0 = p := ⟨_, rfl⟩
  obtain ⟨p4, e4⟩ : ∃ p, xs.getD (6 * (j : Int) + 4).toNat 0 = p := ⟨_, rfl⟩
  obtain ⟨p5, e5⟩ : ∃ p, xs.getD (6 * (j : Int) + 5).toNat 0 = p := ⟨_, rfl⟩
  refine sg_aload_n (pc := 1566) (j := 1) dL_law_1566 rfl rfl ?_
  refine sg_aload_n (pc := 1567) (j := 0) dL_law_1567 rfl rfl ?_
  refine sg_iload (pc := 1568) dL_law_1568 rfl ?_
  refine sg_iconst (pc := 1570) (z := 1) dL_law_1570 (by decide) ?_
  first | refine sg_iaddB (pc := 1571) dL_law_1571 (by omega) (by omega) ?_ | refine sg_iadd (pc := 1571) dL_law_1571 ?_
  refine sg_iald (pc := 1572) dL_law_1572 jJ.1.2.2.2.2.2.2.2.2.2 rfl (by omega) (jk_x (by omega) (by omega)) ?_
  try rw [e1]
  try rw [e2]
  try rw [e3]
  try rw [e4]
  try rw [e5]
  refine sg_aload_n (pc := 1573) (j := 0) dL_law_1573 rfl rfl ?_
  refine sg_iload (pc := 1574) dL_law_1574 rfl ?_
  refine sg_iconst (pc := 1576) (z := 2) dL_law_1576 (by decide) ?_
  first | refine sg_iaddB (pc := 1577) dL_law_1577 (by omega) (by omega) ?_ | refine sg_iadd (pc := 1577) dL_law_1577 ?_
  refine sg_iald (pc := 1578) dL_law_1578 jJ.1.2.2.2.2.2.2.2.2.2 rfl (by omega) (jk_x (by omega) (by omega)) ?_
  try rw [e1]
  try rw [e2]
  try rw [e3]
  try rw [e4]
  try rw [e5]
  refine sg_aload_n (pc := 1579) (j := 3) dL_law_1579 rfl rfl ?_
  obtain ⟨L, hL⟩ : ∃ X, fa_L A p1.toNat = X := ⟨_, rfl⟩
  refine st_cS4 (pc := 1580) (d' := d - 1) (mc' := 8) (ms' := 48) g dL_law_1580 cb_L_last cw_L_last ml_L_300 ms_L_last (Nat.le_of_ble_eq_true rfl) (by first | exact jl_d0 hd rfl | omega) (by first | exact Nat.le_of_ble_eq_true rfl | omega) (by first | exact Nat.le_of_ble_eq_true rfl | omega) ?_
  refine f_L_last g nc (by omega) jJ.1 jJ.2.1 jJ.2.2.2 hL (fun v1 h1 I1 X1 k0 k1 k2 F1 r1 => sg_K1 ?_)
  refine sg_istore (pc := 1583) dL_law_1583 (by decide) ?_
  refine sg_aload_n (pc := 1585) (j := 2) dL_law_1585 rfl rfl ?_
  refine sg_aload_n (pc := 1586) (j := 0) dL_law_1586 rfl rfl ?_
  refine sg_iload (pc := 1587) dL_law_1587 rfl ?_
  refine sg_iconst (pc := 1589) (z := 1) dL_law_1589 (by decide) ?_
  first | refine sg_iaddB (pc := 1590) dL_law_1590 (by omega) (by omega) ?_ | refine sg_iadd (pc := 1590) dL_law_1590 ?_
  refine sg_iald (pc := 1591) dL_law_1591 I1.2.2.2.2.2.2.2.2.2 rfl (by omega) (jk_x (by omega) (by omega)) ?_
  try rw [e1]
  try rw [e2]
  try rw [e3]
  try rw [e4]
  try rw [e5]
  refine sg_aload_n (pc := 1592) (j := 0) dL_law_1592 rfl rfl ?_
  refine sg_iload (pc := 1593) dL_law_1593 rfl ?_
  refine sg_iconst (pc := 1595) (z := 2) dL_law_1595 (by decide) ?_
  first | refine sg_iaddB (pc := 1596) dL_law_1596 (by omega) (by omega) ?_ | refine sg_iadd (pc := 1596) dL_law_1596 ?_
  refine sg_iald (pc := 1597) dL_law_1597 I1.2.2.2.2.2.2.2.2.2 rfl (by omega) (jk_x (by omega) (by omega)) ?_
  try rw [e1]
  try rw [e2]
  try rw [e3]
  try rw [e4]
  try rw [e5]
  refine st_as (fun H r => jk_tgR (B := B) r) ?_
  have m2 := jk_Im I1
  have ab0 := jk_Jt jJ I1 X1
  refine sg_cE2 (pc := 1598) (d' := d - 1) (mc' := 0) (ms' := 0) 8 g dL_law_1598 cb_X7_last ml_L_302 mn_X7_last rfl mv_X7_last (Nat.le_of_ble_eq_true rfl) (md_oc m2) (Nat.le_of_ble_eq_true rfl) (by first | exact jl_d0 hd rfl | omega) (by first | exact Nat.le_of_ble_eq_true rfl | omega) (by first | exact Nat.le_of_ble_eq_true rfl | omega) ?_
  refine s_X7_last g (by first | exact jl_d1 hd rfl | omega) m2 (fun v2 h2  y2 => sg_K1 ?_)
  refine st_as (fun H r => jk_unR I1.1 r) ?_
  have J2 : jk_J w B M O S xs (jk_unt B h2) A := jk_JM I1 (md_YW y2) (cf_XF jJ.2.1 F1) (y2.2.2.trans ab0) jJ.2.2.2
  have y2 := md_YW y2
  have I2 := J2.1
  refine sg_istore (pc := 1601) dL_law_1601 (by decide) ?_
  refine sg_goto (pc := 1603) (tgt := 2465) dL_law_1603 (by decide) ?_
  refine sg_lsub (lv' := [(0, _), (1, _), (2, _), (3, _), (4, _)]) ⟨rfl, rfl, rfl, rfl, rfl, trivial⟩ ?_
  exact K _ _ _ _ J2 (by omega) (by omega)

set_option maxRecDepth 100000 in
set_option maxHeartbeats 1000000 in
theorem lw_c34 {w : sg_W} {Q : sg_O → sg_H → Prop} {h : sg_H} (g : sg_G w) (nc : jk_C w) (hJ : jz w) {d mc ms : Nat} (hd : 30 ≤ d) {B M O S j k n : Nat} {xs : List Int} {A : fa_A} (jJ : jk_J w B M O S xs h A) (hj : 6 * j + 6 ≤ xs.length) (hl : xs.length ≤ 3072) (hk : k + 1030 ≤ mc) (hn : n + (168 + 3061) ≤ ms) (K : ∀ (h' : sg_H) (k' n' : Nat) (A' : fa_A), jk_J w B M O S xs h' A' → k' ≤ k + 1030 → n' ≤ n + (168 + 3061) → sg_R w mi_L_law d mc ms Q 2465 [(0, sg_r S), (1, sg_r B), (2, sg_r M), (3, sg_r O), (4, sg_i (6 * (j : Int)))] [] h' k' n') : sg_R w mi_L_law d mc ms Q 1606 [(0, sg_r S), (1, sg_r B), (2, sg_r M), (3, sg_r O), (4, sg_i (6 * (j : Int)))] [] h k n := by
  obtain ⟨p1, e1⟩ : ∃ p, xs.getD (6 * (j : Int) + 1).toNat 0 = p := ⟨_, rfl⟩
  obtain ⟨p2, e2⟩ : ∃ p, xs.getD (6 * (j : Int) + 2).toNat 0 = p := ⟨_, rfl⟩
  obtain ⟨p3, e3⟩ : ∃ p, xs.getD (6 * (j : Int) + 3).toNat 0 = p := ⟨_, rfl⟩
  obtain ⟨p4, e4⟩ : ∃ p, xs.getD (6 * (j : Int) + 4).toNat 0 = p := ⟨_, rfl⟩
  obtain ⟨p5, e5⟩ : ∃ p, xs.getD (6 * (j : Int) + 5).toNat 0 = p := ⟨_, rfl⟩
  refine sg_aload_n (pc := 1606) (j := 1) dL_law_1606 rfl rfl ?_
  refine sg_aload_n (pc := 1607) (j := 0) dL_law_1607 rfl rfl ?_
  refine sg_iload (pc := 1608) dL_law_1608 rfl ?_
  refine sg_iconst (pc := 1610) (z := 1) dL_law_1610 (by decide) ?_
  first | refine sg_iaddB (pc := 1611) dL_law_1611 (by omega) (by omega) ?_ | refine sg_iadd (pc := 1611) dL_law_1611 ?_
  refine sg_iald (pc := 1612) dL_law_1612 jJ.1.2.2.2.2.2.2.2.2.2 rfl (by omega) (jk_x (by omega) (by omega)) ?_
  try rw [e1]
  try rw [e2]
  try rw [e3]
  try rw [e4]
  try rw [e5]
  refine sg_aload_n (pc := 1613) (j := 3) dL_law_1613 rfl rfl ?_
  refine st_cS3 (pc := 1614) (d' := d - 1) (mc' := 6) (ms' := 168) g dL_law_1614 cb_L_forms cw_L_forms ml_L_303 ms_L_forms (Nat.le_of_ble_eq_true rfl) (by first | exact jl_d0 hd rfl | omega) (by first | exact Nat.le_of_ble_eq_true rfl | omega) (by first | exact Nat.le_of_ble_eq_true rfl | omega) ?_
  refine s_L_forms g nc hJ (by omega) jJ.1 (fun v1 h1 I1 X1 F1 => sg_K1 ?_)
  refine sg_istore (pc := 1617) dL_law_1617 (by decide) ?_
  refine sg_aload_n (pc := 1619) (j := 2) dL_law_1619 rfl rfl ?_
  refine sg_aload_n (pc := 1620) (j := 0) dL_law_1620 rfl rfl ?_
  refine sg_iload (pc := 1621) dL_law_1621 rfl ?_
  refine sg_iconst (pc := 1623) (z := 1) dL_law_1623 (by decide) ?_
  first | refine sg_iaddB (pc := 1624) dL_law_1624 (by omega) (by omega) ?_ | refine sg_iadd (pc := 1624) dL_law_1624 ?_
  refine sg_iald (pc := 1625) dL_law_1625 I1.2.2.2.2.2.2.2.2.2 rfl (by omega) (jk_x (by omega) (by omega)) ?_
  try rw [e1]
  try rw [e2]
  try rw [e3]
  try rw [e4]
  try rw [e5]
  refine st_as (fun H r => jk_tgR (B := B) r) ?_
  have m2 := jk_Im I1
  have ab0 := jk_Jt jJ I1 X1
  refine sg_cE1 (pc := 1626) (d' := d - 1) (mc' := 240) (ms' := 3061) 8 g dL_law_1626 cb_X7_forms ml_L_305 mn_X7_forms rfl mv_X7_forms (Nat.le_of_ble_eq_true rfl) (md_oc m2) (Nat.le_of_ble_eq_true rfl) (by first | exact jl_d0 hd rfl | omega) (by first | exact Nat.le_of_ble_eq_true rfl | omega) (by first | exact Nat.le_of_ble_eq_true rfl | omega) ?_
  have q40 := jf40
  rw [← jf40]
  refine s_X7_forms g (by first | exact jl_d1 hd rfl | omega) m2 (fun v2 h2  y2 => sg_K1 ?_)
  refine st_as (fun H r => jk_unR I1.1 r) ?_
  have J2 : jk_J w B M O S xs (jk_unt B h2) A := jk_JM I1 (md_YW y2) (cf_XF jJ.2.1 F1) (y2.2.2.trans ab0) jJ.2.2.2
  have y2 := md_YW y2
  have I2 := J2.1
  refine sg_astore (pc := 1629) dL_law_1629 (by decide) ?_
  refine sg_goto (pc := 1631) (tgt := 2465) dL_law_1631 (by decide) ?_
  refine sg_lsub (lv' := [(0, _), (1, _), (2, _), (3, _), (4, _)]) ⟨rfl, rfl, rfl, rfl, rfl, trivial⟩ ?_
  exact K _ _ _ _ J2 (by omega) (by omega)

set_option maxRecDepth 100000 in
set_option maxHeartbeats 1000000 in
theorem lw_c35 {w : sg_W} {Q : sg_O → sg_H → Prop} {h : sg_H} (g : sg_G w) (nc : jk_C w) (hJ : jz w) {d mc ms : Nat} (hd : 30 ≤ d) {B M O S j k n : Nat} {xs : List Int} {A : fa_A} (jJ : jk_J w B M O S xs h A) (hj : 6 * j + 6 ≤ xs.length) (hl : xs.length ≤ 3072) {K0 : Nat} (hK : ∀ row : Int, (0 ≤ row ∧ row < 4) → md_n (jk_cut B h) (md_a (jk_cut B h) (md_r (jk_cut B h) M) row) ≤ K0) (hK2 : K0 ≤ 40) (hk : k + 1030 ≤ mc) (hn : n + (350 + (2 * K0 + jf (2 * K0))) ≤ ms) (K : ∀ (h' : sg_H) (k' n' : Nat) (A' : fa_A), jk_J w B M O S xs h' A' → k' ≤ k + 1030 → n' ≤ n + (350 + (2 * K0 + jf (2 * K0))) → sg_R w mi_L_law d mc ms Q 2465 [(0, sg_r S), (1, sg_r B), (2, sg_r M), (3, sg_r O), (4, sg_i (6 * (j : Int)))] [] h' k' n') : sg_R w mi_L_law d mc ms Q 1634 [(0, sg_r S), (1, sg_r B), (2, sg_r M), (3, sg_r O), (4, sg_i (6 * (j : Int)))] [] h k n := by
  obtain ⟨p1, e1⟩ : ∃ p, xs.getD (6 * (j : Int) + 1).toNat 0 = p := ⟨_, rfl⟩
  obtain ⟨p2, e2⟩ : ∃ p, xs.getD (6 * (j : Int) + 2).toNat 0 = p := ⟨_, rfl⟩
  obtain ⟨p3, e3⟩ : ∃ p, xs.getD (6 * (j : Int) + 3).toNat 0 = p := ⟨_, rfl⟩
  obtain ⟨p4, e4⟩ : ∃ p, xs.getD (6 * (j : Int) + 4).toNat 0 = p := ⟨_, rfl⟩
  obtain ⟨p5, e5⟩ : ∃ p, xs.getD (6 * (j : Int) + 5).toNat 0 = p := ⟨_, rfl⟩
  refine sg_aload_n (pc := 1634) (j := 1) dL_law_1634 rfl rfl ?_
  refine sg_aload_n (pc := 1635) (j := 0) dL_law_1635 rfl rfl ?_
  refine sg_iload (pc := 1636) dL_law_1636 rfl ?_
  refine sg_iconst (pc := 1638) (z := 1) dL_law_1638 (by decide) ?_
  first | refine sg_iaddB (pc := 1639) dL_law_1639 (by omega) (by omega) ?_ | refine sg_iadd (pc := 1639) dL_law_1639 ?_
  refine sg_iald (pc := 1640) dL_law_1640 jJ.1.2.2.2.2.2.2.2.2.2 rfl (by omega) (jk_x (by omega) (by omega)) ?_
  try rw [e1]
  try rw [e2]
  try rw [e3]
  try rw [e4]
  try rw [e5]
  refine sg_aload_n (pc := 1641) (j := 3) dL_law_1641 rfl rfl ?_
  refine st_cS3 (pc := 1642) (d' := d - 1) (mc' := 7) (ms' := 350) g dL_law_1642 cb_L_spelled cw_L_spelled ml_L_306 ms_L_spelled (Nat.le_of_ble_eq_true rfl) (by first | exact jl_d0 hd rfl | omega) (by first | exact Nat.le_of_ble_eq_true rfl | omega) (by first | exact Nat.le_of_ble_eq_true rfl | omega) ?_
  refine s_L_spelled g nc hJ (by omega) jJ.1 (fun v1 h1 I1 X1 F1 => sg_K1 ?_)
  refine sg_istore (pc := 1645) dL_law_1645 (by decide) ?_
  refine sg_aload_n (pc := 1647) (j := 2) dL_law_1647 rfl rfl ?_
  refine sg_aload_n (pc := 1648) (j := 0) dL_law_1648 rfl rfl ?_
  refine sg_iload (pc := 1649) dL_law_1649 rfl ?_
  refine sg_iconst (pc := 1651) (z := 1) dL_law_1651 (by decide) ?_
  first | refine sg_iaddB (pc := 1652) dL_law_1652 (by omega) (by omega) ?_ | refine sg_iadd (pc := 1652) dL_law_1652 ?_
  refine sg_iald (pc := 1653) dL_law_1653 I1.2.2.2.2.2.2.2.2.2 rfl (by omega) (jk_x (by omega) (by omega)) ?_
  try rw [e1]
  try rw [e2]
  try rw [e3]
  try rw [e4]
  try rw [e5]
  refine st_as (fun H r => jk_tgR (B := B) r) ?_
  have m2 := jk_Im I1
  have ab0 := jk_Jt jJ I1 X1
  refine sg_cE1 (pc := 1654) (d' := d - 1) (mc' := (1 + 12 * K0)) (ms' := (2 * K0 + jf (2 * K0))) 8 g dL_law_1654 cb_X7_spelled ml_L_308 mn_X7_spelled rfl mv_X7_spelled (Nat.le_of_ble_eq_true rfl) (md_oc m2) (Nat.le_of_ble_eq_true rfl) (by first | exact jl_d0 hd rfl | omega) (by first | exact Nat.le_of_ble_eq_true rfl | omega) (by first | exact Nat.le_of_ble_eq_true rfl | omega) ?_
  have hK1 : ∀ row : Int, (0 ≤ row ∧ row < 4) → md_n (jk_tag B h1) (md_a (jk_tag B h1) (md_r (jk_tag B h1) M) row) ≤ K0 := fun row hr => by
    rw [md_SX I1.2.2.2.1 jk_cutX hr.1 (by omega), md_SX jJ.1.2.2.2.1 X1 hr.1 (by omega)]
    exact hK row hr
  refine s_X7_spelled g (by first | exact jl_d1 hd rfl | omega) (hK1 _) hK2 m2 (fun v2 h2  y2 => sg_K1 ?_)
  refine st_as (fun H r => jk_unR I1.1 r) ?_
  have J2 : jk_J w B M O S xs (jk_unt B h2) A := jk_JM I1 (md_YW y2) (cf_XF jJ.2.1 F1) (y2.2.2.trans ab0) jJ.2.2.2
  have y2 := md_YW y2
  have I2 := J2.1
  refine sg_astore (pc := 1657) dL_law_1657 (by decide) ?_
  refine sg_goto (pc := 1659) (tgt := 2465) dL_law_1659 (by decide) ?_
  refine sg_lsub (lv' := [(0, _), (1, _), (2, _), (3, _), (4, _)]) ⟨rfl, rfl, rfl, rfl, rfl, trivial⟩ ?_
  exact K _ _ _ _ J2 (by omega) (by omega)

set_option maxRecDepth 100000 in
set_option maxHeartbeats 1000000 in
theorem lw_c36 {w : sg_W} {Q : sg_O → sg_H → Prop} {h : sg_H} (g : sg_G w) (nc : jk_C w) (hJ : jz w) {d mc ms : Nat} (hd : 30 ≤ d) {B M O S j k n : Nat} {xs : List Int} {A : fa_A} (jJ : jk_J w B M O S xs h A) (hj : 6 * j + 6 ≤ xs.length) (hl : xs.length ≤ 3072) (hk : k + 1030 ≤ mc) (hn : n + (48 + 0) ≤ ms) (K : ∀ (h' : sg_H) (k' n' : Nat) (A' : fa_A), jk_J w B M O S xs h' A' → k' ≤ k + 1030 → n' ≤ n + (48 + 0) → sg_R w mi_L_law d mc ms Q 2465 [(0, sg_r S), (1, sg_r B), (2, sg_r M), (3, sg_r O), (4, sg_i (6 * (j : Int)))] [] h' k' n') : sg_R w mi_L_law d mc ms Q 1662 [(0, sg_r S), (1, sg_r B), (2, sg_r M), (3, sg_r O), (4, sg_i (6 * (j : Int)))] [] h k n := by
  obtain ⟨p1, e1⟩ : ∃ p, xs.getD (6 * (j : Int) + 1).toNat 0 = p := ⟨_, rfl⟩
  obtain ⟨p2, e2⟩ : ∃ p, xs.getD (6 * (j : Int) + 2).toNat 0 = p := ⟨_, rfl⟩
  obtain ⟨p3, e3⟩ : ∃ p, xs.getD (6 * (j : Int) + 3).toNat 0 = p := ⟨_, rfl⟩
  obtain ⟨p4, e4⟩ : ∃ p, xs.getD (6 * (j : Int) + 4).toNat 0 = p := ⟨_, rfl⟩
  obtain ⟨p5, e5⟩ : ∃ p, xs.getD (6 * (j : Int) + 5).toNat 0 = p := ⟨_, rfl⟩
  refine sg_aload_n (pc := 1662) (j := 1) dL_law_1662 rfl rfl ?_
  refine sg_aload_n (pc := 1663) (j := 0) dL_law_1663 rfl rfl ?_
  refine sg_iload (pc := 1664) dL_law_1664 rfl ?_
  refine sg_iconst (pc := 1666) (z := 1) dL_law_1666 (by decide) ?_
  first | refine sg_iaddB (pc := 1667) dL_law_1667 (by omega) (by omega) ?_ | refine sg_iadd (pc := 1667) dL_law_1667 ?_
  refine sg_iald (pc := 1668) dL_law_1668 jJ.1.2.2.2.2.2.2.2.2.2 rfl (by omega) (jk_x (by omega) (by omega)) ?_
  try rw [e1]
  try rw [e2]
  try rw [e3]
  try rw [e4]
  try rw [e5]
  refine sg_aload_n (pc := 1669) (j := 0) dL_law_1669 rfl rfl ?_
  refine sg_iload (pc := 1670) dL_law_1670 rfl ?_
  refine sg_iconst (pc := 1672) (z := 2) dL_law_1672 (by decide) ?_
  first | refine sg_iaddB (pc := 1673) dL_law_1673 (by omega) (by omega) ?_ | refine sg_iadd (pc := 1673) dL_law_1673 ?_
  refine sg_iald (pc := 1674) dL_law_1674 jJ.1.2.2.2.2.2.2.2.2.2 rfl (by omega) (jk_x (by omega) (by omega)) ?_
  try rw [e1]
  try rw [e2]
  try rw [e3]
  try rw [e4]
  try rw [e5]
  refine sg_aload_n (pc := 1675) (j := 3) dL_law_1675 rfl rfl ?_
  obtain ⟨L, hL⟩ : ∃ X, fa_L A p1.toNat = X := ⟨_, rfl⟩
  refine st_cS4 (pc := 1676) (d' := d - 1) (mc' := 8) (ms' := 48) g dL_law_1676 cb_L_told cw_L_told ml_L_309 ms_L_told (Nat.le_of_ble_eq_true rfl) (by first | exact jl_d0 hd rfl | omega) (by first | exact Nat.le_of_ble_eq_true rfl | omega) (by first | exact Nat.le_of_ble_eq_true rfl | omega) ?_
  refine f_L_told g nc (by omega) jJ.1 jJ.2.1 jJ.2.2.2 hL (fun v1 h1 I1 X1 k0 k1 k2 F1 r1 => sg_K1 ?_)
  refine sg_istore (pc := 1679) dL_law_1679 (by decide) ?_
  refine sg_aload_n (pc := 1681) (j := 2) dL_law_1681 rfl rfl ?_
  refine sg_aload_n (pc := 1682) (j := 0) dL_law_1682 rfl rfl ?_
  refine sg_iload (pc := 1683) dL_law_1683 rfl ?_
  refine sg_iconst (pc := 1685) (z := 1) dL_law_1685 (by decide) ?_
  first | refine sg_iaddB (pc := 1686) dL_law_1686 (by omega) (by omega) ?_ | refine sg_iadd (pc := 1686) dL_law_1686 ?_
  refine sg_iald (pc := 1687) dL_law_1687 I1.2.2.2.2.2.2.2.2.2 rfl (by omega) (jk_x (by omega) (by omega)) ?_
  try rw [e1]
  try rw [e2]
  try rw [e3]
  try rw [e4]
  try rw [e5]
  refine sg_aload_n (pc := 1688) (j := 0) dL_law_1688 rfl rfl ?_
  refine sg_iload (pc := 1689) dL_law_1689 rfl ?_
  refine sg_iconst (pc := 1691) (z := 2) dL_law_1691 (by decide) ?_
  first | refine sg_iaddB (pc := 1692) dL_law_1692 (by omega) (by omega) ?_ | refine sg_iadd (pc := 1692) dL_law_1692 ?_
  refine sg_iald (pc := 1693) dL_law_1693 I1.2.2.2.2.2.2.2.2.2 rfl (by omega) (jk_x (by omega) (by omega)) ?_
  try rw [e1]
  try rw [e2]
  try rw [e3]
  try rw [e4]
  try rw [e5]
  refine st_as (fun H r => jk_tgR (B := B) r) ?_
  have m2 := jk_Im I1
  have ab0 := jk_Jt jJ I1 X1
  refine sg_cE2 (pc := 1694) (d' := d - 1) (mc' := 0) (ms' := 0) 8 g dL_law_1694 cb_X7_told ml_L_311 mn_X7_told rfl mv_X7_told (Nat.le_of_ble_eq_true rfl) (md_oc m2) (Nat.le_of_ble_eq_true rfl) (by first | exact jl_d0 hd rfl | omega) (by first | exact Nat.le_of_ble_eq_true rfl | omega) (by first | exact Nat.le_of_ble_eq_true rfl | omega) ?_
  refine s_X7_told g (by first | exact jl_d1 hd rfl | omega) m2 (fun v2 h2  y2 => sg_K1 ?_)
  refine st_as (fun H r => jk_unR I1.1 r) ?_
  have J2 : jk_J w B M O S xs (jk_unt B h2) A := jk_JM I1 (md_YW y2) (cf_XF jJ.2.1 F1) (y2.2.2.trans ab0) jJ.2.2.2
  have y2 := md_YW y2
  have I2 := J2.1
  refine sg_istore (pc := 1697) dL_law_1697 (by decide) ?_
  refine sg_goto (pc := 1699) (tgt := 2465) dL_law_1699 (by decide) ?_
  refine sg_lsub (lv' := [(0, _), (1, _), (2, _), (3, _), (4, _)]) ⟨rfl, rfl, rfl, rfl, rfl, trivial⟩ ?_
  exact K _ _ _ _ J2 (by omega) (by omega)

set_option maxRecDepth 100000 in
set_option maxHeartbeats 1000000 in
theorem lw_c37 {w : sg_W} {Q : sg_O → sg_H → Prop} {h : sg_H} (g : sg_G w) (nc : jk_C w) (hJ : jz w) {d mc ms : Nat} (hd : 30 ≤ d) {B M O S j k n : Nat} {xs : List Int} {A : fa_A} (jJ : jk_J w B M O S xs h A) (hj : 6 * j + 6 ≤ xs.length) (hl : xs.length ≤ 3072) (hk : k + 1030 ≤ mc) (hn : n + (48 + 0) ≤ ms) (K : ∀ (h' : sg_H) (k' n' : Nat) (A' : fa_A), jk_J w B M O S xs h' A' → k' ≤ k + 1030 → n' ≤ n + (48 + 0) → sg_R w mi_L_law d mc ms Q 2465 [(0, sg_r S), (1, sg_r B), (2, sg_r M), (3, sg_r O), (4, sg_i (6 * (j : Int)))] [] h' k' n') : sg_R w mi_L_law d mc ms Q 1702 [(0, sg_r S), (1, sg_r B), (2, sg_r M), (3, sg_r O), (4, sg_i (6 * (j : Int)))] [] h k n := by
  obtain ⟨p1, e1⟩ : ∃ p, xs.getD (6 * (j : Int) + 1).toNat 0 = p := ⟨_, rfl⟩
  obtain ⟨p2, e2⟩ : ∃ p, xs.getD (6 * (j : Int) + 2).toNat 0 = p := ⟨_, rfl⟩
  obtain ⟨p3, e3⟩ : ∃ p, xs.getD (6 * (j : Int) + 3).toNat 0 = p := ⟨_, rfl⟩
  obtain ⟨p4, e4⟩ : ∃ p, xs.getD (6 * (j : Int) + 4).toNat 0 = p := ⟨_, rfl⟩
  obtain ⟨p5, e5⟩ : ∃ p, xs.getD (6 * (j : Int) + 5).toNat 0 = p := ⟨_, rfl⟩
  refine sg_aload_n (pc := 1702) (j := 1) dL_law_1702 rfl rfl ?_
  refine sg_aload_n (pc := 1703) (j := 0) dL_law_1703 rfl rfl ?_
  refine sg_iload (pc := 1704) dL_law_1704 rfl ?_
  refine sg_iconst (pc := 1706) (z := 1) dL_law_1706 (by decide) ?_
  first | refine sg_iaddB (pc := 1707) dL_law_1707 (by omega) (by omega) ?_ | refine sg_iadd (pc := 1707) dL_law_1707 ?_
  refine sg_iald (pc := 1708) dL_law_1708 jJ.1.2.2.2.2.2.2.2.2.2 rfl (by omega) (jk_x (by omega) (by omega)) ?_
  try rw [e1]
  try rw [e2]
  try rw [e3]
  try rw [e4]
  try rw [e5]
  refine sg_aload_n (pc := 1709) (j := 0) dL_law_1709 rfl rfl ?_
  refine sg_iload (pc := 1710) dL_law_1710 rfl ?_
  refine sg_iconst (pc := 1712) (z := 2) dL_law_1712 (by decide) ?_
  first | refine sg_iaddB (pc := 1713) dL_law_1713 (by omega) (by omega) ?_ | refine sg_iadd (pc := 1713) dL_law_1713 ?_
  refine sg_iald (pc := 1714) dL_law_1714 jJ.1.2.2.2.2.2.2.2.2.2 rfl (by omega) (jk_x (by omega) (by omega)) ?_
  try rw [e1]
  try rw [e2]
  try rw [e3]
  try rw [e4]
  try rw [e5]
  refine sg_aload_n (pc := 1715) (j := 3) dL_law_1715 rfl rfl ?_
  obtain ⟨L, hL⟩ : ∃ X, fa_L A p1.toNat = X := ⟨_, rfl⟩
  refine st_cS4 (pc := 1716) (d' := d - 1) (mc' := 8) (ms' := 48) g dL_law_1716 cb_L_sum cw_L_sum ml_L_312 ms_L_sum (Nat.le_of_ble_eq_true rfl) (by first | exact jl_d0 hd rfl | omega) (by first | exact Nat.le_of_ble_eq_true rfl | omega) (by first | exact Nat.le_of_ble_eq_true rfl | omega) ?_
  refine f_L_sum g nc (by omega) jJ.1 jJ.2.1 jJ.2.2.2 hL (fun v1 h1 I1 X1 k0 k1 F1 r1 => sg_K1 ?_)
  refine sg_istore (pc := 1719) dL_law_1719 (by decide) ?_
  refine sg_aload_n (pc := 1721) (j := 2) dL_law_1721 rfl rfl ?_
  refine sg_aload_n (pc := 1722) (j := 0) dL_law_1722 rfl rfl ?_
  refine sg_iload (pc := 1723) dL_law_1723 rfl ?_
  refine sg_iconst (pc := 1725) (z := 1) dL_law_1725 (by decide) ?_
  first | refine sg_iaddB (pc := 1726) dL_law_1726 (by omega) (by omega) ?_ | refine sg_iadd (pc := 1726) dL_law_1726 ?_
  refine sg_iald (pc := 1727) dL_law_1727 I1.2.2.2.2.2.2.2.2.2 rfl (by omega) (jk_x (by omega) (by omega)) ?_
  try rw [e1]
  try rw [e2]
  try rw [e3]
  try rw [e4]
  try rw [e5]
  refine sg_aload_n (pc := 1728) (j := 0) dL_law_1728 rfl rfl ?_
  refine sg_iload (pc := 1729) dL_law_1729 rfl ?_
  refine sg_iconst (pc := 1731) (z := 2) dL_law_1731 (by decide) ?_
  first | refine sg_iaddB (pc := 1732) dL_law_1732 (by omega) (by omega) ?_ | refine sg_iadd (pc := 1732) dL_law_1732 ?_
  refine sg_iald (pc := 1733) dL_law_1733 I1.2.2.2.2.2.2.2.2.2 rfl (by omega) (jk_x (by omega) (by omega)) ?_
  try rw [e1]
  try rw [e2]
  try rw [e3]
  try rw [e4]
  try rw [e5]
  refine st_as (fun H r => jk_tgR (B := B) r) ?_
  have m2 := jk_Im I1
  have ab0 := jk_Jt jJ I1 X1
  refine sg_cE2 (pc := 1734) (d' := d - 1) (mc' := 0) (ms' := 0) 8 g dL_law_1734 cb_X7_sum ml_L_314 mn_X7_sum rfl mv_X7_sum (Nat.le_of_ble_eq_true rfl) (md_oc m2) (Nat.le_of_ble_eq_true rfl) (by first | exact jl_d0 hd rfl | omega) (by first | exact Nat.le_of_ble_eq_true rfl | omega) (by first | exact Nat.le_of_ble_eq_true rfl | omega) ?_
  refine s_X7_sum g (by first | exact jl_d1 hd rfl | omega) m2 (fun v2 h2  y2 => sg_K1 ?_)
  refine st_as (fun H r => jk_unR I1.1 r) ?_
  have J2 : jk_J w B M O S xs (jk_unt B h2) A := jk_JM I1 (md_YW y2) (cf_XF jJ.2.1 F1) (y2.2.2.trans ab0) jJ.2.2.2
  have y2 := md_YW y2
  have I2 := J2.1
  refine sg_istore (pc := 1737) dL_law_1737 (by decide) ?_
  refine sg_goto (pc := 1739) (tgt := 2465) dL_law_1739 (by decide) ?_
  refine sg_lsub (lv' := [(0, _), (1, _), (2, _), (3, _), (4, _)]) ⟨rfl, rfl, rfl, rfl, rfl, trivial⟩ ?_
  exact K _ _ _ _ J2 (by omega) (by omega)

set_option maxRecDepth 100000 in
set_option maxHeartbeats 1000000 in
theorem lw_c38 {w : sg_W} {Q : sg_O → sg_H → Prop} {h : sg_H} (g : sg_G w) (nc : jk_C w) (hJ : jz w) {d mc ms : Nat} (hd : 30 ≤ d) {B M O S j k n : Nat} {xs : List Int} {A : fa_A} (jJ : jk_J w B M O S xs h A) (hj : 6 * j + 6 ≤ xs.length) (hl : xs.length ≤ 3072) (hk : k + 1030 ≤ mc) (hn : n + (48 + 0) ≤ ms) (K : ∀ (h' : sg_H) (k' n' : Nat) (A' : fa_A), jk_J w B M O S xs h' A' → k' ≤ k + 1030 → n' ≤ n + (48 + 0) → sg_R w mi_L_law d mc ms Q 2465 [(0, sg_r S), (1, sg_r B), (2, sg_r M), (3, sg_r O), (4, sg_i (6 * (j : Int)))] [] h' k' n') : sg_R w mi_L_law d mc ms Q 1742 [(0, sg_r S), (1, sg_r B), (2, sg_r M), (3, sg_r O), (4, sg_i (6 * (j : Int)))] [] h k n := by
  obtain ⟨p1, e1⟩ : ∃ p, xs.getD (6 * (j : Int) + 1).toNat 0 = p := ⟨_, rfl⟩
  obtain ⟨p2, e2⟩ : ∃ p, xs.getD (6 * (j : Int) + 2).toNat 0 = p := ⟨_, rfl⟩
  obtain ⟨p3, e3⟩ : ∃ p, xs.getD (6 * (j : Int) + 3).toNat 0 = p := ⟨_, rfl⟩
  obtain ⟨p4, e4⟩ : ∃ p, xs.getD (6 * (j : Int) + 4).toNat 0 = p := ⟨_, rfl⟩
  obtain ⟨p5, e5⟩ : ∃ p, xs.getD (6 * (j : Int) + 5).toNat 0 = p := ⟨_, rfl⟩
  refine sg_aload_n (pc := 1742) (j := 1) dL_law_1742 rfl rfl ?_
  refine sg_aload_n (pc := 1743) (j := 0) dL_law_1743 rfl rfl ?_
  refine sg_iload (pc := 1744) dL_law_1744 rfl ?_
  refine sg_iconst (pc := 1746) (z := 1) dL_law_1746 (by decide) ?_
  first | refine sg_iaddB (pc := 1747) dL_law_1747 (by omega) (by omega) ?_ | refine sg_iadd (pc := 1747) dL_law_1747 ?_
  refine sg_iald (pc := 1748) dL_law_1748 jJ.1.2.2.2.2.2.2.2.2.2 rfl (by omega) (jk_x (by omega) (by omega)) ?_
  try rw [e1]
  try rw [e2]
  try rw [e3]
  try rw [e4]
  try rw [e5]
  refine sg_aload_n (pc := 1749) (j := 3) dL_law_1749 rfl rfl ?_
  obtain ⟨L, hL⟩ : ∃ X, fa_L A p1.toNat = X := ⟨_, rfl⟩
  refine st_cS3 (pc := 1750) (d' := d - 1) (mc' := 8) (ms' := 48) g dL_law_1750 cb_L_values cw_L_values ml_L_315 ms_L_values (Nat.le_of_ble_eq_true rfl) (by first | exact jl_d0 hd rfl | omega) (by first | exact Nat.le_of_ble_eq_true rfl | omega) (by first | exact Nat.le_of_ble_eq_true rfl | omega) ?_
  refine f_L_values g nc (by omega) jJ.1 jJ.2.1 jJ.2.2.2 hL (fun v1 h1 I1 X1 k0 k1 F1 r1 => sg_K1 ?_)
  refine sg_istore (pc := 1753) dL_law_1753 (by decide) ?_
  refine sg_aload_n (pc := 1755) (j := 2) dL_law_1755 rfl rfl ?_
  refine sg_aload_n (pc := 1756) (j := 0) dL_law_1756 rfl rfl ?_
  refine sg_iload (pc := 1757) dL_law_1757 rfl ?_
  refine sg_iconst (pc := 1759) (z := 1) dL_law_1759 (by decide) ?_
  first | refine sg_iaddB (pc := 1760) dL_law_1760 (by omega) (by omega) ?_ | refine sg_iadd (pc := 1760) dL_law_1760 ?_
  refine sg_iald (pc := 1761) dL_law_1761 I1.2.2.2.2.2.2.2.2.2 rfl (by omega) (jk_x (by omega) (by omega)) ?_
  try rw [e1]
  try rw [e2]
  try rw [e3]
  try rw [e4]
  try rw [e5]
  refine st_as (fun H r => jk_tgR (B := B) r) ?_
  have m2 := jk_Im I1
  have ab0 := jk_Jt jJ I1 X1
  refine sg_cE1 (pc := 1762) (d' := d - 1) (mc' := 0) (ms' := 0) 8 g dL_law_1762 cb_X7_values ml_L_317 mn_X7_values rfl mv_X7_values (Nat.le_of_ble_eq_true rfl) (md_oc m2) (Nat.le_of_ble_eq_true rfl) (by first | exact jl_d0 hd rfl | omega) (by first | exact Nat.le_of_ble_eq_true rfl | omega) (by first | exact Nat.le_of_ble_eq_true rfl | omega) ?_
  refine s_X7_values g (by first | exact jl_d1 hd rfl | omega) m2 (fun v2 h2  y2 => sg_K1 ?_)
  refine st_as (fun H r => jk_unR I1.1 r) ?_
  have J2 : jk_J w B M O S xs (jk_unt B h2) A := jk_JM I1 (md_YW y2) (cf_XF jJ.2.1 F1) (y2.2.2.trans ab0) jJ.2.2.2
  have y2 := md_YW y2
  have I2 := J2.1
  refine sg_istore (pc := 1765) dL_law_1765 (by decide) ?_
  refine sg_goto (pc := 1767) (tgt := 2465) dL_law_1767 (by decide) ?_
  refine sg_lsub (lv' := [(0, _), (1, _), (2, _), (3, _), (4, _)]) ⟨rfl, rfl, rfl, rfl, rfl, trivial⟩ ?_
  exact K _ _ _ _ J2 (by omega) (by omega)

set_option maxRecDepth 100000 in
set_option maxHeartbeats 1000000 in
theorem lw_c39 {w : sg_W} {Q : sg_O → sg_H → Prop} {h : sg_H} (g : sg_G w) (nc : jk_C w) (hJ : jz w) {d mc ms : Nat} (hd : 30 ≤ d) {B M O S j k n : Nat} {xs : List Int} {A : fa_A} (jJ : jk_J w B M O S xs h A) (hj : 6 * j + 6 ≤ xs.length) (hl : xs.length ≤ 3072) (hk : k + 1030 ≤ mc) (hn : n + (48 + 90) ≤ ms) (K : ∀ (h' : sg_H) (k' n' : Nat) (A' : fa_A), jk_J w B M O S xs h' A' → k' ≤ k + 1030 → n' ≤ n + (48 + 90) → sg_R w mi_L_law d mc ms Q 2465 [(0, sg_r S), (1, sg_r B), (2, sg_r M), (3, sg_r O), (4, sg_i (6 * (j : Int)))] [] h' k' n') : sg_R w mi_L_law d mc ms Q 1770 [(0, sg_r S), (1, sg_r B), (2, sg_r M), (3, sg_r O), (4, sg_i (6 * (j : Int)))] [] h k n := by
  obtain ⟨p1, e1⟩ : ∃ p, xs.getD (6 * (j : Int) + 1).toNat 0 = p := ⟨_, rfl⟩
  obtain ⟨p2, e2⟩ : ∃ p, xs.getD (6 * (j : Int) + 2).toNat 0 = p := ⟨_, rfl⟩
  obtain ⟨p3, e3⟩ : ∃ p, xs.getD (6 * (j : Int) + 3).toNat 0 = p := ⟨_, rfl⟩
  obtain ⟨p4, e4⟩ : ∃ p, xs.getD (6 * (j : Int) + 4).toNat 0 = p := ⟨_, rfl⟩
  obtain ⟨p5, e5⟩ : ∃ p, xs.getD (6 * (j : Int) + 5).toNat 0 = p := ⟨_, rfl⟩
  refine sg_aload_n (pc := 1770) (j := 1) dL_law_1770 rfl rfl ?_
  refine sg_aload_n (pc := 1771) (j := 0) dL_law_1771 rfl rfl ?_
  refine sg_iload (pc := 1772) dL_law_1772 rfl ?_
  refine sg_iconst (pc := 1774) (z := 1) dL_law_1774 (by decide) ?_
  first | refine sg_iaddB (pc := 1775) dL_law_1775 (by omega) (by omega) ?_ | refine sg_iadd (pc := 1775) dL_law_1775 ?_
  refine sg_iald (pc := 1776) dL_law_1776 jJ.1.2.2.2.2.2.2.2.2.2 rfl (by omega) (jk_x (by omega) (by omega)) ?_
  try rw [e1]
  try rw [e2]
  try rw [e3]
  try rw [e4]
  try rw [e5]
  refine sg_aload_n (pc := 1777) (j := 3) dL_law_1777 rfl rfl ?_
  obtain ⟨L, hL⟩ : ∃ X, fa_L A p1.toNat = X := ⟨_, rfl⟩
  refine st_cS3 (pc := 1778) (d' := d - 1) (mc' := 8) (ms' := 48) g dL_law_1778 cb_L_words cw_L_words ml_L_318 ms_L_words (Nat.le_of_ble_eq_true rfl) (by first | exact jl_d0 hd rfl | omega) (by first | exact Nat.le_of_ble_eq_true rfl | omega) (by first | exact Nat.le_of_ble_eq_true rfl | omega) ?_
  refine f_L_words g nc (by omega) jJ.1 jJ.2.1 jJ.2.2.2 hL (fun v1 h1 I1 X1 k0 k1 F1 r1 => sg_K1 ?_)
  refine sg_istore (pc := 1781) dL_law_1781 (by decide) ?_
  refine sg_aload_n (pc := 1783) (j := 2) dL_law_1783 rfl rfl ?_
  refine sg_aload_n (pc := 1784) (j := 0) dL_law_1784 rfl rfl ?_
  refine sg_iload (pc := 1785) dL_law_1785 rfl ?_
  refine sg_iconst (pc := 1787) (z := 1) dL_law_1787 (by decide) ?_
  first | refine sg_iaddB (pc := 1788) dL_law_1788 (by omega) (by omega) ?_ | refine sg_iadd (pc := 1788) dL_law_1788 ?_
  refine sg_iald (pc := 1789) dL_law_1789 I1.2.2.2.2.2.2.2.2.2 rfl (by omega) (jk_x (by omega) (by omega)) ?_
  try rw [e1]
  try rw [e2]
  try rw [e3]
  try rw [e4]
  try rw [e5]
  refine st_as (fun H r => jk_tgR (B := B) r) ?_
  have m2 := jk_Im I1
  have ab0 := jk_Jt jJ I1 X1
  refine sg_cE1 (pc := 1790) (d' := d - 1) (mc' := 24) (ms' := 90) 8 g dL_law_1790 cb_X7_words ml_L_320 mn_X7_words rfl mv_X7_words (Nat.le_of_ble_eq_true rfl) (md_oc m2) (Nat.le_of_ble_eq_true rfl) (by first | exact jl_d0 hd rfl | omega) (by first | exact Nat.le_of_ble_eq_true rfl | omega) (by first | exact Nat.le_of_ble_eq_true rfl | omega) ?_
  refine s_X7_words g (by first | exact jl_d1 hd rfl | omega) m2 (fun v2 h2  y2 => sg_K1 ?_)
  refine st_as (fun H r => jk_unR I1.1 r) ?_
  have J2 : jk_J w B M O S xs (jk_unt B h2) A := jk_JM I1 (md_YW y2) (cf_XF jJ.2.1 F1) (y2.2.2.trans ab0) jJ.2.2.2
  have y2 := md_YW y2
  have I2 := J2.1
  refine sg_istore (pc := 1793) dL_law_1793 (by decide) ?_
  refine sg_goto (pc := 1795) (tgt := 2465) dL_law_1795 (by decide) ?_
  refine sg_lsub (lv' := [(0, _), (1, _), (2, _), (3, _), (4, _)]) ⟨rfl, rfl, rfl, rfl, rfl, trivial⟩ ?_
  exact K _ _ _ _ J2 (by omega) (by omega)

