/-! THE LAW: cases 20 to 29 -/
theorem f_left_le (σ : St) (p0 : Int32) : (f_left σ p0).1 < 4 := by
  unfold f_left opn
  (repeat' split) <;> (try dsimp only) <;> (repeat' split) <;> exact Nat.le_of_ble_eq_true rfl
set_option maxRecDepth 100000 in
set_option maxHeartbeats 4000000 in
theorem law_20 {G : GG} {X : CX} (h : Ok G X RL cL_law 9 room_1) {b L : Nat} {scr : Nat → Int32} (hS : Scr G X b L scr) {c : CC} {σ : St} (hI : LI G c σ) {i k n : Nat} (hi : i + 5 ≤ L) (hk : k + 8 ≤ 603072) (hn : n + 48 ≤ 7223402) (next : ∀ (c' : CC) (σ' : St), LI G c' σ' → V G X c' [(0, .ref b), (1, .ref (G.1 0)), (2, .ref (G.1 33)), (3, .ref (G.1 47)), (4, .ref (G.1 48)), (5, .int (nI i))] (k + 8) (n + 48) 1923 []) : V G X c [(0, .ref b), (1, .ref (G.1 0)), (2, .ref (G.1 33)), (3, .ref (G.1 47)), (4, .ref (G.1 48)), (5, .int (nI i))] k n 1408 [] := by
  refine r_aload_n h 1 rfl rfl dL_law_1408 ?_
  refine r_aload_n h 0 rfl rfl dL_law_1409 ?_
  refine r_iload h 5 rfl dL_law_1410 ?_
  refine r_iconst h (v := nI 1) (by decide) dL_law_1412 ?_
  refine r_iadd h (nI_add i 1) dL_law_1413 ?_
  refine r_sld h hS (x := i + 1) (by omega) dL_law_1414 ?_
  refine r_aload_n h 3 rfl rfl dL_law_1415 ?_
  have hle : (f_left σ (scr (i + 1))).1 < 4 := f_left_le σ (scr (i + 1))
  obtain ⟨fo, ho⟩ := hI.2.2.2.1
  refine r_cW h k_L_185 (As := [.ref (G.1 0), .int (scr (i + 1)), .ref (G.1 47)]) (rest := []) (c_L_left h.i h.t hI.1 ho (scr (i + 1))) rfl rfl (Nat.le_of_ble_eq_true rfl) ⟨by decide, by decide, hk, hn⟩ dL_law_1416 (fun _ z => z.elim) (fun v1 c1 p1 => ?_)
  obtain ⟨r1, rfl, hw⟩ := p1
  have hr1 := hw.1
  subst hr1
  obtain ⟨th, hm⟩ := hI.mdl (Or.inl rfl) hw
  refine r_istore h ([(6, .int (nI (f_left σ (scr (i + 1))).1)), (0, .ref b), (1, .ref (G.1 0)), (2, .ref (G.1 33)), (3, .ref (G.1 47)), (4, .ref (G.1 48)), (5, .int (nI i))]) dL_law_1419 (by decide) rfl ?_
  refine r_aload_n h 3 rfl rfl dL_law_1421 ?_
  refine r_aload_n h 1 rfl rfl dL_law_1422 ?_
  refine r_iload h 6 rfl dL_law_1423 ?_
  refine r_iconst h (v := nI 1) (by decide) dL_law_1425 ?_
  refine r_iadd h (nI_add i 1) dL_law_1426 ?_
  refine r_sld h hS (x := i + 1) (by omega) dL_law_1427 ?_
  refine r_cV h k_L_187 (i := 33) (As := [.int (scr (i + 1))]) (rest := []) (c_X4_left h.i h.t hm hI.1.bnd hI.2.2.1 (scr (i + 1))) (by omega) hm.o rfl rfl rfl (Nat.le_of_ble_eq_true rfl) ⟨by decide, by decide, hk, hn⟩ dL_law_1428 (fun _ z => z.elim) (fun v2 c2 p2 => ?_)
  obtain ⟨r2, rfl, hq⟩ := p2
  have hN := hI.next hw hq
  refine r_istore h ([(7, .int r2), (6, .int (nI (f_left σ (scr (i + 1))).1)), (0, .ref b), (1, .ref (G.1 0)), (2, .ref (G.1 33)), (3, .ref (G.1 47)), (4, .ref (G.1 48)), (5, .int (nI i))]) dL_law_1431 (by decide) rfl ?_
  refine r_aload_n h 4 rfl rfl dL_law_1433 ?_
  refine r_cV h k_L_120 (i := 33) (As := []) (rest := []) (c_X4_thrown h.i h.t hq.2.1) (by omega) hq.2.1.o rfl rfl rfl (Nat.le_of_ble_eq_true rfl) ⟨by decide, by decide, hk, hn⟩ dL_law_1434 (fun _ z => z.elim) (fun v3 c3 p3 => ?_)
  obtain ⟨r3, rfl, rfl, rfl⟩ := p3
  refine r_iload h 1 rfl dL_law_1437 ?_
  refine r_icmp_eq h 1444 dL_law_1439 (by decide) (fun _ => ?_) (fun z => absurd rfl z)
  refine r_iload h 1 rfl dL_law_1444 ?_
  refine rn_if_ne h (a := (f_left σ (scr (i + 1))).1) (by omega) 1461 dL_law_1446 (by decide) (fun z => ?_) (fun z => ?_)
  · refine r_goto h 1923 dL_law_1461 (by decide) ?_
    refine V_lv [2, 3, 4, 5, 6, 7] rfl ?_
    exact next _ _ hN
  · refine r_aload_n h 5 rfl rfl dL_law_1449 ?_
    refine r_iconst h (v := nI 0) (by decide) dL_law_1450 ?_
    obtain ⟨fo2, hfo, hv⟩ := (hw.2.2.1 z).keep (hq.2.2.2 47 (Or.inr (by omega)))
    refine r_lald h (i := 47) (by omega) hfo (x := 0) (by omega) (by decide) dL_law_1451 ?_
    rw [hv, hq.1 z]
    refine r_iload h 0 rfl dL_law_1452 ?_
    refine r_i2l h rfl dL_law_1454 ?_
    refine r_lcmp h (lg0.mpr rfl) dL_law_1455 ?_
    refine r_if_eq h 1461 dL_law_1456 (by decide) (fun _ => ?_) (fun z => absurd rfl z)
    refine r_goto h 1923 dL_law_1461 (by decide) ?_
    refine V_lv [2, 3, 4, 5, 6, 7] rfl ?_
    exact next _ _ hN
theorem f_line_le (σ : St) (p0 : Int32) : (f_line σ p0).1 < 4 := by
  unfold f_line opn
  (repeat' split) <;> (try dsimp only) <;> (repeat' split) <;> exact Nat.le_of_ble_eq_true rfl
set_option maxRecDepth 100000 in
set_option maxHeartbeats 4000000 in
theorem law_21 {G : GG} {X : CX} (h : Ok G X RL cL_law 9 room_1) {b L : Nat} {scr : Nat → Int32} (hS : Scr G X b L scr) {c : CC} {σ : St} (hI : LI G c σ) {i k n : Nat} (hi : i + 5 ≤ L) (hk : k + 8 ≤ 603072) (hn : n + 48 ≤ 7223402) (next : ∀ (c' : CC) (σ' : St), LI G c' σ' → V G X c' [(0, .ref b), (1, .ref (G.1 0)), (2, .ref (G.1 33)), (3, .ref (G.1 47)), (4, .ref (G.1 48)), (5, .int (nI i))] (k + 8) (n + 48) 1923 []) : V G X c [(0, .ref b), (1, .ref (G.1 0)), (2, .ref (G.1 33)), (3, .ref (G.1 47)), (4, .ref (G.1 48)), (5, .int (nI i))] k n 1464 [] := by
  refine r_aload_n h 1 rfl rfl dL_law_1464 ?_
  refine r_aload_n h 0 rfl rfl dL_law_1465 ?_
  refine r_iload h 5 rfl dL_law_1466 ?_
  refine r_iconst h (v := nI 1) (by decide) dL_law_1468 ?_
  refine r_iadd h (nI_add i 1) dL_law_1469 ?_
  refine r_sld h hS (x := i + 1) (by omega) dL_law_1470 ?_
  refine r_aload_n h 3 rfl rfl dL_law_1471 ?_
  have hle : (f_line σ (scr (i + 1))).1 < 4 := f_line_le σ (scr (i + 1))
  obtain ⟨fo, ho⟩ := hI.2.2.2.1
  refine r_cW h k_L_188 (As := [.ref (G.1 0), .int (scr (i + 1)), .ref (G.1 47)]) (rest := []) (c_L_line h.i h.t hI.1 ho (scr (i + 1))) rfl rfl (Nat.le_of_ble_eq_true rfl) ⟨by decide, by decide, hk, hn⟩ dL_law_1472 (fun _ z => z.elim) (fun v1 c1 p1 => ?_)
  obtain ⟨r1, rfl, hw⟩ := p1
  have hr1 := hw.1
  subst hr1
  obtain ⟨th, hm⟩ := hI.mdl (Or.inl rfl) hw
  refine r_istore h ([(6, .int (nI (f_line σ (scr (i + 1))).1)), (0, .ref b), (1, .ref (G.1 0)), (2, .ref (G.1 33)), (3, .ref (G.1 47)), (4, .ref (G.1 48)), (5, .int (nI i))]) dL_law_1475 (by decide) rfl ?_
  refine r_aload_n h 3 rfl rfl dL_law_1477 ?_
  refine r_aload_n h 1 rfl rfl dL_law_1478 ?_
  refine r_iload h 6 rfl dL_law_1479 ?_
  refine r_iconst h (v := nI 1) (by decide) dL_law_1481 ?_
  refine r_iadd h (nI_add i 1) dL_law_1482 ?_
  refine r_sld h hS (x := i + 1) (by omega) dL_law_1483 ?_
  refine r_cV h k_L_190 (i := 33) (As := [.int (scr (i + 1))]) (rest := []) (c_X4_line h.i h.t hm hI.1.bnd hI.2.2.1 (scr (i + 1))) (by omega) hm.o rfl rfl rfl (Nat.le_of_ble_eq_true rfl) ⟨by decide, by decide, hk, hn⟩ dL_law_1484 (fun _ z => z.elim) (fun v2 c2 p2 => ?_)
  obtain ⟨r2, rfl, hq⟩ := p2
  have hN := hI.next hw hq
  refine r_istore h ([(7, .int r2), (6, .int (nI (f_line σ (scr (i + 1))).1)), (0, .ref b), (1, .ref (G.1 0)), (2, .ref (G.1 33)), (3, .ref (G.1 47)), (4, .ref (G.1 48)), (5, .int (nI i))]) dL_law_1487 (by decide) rfl ?_
  refine r_aload_n h 4 rfl rfl dL_law_1489 ?_
  refine r_cV h k_L_120 (i := 33) (As := []) (rest := []) (c_X4_thrown h.i h.t hq.2.1) (by omega) hq.2.1.o rfl rfl rfl (Nat.le_of_ble_eq_true rfl) ⟨by decide, by decide, hk, hn⟩ dL_law_1490 (fun _ z => z.elim) (fun v3 c3 p3 => ?_)
  obtain ⟨r3, rfl, rfl, rfl⟩ := p3
  refine r_iload h 1 rfl dL_law_1493 ?_
  refine r_icmp_eq h 1500 dL_law_1495 (by decide) (fun _ => ?_) (fun z => absurd rfl z)
  refine r_iload h 1 rfl dL_law_1500 ?_
  refine rn_if_ne h (a := (f_line σ (scr (i + 1))).1) (by omega) 1517 dL_law_1502 (by decide) (fun z => ?_) (fun z => ?_)
  · refine r_goto h 1923 dL_law_1517 (by decide) ?_
    refine V_lv [2, 3, 4, 5, 6, 7] rfl ?_
    exact next _ _ hN
  · refine r_aload_n h 5 rfl rfl dL_law_1505 ?_
    refine r_iconst h (v := nI 0) (by decide) dL_law_1506 ?_
    obtain ⟨fo2, hfo, hv⟩ := (hw.2.2.1 z).keep (hq.2.2.2 47 (Or.inr (by omega)))
    refine r_lald h (i := 47) (by omega) hfo (x := 0) (by omega) (by decide) dL_law_1507 ?_
    rw [hv, hq.1 z]
    refine r_iload h 0 rfl dL_law_1508 ?_
    refine r_i2l h rfl dL_law_1510 ?_
    refine r_lcmp h (lg0.mpr rfl) dL_law_1511 ?_
    refine r_if_eq h 1517 dL_law_1512 (by decide) (fun _ => ?_) (fun z => absurd rfl z)
    refine r_goto h 1923 dL_law_1517 (by decide) ?_
    refine V_lv [2, 3, 4, 5, 6, 7] rfl ?_
    exact next _ _ hN
theorem f_setLine_le (σ : St) (p0 p1 : Int32) : (f_setLine σ p0 p1).1 < 4 := by
  unfold f_setLine opn
  (repeat' split) <;> (try dsimp only) <;> (repeat' split) <;> exact Nat.le_of_ble_eq_true rfl
set_option maxRecDepth 100000 in
set_option maxHeartbeats 4000000 in
theorem law_22 {G : GG} {X : CX} (h : Ok G X RL cL_law 9 room_1) {b L : Nat} {scr : Nat → Int32} (hS : Scr G X b L scr) {c : CC} {σ : St} (hI : LI G c σ) {i k n : Nat} (hi : i + 5 ≤ L) (hk : k + 8 ≤ 603072) (hn : n + 48 ≤ 7223402) (next : ∀ (c' : CC) (σ' : St), LI G c' σ' → V G X c' [(0, .ref b), (1, .ref (G.1 0)), (2, .ref (G.1 33)), (3, .ref (G.1 47)), (4, .ref (G.1 48)), (5, .int (nI i))] (k + 8) (n + 48) 1923 []) : V G X c [(0, .ref b), (1, .ref (G.1 0)), (2, .ref (G.1 33)), (3, .ref (G.1 47)), (4, .ref (G.1 48)), (5, .int (nI i))] k n 1520 [] := by
  refine r_aload_n h 1 rfl rfl dL_law_1520 ?_
  refine r_aload_n h 0 rfl rfl dL_law_1521 ?_
  refine r_iload h 5 rfl dL_law_1522 ?_
  refine r_iconst h (v := nI 1) (by decide) dL_law_1524 ?_
  refine r_iadd h (nI_add i 1) dL_law_1525 ?_
  refine r_sld h hS (x := i + 1) (by omega) dL_law_1526 ?_
  refine r_aload_n h 0 rfl rfl dL_law_1527 ?_
  refine r_iload h 5 rfl dL_law_1528 ?_
  refine r_iconst h (v := nI 2) (by decide) dL_law_1530 ?_
  refine r_iadd h (nI_add i 2) dL_law_1531 ?_
  refine r_sld h hS (x := i + 2) (by omega) dL_law_1532 ?_
  refine r_aload_n h 3 rfl rfl dL_law_1533 ?_
  have hle : (f_setLine σ (scr (i + 1)) (scr (i + 2))).1 < 4 := f_setLine_le σ (scr (i + 1)) (scr (i + 2))
  obtain ⟨fo, ho⟩ := hI.2.2.2.1
  refine r_cW h k_L_191 (As := [.ref (G.1 0), .int (scr (i + 1)), .int (scr (i + 2)), .ref (G.1 47)]) (rest := []) (c_L_setLine h.i h.t hI.1 ho (scr (i + 1)) (scr (i + 2))) rfl rfl (Nat.le_of_ble_eq_true rfl) ⟨by decide, by decide, hk, hn⟩ dL_law_1534 (fun _ z => z.elim) (fun v1 c1 p1 => ?_)
  obtain ⟨r1, rfl, hw⟩ := p1
  have hr1 := hw.1
  subst hr1
  obtain ⟨th, hm⟩ := hI.mdl (Or.inl rfl) hw
  refine r_istore h ([(6, .int (nI (f_setLine σ (scr (i + 1)) (scr (i + 2))).1)), (0, .ref b), (1, .ref (G.1 0)), (2, .ref (G.1 33)), (3, .ref (G.1 47)), (4, .ref (G.1 48)), (5, .int (nI i))]) dL_law_1537 (by decide) rfl ?_
  refine r_aload_n h 3 rfl rfl dL_law_1539 ?_
  refine r_aload_n h 1 rfl rfl dL_law_1540 ?_
  refine r_iload h 6 rfl dL_law_1541 ?_
  refine r_iconst h (v := nI 1) (by decide) dL_law_1543 ?_
  refine r_iadd h (nI_add i 1) dL_law_1544 ?_
  refine r_sld h hS (x := i + 1) (by omega) dL_law_1545 ?_
  refine r_aload_n h 1 rfl rfl dL_law_1546 ?_
  refine r_iload h 6 rfl dL_law_1547 ?_
  refine r_iconst h (v := nI 2) (by decide) dL_law_1549 ?_
  refine r_iadd h (nI_add i 2) dL_law_1550 ?_
  refine r_sld h hS (x := i + 2) (by omega) dL_law_1551 ?_
  refine r_cV h k_L_193 (i := 33) (As := [.int (scr (i + 1)), .int (scr (i + 2))]) (rest := []) (c_X4_setLine h.i h.t hm hI.1.bnd hI.2.2.1 (scr (i + 1)) (scr (i + 2))) (by omega) hm.o rfl rfl rfl (Nat.le_of_ble_eq_true rfl) ⟨by decide, by decide, hk, hn⟩ dL_law_1552 (fun _ z => z.elim) (fun v2 c2 p2 => ?_)
  obtain ⟨r2, rfl, hq⟩ := p2
  have hN := hI.next hw hq
  refine r_istore h ([(7, .int r2), (6, .int (nI (f_setLine σ (scr (i + 1)) (scr (i + 2))).1)), (0, .ref b), (1, .ref (G.1 0)), (2, .ref (G.1 33)), (3, .ref (G.1 47)), (4, .ref (G.1 48)), (5, .int (nI i))]) dL_law_1555 (by decide) rfl ?_
  refine r_aload_n h 4 rfl rfl dL_law_1557 ?_
  refine r_cV h k_L_120 (i := 33) (As := []) (rest := []) (c_X4_thrown h.i h.t hq.2.1) (by omega) hq.2.1.o rfl rfl rfl (Nat.le_of_ble_eq_true rfl) ⟨by decide, by decide, hk, hn⟩ dL_law_1558 (fun _ z => z.elim) (fun v3 c3 p3 => ?_)
  obtain ⟨r3, rfl, rfl, rfl⟩ := p3
  refine r_iload h 1 rfl dL_law_1561 ?_
  refine r_icmp_eq h 1568 dL_law_1563 (by decide) (fun _ => ?_) (fun z => absurd rfl z)
  refine r_iload h 1 rfl dL_law_1568 ?_
  refine rn_if_ne h (a := (f_setLine σ (scr (i + 1)) (scr (i + 2))).1) (by omega) 1585 dL_law_1570 (by decide) (fun z => ?_) (fun z => ?_)
  · refine r_goto h 1923 dL_law_1585 (by decide) ?_
    refine V_lv [2, 3, 4, 5, 6, 7] rfl ?_
    exact next _ _ hN
  · refine r_aload_n h 5 rfl rfl dL_law_1573 ?_
    refine r_iconst h (v := nI 0) (by decide) dL_law_1574 ?_
    obtain ⟨fo2, hfo, hv⟩ := (hw.2.2.1 z).keep (hq.2.2.2 47 (Or.inr (by omega)))
    refine r_lald h (i := 47) (by omega) hfo (x := 0) (by omega) (by decide) dL_law_1575 ?_
    rw [hv, hq.1 z]
    refine r_iload h 0 rfl dL_law_1576 ?_
    refine r_i2l h rfl dL_law_1578 ?_
    refine r_lcmp h (lg0.mpr rfl) dL_law_1579 ?_
    refine r_if_eq h 1585 dL_law_1580 (by decide) (fun _ => ?_) (fun z => absurd rfl z)
    refine r_goto h 1923 dL_law_1585 (by decide) ?_
    refine V_lv [2, 3, 4, 5, 6, 7] rfl ?_
    exact next _ _ hN
theorem f_check_le (σ : St) (p0 : Int32) : (f_check σ p0).1 < 4 := by
  unfold f_check opn
  (repeat' split) <;> (try dsimp only) <;> (repeat' split) <;> exact Nat.le_of_ble_eq_true rfl
set_option maxRecDepth 100000 in
set_option maxHeartbeats 4000000 in
theorem law_23 {G : GG} {X : CX} (h : Ok G X RL cL_law 9 room_1) {b L : Nat} {scr : Nat → Int32} (hS : Scr G X b L scr) {c : CC} {σ : St} (hI : LI G c σ) {i k n : Nat} (hi : i + 5 ≤ L) (hk : k + 8 ≤ 603072) (hn : n + 48 ≤ 7223402) (next : ∀ (c' : CC) (σ' : St), LI G c' σ' → V G X c' [(0, .ref b), (1, .ref (G.1 0)), (2, .ref (G.1 33)), (3, .ref (G.1 47)), (4, .ref (G.1 48)), (5, .int (nI i))] (k + 8) (n + 48) 1923 []) : V G X c [(0, .ref b), (1, .ref (G.1 0)), (2, .ref (G.1 33)), (3, .ref (G.1 47)), (4, .ref (G.1 48)), (5, .int (nI i))] k n 1588 [] := by
  refine r_aload_n h 1 rfl rfl dL_law_1588 ?_
  refine r_aload_n h 0 rfl rfl dL_law_1589 ?_
  refine r_iload h 5 rfl dL_law_1590 ?_
  refine r_iconst h (v := nI 1) (by decide) dL_law_1592 ?_
  refine r_iadd h (nI_add i 1) dL_law_1593 ?_
  refine r_sld h hS (x := i + 1) (by omega) dL_law_1594 ?_
  refine r_aload_n h 3 rfl rfl dL_law_1595 ?_
  have hle : (f_check σ (scr (i + 1))).1 < 4 := f_check_le σ (scr (i + 1))
  obtain ⟨fo, ho⟩ := hI.2.2.2.1
  refine r_cW h k_L_194 (As := [.ref (G.1 0), .int (scr (i + 1)), .ref (G.1 47)]) (rest := []) (c_L_check h.i h.t hI.1 ho (scr (i + 1))) rfl rfl (Nat.le_of_ble_eq_true rfl) ⟨by decide, by decide, hk, hn⟩ dL_law_1596 (fun _ z => z.elim) (fun v1 c1 p1 => ?_)
  obtain ⟨r1, rfl, hw⟩ := p1
  have hr1 := hw.1
  subst hr1
  obtain ⟨th, hm⟩ := hI.mdl (Or.inl rfl) hw
  refine r_istore h ([(6, .int (nI (f_check σ (scr (i + 1))).1)), (0, .ref b), (1, .ref (G.1 0)), (2, .ref (G.1 33)), (3, .ref (G.1 47)), (4, .ref (G.1 48)), (5, .int (nI i))]) dL_law_1599 (by decide) rfl ?_
  refine r_aload_n h 3 rfl rfl dL_law_1601 ?_
  refine r_aload_n h 1 rfl rfl dL_law_1602 ?_
  refine r_iload h 6 rfl dL_law_1603 ?_
  refine r_iconst h (v := nI 1) (by decide) dL_law_1605 ?_
  refine r_iadd h (nI_add i 1) dL_law_1606 ?_
  refine r_sld h hS (x := i + 1) (by omega) dL_law_1607 ?_
  refine r_cV h k_L_196 (i := 33) (As := [.int (scr (i + 1))]) (rest := []) (c_X4_check h.i h.t hm hI.1.bnd hI.2.2.1 (scr (i + 1))) (by omega) hm.o rfl rfl rfl (Nat.le_of_ble_eq_true rfl) ⟨by decide, by decide, hk, hn⟩ dL_law_1608 (fun _ z => z.elim) (fun v2 c2 p2 => ?_)
  obtain ⟨r2, rfl, hq⟩ := p2
  have hN := hI.next hw hq
  refine r_lstore h ([(7, .long r2), (6, .int (nI (f_check σ (scr (i + 1))).1)), (0, .ref b), (1, .ref (G.1 0)), (2, .ref (G.1 33)), (3, .ref (G.1 47)), (4, .ref (G.1 48)), (5, .int (nI i))]) dL_law_1611 (by decide) rfl ?_
  refine r_aload_n h 4 rfl rfl dL_law_1613 ?_
  refine r_cV h k_L_120 (i := 33) (As := []) (rest := []) (c_X4_thrown h.i h.t hq.2.1) (by omega) hq.2.1.o rfl rfl rfl (Nat.le_of_ble_eq_true rfl) ⟨by decide, by decide, hk, hn⟩ dL_law_1614 (fun _ z => z.elim) (fun v3 c3 p3 => ?_)
  obtain ⟨r3, rfl, rfl, rfl⟩ := p3
  refine r_iload h 1 rfl dL_law_1617 ?_
  refine r_icmp_eq h 1624 dL_law_1619 (by decide) (fun _ => ?_) (fun z => absurd rfl z)
  refine r_iload h 1 rfl dL_law_1624 ?_
  refine rn_if_ne h (a := (f_check σ (scr (i + 1))).1) (by omega) 1640 dL_law_1626 (by decide) (fun z => ?_) (fun z => ?_)
  · refine r_goto h 1923 dL_law_1640 (by decide) ?_
    refine V_lv [2, 3, 4, 5, 6, 7] rfl ?_
    exact next _ _ hN
  · refine r_aload_n h 5 rfl rfl dL_law_1629 ?_
    refine r_iconst h (v := nI 0) (by decide) dL_law_1630 ?_
    obtain ⟨fo2, hfo, hv⟩ := (hw.2.2.1 z).keep (hq.2.2.2 47 (Or.inr (by omega)))
    refine r_lald h (i := 47) (by omega) hfo (x := 0) (by omega) (by decide) dL_law_1631 ?_
    rw [hv, hq.1 z]
    refine r_lload h 0 rfl dL_law_1632 ?_
    refine r_lcmp h (lg0.mpr rfl) dL_law_1634 ?_
    refine r_if_eq h 1640 dL_law_1635 (by decide) (fun _ => ?_) (fun z => absurd rfl z)
    refine r_goto h 1923 dL_law_1640 (by decide) ?_
    refine V_lv [2, 3, 4, 5, 6, 7] rfl ?_
    exact next _ _ hN
theorem f_checkAnew_le (σ : St) (p0 : Int32) : (f_checkAnew σ p0).1 < 4 := by
  unfold f_checkAnew opn
  (repeat' split) <;> (try dsimp only) <;> (repeat' split) <;> exact Nat.le_of_ble_eq_true rfl
set_option maxRecDepth 100000 in
set_option maxHeartbeats 4000000 in
theorem law_24 {G : GG} {X : CX} (h : Ok G X RL cL_law 9 room_1) {b L : Nat} {scr : Nat → Int32} (hS : Scr G X b L scr) {c : CC} {σ : St} (hI : LI G c σ) {i k n : Nat} (hi : i + 5 ≤ L) (hk : k + 8 ≤ 603072) (hn : n + 48 ≤ 7223402) (next : ∀ (c' : CC) (σ' : St), LI G c' σ' → V G X c' [(0, .ref b), (1, .ref (G.1 0)), (2, .ref (G.1 33)), (3, .ref (G.1 47)), (4, .ref (G.1 48)), (5, .int (nI i))] (k + 8) (n + 48) 1923 []) : V G X c [(0, .ref b), (1, .ref (G.1 0)), (2, .ref (G.1 33)), (3, .ref (G.1 47)), (4, .ref (G.1 48)), (5, .int (nI i))] k n 1643 [] := by
  refine r_aload_n h 1 rfl rfl dL_law_1643 ?_
  refine r_aload_n h 0 rfl rfl dL_law_1644 ?_
  refine r_iload h 5 rfl dL_law_1645 ?_
  refine r_iconst h (v := nI 1) (by decide) dL_law_1647 ?_
  refine r_iadd h (nI_add i 1) dL_law_1648 ?_
  refine r_sld h hS (x := i + 1) (by omega) dL_law_1649 ?_
  refine r_aload_n h 3 rfl rfl dL_law_1650 ?_
  have hle : (f_checkAnew σ (scr (i + 1))).1 < 4 := f_checkAnew_le σ (scr (i + 1))
  obtain ⟨fo, ho⟩ := hI.2.2.2.1
  refine r_cW h k_L_197 (As := [.ref (G.1 0), .int (scr (i + 1)), .ref (G.1 47)]) (rest := []) (c_L_checkAnew h.i h.t hI.1 ho (scr (i + 1))) rfl rfl (Nat.le_of_ble_eq_true rfl) ⟨by decide, by decide, hk, hn⟩ dL_law_1651 (fun _ z => z.elim) (fun v1 c1 p1 => ?_)
  obtain ⟨r1, rfl, hw⟩ := p1
  have hr1 := hw.1
  subst hr1
  obtain ⟨th, hm⟩ := hI.mdl (Or.inl rfl) hw
  refine r_istore h ([(6, .int (nI (f_checkAnew σ (scr (i + 1))).1)), (0, .ref b), (1, .ref (G.1 0)), (2, .ref (G.1 33)), (3, .ref (G.1 47)), (4, .ref (G.1 48)), (5, .int (nI i))]) dL_law_1654 (by decide) rfl ?_
  refine r_aload_n h 3 rfl rfl dL_law_1656 ?_
  refine r_aload_n h 1 rfl rfl dL_law_1657 ?_
  refine r_iload h 6 rfl dL_law_1658 ?_
  refine r_iconst h (v := nI 1) (by decide) dL_law_1660 ?_
  refine r_iadd h (nI_add i 1) dL_law_1661 ?_
  refine r_sld h hS (x := i + 1) (by omega) dL_law_1662 ?_
  refine r_cV h k_L_199 (i := 33) (As := [.int (scr (i + 1))]) (rest := []) (c_X4_checkAnew h.i h.t hm hI.1.bnd hI.2.2.1 (scr (i + 1))) (by omega) hm.o rfl rfl rfl (Nat.le_of_ble_eq_true rfl) ⟨by decide, by decide, hk, hn⟩ dL_law_1663 (fun _ z => z.elim) (fun v2 c2 p2 => ?_)
  obtain ⟨r2, rfl, hq⟩ := p2
  have hN := hI.next hw hq
  refine r_lstore h ([(7, .long r2), (6, .int (nI (f_checkAnew σ (scr (i + 1))).1)), (0, .ref b), (1, .ref (G.1 0)), (2, .ref (G.1 33)), (3, .ref (G.1 47)), (4, .ref (G.1 48)), (5, .int (nI i))]) dL_law_1666 (by decide) rfl ?_
  refine r_aload_n h 4 rfl rfl dL_law_1668 ?_
  refine r_cV h k_L_120 (i := 33) (As := []) (rest := []) (c_X4_thrown h.i h.t hq.2.1) (by omega) hq.2.1.o rfl rfl rfl (Nat.le_of_ble_eq_true rfl) ⟨by decide, by decide, hk, hn⟩ dL_law_1669 (fun _ z => z.elim) (fun v3 c3 p3 => ?_)
  obtain ⟨r3, rfl, rfl, rfl⟩ := p3
  refine r_iload h 1 rfl dL_law_1672 ?_
  refine r_icmp_eq h 1679 dL_law_1674 (by decide) (fun _ => ?_) (fun z => absurd rfl z)
  refine r_iload h 1 rfl dL_law_1679 ?_
  refine rn_if_ne h (a := (f_checkAnew σ (scr (i + 1))).1) (by omega) 1695 dL_law_1681 (by decide) (fun z => ?_) (fun z => ?_)
  · refine r_goto h 1923 dL_law_1695 (by decide) ?_
    refine V_lv [2, 3, 4, 5, 6, 7] rfl ?_
    exact next _ _ hN
  · refine r_aload_n h 5 rfl rfl dL_law_1684 ?_
    refine r_iconst h (v := nI 0) (by decide) dL_law_1685 ?_
    obtain ⟨fo2, hfo, hv⟩ := (hw.2.2.1 z).keep (hq.2.2.2 47 (Or.inr (by omega)))
    refine r_lald h (i := 47) (by omega) hfo (x := 0) (by omega) (by decide) dL_law_1686 ?_
    rw [hv, hq.1 z]
    refine r_lload h 0 rfl dL_law_1687 ?_
    refine r_lcmp h (lg0.mpr rfl) dL_law_1689 ?_
    refine r_if_eq h 1695 dL_law_1690 (by decide) (fun _ => ?_) (fun z => absurd rfl z)
    refine r_goto h 1923 dL_law_1695 (by decide) ?_
    refine V_lv [2, 3, 4, 5, 6, 7] rfl ?_
    exact next _ _ hN
theorem f_checkOf_le (σ : St) (p0 : Int32) : (f_checkOf σ p0).1 < 4 := by
  unfold f_checkOf
  (repeat' split) <;> (try dsimp only) <;> (repeat' split) <;> exact Nat.le_of_ble_eq_true rfl
set_option maxRecDepth 100000 in
set_option maxHeartbeats 4000000 in
theorem law_25 {G : GG} {X : CX} (h : Ok G X RL cL_law 9 room_1) {b L : Nat} {scr : Nat → Int32} (hS : Scr G X b L scr) {c : CC} {σ : St} (hI : LI G c σ) {i k n : Nat} (hi : i + 5 ≤ L) (hk : k + 8 ≤ 603072) (hn : n + 48 ≤ 7223402) (next : ∀ (c' : CC) (σ' : St), LI G c' σ' → V G X c' [(0, .ref b), (1, .ref (G.1 0)), (2, .ref (G.1 33)), (3, .ref (G.1 47)), (4, .ref (G.1 48)), (5, .int (nI i))] (k + 8) (n + 48) 1923 []) : V G X c [(0, .ref b), (1, .ref (G.1 0)), (2, .ref (G.1 33)), (3, .ref (G.1 47)), (4, .ref (G.1 48)), (5, .int (nI i))] k n 1698 [] := by
  refine r_aload_n h 1 rfl rfl dL_law_1698 ?_
  refine r_aload_n h 0 rfl rfl dL_law_1699 ?_
  refine r_iload h 5 rfl dL_law_1700 ?_
  refine r_iconst h (v := nI 1) (by decide) dL_law_1702 ?_
  refine r_iadd h (nI_add i 1) dL_law_1703 ?_
  refine r_sld h hS (x := i + 1) (by omega) dL_law_1704 ?_
  refine r_aload_n h 3 rfl rfl dL_law_1705 ?_
  have hle : (f_checkOf σ (scr (i + 1))).1 < 4 := f_checkOf_le σ (scr (i + 1))
  obtain ⟨fo, ho⟩ := hI.2.2.2.1
  refine r_cW h k_L_200 (As := [.ref (G.1 0), .int (scr (i + 1)), .ref (G.1 47)]) (rest := []) (c_L_checkOf h.i h.t hI.1 ho (scr (i + 1))) rfl rfl (Nat.le_of_ble_eq_true rfl) ⟨by decide, by decide, hk, hn⟩ dL_law_1706 (fun _ z => z.elim) (fun v1 c1 p1 => ?_)
  obtain ⟨r1, rfl, hw⟩ := p1
  have hr1 := hw.1
  subst hr1
  obtain ⟨th, hm⟩ := hI.mdl (Or.inl rfl) hw
  refine r_istore h ([(6, .int (nI (f_checkOf σ (scr (i + 1))).1)), (0, .ref b), (1, .ref (G.1 0)), (2, .ref (G.1 33)), (3, .ref (G.1 47)), (4, .ref (G.1 48)), (5, .int (nI i))]) dL_law_1709 (by decide) rfl ?_
  refine r_aload_n h 3 rfl rfl dL_law_1711 ?_
  refine r_aload_n h 1 rfl rfl dL_law_1712 ?_
  refine r_iload h 6 rfl dL_law_1713 ?_
  refine r_iconst h (v := nI 1) (by decide) dL_law_1715 ?_
  refine r_iadd h (nI_add i 1) dL_law_1716 ?_
  refine r_sld h hS (x := i + 1) (by omega) dL_law_1717 ?_
  refine r_cV h k_L_202 (i := 33) (As := [.int (scr (i + 1))]) (rest := []) (c_X4_checkOf h.i h.t hm hI.1.bnd hI.2.2.1 (scr (i + 1))) (by omega) hm.o rfl rfl rfl (Nat.le_of_ble_eq_true rfl) ⟨by decide, by decide, hk, hn⟩ dL_law_1718 (fun _ z => z.elim) (fun v2 c2 p2 => ?_)
  obtain ⟨r2, rfl, hq⟩ := p2
  have hN := hI.next hw hq
  refine r_lstore h ([(7, .long r2), (6, .int (nI (f_checkOf σ (scr (i + 1))).1)), (0, .ref b), (1, .ref (G.1 0)), (2, .ref (G.1 33)), (3, .ref (G.1 47)), (4, .ref (G.1 48)), (5, .int (nI i))]) dL_law_1721 (by decide) rfl ?_
  refine r_aload_n h 4 rfl rfl dL_law_1723 ?_
  refine r_cV h k_L_120 (i := 33) (As := []) (rest := []) (c_X4_thrown h.i h.t hq.2.1) (by omega) hq.2.1.o rfl rfl rfl (Nat.le_of_ble_eq_true rfl) ⟨by decide, by decide, hk, hn⟩ dL_law_1724 (fun _ z => z.elim) (fun v3 c3 p3 => ?_)
  obtain ⟨r3, rfl, rfl, rfl⟩ := p3
  refine r_iload h 1 rfl dL_law_1727 ?_
  refine r_icmp_eq h 1734 dL_law_1729 (by decide) (fun _ => ?_) (fun z => absurd rfl z)
  refine r_iload h 1 rfl dL_law_1734 ?_
  refine rn_if_ne h (a := (f_checkOf σ (scr (i + 1))).1) (by omega) 1750 dL_law_1736 (by decide) (fun z => ?_) (fun z => ?_)
  · refine r_goto h 1923 dL_law_1750 (by decide) ?_
    refine V_lv [2, 3, 4, 5, 6, 7] rfl ?_
    exact next _ _ hN
  · refine r_aload_n h 5 rfl rfl dL_law_1739 ?_
    refine r_iconst h (v := nI 0) (by decide) dL_law_1740 ?_
    obtain ⟨fo2, hfo, hv⟩ := (hw.2.2.1 z).keep (hq.2.2.2 47 (Or.inr (by omega)))
    refine r_lald h (i := 47) (by omega) hfo (x := 0) (by omega) (by decide) dL_law_1741 ?_
    rw [hv, hq.1 z]
    refine r_lload h 0 rfl dL_law_1742 ?_
    refine r_lcmp h (lg0.mpr rfl) dL_law_1744 ?_
    refine r_if_eq h 1750 dL_law_1745 (by decide) (fun _ => ?_) (fun z => absurd rfl z)
    refine r_goto h 1923 dL_law_1750 (by decide) ?_
    refine V_lv [2, 3, 4, 5, 6, 7] rfl ?_
    exact next _ _ hN
theorem f_share_le (σ : St) (p0 : Int32) : (f_share σ p0).1 < 4 := by
  unfold f_share
  (repeat' split) <;> (try dsimp only) <;> (repeat' split) <;> exact Nat.le_of_ble_eq_true rfl
set_option maxRecDepth 100000 in
set_option maxHeartbeats 4000000 in
theorem law_26 {G : GG} {X : CX} (h : Ok G X RL cL_law 9 room_1) {b L : Nat} {scr : Nat → Int32} (hS : Scr G X b L scr) {c : CC} {σ : St} (hI : LI G c σ) {i k n : Nat} (hi : i + 5 ≤ L) (hk : k + 8 ≤ 603072) (hn : n + 48 ≤ 7223402) (next : ∀ (c' : CC) (σ' : St), LI G c' σ' → V G X c' [(0, .ref b), (1, .ref (G.1 0)), (2, .ref (G.1 33)), (3, .ref (G.1 47)), (4, .ref (G.1 48)), (5, .int (nI i))] (k + 8) (n + 48) 1923 []) : V G X c [(0, .ref b), (1, .ref (G.1 0)), (2, .ref (G.1 33)), (3, .ref (G.1 47)), (4, .ref (G.1 48)), (5, .int (nI i))] k n 1753 [] := by
  refine r_aload_n h 1 rfl rfl dL_law_1753 ?_
  refine r_aload_n h 0 rfl rfl dL_law_1754 ?_
  refine r_iload h 5 rfl dL_law_1755 ?_
  refine r_iconst h (v := nI 1) (by decide) dL_law_1757 ?_
  refine r_iadd h (nI_add i 1) dL_law_1758 ?_
  refine r_sld h hS (x := i + 1) (by omega) dL_law_1759 ?_
  refine r_aload h 4 rfl dL_law_1760 ?_
  have hle : (f_share σ (scr (i + 1))).1 < 4 := f_share_le σ (scr (i + 1))
  obtain ⟨fo, ho⟩ := hI.2.2.2.2
  refine r_cW h k_L_203 (As := [.ref (G.1 0), .int (scr (i + 1)), .ref (G.1 48)]) (rest := []) (c_L_share h.i h.t hI.1 ho (scr (i + 1))) rfl rfl (Nat.le_of_ble_eq_true rfl) ⟨by decide, by decide, hk, hn⟩ dL_law_1762 (fun _ z => z.elim) (fun v1 c1 p1 => ?_)
  obtain ⟨r1, rfl, hw⟩ := p1
  have hr1 := hw.1
  subst hr1
  obtain ⟨th, hm⟩ := hI.mdl (Or.inr rfl) hw
  refine r_istore h ([(6, .int (nI (f_share σ (scr (i + 1))).1)), (0, .ref b), (1, .ref (G.1 0)), (2, .ref (G.1 33)), (3, .ref (G.1 47)), (4, .ref (G.1 48)), (5, .int (nI i))]) dL_law_1765 (by decide) rfl ?_
  refine r_aload_n h 3 rfl rfl dL_law_1767 ?_
  refine r_aload_n h 1 rfl rfl dL_law_1768 ?_
  refine r_iload h 6 rfl dL_law_1769 ?_
  refine r_iconst h (v := nI 1) (by decide) dL_law_1771 ?_
  refine r_iadd h (nI_add i 1) dL_law_1772 ?_
  refine r_sld h hS (x := i + 1) (by omega) dL_law_1773 ?_
  refine r_cV h k_L_206 (i := 33) (As := [.int (scr (i + 1))]) (rest := []) (c_X4_share h.i h.t hm hI.1.bnd hI.2.2.1 (scr (i + 1))) (by omega) hm.o rfl rfl rfl (Nat.le_of_ble_eq_true rfl) ⟨by decide, by decide, hk, hn⟩ dL_law_1774 (fun _ z => z.elim) (fun v2 c2 p2 => ?_)
  obtain ⟨r2, rfl, hq⟩ := p2
  have hN := hI.next hw hq
  refine r_fstore h ([(7, .float r2), (6, .int (nI (f_share σ (scr (i + 1))).1)), (0, .ref b), (1, .ref (G.1 0)), (2, .ref (G.1 33)), (3, .ref (G.1 47)), (4, .ref (G.1 48)), (5, .int (nI i))]) dL_law_1777 (by decide) rfl ?_
  refine r_aload_n h 4 rfl rfl dL_law_1779 ?_
  refine r_cV h k_L_120 (i := 33) (As := []) (rest := []) (c_X4_thrown h.i h.t hq.2.1) (by omega) hq.2.1.o rfl rfl rfl (Nat.le_of_ble_eq_true rfl) ⟨by decide, by decide, hk, hn⟩ dL_law_1780 (fun _ z => z.elim) (fun v3 c3 p3 => ?_)
  obtain ⟨r3, rfl, rfl, rfl⟩ := p3
  refine r_iload h 1 rfl dL_law_1783 ?_
  refine r_icmp_eq h 1790 dL_law_1785 (by decide) (fun _ => ?_) (fun z => absurd rfl z)
  refine r_iload h 1 rfl dL_law_1790 ?_
  refine rn_if_ne h (a := (f_share σ (scr (i + 1))).1) (by omega) 1828 dL_law_1792 (by decide) (fun z => ?_) (fun z => ?_)
  · refine r_goto h 1923 dL_law_1828 (by decide) ?_
    refine V_lv [2, 3, 4, 5, 6, 7] rfl ?_
    exact next _ _ hN
  · refine r_aload h 6 rfl dL_law_1795 ?_
    refine r_iconst h (v := nI 0) (by decide) dL_law_1797 ?_
    obtain ⟨fo2, hfo, hv⟩ := (hw.2.2.1 z).keep (hq.2.2.2 48 (Or.inr (by omega)))
    refine r_dald h (i := 48) (by omega) hfo (x := 0) (by omega) (by decide) dL_law_1798 ?_
    rw [hv, hq.1 z]
    refine r_fload h 0 rfl dL_law_1799 ?_
    have hf := f2d_ok (f_share_fin (fun j hj => (hI.1.rl hj).1) z (hq.1 z))
    refine r_f2d h (n64_of hf) dL_law_1801 ?_
    refine r_dcmp h (dc_self hf) dL_law_1802 ?_
    refine r_if_eq h 1828 dL_law_1803 (by decide) (fun _ => ?_) (fun z => absurd rfl z)
    refine r_goto h 1923 dL_law_1828 (by decide) ?_
    refine V_lv [2, 3, 4, 5, 6, 7] rfl ?_
    exact next _ _ hN
theorem f_meanLine_le (σ : St) : (f_meanLine σ).1 < 4 := by
  unfold f_meanLine
  (repeat' split) <;> (try dsimp only) <;> (repeat' split) <;> exact Nat.le_of_ble_eq_true rfl
set_option maxRecDepth 100000 in
set_option maxHeartbeats 4000000 in
theorem law_27 {G : GG} {X : CX} (h : Ok G X RL cL_law 9 room_1) {b L : Nat} {scr : Nat → Int32} (hS : Scr G X b L scr) {c : CC} {σ : St} (hI : LI G c σ) {i k n : Nat} (hi : i + 5 ≤ L) (hk : k + 8 ≤ 603072) (hn : n + 48 ≤ 7223402) (next : ∀ (c' : CC) (σ' : St), LI G c' σ' → V G X c' [(0, .ref b), (1, .ref (G.1 0)), (2, .ref (G.1 33)), (3, .ref (G.1 47)), (4, .ref (G.1 48)), (5, .int (nI i))] (k + 8) (n + 48) 1923 []) : V G X c [(0, .ref b), (1, .ref (G.1 0)), (2, .ref (G.1 33)), (3, .ref (G.1 47)), (4, .ref (G.1 48)), (5, .int (nI i))] k n 1831 [] := by
  refine r_aload_n h 1 rfl rfl dL_law_1831 ?_
  refine r_aload h 4 rfl dL_law_1832 ?_
  have hle : (f_meanLine σ).1 < 4 := f_meanLine_le σ
  obtain ⟨fo, ho⟩ := hI.2.2.2.2
  refine r_cW h k_L_207 (As := [.ref (G.1 0), .ref (G.1 48)]) (rest := []) (c_L_meanLine h.i h.t hI.1 ho ) rfl rfl (Nat.le_of_ble_eq_true rfl) ⟨by decide, by decide, hk, hn⟩ dL_law_1834 (fun _ z => z.elim) (fun v1 c1 p1 => ?_)
  obtain ⟨r1, rfl, hw⟩ := p1
  have hr1 := hw.1
  subst hr1
  obtain ⟨th, hm⟩ := hI.mdl (Or.inr rfl) hw
  refine r_istore h ([(6, .int (nI (f_meanLine σ).1)), (0, .ref b), (1, .ref (G.1 0)), (2, .ref (G.1 33)), (3, .ref (G.1 47)), (4, .ref (G.1 48)), (5, .int (nI i))]) dL_law_1837 (by decide) rfl ?_
  refine r_aload_n h 3 rfl rfl dL_law_1839 ?_
  refine r_cV h k_L_210 (i := 33) (As := []) (rest := []) (c_X4_meanLine h.i h.t hm hI.1.bnd hI.2.2.1) (by omega) hm.o rfl rfl rfl (Nat.le_of_ble_eq_true rfl) ⟨by decide, by decide, hk, hn⟩ dL_law_1840 (fun _ z => z.elim) (fun v2 c2 p2 => ?_)
  obtain ⟨r2, rfl, hq⟩ := p2
  have hN := hI.next hw hq
  refine r_dstore h ([(7, .double r2), (6, .int (nI (f_meanLine σ).1)), (0, .ref b), (1, .ref (G.1 0)), (2, .ref (G.1 33)), (3, .ref (G.1 47)), (4, .ref (G.1 48)), (5, .int (nI i))]) dL_law_1843 (by decide) rfl ?_
  refine r_aload_n h 4 rfl rfl dL_law_1845 ?_
  refine r_cV h k_L_120 (i := 33) (As := []) (rest := []) (c_X4_thrown h.i h.t hq.2.1) (by omega) hq.2.1.o rfl rfl rfl (Nat.le_of_ble_eq_true rfl) ⟨by decide, by decide, hk, hn⟩ dL_law_1846 (fun _ z => z.elim) (fun v3 c3 p3 => ?_)
  obtain ⟨r3, rfl, rfl, rfl⟩ := p3
  refine r_iload h 1 rfl dL_law_1849 ?_
  refine r_icmp_eq h 1856 dL_law_1851 (by decide) (fun _ => ?_) (fun z => absurd rfl z)
  refine r_iload h 1 rfl dL_law_1856 ?_
  refine rn_if_ne h (a := (f_meanLine σ).1) (by omega) 1893 dL_law_1858 (by decide) (fun z => ?_) (fun z => ?_)
  · refine r_goto h 1923 dL_law_1893 (by decide) ?_
    refine V_lv [2, 3, 4, 5, 6, 7] rfl ?_
    exact next _ _ hN
  · refine r_aload h 6 rfl dL_law_1861 ?_
    refine r_iconst h (v := nI 0) (by decide) dL_law_1863 ?_
    obtain ⟨fo2, hfo, hv⟩ := (hw.2.2.1 z).keep (hq.2.2.2 48 (Or.inr (by omega)))
    refine r_dald h (i := 48) (by omega) hfo (x := 0) (by omega) (by decide) dL_law_1864 ?_
    rw [hv, hq.1 z]
    refine r_dload h 0 rfl dL_law_1865 ?_
    have hf := f_meanLine_fin z (hq.1 z)
    refine r_dcmp h (dc_self hf) dL_law_1867 ?_
    refine r_if_eq h 1893 dL_law_1868 (by decide) (fun _ => ?_) (fun z => absurd rfl z)
    refine r_goto h 1923 dL_law_1893 (by decide) ?_
    refine V_lv [2, 3, 4, 5, 6, 7] rfl ?_
    exact next _ _ hN
set_option maxRecDepth 100000 in
set_option maxHeartbeats 4000000 in
theorem law_28 {G : GG} {X : CX} (h : Ok G X RL cL_law 9 room_1) {b L : Nat} {scr : Nat → Int32} (hS : Scr G X b L scr) {c : CC} {σ : St} (hI : LI G c σ) {i k n : Nat} (hi : i + 5 ≤ L) (hk : k + 8 ≤ 603072) (hn : n + 48 ≤ 7223402) (next : ∀ (c' : CC) (σ' : St), LI G c' σ' → V G X c' [(0, .ref b), (1, .ref (G.1 0)), (2, .ref (G.1 33)), (3, .ref (G.1 47)), (4, .ref (G.1 48)), (5, .int (nI i))] (k + 8) (n + 48) 1923 []) : V G X c [(0, .ref b), (1, .ref (G.1 0)), (2, .ref (G.1 33)), (3, .ref (G.1 47)), (4, .ref (G.1 48)), (5, .int (nI i))] k n 1896 [] := by
  refine r_aload_n h 1 rfl rfl dL_law_1896 ?_
  obtain ⟨th, hm⟩ := hI.2.1
  refine r_cV h k_L_211 (i := 0) (As := []) (rest := []) (c_X3_checksum h.i h.t hI.1) (by omega) hI.1.o rfl rfl rfl (Nat.le_of_ble_eq_true rfl) ⟨by decide, by decide, by show k + 0 ≤ 603072; omega, by show n + 0 ≤ 7223402; omega⟩ dL_law_1897 (fun _ z => z.elim) (fun v1 c1 p1 => ?_)
  obtain ⟨r1, rfl, rfl, rfl⟩ := p1
  have hN := hI
  refine r_aload_n h 2 rfl rfl dL_law_1900 ?_
  refine r_cV h k_L_215 (i := 33) (As := []) (rest := [.long (f_checksum σ)]) (c_X4_checksum h.i h.t hm hI.1.bnd) (by omega) hm.o rfl rfl rfl (Nat.le_of_ble_eq_true rfl) ⟨by decide, by decide, by show k + 0 + 0 ≤ 603072; omega, by show n + 0 + 0 ≤ 7223402; omega⟩ dL_law_1901 (fun _ z => z.elim) (fun v2 c2 p2 => ?_)
  obtain ⟨r2, rfl, rfl, rfl⟩ := p2
  refine r_lcmp h (lg0.mpr rfl) dL_law_1904 ?_
  refine r_if_eq h 1923 dL_law_1905 (by decide) (fun _ => ?_) (fun z => absurd rfl z)
  exact V.widen (Nat.le_add_right k 8) (Nat.le_add_right n 48) (next _ _ hN)
set_option maxRecDepth 100000 in
set_option maxHeartbeats 4000000 in
theorem law_29 {G : GG} {X : CX} (h : Ok G X RL cL_law 9 room_1) {b L : Nat} {scr : Nat → Int32} (hS : Scr G X b L scr) {c : CC} {σ : St} (hI : LI G c σ) {i k n : Nat} (hi : i + 5 ≤ L) (hk : k + 8 ≤ 603072) (hn : n + 48 ≤ 7223402) (next : ∀ (c' : CC) (σ' : St), LI G c' σ' → V G X c' [(0, .ref b), (1, .ref (G.1 0)), (2, .ref (G.1 33)), (3, .ref (G.1 47)), (4, .ref (G.1 48)), (5, .int (nI i))] (k + 8) (n + 48) 1923 []) : V G X c [(0, .ref b), (1, .ref (G.1 0)), (2, .ref (G.1 33)), (3, .ref (G.1 47)), (4, .ref (G.1 48)), (5, .int (nI i))] k n 1910 [] := by
  refine r_aload_n h 1 rfl rfl dL_law_1910 ?_
  obtain ⟨th, hm⟩ := hI.2.1
  refine r_cV h k_L_216 (i := 0) (As := []) (rest := []) (c_X3_isTrue h.i h.t hI.1) (by omega) hI.1.o rfl rfl rfl (Nat.le_of_ble_eq_true rfl) ⟨by decide, by decide, by show k + 0 ≤ 603072; omega, by show n + 0 ≤ 7223402; omega⟩ dL_law_1911 (fun _ z => z.elim) (fun v1 c1 p1 => ?_)
  obtain ⟨r1, rfl, rfl, hC, hK⟩ := p1
  have hm := hm.keep (fun y h1 h2 => hK y h1)
  have hN : LI G c1 σ := ⟨hC, ⟨th, hm⟩, hI.2.2.1, hI.2.2.2.1.elim (fun f hf => ⟨f, (hK 47 (by omega)).trans hf⟩), hI.2.2.2.2.elim (fun f hf => ⟨f, (hK 48 (by omega)).trans hf⟩)⟩
  refine r_aload_n h 2 rfl rfl dL_law_1914 ?_
  refine r_cV h k_L_220 (i := 33) (As := []) (rest := [.int (nI 1)]) (c_X4_isTrue h.i h.t hm) (by omega) hm.o rfl rfl rfl (Nat.le_of_ble_eq_true rfl) ⟨by decide, by decide, by show k + 0 + 0 ≤ 603072; omega, by show n + 0 + 0 ≤ 7223402; omega⟩ dL_law_1915 (fun _ z => z.elim) (fun v2 c2 p2 => ?_)
  obtain ⟨r2, rfl, rfl, rfl⟩ := p2
  refine r_icmp_eq h 1923 dL_law_1918 (by decide) (fun _ => ?_) (fun z => absurd rfl z)
  exact V.widen (Nat.le_add_right k 8) (Nat.le_add_right n 48) (next _ _ hN)
