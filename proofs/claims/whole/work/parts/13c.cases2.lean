/-! The cases of the law (written by gen13.py). -/
set_option maxHeartbeats 4000000 in
set_option maxRecDepth 100000 in
theorem lc_fewestAgain {p : Program} {l : Launch} {e : Env} {s : State} {m : MethodId} {args : Array Value} {below : List Frame} {meth : Method} {c : Code} {D : va_G} {cI cC cJ cDD : ClassId} {T : Nat → Nat} {b L : Nat} {xs : Nat → Int32} {E F : Nat → Nat} {o od : Nat} {Q : State → Prop} {i : Int} {cells slots : Nat} (K : LC p l s m args c D cI cC cJ cDD T b L xs) (h0 : 0 ≤ i) (h4 : i + 4 ≤ L) (hcr : cells + 2 ≤ room_1.cells ∧ slots + 12 ≤ room_1.slots) (kont : LK p l e s m args below meth c D cI cC cJ cDD E F o od b i Q cells slots) {C G : Mem} {f : Nat → Int64} {fd : Nat → UInt64} {H : Heap} {locs : List Loc} {ls : Array Slot} (hR : RelR C G) (hP : va_P D vwCl (VL E F cI cC cJ cDD o od C G f fd) H) (hD : va_D (lA s) (VL E F cI cC cJ cDD o od C G f fd)) (hS : va_S (lA s) s.heap H locs) (hl : lv_has ls 9 [(0, .ref b), (1, .ref (E 0)), (2, .ref (F 0)), (3, .ref o), (4, .ref od), (5, .int (iI i))]) : W p l e room_1 s m args below meth c H locs cells slots Q (F0 m 1479 ls []) := by
  have hst := K.2.2.2.2.2.2.2.2.2.2.1
  obtain ⟨hx, hb, hml, hown, hts, -, -, hK, -, -, -, hL⟩ := id K
  have hs := s_fewestAgain hR (sc xs (i + 1))
  refine lv_aload_n hx hb dL_law_1479 rfl (lv_at hl 1 rfl) ?_
  refine lv_aload_n hx hb dL_law_1480 rfl (lv_at hl 0 rfl) ?_
  refine lv_iload hx hb dL_law_1481 (lv_at hl 5 rfl) ?_
  refine lv_iconst (v := iI 1) hx hb dL_law_1483 rfl ?_
  refine z_iadd hx hb dL_law_1484 ?_
  refine z_sld K hS (by omega) (by omega) dL_law_1485 ?_
  refine lv_aload_n hx hb dL_law_1486 rfl (lv_at hl 3 rfl) ?_
  refine lw_hl (n := 2) (As := [.ref (E 0), .int (iI (sc xs (i + 1))), .ref o]) (rest := []) K (hX_fewestAgain l hst D E cI cC cJ cDD T o C (sc xs (i + 1)) (sc_r xs _) (rl_CI hR) (rl_SI hR) (fX8_fewestAgain C (sc xs (i + 1))).1 (fX8_fewestAgain C (sc xs (i + 1))).2.1 (fX8_fewestAgain C (sc xs (i + 1))).2.2 rfl ((fX9_fewestAgain G (sc xs (i + 1))).2 26 0) hs.2.1) (vx_cwSW 3 hts gL_law_L_fewestAgain rfl rfl rfl (by decide +kernel) ⟨Nat.le_of_ble_eq_true rfl, Nat.le_of_ble_eq_true rfl⟩) hP hD hS rfl hl.1 rfl (Nat.le_of_ble_eq_true rfl) dL_law_1487 ⟨by omega, by omega⟩ (fun f' H locs hf' hP hD hS => ?_)
  refine lv_istore (lv' := [(6, .int (iI ((fX9_fewestAgain G (sc xs (i + 1))).2 26 0))), (0, .ref b), (1, .ref (E 0)), (2, .ref (F 0)), (3, .ref o), (4, .ref od), (5, .int (iI i))]) hx hb dL_law_1490 hl (by decide) rfl (fun ls hl => ?_)
  refine lv_aload_n hx hb dL_law_1492 rfl (lv_at hl 3 rfl) ?_
  refine lv_aload_n hx hb dL_law_1493 rfl (lv_at hl 1 rfl) ?_
  refine lv_iload hx hb dL_law_1494 (lv_at hl 6 rfl) ?_
  refine lv_iconst (v := iI 1) hx hb dL_law_1496 rfl ?_
  refine z_iadd hx hb dL_law_1497 ?_
  refine z_sld K hS (by omega) (by omega) dL_law_1498 ?_
  refine lw_gi (As := [.int (iI (sc xs (i + 1)))]) (rest := []) K (kX9_fewestAgain l D F cI cC ztr (fun _ => ztr_o) ztr_b G (sc xs (i + 1)) (sc_r xs _) (rl_GI hR) (fX9_fewestAgain G (sc xs (i + 1))).1 (fX9_fewestAgain G (sc xs (i + 1))).2 rfl) (cwV 1 hts gL_law_X9_fewestAgain rfl rfl rfl (by decide +kernel) ⟨Nat.le_of_ble_eq_true rfl, Nat.le_of_ble_eq_true rfl⟩) hP hD hS rfl hl.1 rfl (Nat.le_of_ble_eq_true rfl) dL_law_1499 ⟨by omega, by omega⟩ (fun H locs hP hD hS => ?_)
  refine lv_istore (lv' := [(7, .int (iI (fX9_fewestAgain G (sc xs (i + 1))).1)), (6, .int (iI ((fX9_fewestAgain G (sc xs (i + 1))).2 26 0))), (0, .ref b), (1, .ref (E 0)), (2, .ref (F 0)), (3, .ref o), (4, .ref od), (5, .int (iI i))]) hx hb dL_law_1502 hl (by decide) rfl (fun ls hl => ?_)
  exact lw_tail (k := (fX8_fewestAgain C (sc xs (i + 1))).1) (c0 := cells) (s0 := slots) K hs.1 rfl (AnsL_r hs.2.1 (by decide)).1 (fun hz => by rw [hf' ((AnsL_r hs.2.1 (by decide)).2 hz)]; exact congrArg (fun z => (iI z).toInt64) (hs.2.2 ((AnsL_r hs.2.1 (by decide)).2 hz))) hP hD hS hl (by omega) (by omega) ⟨by omega, by omega⟩ kont (by decide) dL_law_1504 dL_law_1505 dL_law_1508 dL_law_1510 dL_law_1515 dL_law_1517 dL_law_1520 dL_law_1521 dL_law_1522 dL_law_1523 dL_law_1525 dL_law_1526 dL_law_1527 dL_law_1532
set_option maxHeartbeats 4000000 in
set_option maxRecDepth 100000 in
theorem lc_doubt {p : Program} {l : Launch} {e : Env} {s : State} {m : MethodId} {args : Array Value} {below : List Frame} {meth : Method} {c : Code} {D : va_G} {cI cC cJ cDD : ClassId} {T : Nat → Nat} {b L : Nat} {xs : Nat → Int32} {E F : Nat → Nat} {o od : Nat} {Q : State → Prop} {i : Int} {cells slots : Nat} (K : LC p l s m args c D cI cC cJ cDD T b L xs) (h0 : 0 ≤ i) (h4 : i + 4 ≤ L) (hcr : cells + 2 ≤ room_1.cells ∧ slots + 12 ≤ room_1.slots) (kont : LK p l e s m args below meth c D cI cC cJ cDD E F o od b i Q cells slots) {C G : Mem} {f : Nat → Int64} {fd : Nat → UInt64} {H : Heap} {locs : List Loc} {ls : Array Slot} (hR : RelR C G) (hP : va_P D vwCl (VL E F cI cC cJ cDD o od C G f fd) H) (hD : va_D (lA s) (VL E F cI cC cJ cDD o od C G f fd)) (hS : va_S (lA s) s.heap H locs) (hl : lv_has ls 9 [(0, .ref b), (1, .ref (E 0)), (2, .ref (F 0)), (3, .ref o), (4, .ref od), (5, .int (iI i))]) : W p l e room_1 s m args below meth c H locs cells slots Q (F0 m 1535 ls []) := by
  have hst := K.2.2.2.2.2.2.2.2.2.2.1
  obtain ⟨hx, hb, hml, hown, hts, -, -, hK, -, -, -, hL⟩ := id K
  have hs := s_doubt hR (sc xs (i + 1))
  refine lv_aload_n hx hb dL_law_1535 rfl (lv_at hl 1 rfl) ?_
  refine lv_aload_n hx hb dL_law_1536 rfl (lv_at hl 0 rfl) ?_
  refine lv_iload hx hb dL_law_1537 (lv_at hl 5 rfl) ?_
  refine lv_iconst (v := iI 1) hx hb dL_law_1539 rfl ?_
  refine z_iadd hx hb dL_law_1540 ?_
  refine z_sld K hS (by omega) (by omega) dL_law_1541 ?_
  refine lv_aload_n hx hb dL_law_1542 rfl (lv_at hl 3 rfl) ?_
  refine lw_hl (n := 1) (As := [.ref (E 0), .int (iI (sc xs (i + 1))), .ref o]) (rest := []) K (hX_doubt l hst D E cI cC cJ cDD T o C (sc xs (i + 1)) (sc_r xs _) (rl_CI hR) (rl_SI hR) (fX8_doubt C (sc xs (i + 1))).1 (fX8_doubt C (sc xs (i + 1))).2.1 (fX8_doubt C (sc xs (i + 1))).2.2 rfl ((fX9_doubt G (sc xs (i + 1))).2 26 0) hs.2.1) (vx_cwSW 3 hts gL_law_L_doubt rfl rfl rfl (by decide +kernel) ⟨Nat.le_of_ble_eq_true rfl, Nat.le_of_ble_eq_true rfl⟩) hP hD hS rfl hl.1 rfl (Nat.le_of_ble_eq_true rfl) dL_law_1543 ⟨by omega, by omega⟩ (fun f' H locs hf' hP hD hS => ?_)
  refine lv_istore (lv' := [(6, .int (iI ((fX9_doubt G (sc xs (i + 1))).2 26 0))), (0, .ref b), (1, .ref (E 0)), (2, .ref (F 0)), (3, .ref o), (4, .ref od), (5, .int (iI i))]) hx hb dL_law_1546 hl (by decide) rfl (fun ls hl => ?_)
  refine lv_aload_n hx hb dL_law_1548 rfl (lv_at hl 3 rfl) ?_
  refine lv_aload_n hx hb dL_law_1549 rfl (lv_at hl 1 rfl) ?_
  refine lv_iload hx hb dL_law_1550 (lv_at hl 6 rfl) ?_
  refine lv_iconst (v := iI 1) hx hb dL_law_1552 rfl ?_
  refine z_iadd hx hb dL_law_1553 ?_
  refine z_sld K hS (by omega) (by omega) dL_law_1554 ?_
  refine lw_gi (As := [.int (iI (sc xs (i + 1)))]) (rest := []) K (kX9_doubt l D F cI cC ztr (fun _ => ztr_o) ztr_b G (sc xs (i + 1)) (sc_r xs _) (rl_GI hR) (fX9_doubt G (sc xs (i + 1))).1 (fX9_doubt G (sc xs (i + 1))).2 rfl) (cwV 1 hts gL_law_X9_doubt rfl rfl rfl (by decide +kernel) ⟨Nat.le_of_ble_eq_true rfl, Nat.le_of_ble_eq_true rfl⟩) hP hD hS rfl hl.1 rfl (Nat.le_of_ble_eq_true rfl) dL_law_1555 ⟨by omega, by omega⟩ (fun H locs hP hD hS => ?_)
  refine lv_istore (lv' := [(7, .int (iI (fX9_doubt G (sc xs (i + 1))).1)), (6, .int (iI ((fX9_doubt G (sc xs (i + 1))).2 26 0))), (0, .ref b), (1, .ref (E 0)), (2, .ref (F 0)), (3, .ref o), (4, .ref od), (5, .int (iI i))]) hx hb dL_law_1558 hl (by decide) rfl (fun ls hl => ?_)
  exact lw_tail (k := (fX8_doubt C (sc xs (i + 1))).1) (c0 := cells) (s0 := slots) K hs.1 rfl (AnsL_r hs.2.1 (by decide)).1 (fun hz => by rw [hf' ((AnsL_r hs.2.1 (by decide)).2 hz)]; exact congrArg (fun z => (iI z).toInt64) (hs.2.2 ((AnsL_r hs.2.1 (by decide)).2 hz))) hP hD hS hl (by omega) (by omega) ⟨by omega, by omega⟩ kont (by decide) dL_law_1560 dL_law_1561 dL_law_1564 dL_law_1566 dL_law_1571 dL_law_1573 dL_law_1576 dL_law_1577 dL_law_1578 dL_law_1579 dL_law_1581 dL_law_1582 dL_law_1583 dL_law_1588
set_option maxHeartbeats 4000000 in
set_option maxRecDepth 100000 in
theorem lc_doubtAgain {p : Program} {l : Launch} {e : Env} {s : State} {m : MethodId} {args : Array Value} {below : List Frame} {meth : Method} {c : Code} {D : va_G} {cI cC cJ cDD : ClassId} {T : Nat → Nat} {b L : Nat} {xs : Nat → Int32} {E F : Nat → Nat} {o od : Nat} {Q : State → Prop} {i : Int} {cells slots : Nat} (K : LC p l s m args c D cI cC cJ cDD T b L xs) (h0 : 0 ≤ i) (h4 : i + 4 ≤ L) (hcr : cells + 2 ≤ room_1.cells ∧ slots + 12 ≤ room_1.slots) (kont : LK p l e s m args below meth c D cI cC cJ cDD E F o od b i Q cells slots) {C G : Mem} {f : Nat → Int64} {fd : Nat → UInt64} {H : Heap} {locs : List Loc} {ls : Array Slot} (hR : RelR C G) (hP : va_P D vwCl (VL E F cI cC cJ cDD o od C G f fd) H) (hD : va_D (lA s) (VL E F cI cC cJ cDD o od C G f fd)) (hS : va_S (lA s) s.heap H locs) (hl : lv_has ls 9 [(0, .ref b), (1, .ref (E 0)), (2, .ref (F 0)), (3, .ref o), (4, .ref od), (5, .int (iI i))]) : W p l e room_1 s m args below meth c H locs cells slots Q (F0 m 1591 ls []) := by
  have hst := K.2.2.2.2.2.2.2.2.2.2.1
  obtain ⟨hx, hb, hml, hown, hts, -, -, hK, -, -, -, hL⟩ := id K
  have hs := s_doubtAgain hR (sc xs (i + 1))
  refine lv_aload_n hx hb dL_law_1591 rfl (lv_at hl 1 rfl) ?_
  refine lv_aload_n hx hb dL_law_1592 rfl (lv_at hl 0 rfl) ?_
  refine lv_iload hx hb dL_law_1593 (lv_at hl 5 rfl) ?_
  refine lv_iconst (v := iI 1) hx hb dL_law_1595 rfl ?_
  refine z_iadd hx hb dL_law_1596 ?_
  refine z_sld K hS (by omega) (by omega) dL_law_1597 ?_
  refine lv_aload_n hx hb dL_law_1598 rfl (lv_at hl 3 rfl) ?_
  refine lw_hl (n := 1) (As := [.ref (E 0), .int (iI (sc xs (i + 1))), .ref o]) (rest := []) K (hX_doubtAgain l hst D E cI cC cJ cDD T o C (sc xs (i + 1)) (sc_r xs _) (rl_CI hR) (rl_SI hR) (fX8_doubtAgain C (sc xs (i + 1))).1 (fX8_doubtAgain C (sc xs (i + 1))).2.1 (fX8_doubtAgain C (sc xs (i + 1))).2.2 rfl ((fX9_doubtAgain G (sc xs (i + 1))).2 26 0) hs.2.1) (vx_cwSW 3 hts gL_law_L_doubtAgain rfl rfl rfl (by decide +kernel) ⟨Nat.le_of_ble_eq_true rfl, Nat.le_of_ble_eq_true rfl⟩) hP hD hS rfl hl.1 rfl (Nat.le_of_ble_eq_true rfl) dL_law_1599 ⟨by omega, by omega⟩ (fun f' H locs hf' hP hD hS => ?_)
  refine lv_istore (lv' := [(6, .int (iI ((fX9_doubtAgain G (sc xs (i + 1))).2 26 0))), (0, .ref b), (1, .ref (E 0)), (2, .ref (F 0)), (3, .ref o), (4, .ref od), (5, .int (iI i))]) hx hb dL_law_1602 hl (by decide) rfl (fun ls hl => ?_)
  refine lv_aload_n hx hb dL_law_1604 rfl (lv_at hl 3 rfl) ?_
  refine lv_aload_n hx hb dL_law_1605 rfl (lv_at hl 1 rfl) ?_
  refine lv_iload hx hb dL_law_1606 (lv_at hl 6 rfl) ?_
  refine lv_iconst (v := iI 1) hx hb dL_law_1608 rfl ?_
  refine z_iadd hx hb dL_law_1609 ?_
  refine z_sld K hS (by omega) (by omega) dL_law_1610 ?_
  refine lw_gi (As := [.int (iI (sc xs (i + 1)))]) (rest := []) K (kX9_doubtAgain l D F cI cC ztr (fun _ => ztr_o) ztr_b G (sc xs (i + 1)) (sc_r xs _) (rl_GI hR) (fX9_doubtAgain G (sc xs (i + 1))).1 (fX9_doubtAgain G (sc xs (i + 1))).2 rfl) (cwV 1 hts gL_law_X9_doubtAgain rfl rfl rfl (by decide +kernel) ⟨Nat.le_of_ble_eq_true rfl, Nat.le_of_ble_eq_true rfl⟩) hP hD hS rfl hl.1 rfl (Nat.le_of_ble_eq_true rfl) dL_law_1611 ⟨by omega, by omega⟩ (fun H locs hP hD hS => ?_)
  refine lv_istore (lv' := [(7, .int (iI (fX9_doubtAgain G (sc xs (i + 1))).1)), (6, .int (iI ((fX9_doubtAgain G (sc xs (i + 1))).2 26 0))), (0, .ref b), (1, .ref (E 0)), (2, .ref (F 0)), (3, .ref o), (4, .ref od), (5, .int (iI i))]) hx hb dL_law_1614 hl (by decide) rfl (fun ls hl => ?_)
  exact lw_tail (k := (fX8_doubtAgain C (sc xs (i + 1))).1) (c0 := cells) (s0 := slots) K hs.1 rfl (AnsL_r hs.2.1 (by decide)).1 (fun hz => by rw [hf' ((AnsL_r hs.2.1 (by decide)).2 hz)]; exact congrArg (fun z => (iI z).toInt64) (hs.2.2 ((AnsL_r hs.2.1 (by decide)).2 hz))) hP hD hS hl (by omega) (by omega) ⟨by omega, by omega⟩ kont (by decide) dL_law_1616 dL_law_1617 dL_law_1620 dL_law_1622 dL_law_1627 dL_law_1629 dL_law_1632 dL_law_1633 dL_law_1634 dL_law_1635 dL_law_1637 dL_law_1638 dL_law_1639 dL_law_1644
set_option maxHeartbeats 4000000 in
set_option maxRecDepth 100000 in
theorem lc_sure {p : Program} {l : Launch} {e : Env} {s : State} {m : MethodId} {args : Array Value} {below : List Frame} {meth : Method} {c : Code} {D : va_G} {cI cC cJ cDD : ClassId} {T : Nat → Nat} {b L : Nat} {xs : Nat → Int32} {E F : Nat → Nat} {o od : Nat} {Q : State → Prop} {i : Int} {cells slots : Nat} (K : LC p l s m args c D cI cC cJ cDD T b L xs) (h0 : 0 ≤ i) (h4 : i + 4 ≤ L) (hcr : cells + 2 ≤ room_1.cells ∧ slots + 12 ≤ room_1.slots) (kont : LK p l e s m args below meth c D cI cC cJ cDD E F o od b i Q cells slots) {C G : Mem} {f : Nat → Int64} {fd : Nat → UInt64} {H : Heap} {locs : List Loc} {ls : Array Slot} (hR : RelR C G) (hP : va_P D vwCl (VL E F cI cC cJ cDD o od C G f fd) H) (hD : va_D (lA s) (VL E F cI cC cJ cDD o od C G f fd)) (hS : va_S (lA s) s.heap H locs) (hl : lv_has ls 9 [(0, .ref b), (1, .ref (E 0)), (2, .ref (F 0)), (3, .ref o), (4, .ref od), (5, .int (iI i))]) : W p l e room_1 s m args below meth c H locs cells slots Q (F0 m 1647 ls []) := by
  have hst := K.2.2.2.2.2.2.2.2.2.2.1
  obtain ⟨hx, hb, hml, hown, hts, -, -, hK, -, -, -, hL⟩ := id K
  have hs := s_sure hR (sc xs (i + 1))
  refine lv_aload_n hx hb dL_law_1647 rfl (lv_at hl 1 rfl) ?_
  refine lv_aload_n hx hb dL_law_1648 rfl (lv_at hl 0 rfl) ?_
  refine lv_iload hx hb dL_law_1649 (lv_at hl 5 rfl) ?_
  refine lv_iconst (v := iI 1) hx hb dL_law_1651 rfl ?_
  refine z_iadd hx hb dL_law_1652 ?_
  refine z_sld K hS (by omega) (by omega) dL_law_1653 ?_
  refine lv_aload_n hx hb dL_law_1654 rfl (lv_at hl 3 rfl) ?_
  refine lw_hl (n := 2) (As := [.ref (E 0), .int (iI (sc xs (i + 1))), .ref o]) (rest := []) K (hX_sure l hst D E cI cC cJ cDD T o C (sc xs (i + 1)) (sc_r xs _) (rl_CI hR) (rl_SI hR) (fX8_sure C (sc xs (i + 1))).1 (fX8_sure C (sc xs (i + 1))).2.1 (fX8_sure C (sc xs (i + 1))).2.2 rfl ((fX9_sure G (sc xs (i + 1))).2 26 0) hs.2.1) (vx_cwSW 3 hts gL_law_L_sure rfl rfl rfl (by decide +kernel) ⟨Nat.le_of_ble_eq_true rfl, Nat.le_of_ble_eq_true rfl⟩) hP hD hS rfl hl.1 rfl (Nat.le_of_ble_eq_true rfl) dL_law_1655 ⟨by omega, by omega⟩ (fun f' H locs hf' hP hD hS => ?_)
  refine lv_istore (lv' := [(6, .int (iI ((fX9_sure G (sc xs (i + 1))).2 26 0))), (0, .ref b), (1, .ref (E 0)), (2, .ref (F 0)), (3, .ref o), (4, .ref od), (5, .int (iI i))]) hx hb dL_law_1658 hl (by decide) rfl (fun ls hl => ?_)
  refine lv_aload_n hx hb dL_law_1660 rfl (lv_at hl 3 rfl) ?_
  refine lv_aload_n hx hb dL_law_1661 rfl (lv_at hl 1 rfl) ?_
  refine lv_iload hx hb dL_law_1662 (lv_at hl 6 rfl) ?_
  refine lv_iconst (v := iI 1) hx hb dL_law_1664 rfl ?_
  refine z_iadd hx hb dL_law_1665 ?_
  refine z_sld K hS (by omega) (by omega) dL_law_1666 ?_
  refine lw_gi (As := [.int (iI (sc xs (i + 1)))]) (rest := []) K (kX9_sure l D F cI cC ztr (fun _ => ztr_o) ztr_b G (sc xs (i + 1)) (sc_r xs _) (rl_GI hR) (fX9_sure G (sc xs (i + 1))).1 (fX9_sure G (sc xs (i + 1))).2 rfl) (cwV 1 hts gL_law_X9_sure rfl rfl rfl (by decide +kernel) ⟨Nat.le_of_ble_eq_true rfl, Nat.le_of_ble_eq_true rfl⟩) hP hD hS rfl hl.1 rfl (Nat.le_of_ble_eq_true rfl) dL_law_1667 ⟨by omega, by omega⟩ (fun H locs hP hD hS => ?_)
  refine lv_istore (lv' := [(7, .int (iI (fX9_sure G (sc xs (i + 1))).1)), (6, .int (iI ((fX9_sure G (sc xs (i + 1))).2 26 0))), (0, .ref b), (1, .ref (E 0)), (2, .ref (F 0)), (3, .ref o), (4, .ref od), (5, .int (iI i))]) hx hb dL_law_1670 hl (by decide) rfl (fun ls hl => ?_)
  exact lw_tail (k := (fX8_sure C (sc xs (i + 1))).1) (c0 := cells) (s0 := slots) K hs.1 rfl (AnsL_r hs.2.1 (by decide)).1 (fun hz => by rw [hf' ((AnsL_r hs.2.1 (by decide)).2 hz)]; exact congrArg (fun z => (iI z).toInt64) (hs.2.2 ((AnsL_r hs.2.1 (by decide)).2 hz))) hP hD hS hl (by omega) (by omega) ⟨by omega, by omega⟩ kont (by decide) dL_law_1672 dL_law_1673 dL_law_1676 dL_law_1678 dL_law_1683 dL_law_1685 dL_law_1688 dL_law_1689 dL_law_1690 dL_law_1691 dL_law_1693 dL_law_1694 dL_law_1695 dL_law_1700
set_option maxHeartbeats 4000000 in
set_option maxRecDepth 100000 in
theorem lc_clearest {p : Program} {l : Launch} {e : Env} {s : State} {m : MethodId} {args : Array Value} {below : List Frame} {meth : Method} {c : Code} {D : va_G} {cI cC cJ cDD : ClassId} {T : Nat → Nat} {b L : Nat} {xs : Nat → Int32} {E F : Nat → Nat} {o od : Nat} {Q : State → Prop} {i : Int} {cells slots : Nat} (K : LC p l s m args c D cI cC cJ cDD T b L xs) (h0 : 0 ≤ i) (h4 : i + 4 ≤ L) (hcr : cells + 2 ≤ room_1.cells ∧ slots + 12 ≤ room_1.slots) (kont : LK p l e s m args below meth c D cI cC cJ cDD E F o od b i Q cells slots) {C G : Mem} {f : Nat → Int64} {fd : Nat → UInt64} {H : Heap} {locs : List Loc} {ls : Array Slot} (hR : RelR C G) (hP : va_P D vwCl (VL E F cI cC cJ cDD o od C G f fd) H) (hD : va_D (lA s) (VL E F cI cC cJ cDD o od C G f fd)) (hS : va_S (lA s) s.heap H locs) (hl : lv_has ls 9 [(0, .ref b), (1, .ref (E 0)), (2, .ref (F 0)), (3, .ref o), (4, .ref od), (5, .int (iI i))]) : W p l e room_1 s m args below meth c H locs cells slots Q (F0 m 1703 ls []) := by
  have hst := K.2.2.2.2.2.2.2.2.2.2.1
  obtain ⟨hx, hb, hml, hown, hts, -, -, hK, -, -, -, hL⟩ := id K
  have hs := s_clearest hR (sc xs (i + 1))
  refine lv_aload_n hx hb dL_law_1703 rfl (lv_at hl 1 rfl) ?_
  refine lv_aload_n hx hb dL_law_1704 rfl (lv_at hl 0 rfl) ?_
  refine lv_iload hx hb dL_law_1705 (lv_at hl 5 rfl) ?_
  refine lv_iconst (v := iI 1) hx hb dL_law_1707 rfl ?_
  refine z_iadd hx hb dL_law_1708 ?_
  refine z_sld K hS (by omega) (by omega) dL_law_1709 ?_
  refine lv_aload_n hx hb dL_law_1710 rfl (lv_at hl 3 rfl) ?_
  refine lw_hl (n := 1) (As := [.ref (E 0), .int (iI (sc xs (i + 1))), .ref o]) (rest := []) K (hX_clearest l hst D E cI cC cJ cDD T o C (sc xs (i + 1)) (sc_r xs _) (rl_CI hR) (rl_SI hR) (fX8_clearest C (sc xs (i + 1))).1 (fX8_clearest C (sc xs (i + 1))).2.1 (fX8_clearest C (sc xs (i + 1))).2.2 rfl ((fX9_clearest G (sc xs (i + 1))).2 26 0) hs.2.1) (vx_cwSW 3 hts gL_law_L_clearest rfl rfl rfl (by decide +kernel) ⟨Nat.le_of_ble_eq_true rfl, Nat.le_of_ble_eq_true rfl⟩) hP hD hS rfl hl.1 rfl (Nat.le_of_ble_eq_true rfl) dL_law_1711 ⟨by omega, by omega⟩ (fun f' H locs hf' hP hD hS => ?_)
  refine lv_istore (lv' := [(6, .int (iI ((fX9_clearest G (sc xs (i + 1))).2 26 0))), (0, .ref b), (1, .ref (E 0)), (2, .ref (F 0)), (3, .ref o), (4, .ref od), (5, .int (iI i))]) hx hb dL_law_1714 hl (by decide) rfl (fun ls hl => ?_)
  refine lv_aload_n hx hb dL_law_1716 rfl (lv_at hl 3 rfl) ?_
  refine lv_aload_n hx hb dL_law_1717 rfl (lv_at hl 1 rfl) ?_
  refine lv_iload hx hb dL_law_1718 (lv_at hl 6 rfl) ?_
  refine lv_iconst (v := iI 1) hx hb dL_law_1720 rfl ?_
  refine z_iadd hx hb dL_law_1721 ?_
  refine z_sld K hS (by omega) (by omega) dL_law_1722 ?_
  refine lw_gi (As := [.int (iI (sc xs (i + 1)))]) (rest := []) K (kX9_clearest l D F cI cC ztr (fun _ => ztr_o) ztr_b G (sc xs (i + 1)) (sc_r xs _) (rl_GI hR) (fX9_clearest G (sc xs (i + 1))).1 (fX9_clearest G (sc xs (i + 1))).2 rfl) (cwV 1 hts gL_law_X9_clearest rfl rfl rfl (by decide +kernel) ⟨Nat.le_of_ble_eq_true rfl, Nat.le_of_ble_eq_true rfl⟩) hP hD hS rfl hl.1 rfl (Nat.le_of_ble_eq_true rfl) dL_law_1723 ⟨by omega, by omega⟩ (fun H locs hP hD hS => ?_)
  refine lv_istore (lv' := [(7, .int (iI (fX9_clearest G (sc xs (i + 1))).1)), (6, .int (iI ((fX9_clearest G (sc xs (i + 1))).2 26 0))), (0, .ref b), (1, .ref (E 0)), (2, .ref (F 0)), (3, .ref o), (4, .ref od), (5, .int (iI i))]) hx hb dL_law_1726 hl (by decide) rfl (fun ls hl => ?_)
  exact lw_tail (k := (fX8_clearest C (sc xs (i + 1))).1) (c0 := cells) (s0 := slots) K hs.1 rfl (AnsL_r hs.2.1 (by decide)).1 (fun hz => by rw [hf' ((AnsL_r hs.2.1 (by decide)).2 hz)]; exact congrArg (fun z => (iI z).toInt64) (hs.2.2 ((AnsL_r hs.2.1 (by decide)).2 hz))) hP hD hS hl (by omega) (by omega) ⟨by omega, by omega⟩ kont (by decide) dL_law_1728 dL_law_1729 dL_law_1732 dL_law_1734 dL_law_1739 dL_law_1741 dL_law_1744 dL_law_1745 dL_law_1746 dL_law_1747 dL_law_1749 dL_law_1750 dL_law_1751 dL_law_1756
set_option maxHeartbeats 4000000 in
set_option maxRecDepth 100000 in
theorem lc_worn {p : Program} {l : Launch} {e : Env} {s : State} {m : MethodId} {args : Array Value} {below : List Frame} {meth : Method} {c : Code} {D : va_G} {cI cC cJ cDD : ClassId} {T : Nat → Nat} {b L : Nat} {xs : Nat → Int32} {E F : Nat → Nat} {o od : Nat} {Q : State → Prop} {i : Int} {cells slots : Nat} (K : LC p l s m args c D cI cC cJ cDD T b L xs) (h0 : 0 ≤ i) (h4 : i + 4 ≤ L) (hcr : cells + 2 ≤ room_1.cells ∧ slots + 12 ≤ room_1.slots) (kont : LK p l e s m args below meth c D cI cC cJ cDD E F o od b i Q cells slots) {C G : Mem} {f : Nat → Int64} {fd : Nat → UInt64} {H : Heap} {locs : List Loc} {ls : Array Slot} (hR : RelR C G) (hP : va_P D vwCl (VL E F cI cC cJ cDD o od C G f fd) H) (hD : va_D (lA s) (VL E F cI cC cJ cDD o od C G f fd)) (hS : va_S (lA s) s.heap H locs) (hl : lv_has ls 9 [(0, .ref b), (1, .ref (E 0)), (2, .ref (F 0)), (3, .ref o), (4, .ref od), (5, .int (iI i))]) : W p l e room_1 s m args below meth c H locs cells slots Q (F0 m 1759 ls []) := by
  have hst := K.2.2.2.2.2.2.2.2.2.2.1
  obtain ⟨hx, hb, hml, hown, hts, -, -, hK, -, -, -, hL⟩ := id K
  have hs := s_worn hR (sc xs (i + 1))
  refine lv_aload_n hx hb dL_law_1759 rfl (lv_at hl 1 rfl) ?_
  refine lv_aload_n hx hb dL_law_1760 rfl (lv_at hl 0 rfl) ?_
  refine lv_iload hx hb dL_law_1761 (lv_at hl 5 rfl) ?_
  refine lv_iconst (v := iI 1) hx hb dL_law_1763 rfl ?_
  refine z_iadd hx hb dL_law_1764 ?_
  refine z_sld K hS (by omega) (by omega) dL_law_1765 ?_
  refine lv_aload_n hx hb dL_law_1766 rfl (lv_at hl 3 rfl) ?_
  refine lw_hl (n := 1) (As := [.ref (E 0), .int (iI (sc xs (i + 1))), .ref o]) (rest := []) K (hX_worn l hst D E cI cC cJ cDD T o C (sc xs (i + 1)) (sc_r xs _) (rl_CI hR) (fX8_worn C (sc xs (i + 1))).1 (fX8_worn C (sc xs (i + 1))).2 rfl ((fX9_worn G (sc xs (i + 1))).2 26 0) hs.2.1) (vx_cwSW 3 hts gL_law_L_worn rfl rfl rfl (by decide +kernel) ⟨Nat.le_of_ble_eq_true rfl, Nat.le_of_ble_eq_true rfl⟩) hP hD hS rfl hl.1 rfl (Nat.le_of_ble_eq_true rfl) dL_law_1767 ⟨by omega, by omega⟩ (fun f' H locs hf' hP hD hS => ?_)
  refine lv_istore (lv' := [(6, .int (iI ((fX9_worn G (sc xs (i + 1))).2 26 0))), (0, .ref b), (1, .ref (E 0)), (2, .ref (F 0)), (3, .ref o), (4, .ref od), (5, .int (iI i))]) hx hb dL_law_1770 hl (by decide) rfl (fun ls hl => ?_)
  refine lv_aload_n hx hb dL_law_1772 rfl (lv_at hl 3 rfl) ?_
  refine lv_aload_n hx hb dL_law_1773 rfl (lv_at hl 1 rfl) ?_
  refine lv_iload hx hb dL_law_1774 (lv_at hl 6 rfl) ?_
  refine lv_iconst (v := iI 1) hx hb dL_law_1776 rfl ?_
  refine z_iadd hx hb dL_law_1777 ?_
  refine z_sld K hS (by omega) (by omega) dL_law_1778 ?_
  refine lw_gi (As := [.int (iI (sc xs (i + 1)))]) (rest := []) K (kX9_worn l D F cI cC ztr (fun _ => ztr_o) ztr_b G (sc xs (i + 1)) (sc_r xs _) (rl_GI hR) (fX9_worn G (sc xs (i + 1))).1 (fX9_worn G (sc xs (i + 1))).2 rfl) (cwV 1 hts gL_law_X9_worn rfl rfl rfl (by decide +kernel) ⟨Nat.le_of_ble_eq_true rfl, Nat.le_of_ble_eq_true rfl⟩) hP hD hS rfl hl.1 rfl (Nat.le_of_ble_eq_true rfl) dL_law_1779 ⟨by omega, by omega⟩ (fun H locs hP hD hS => ?_)
  refine lv_istore (lv' := [(7, .int (iI (fX9_worn G (sc xs (i + 1))).1)), (6, .int (iI ((fX9_worn G (sc xs (i + 1))).2 26 0))), (0, .ref b), (1, .ref (E 0)), (2, .ref (F 0)), (3, .ref o), (4, .ref od), (5, .int (iI i))]) hx hb dL_law_1782 hl (by decide) rfl (fun ls hl => ?_)
  exact lw_tail (k := (fX8_worn C (sc xs (i + 1))).1) (c0 := cells) (s0 := slots) K hs.1 rfl (AnsL_r hs.2.1 (by decide)).1 (fun hz => by rw [hf' ((AnsL_r hs.2.1 (by decide)).2 hz)]; exact congrArg (fun z => (iI z).toInt64) (hs.2.2 ((AnsL_r hs.2.1 (by decide)).2 hz))) hP hD hS hl (by omega) (by omega) ⟨by omega, by omega⟩ kont (by decide) dL_law_1784 dL_law_1785 dL_law_1788 dL_law_1790 dL_law_1795 dL_law_1797 dL_law_1800 dL_law_1801 dL_law_1802 dL_law_1803 dL_law_1805 dL_law_1806 dL_law_1807 dL_law_1812
set_option maxHeartbeats 4000000 in
set_option maxRecDepth 100000 in
theorem lc_isWell {p : Program} {l : Launch} {e : Env} {s : State} {m : MethodId} {args : Array Value} {below : List Frame} {meth : Method} {c : Code} {D : va_G} {cI cC cJ cDD : ClassId} {T : Nat → Nat} {b L : Nat} {xs : Nat → Int32} {E F : Nat → Nat} {o od : Nat} {Q : State → Prop} {i : Int} {cells slots : Nat} (K : LC p l s m args c D cI cC cJ cDD T b L xs) (h0 : 0 ≤ i) (h4 : i + 4 ≤ L) (hcr : cells + 2 ≤ room_1.cells ∧ slots + 12 ≤ room_1.slots) (kont : LK p l e s m args below meth c D cI cC cJ cDD E F o od b i Q cells slots) {C G : Mem} {f : Nat → Int64} {fd : Nat → UInt64} {H : Heap} {locs : List Loc} {ls : Array Slot} (hR : RelR C G) (hP : va_P D vwCl (VL E F cI cC cJ cDD o od C G f fd) H) (hD : va_D (lA s) (VL E F cI cC cJ cDD o od C G f fd)) (hS : va_S (lA s) s.heap H locs) (hl : lv_has ls 9 [(0, .ref b), (1, .ref (E 0)), (2, .ref (F 0)), (3, .ref o), (4, .ref od), (5, .int (iI i))]) : W p l e room_1 s m args below meth c H locs cells slots Q (F0 m 1815 ls []) := by
  have hst := K.2.2.2.2.2.2.2.2.2.2.1
  obtain ⟨hx, hb, hml, hown, hts, -, -, hK, -, -, -, hL⟩ := id K
  have hs := s_isWell hR
  refine lv_aload_n hx hb dL_law_1815 rfl (lv_at hl 1 rfl) ?_
  refine lw_ci (As := []) (rest := []) K (kX8_isWell l D E cI cC ztr (fun _ => ztr_o) ztr_b C (rl_CI hR) (rl_SI hR) (fX8_isWell C).1 (fX8_isWell C).2 rfl) (cwV 0 hts gL_law_X8_isWell rfl rfl rfl (by decide +kernel) ⟨Nat.le_of_ble_eq_true rfl, Nat.le_of_ble_eq_true rfl⟩) hP hD hS rfl hl.1 rfl (Nat.le_of_ble_eq_true rfl) dL_law_1816 ⟨by omega, by omega⟩ (fun H locs hP hD hS => ?_)
  refine lv_aload_n hx hb dL_law_1819 rfl (lv_at hl 2 rfl) ?_
  refine lw_gi (As := []) (rest := [.int (iI (fX8_isWell C).1)]) K (kX9_isWell l D F cI cC ztr (fun _ => ztr_o) ztr_b G (fX9_isWell G).1 (fX9_isWell G).2 rfl) (cwV 0 hts gL_law_X9_isWell rfl rfl rfl (by decide +kernel) ⟨Nat.le_of_ble_eq_true rfl, Nat.le_of_ble_eq_true rfl⟩) hP hD hS rfl hl.1 rfl (Nat.le_of_ble_eq_true rfl) dL_law_1820 ⟨by omega, by omega⟩ (fun H locs hP hD hS => ?_)
  refine lv_icmp_eq (tgt := 2530) hx hb dL_law_1823 (by decide) (fun _ => ?_) (fun h => absurd (by rw [hs.2.1, hs.2.2]) h)
  exact W.widen (by omega) (by omega) (kont _ _ f fd H locs ls hs.1 hP hD hS (lv_sub hl [0, 1, 2, 3, 4, 5] rfl))
set_option maxHeartbeats 4000000 in
set_option maxRecDepth 100000 in
theorem lc_type {p : Program} {l : Launch} {e : Env} {s : State} {m : MethodId} {args : Array Value} {below : List Frame} {meth : Method} {c : Code} {D : va_G} {cI cC cJ cDD : ClassId} {T : Nat → Nat} {b L : Nat} {xs : Nat → Int32} {E F : Nat → Nat} {o od : Nat} {Q : State → Prop} {i : Int} {cells slots : Nat} (K : LC p l s m args c D cI cC cJ cDD T b L xs) (h0 : 0 ≤ i) (h4 : i + 4 ≤ L) (hcr : cells + 2 ≤ room_1.cells ∧ slots + 12 ≤ room_1.slots) (kont : LK p l e s m args below meth c D cI cC cJ cDD E F o od b i Q cells slots) {C G : Mem} {f : Nat → Int64} {fd : Nat → UInt64} {H : Heap} {locs : List Loc} {ls : Array Slot} (hR : RelR C G) (hP : va_P D vwCl (VL E F cI cC cJ cDD o od C G f fd) H) (hD : va_D (lA s) (VL E F cI cC cJ cDD o od C G f fd)) (hS : va_S (lA s) s.heap H locs) (hl : lv_has ls 9 [(0, .ref b), (1, .ref (E 0)), (2, .ref (F 0)), (3, .ref o), (4, .ref od), (5, .int (iI i))]) : W p l e room_1 s m args below meth c H locs cells slots Q (F0 m 1828 ls []) := by
  have hst := K.2.2.2.2.2.2.2.2.2.2.1
  obtain ⟨hx, hb, hml, hown, hts, -, -, hK, -, -, -, hL⟩ := id K
  have hs := s_type hR (ch := c16 (sc xs (i + 1))) (c16_r _)
  refine lv_aload_n hx hb dL_law_1828 rfl (lv_at hl 1 rfl) ?_
  refine lv_aload_n hx hb dL_law_1829 rfl (lv_at hl 0 rfl) ?_
  refine lv_iload hx hb dL_law_1830 (lv_at hl 5 rfl) ?_
  refine lv_iconst (v := iI 1) hx hb dL_law_1832 rfl ?_
  refine z_iadd hx hb dL_law_1833 ?_
  refine z_sld K hS (by omega) (by omega) dL_law_1834 ?_
  refine z_i2cA hx hb dL_law_1835 ?_
  refine lv_aload_n hx hb dL_law_1836 rfl (lv_at hl 3 rfl) ?_
  refine lw_hl (n := 1) (As := [.ref (E 0), .int (iI (c16 (sc xs (i + 1)))), .ref o]) (rest := []) K (hX_type l hst D E cI cC cJ cDD T o C (c16 (sc xs (i + 1))) (c16_r _) (rl_TI hR) (fX8_type C (c16 (sc xs (i + 1)))).1 (fX8_type C (c16 (sc xs (i + 1)))).2.1 (fX8_type C (c16 (sc xs (i + 1)))).2.2 rfl ((fX9_type G (c16 (sc xs (i + 1)))).2 26 0) hs.2.1) (vx_cwSW 3 hts gL_law_L_type rfl rfl rfl (by decide +kernel) ⟨Nat.le_of_ble_eq_true rfl, Nat.le_of_ble_eq_true rfl⟩) hP hD hS rfl hl.1 rfl (Nat.le_of_ble_eq_true rfl) dL_law_1837 ⟨by omega, by omega⟩ (fun f' H locs hf' hP hD hS => ?_)
  refine lv_istore (lv' := [(6, .int (iI ((fX9_type G (c16 (sc xs (i + 1)))).2 26 0))), (0, .ref b), (1, .ref (E 0)), (2, .ref (F 0)), (3, .ref o), (4, .ref od), (5, .int (iI i))]) hx hb dL_law_1840 hl (by decide) rfl (fun ls hl => ?_)
  refine lv_aload_n hx hb dL_law_1842 rfl (lv_at hl 3 rfl) ?_
  refine lv_aload_n hx hb dL_law_1843 rfl (lv_at hl 1 rfl) ?_
  refine lv_iload hx hb dL_law_1844 (lv_at hl 6 rfl) ?_
  refine lv_iconst (v := iI 1) hx hb dL_law_1846 rfl ?_
  refine z_iadd hx hb dL_law_1847 ?_
  refine z_sld K hS (by omega) (by omega) dL_law_1848 ?_
  refine z_i2cA hx hb dL_law_1849 ?_
  refine lw_gi (As := [.int (iI (c16 (sc xs (i + 1))))]) (rest := []) K (kX9_type l D F cI cC ztr (fun _ => ztr_o) ztr_b G (c16 (sc xs (i + 1))) (c16_r _) (rl_RI hR) (fX9_type G (c16 (sc xs (i + 1)))).1 (fX9_type G (c16 (sc xs (i + 1)))).2 rfl) (cwV 1 hts gL_law_X9_type rfl rfl rfl (by decide +kernel) ⟨Nat.le_of_ble_eq_true rfl, Nat.le_of_ble_eq_true rfl⟩) hP hD hS rfl hl.1 rfl (Nat.le_of_ble_eq_true rfl) dL_law_1850 ⟨by omega, by omega⟩ (fun H locs hP hD hS => ?_)
  refine lv_istore (lv' := [(7, .int (iI (fX9_type G (c16 (sc xs (i + 1)))).1)), (6, .int (iI ((fX9_type G (c16 (sc xs (i + 1)))).2 26 0))), (0, .ref b), (1, .ref (E 0)), (2, .ref (F 0)), (3, .ref o), (4, .ref od), (5, .int (iI i))]) hx hb dL_law_1853 hl (by decide) rfl (fun ls hl => ?_)
  exact lw_tail (k := (fX8_type C (c16 (sc xs (i + 1)))).1) (c0 := cells) (s0 := slots) K hs.1 rfl (AnsL_r hs.2.1 (by decide)).1 (fun hz => by rw [hf' ((AnsL_r hs.2.1 (by decide)).2 hz)]; exact congrArg (fun z => (iI z).toInt64) (hs.2.2 ((AnsL_r hs.2.1 (by decide)).2 hz))) hP hD hS hl (by omega) (by omega) ⟨by omega, by omega⟩ kont (by decide) dL_law_1855 dL_law_1856 dL_law_1859 dL_law_1861 dL_law_1866 dL_law_1868 dL_law_1871 dL_law_1872 dL_law_1873 dL_law_1874 dL_law_1876 dL_law_1877 dL_law_1878 dL_law_1883
set_option maxHeartbeats 4000000 in
set_option maxRecDepth 100000 in
theorem lc_read {p : Program} {l : Launch} {e : Env} {s : State} {m : MethodId} {args : Array Value} {below : List Frame} {meth : Method} {c : Code} {D : va_G} {cI cC cJ cDD : ClassId} {T : Nat → Nat} {b L : Nat} {xs : Nat → Int32} {E F : Nat → Nat} {o od : Nat} {Q : State → Prop} {i : Int} {cells slots : Nat} (K : LC p l s m args c D cI cC cJ cDD T b L xs) (h0 : 0 ≤ i) (h4 : i + 4 ≤ L) (hcr : cells + 2 ≤ room_1.cells ∧ slots + 12 ≤ room_1.slots) (kont : LK p l e s m args below meth c D cI cC cJ cDD E F o od b i Q cells slots) {C G : Mem} {f : Nat → Int64} {fd : Nat → UInt64} {H : Heap} {locs : List Loc} {ls : Array Slot} (hR : RelR C G) (hP : va_P D vwCl (VL E F cI cC cJ cDD o od C G f fd) H) (hD : va_D (lA s) (VL E F cI cC cJ cDD o od C G f fd)) (hS : va_S (lA s) s.heap H locs) (hl : lv_has ls 9 [(0, .ref b), (1, .ref (E 0)), (2, .ref (F 0)), (3, .ref o), (4, .ref od), (5, .int (iI i))]) : W p l e room_1 s m args below meth c H locs cells slots Q (F0 m 1886 ls []) := by
  have hst := K.2.2.2.2.2.2.2.2.2.2.1
  obtain ⟨hx, hb, hml, hown, hts, -, -, hK, -, -, -, hL⟩ := id K
  have hs := s_read hR
  refine lv_aload_n hx hb dL_law_1886 rfl (lv_at hl 1 rfl) ?_
  refine lv_aload_n hx hb dL_law_1887 rfl (lv_at hl 3 rfl) ?_
  refine lw_hl (n := 1) (As := [.ref (E 0), .ref o]) (rest := []) K (hX_read l hst D E cI cC cJ cDD T o C (rl_CI hR) (rl_SI hR) (rl_TI hR) (rl_HN hR) (fX8_read C).1 (fX8_read C).2.1 (fX8_read C).2.2 rfl ((fX9_read G).2 26 0) hs.2.1) (vx_cwSW 2 hts gL_law_L_read rfl rfl rfl (by decide +kernel) ⟨Nat.le_of_ble_eq_true rfl, Nat.le_of_ble_eq_true rfl⟩) hP hD hS rfl hl.1 rfl (Nat.le_of_ble_eq_true rfl) dL_law_1888 ⟨by omega, by omega⟩ (fun f' H locs hf' hP hD hS => ?_)
  refine lv_istore (lv' := [(6, .int (iI ((fX9_read G).2 26 0))), (0, .ref b), (1, .ref (E 0)), (2, .ref (F 0)), (3, .ref o), (4, .ref od), (5, .int (iI i))]) hx hb dL_law_1891 hl (by decide) rfl (fun ls hl => ?_)
  refine lv_aload_n hx hb dL_law_1893 rfl (lv_at hl 3 rfl) ?_
  refine lw_gi (As := []) (rest := []) K (kX9_read l D F cI cC ztr (fun _ => ztr_o) ztr_b G (rl_GI hR) (rl_RI hR) (rl_CH hR) (rl_TL hR) (rl_g23 hR) (fX9_read G).1 (fX9_read G).2 rfl) (cwV 0 hts gL_law_X9_read rfl rfl rfl (by decide +kernel) ⟨Nat.le_of_ble_eq_true rfl, Nat.le_of_ble_eq_true rfl⟩) hP hD hS rfl hl.1 rfl (Nat.le_of_ble_eq_true rfl) dL_law_1894 ⟨by omega, by omega⟩ (fun H locs hP hD hS => ?_)
  refine lv_istore (lv' := [(7, .int (iI (fX9_read G).1)), (6, .int (iI ((fX9_read G).2 26 0))), (0, .ref b), (1, .ref (E 0)), (2, .ref (F 0)), (3, .ref o), (4, .ref od), (5, .int (iI i))]) hx hb dL_law_1897 hl (by decide) rfl (fun ls hl => ?_)
  exact lw_tail (k := (fX8_read C).1) (c0 := cells) (s0 := slots) K hs.1 rfl (AnsL_r hs.2.1 (by decide)).1 (fun hz => by rw [hf' ((AnsL_r hs.2.1 (by decide)).2 hz)]; exact congrArg (fun z => (iI z).toInt64) (hs.2.2 ((AnsL_r hs.2.1 (by decide)).2 hz))) hP hD hS hl (by omega) (by omega) ⟨by omega, by omega⟩ kont (by decide) dL_law_1899 dL_law_1900 dL_law_1903 dL_law_1905 dL_law_1910 dL_law_1912 dL_law_1915 dL_law_1916 dL_law_1917 dL_law_1918 dL_law_1920 dL_law_1921 dL_law_1922 dL_law_1927
set_option maxHeartbeats 4000000 in
set_option maxRecDepth 100000 in
theorem lc_errorPosition {p : Program} {l : Launch} {e : Env} {s : State} {m : MethodId} {args : Array Value} {below : List Frame} {meth : Method} {c : Code} {D : va_G} {cI cC cJ cDD : ClassId} {T : Nat → Nat} {b L : Nat} {xs : Nat → Int32} {E F : Nat → Nat} {o od : Nat} {Q : State → Prop} {i : Int} {cells slots : Nat} (K : LC p l s m args c D cI cC cJ cDD T b L xs) (h0 : 0 ≤ i) (h4 : i + 4 ≤ L) (hcr : cells + 2 ≤ room_1.cells ∧ slots + 12 ≤ room_1.slots) (kont : LK p l e s m args below meth c D cI cC cJ cDD E F o od b i Q cells slots) {C G : Mem} {f : Nat → Int64} {fd : Nat → UInt64} {H : Heap} {locs : List Loc} {ls : Array Slot} (hR : RelR C G) (hP : va_P D vwCl (VL E F cI cC cJ cDD o od C G f fd) H) (hD : va_D (lA s) (VL E F cI cC cJ cDD o od C G f fd)) (hS : va_S (lA s) s.heap H locs) (hl : lv_has ls 9 [(0, .ref b), (1, .ref (E 0)), (2, .ref (F 0)), (3, .ref o), (4, .ref od), (5, .int (iI i))]) : W p l e room_1 s m args below meth c H locs cells slots Q (F0 m 1930 ls []) := by
  have hst := K.2.2.2.2.2.2.2.2.2.2.1
  obtain ⟨hx, hb, hml, hown, hts, -, -, hK, -, -, -, hL⟩ := id K
  have hs := s_errorPosition hR
  refine lv_aload_n hx hb dL_law_1930 rfl (lv_at hl 1 rfl) ?_
  refine lv_aload_n hx hb dL_law_1931 rfl (lv_at hl 3 rfl) ?_
  refine lw_hl (n := 1) (As := [.ref (E 0), .ref o]) (rest := []) K (hX_errorPosition l hst D E cI cC cJ cDD T o C (rl_c17 hR) (fX8_errorPosition C).1 (fX8_errorPosition C).2 rfl ((fX9_errorPosition G).2 26 0) hs.2.1) (vx_cwSW 2 hts gL_law_L_errorPosition rfl rfl rfl (by decide +kernel) ⟨Nat.le_of_ble_eq_true rfl, Nat.le_of_ble_eq_true rfl⟩) hP hD hS rfl hl.1 rfl (Nat.le_of_ble_eq_true rfl) dL_law_1932 ⟨by omega, by omega⟩ (fun f' H locs hf' hP hD hS => ?_)
  refine lv_istore (lv' := [(6, .int (iI ((fX9_errorPosition G).2 26 0))), (0, .ref b), (1, .ref (E 0)), (2, .ref (F 0)), (3, .ref o), (4, .ref od), (5, .int (iI i))]) hx hb dL_law_1935 hl (by decide) rfl (fun ls hl => ?_)
  refine lv_aload_n hx hb dL_law_1937 rfl (lv_at hl 3 rfl) ?_
  refine lw_gi (As := []) (rest := []) K (kX9_errorPosition l D F cI cC ztr (fun _ => ztr_o) ztr_b G (rl_g18 hR) (fX9_errorPosition G).1 (fX9_errorPosition G).2 rfl) (cwV 0 hts gL_law_X9_errorPosition rfl rfl rfl (by decide +kernel) ⟨Nat.le_of_ble_eq_true rfl, Nat.le_of_ble_eq_true rfl⟩) hP hD hS rfl hl.1 rfl (Nat.le_of_ble_eq_true rfl) dL_law_1938 ⟨by omega, by omega⟩ (fun H locs hP hD hS => ?_)
  refine lv_istore (lv' := [(7, .int (iI (fX9_errorPosition G).1)), (6, .int (iI ((fX9_errorPosition G).2 26 0))), (0, .ref b), (1, .ref (E 0)), (2, .ref (F 0)), (3, .ref o), (4, .ref od), (5, .int (iI i))]) hx hb dL_law_1941 hl (by decide) rfl (fun ls hl => ?_)
  exact lw_tail (k := (fX8_errorPosition C).1) (c0 := cells) (s0 := slots) K hs.1 rfl (AnsL_r hs.2.1 (by decide)).1 (fun hz => by rw [hf' ((AnsL_r hs.2.1 (by decide)).2 hz)]; exact congrArg (fun z => (iI z).toInt64) (hs.2.2 ((AnsL_r hs.2.1 (by decide)).2 hz))) hP hD hS hl (by omega) (by omega) ⟨by omega, by omega⟩ kont (by decide) dL_law_1943 dL_law_1944 dL_law_1947 dL_law_1949 dL_law_1954 dL_law_1956 dL_law_1959 dL_law_1960 dL_law_1961 dL_law_1962 dL_law_1964 dL_law_1965 dL_law_1966 dL_law_1971
set_option maxHeartbeats 4000000 in
set_option maxRecDepth 100000 in
theorem lc_refusal {p : Program} {l : Launch} {e : Env} {s : State} {m : MethodId} {args : Array Value} {below : List Frame} {meth : Method} {c : Code} {D : va_G} {cI cC cJ cDD : ClassId} {T : Nat → Nat} {b L : Nat} {xs : Nat → Int32} {E F : Nat → Nat} {o od : Nat} {Q : State → Prop} {i : Int} {cells slots : Nat} (K : LC p l s m args c D cI cC cJ cDD T b L xs) (h0 : 0 ≤ i) (h4 : i + 4 ≤ L) (hcr : cells + 2 ≤ room_1.cells ∧ slots + 12 ≤ room_1.slots) (kont : LK p l e s m args below meth c D cI cC cJ cDD E F o od b i Q cells slots) {C G : Mem} {f : Nat → Int64} {fd : Nat → UInt64} {H : Heap} {locs : List Loc} {ls : Array Slot} (hR : RelR C G) (hP : va_P D vwCl (VL E F cI cC cJ cDD o od C G f fd) H) (hD : va_D (lA s) (VL E F cI cC cJ cDD o od C G f fd)) (hS : va_S (lA s) s.heap H locs) (hl : lv_has ls 9 [(0, .ref b), (1, .ref (E 0)), (2, .ref (F 0)), (3, .ref o), (4, .ref od), (5, .int (iI i))]) : W p l e room_1 s m args below meth c H locs cells slots Q (F0 m 1974 ls []) := by
  have hst := K.2.2.2.2.2.2.2.2.2.2.1
  obtain ⟨hx, hb, hml, hown, hts, -, -, hK, -, -, -, hL⟩ := id K
  have hs := s_refusal hR (a := bz (¬ (sc xs (i + 1)) = 0)) (b := bz (¬ (sc xs (i + 2)) = 0))
  refine lv_aload_n hx hb dL_law_1974 rfl (lv_at hl 1 rfl) ?_
  refine lv_aload_n hx hb dL_law_1975 rfl (lv_at hl 0 rfl) ?_
  refine lv_iload hx hb dL_law_1976 (lv_at hl 5 rfl) ?_
  refine lv_iconst (v := iI 1) hx hb dL_law_1978 rfl ?_
  refine z_iadd hx hb dL_law_1979 ?_
  refine z_sld K hS (by omega) (by omega) dL_law_1980 ?_
  refine z_nz hx hb (sc_r xs _) dL_law_1981 dL_law_1984 dL_law_1985 dL_law_1988 ?_
  refine lv_aload_n hx hb dL_law_1989 rfl (lv_at hl 0 rfl) ?_
  refine lv_iload hx hb dL_law_1990 (lv_at hl 5 rfl) ?_
  refine lv_iconst (v := iI 2) hx hb dL_law_1992 rfl ?_
  refine z_iadd hx hb dL_law_1993 ?_
  refine z_sld K hS (by omega) (by omega) dL_law_1994 ?_
  refine z_nz hx hb (sc_r xs _) dL_law_1995 dL_law_1998 dL_law_1999 dL_law_2002 ?_
  refine lv_aload_n hx hb dL_law_2003 rfl (lv_at hl 3 rfl) ?_
  refine lw_hl (n := 1) (As := [.ref (E 0), .int (iI (bz (¬ (sc xs (i + 1)) = 0))), .int (iI (bz (¬ (sc xs (i + 2)) = 0))), .ref o]) (rest := []) K (hX_refusal l hst D E cI cC cJ cDD T o C (bz (¬ (sc xs (i + 1)) = 0)) (bz (¬ (sc xs (i + 2)) = 0)) (bz_in _) (bz_in _) (rl_c18 hR) (rl_c19 hR) (fX8_refusal C (bz (¬ (sc xs (i + 1)) = 0)) (bz (¬ (sc xs (i + 2)) = 0))).1 (fX8_refusal C (bz (¬ (sc xs (i + 1)) = 0)) (bz (¬ (sc xs (i + 2)) = 0))).2 rfl ((fX9_refusal G (bz (¬ (sc xs (i + 1)) = 0)) (bz (¬ (sc xs (i + 2)) = 0))).2 26 0) hs.2.1) (vx_cwSW 4 hts gL_law_L_refusal rfl rfl rfl (by decide +kernel) ⟨Nat.le_of_ble_eq_true rfl, Nat.le_of_ble_eq_true rfl⟩) hP hD hS rfl hl.1 rfl (Nat.le_of_ble_eq_true rfl) dL_law_2004 ⟨by omega, by omega⟩ (fun f' H locs hf' hP hD hS => ?_)
  refine lv_istore (lv' := [(6, .int (iI ((fX9_refusal G (bz (¬ (sc xs (i + 1)) = 0)) (bz (¬ (sc xs (i + 2)) = 0))).2 26 0))), (0, .ref b), (1, .ref (E 0)), (2, .ref (F 0)), (3, .ref o), (4, .ref od), (5, .int (iI i))]) hx hb dL_law_2007 hl (by decide) rfl (fun ls hl => ?_)
  refine lv_aload_n hx hb dL_law_2009 rfl (lv_at hl 3 rfl) ?_
  refine lv_aload_n hx hb dL_law_2010 rfl (lv_at hl 1 rfl) ?_
  refine lv_iload hx hb dL_law_2011 (lv_at hl 6 rfl) ?_
  refine lv_iconst (v := iI 1) hx hb dL_law_2013 rfl ?_
  refine z_iadd hx hb dL_law_2014 ?_
  refine z_sld K hS (by omega) (by omega) dL_law_2015 ?_
  refine z_nz hx hb (sc_r xs _) dL_law_2016 dL_law_2019 dL_law_2020 dL_law_2023 ?_
  refine lv_aload_n hx hb dL_law_2024 rfl (lv_at hl 1 rfl) ?_
  refine lv_iload hx hb dL_law_2025 (lv_at hl 6 rfl) ?_
  refine lv_iconst (v := iI 2) hx hb dL_law_2027 rfl ?_
  refine z_iadd hx hb dL_law_2028 ?_
  refine z_sld K hS (by omega) (by omega) dL_law_2029 ?_
  refine z_nz hx hb (sc_r xs _) dL_law_2030 dL_law_2033 dL_law_2034 dL_law_2037 ?_
  refine lw_gi (As := [.int (iI (bz (¬ (sc xs (i + 1)) = 0))), .int (iI (bz (¬ (sc xs (i + 2)) = 0)))]) (rest := []) K (kX9_refusal l D F cI cC ztr (fun _ => ztr_o) ztr_b G (bz (¬ (sc xs (i + 1)) = 0)) (bz (¬ (sc xs (i + 2)) = 0)) (bz_in _) (bz_in _) (rl_g19 hR) (rl_g21 hR) (fX9_refusal G (bz (¬ (sc xs (i + 1)) = 0)) (bz (¬ (sc xs (i + 2)) = 0))).1 (fX9_refusal G (bz (¬ (sc xs (i + 1)) = 0)) (bz (¬ (sc xs (i + 2)) = 0))).2 rfl) (cwV 2 hts gL_law_X9_refusal rfl rfl rfl (by decide +kernel) ⟨Nat.le_of_ble_eq_true rfl, Nat.le_of_ble_eq_true rfl⟩) hP hD hS rfl hl.1 rfl (Nat.le_of_ble_eq_true rfl) dL_law_2038 ⟨by omega, by omega⟩ (fun H locs hP hD hS => ?_)
  refine lv_istore (lv' := [(7, .int (iI (fX9_refusal G (bz (¬ (sc xs (i + 1)) = 0)) (bz (¬ (sc xs (i + 2)) = 0))).1)), (6, .int (iI ((fX9_refusal G (bz (¬ (sc xs (i + 1)) = 0)) (bz (¬ (sc xs (i + 2)) = 0))).2 26 0))), (0, .ref b), (1, .ref (E 0)), (2, .ref (F 0)), (3, .ref o), (4, .ref od), (5, .int (iI i))]) hx hb dL_law_2041 hl (by decide) rfl (fun ls hl => ?_)
  exact lw_tail (k := (fX8_refusal C (bz (¬ (sc xs (i + 1)) = 0)) (bz (¬ (sc xs (i + 2)) = 0))).1) (c0 := cells) (s0 := slots) K hs.1 rfl (AnsL_r hs.2.1 (by decide)).1 (fun hz => by rw [hf' ((AnsL_r hs.2.1 (by decide)).2 hz)]; exact congrArg (fun z => (iI z).toInt64) (hs.2.2 ((AnsL_r hs.2.1 (by decide)).2 hz))) hP hD hS hl (by omega) (by omega) ⟨by omega, by omega⟩ kont (by decide) dL_law_2043 dL_law_2044 dL_law_2047 dL_law_2049 dL_law_2054 dL_law_2056 dL_law_2059 dL_law_2060 dL_law_2061 dL_law_2062 dL_law_2064 dL_law_2065 dL_law_2066 dL_law_2071
set_option maxHeartbeats 4000000 in
set_option maxRecDepth 100000 in
theorem lc_show {p : Program} {l : Launch} {e : Env} {s : State} {m : MethodId} {args : Array Value} {below : List Frame} {meth : Method} {c : Code} {D : va_G} {cI cC cJ cDD : ClassId} {T : Nat → Nat} {b L : Nat} {xs : Nat → Int32} {E F : Nat → Nat} {o od : Nat} {Q : State → Prop} {i : Int} {cells slots : Nat} (K : LC p l s m args c D cI cC cJ cDD T b L xs) (h0 : 0 ≤ i) (h4 : i + 4 ≤ L) (hcr : cells + 2 ≤ room_1.cells ∧ slots + 12 ≤ room_1.slots) (kont : LK p l e s m args below meth c D cI cC cJ cDD E F o od b i Q cells slots) {C G : Mem} {f : Nat → Int64} {fd : Nat → UInt64} {H : Heap} {locs : List Loc} {ls : Array Slot} (hR : RelR C G) (hP : va_P D vwCl (VL E F cI cC cJ cDD o od C G f fd) H) (hD : va_D (lA s) (VL E F cI cC cJ cDD o od C G f fd)) (hS : va_S (lA s) s.heap H locs) (hl : lv_has ls 9 [(0, .ref b), (1, .ref (E 0)), (2, .ref (F 0)), (3, .ref o), (4, .ref od), (5, .int (iI i))]) : W p l e room_1 s m args below meth c H locs cells slots Q (F0 m 2074 ls []) := by
  have hst := K.2.2.2.2.2.2.2.2.2.2.1
  obtain ⟨hx, hb, hml, hown, hts, -, -, hK, -, -, -, hL⟩ := id K
  have hs := s_show hR (sc xs (i + 1))
  refine lv_aload_n hx hb dL_law_2074 rfl (lv_at hl 1 rfl) ?_
  refine lv_aload_n hx hb dL_law_2075 rfl (lv_at hl 0 rfl) ?_
  refine lv_iload hx hb dL_law_2076 (lv_at hl 5 rfl) ?_
  refine lv_iconst (v := iI 1) hx hb dL_law_2078 rfl ?_
  refine z_iadd hx hb dL_law_2079 ?_
  refine z_sld K hS (by omega) (by omega) dL_law_2080 ?_
  refine lv_aload_n hx hb dL_law_2081 rfl (lv_at hl 3 rfl) ?_
  refine lw_hl (n := 1) (As := [.ref (E 0), .int (iI (sc xs (i + 1))), .ref o]) (rest := []) K (hX_show l hst D E cI cC cJ cDD T o C (sc xs (i + 1)) (sc_r xs _) (rl_CI hR) (rl_LN hR) (fX8_show C (sc xs (i + 1))).1 (fX8_show C (sc xs (i + 1))).2.1 (fX8_show C (sc xs (i + 1))).2.2 rfl ((fX9_show G (sc xs (i + 1))).2 26 0) hs.2.1) (vx_cwSW 3 hts gL_law_L_show rfl rfl rfl (by decide +kernel) ⟨Nat.le_of_ble_eq_true rfl, Nat.le_of_ble_eq_true rfl⟩) hP hD hS rfl hl.1 rfl (Nat.le_of_ble_eq_true rfl) dL_law_2082 ⟨by omega, by omega⟩ (fun f' H locs hf' hP hD hS => ?_)
  refine lv_istore (lv' := [(6, .int (iI ((fX9_show G (sc xs (i + 1))).2 26 0))), (0, .ref b), (1, .ref (E 0)), (2, .ref (F 0)), (3, .ref o), (4, .ref od), (5, .int (iI i))]) hx hb dL_law_2085 hl (by decide) rfl (fun ls hl => ?_)
  refine lv_aload_n hx hb dL_law_2087 rfl (lv_at hl 3 rfl) ?_
  refine lv_aload_n hx hb dL_law_2088 rfl (lv_at hl 1 rfl) ?_
  refine lv_iload hx hb dL_law_2089 (lv_at hl 6 rfl) ?_
  refine lv_iconst (v := iI 1) hx hb dL_law_2091 rfl ?_
  refine z_iadd hx hb dL_law_2092 ?_
  refine z_sld K hS (by omega) (by omega) dL_law_2093 ?_
  refine lw_gi (As := [.int (iI (sc xs (i + 1)))]) (rest := []) K (kX9_show l D F cI cC ztr (fun _ => ztr_o) ztr_b G (sc xs (i + 1)) (sc_r xs _) (rl_GI hR) (fX9_show G (sc xs (i + 1))).1 (fX9_show G (sc xs (i + 1))).2 rfl) (cwV 1 hts gL_law_X9_show rfl rfl rfl (by decide +kernel) ⟨Nat.le_of_ble_eq_true rfl, Nat.le_of_ble_eq_true rfl⟩) hP hD hS rfl hl.1 rfl (Nat.le_of_ble_eq_true rfl) dL_law_2094 ⟨by omega, by omega⟩ (fun H locs hP hD hS => ?_)
  refine lv_istore (lv' := [(7, .int (iI (fX9_show G (sc xs (i + 1))).1)), (6, .int (iI ((fX9_show G (sc xs (i + 1))).2 26 0))), (0, .ref b), (1, .ref (E 0)), (2, .ref (F 0)), (3, .ref o), (4, .ref od), (5, .int (iI i))]) hx hb dL_law_2097 hl (by decide) rfl (fun ls hl => ?_)
  exact lw_tail (k := (fX8_show C (sc xs (i + 1))).1) (c0 := cells) (s0 := slots) K hs.1 rfl (AnsL_r hs.2.1 (by decide)).1 (fun hz => by rw [hf' ((AnsL_r hs.2.1 (by decide)).2 hz)]; exact congrArg (fun z => (iI z).toInt64) (hs.2.2 ((AnsL_r hs.2.1 (by decide)).2 hz))) hP hD hS hl (by omega) (by omega) ⟨by omega, by omega⟩ kont (by decide) dL_law_2099 dL_law_2100 dL_law_2103 dL_law_2105 dL_law_2110 dL_law_2112 dL_law_2115 dL_law_2116 dL_law_2117 dL_law_2118 dL_law_2120 dL_law_2121 dL_law_2122 dL_law_2127
set_option maxHeartbeats 4000000 in
set_option maxRecDepth 100000 in
theorem lc_tell {p : Program} {l : Launch} {e : Env} {s : State} {m : MethodId} {args : Array Value} {below : List Frame} {meth : Method} {c : Code} {D : va_G} {cI cC cJ cDD : ClassId} {T : Nat → Nat} {b L : Nat} {xs : Nat → Int32} {E F : Nat → Nat} {o od : Nat} {Q : State → Prop} {i : Int} {cells slots : Nat} (K : LC p l s m args c D cI cC cJ cDD T b L xs) (h0 : 0 ≤ i) (h4 : i + 4 ≤ L) (hcr : cells + 2 ≤ room_1.cells ∧ slots + 12 ≤ room_1.slots) (kont : LK p l e s m args below meth c D cI cC cJ cDD E F o od b i Q cells slots) {C G : Mem} {f : Nat → Int64} {fd : Nat → UInt64} {H : Heap} {locs : List Loc} {ls : Array Slot} (hR : RelR C G) (hP : va_P D vwCl (VL E F cI cC cJ cDD o od C G f fd) H) (hD : va_D (lA s) (VL E F cI cC cJ cDD o od C G f fd)) (hS : va_S (lA s) s.heap H locs) (hl : lv_has ls 9 [(0, .ref b), (1, .ref (E 0)), (2, .ref (F 0)), (3, .ref o), (4, .ref od), (5, .int (iI i))]) : W p l e room_1 s m args below meth c H locs cells slots Q (F0 m 2130 ls []) := by
  have hst := K.2.2.2.2.2.2.2.2.2.2.1
  obtain ⟨hx, hb, hml, hown, hts, -, -, hK, -, -, -, hL⟩ := id K
  have hs := s_tell hR (sc xs (i + 1))
  refine lv_aload_n hx hb dL_law_2130 rfl (lv_at hl 1 rfl) ?_
  refine lv_aload_n hx hb dL_law_2131 rfl (lv_at hl 0 rfl) ?_
  refine lv_iload hx hb dL_law_2132 (lv_at hl 5 rfl) ?_
  refine lv_iconst (v := iI 1) hx hb dL_law_2134 rfl ?_
  refine z_iadd hx hb dL_law_2135 ?_
  refine z_sld K hS (by omega) (by omega) dL_law_2136 ?_
  refine lv_aload_n hx hb dL_law_2137 rfl (lv_at hl 3 rfl) ?_
  refine lw_hl (n := 1) (As := [.ref (E 0), .int (iI (sc xs (i + 1))), .ref o]) (rest := []) K (hX_tell l hst D E cI cC cJ cDD T o C (sc xs (i + 1)) (sc_r xs _) (rl_CI hR) (rl_SI hR) (rl_LN hR) (fX8_tell C (sc xs (i + 1))).1 (fX8_tell C (sc xs (i + 1))).2.1 (fX8_tell C (sc xs (i + 1))).2.2 rfl ((fX9_tell G (sc xs (i + 1))).2 26 0) hs.2.1) (vx_cwSW 3 hts gL_law_L_tell rfl rfl rfl (by decide +kernel) ⟨Nat.le_of_ble_eq_true rfl, Nat.le_of_ble_eq_true rfl⟩) hP hD hS rfl hl.1 rfl (Nat.le_of_ble_eq_true rfl) dL_law_2138 ⟨by omega, by omega⟩ (fun f' H locs hf' hP hD hS => ?_)
  refine lv_istore (lv' := [(6, .int (iI ((fX9_tell G (sc xs (i + 1))).2 26 0))), (0, .ref b), (1, .ref (E 0)), (2, .ref (F 0)), (3, .ref o), (4, .ref od), (5, .int (iI i))]) hx hb dL_law_2141 hl (by decide) rfl (fun ls hl => ?_)
  refine lv_aload_n hx hb dL_law_2143 rfl (lv_at hl 3 rfl) ?_
  refine lv_aload_n hx hb dL_law_2144 rfl (lv_at hl 1 rfl) ?_
  refine lv_iload hx hb dL_law_2145 (lv_at hl 6 rfl) ?_
  refine lv_iconst (v := iI 1) hx hb dL_law_2147 rfl ?_
  refine z_iadd hx hb dL_law_2148 ?_
  refine z_sld K hS (by omega) (by omega) dL_law_2149 ?_
  refine lw_gi (As := [.int (iI (sc xs (i + 1)))]) (rest := []) K (kX9_tell l D F cI cC ztr (fun _ => ztr_o) ztr_b G (sc xs (i + 1)) (sc_r xs _) (rl_GI hR) (fX9_tell G (sc xs (i + 1))).1 (fX9_tell G (sc xs (i + 1))).2 rfl) (cwV 1 hts gL_law_X9_tell rfl rfl rfl (by decide +kernel) ⟨Nat.le_of_ble_eq_true rfl, Nat.le_of_ble_eq_true rfl⟩) hP hD hS rfl hl.1 rfl (Nat.le_of_ble_eq_true rfl) dL_law_2150 ⟨by omega, by omega⟩ (fun H locs hP hD hS => ?_)
  refine lv_istore (lv' := [(7, .int (iI (fX9_tell G (sc xs (i + 1))).1)), (6, .int (iI ((fX9_tell G (sc xs (i + 1))).2 26 0))), (0, .ref b), (1, .ref (E 0)), (2, .ref (F 0)), (3, .ref o), (4, .ref od), (5, .int (iI i))]) hx hb dL_law_2153 hl (by decide) rfl (fun ls hl => ?_)
  exact lw_tail (k := (fX8_tell C (sc xs (i + 1))).1) (c0 := cells) (s0 := slots) K hs.1 rfl (AnsL_r hs.2.1 (by decide)).1 (fun hz => by rw [hf' ((AnsL_r hs.2.1 (by decide)).2 hz)]; exact congrArg (fun z => (iI z).toInt64) (hs.2.2 ((AnsL_r hs.2.1 (by decide)).2 hz))) hP hD hS hl (by omega) (by omega) ⟨by omega, by omega⟩ kont (by decide) dL_law_2155 dL_law_2156 dL_law_2159 dL_law_2161 dL_law_2166 dL_law_2168 dL_law_2171 dL_law_2172 dL_law_2173 dL_law_2174 dL_law_2176 dL_law_2177 dL_law_2178 dL_law_2183
set_option maxHeartbeats 4000000 in
set_option maxRecDepth 100000 in
theorem lc_written {p : Program} {l : Launch} {e : Env} {s : State} {m : MethodId} {args : Array Value} {below : List Frame} {meth : Method} {c : Code} {D : va_G} {cI cC cJ cDD : ClassId} {T : Nat → Nat} {b L : Nat} {xs : Nat → Int32} {E F : Nat → Nat} {o od : Nat} {Q : State → Prop} {i : Int} {cells slots : Nat} (K : LC p l s m args c D cI cC cJ cDD T b L xs) (h0 : 0 ≤ i) (h4 : i + 4 ≤ L) (hcr : cells + 2 ≤ room_1.cells ∧ slots + 12 ≤ room_1.slots) (kont : LK p l e s m args below meth c D cI cC cJ cDD E F o od b i Q cells slots) {C G : Mem} {f : Nat → Int64} {fd : Nat → UInt64} {H : Heap} {locs : List Loc} {ls : Array Slot} (hR : RelR C G) (hP : va_P D vwCl (VL E F cI cC cJ cDD o od C G f fd) H) (hD : va_D (lA s) (VL E F cI cC cJ cDD o od C G f fd)) (hS : va_S (lA s) s.heap H locs) (hl : lv_has ls 9 [(0, .ref b), (1, .ref (E 0)), (2, .ref (F 0)), (3, .ref o), (4, .ref od), (5, .int (iI i))]) : W p l e room_1 s m args below meth c H locs cells slots Q (F0 m 2186 ls []) := by
  have hst := K.2.2.2.2.2.2.2.2.2.2.1
  obtain ⟨hx, hb, hml, hown, hts, -, -, hK, -, -, -, hL⟩ := id K
  have hs := s_written hR (sc xs (i + 1))
  refine lv_aload_n hx hb dL_law_2186 rfl (lv_at hl 1 rfl) ?_
  refine lv_aload_n hx hb dL_law_2187 rfl (lv_at hl 0 rfl) ?_
  refine lv_iload hx hb dL_law_2188 (lv_at hl 5 rfl) ?_
  refine lv_iconst (v := iI 1) hx hb dL_law_2190 rfl ?_
  refine z_iadd hx hb dL_law_2191 ?_
  refine z_sld K hS (by omega) (by omega) dL_law_2192 ?_
  refine lv_aload_n hx hb dL_law_2193 rfl (lv_at hl 3 rfl) ?_
  refine lw_hl (n := 1) (As := [.ref (E 0), .int (iI (sc xs (i + 1))), .ref o]) (rest := []) K (hX_written l hst D E cI cC cJ cDD T o C (sc xs (i + 1)) (sc_r xs _) (rl_LN hR) (fX8_written C (sc xs (i + 1))).1 (fX8_written C (sc xs (i + 1))).2 rfl ((fX9_written G (sc xs (i + 1))).2 26 0) hs.2.1) (vx_cwSW 3 hts gL_law_L_written rfl rfl rfl (by decide +kernel) ⟨Nat.le_of_ble_eq_true rfl, Nat.le_of_ble_eq_true rfl⟩) hP hD hS rfl hl.1 rfl (Nat.le_of_ble_eq_true rfl) dL_law_2194 ⟨by omega, by omega⟩ (fun f' H locs hf' hP hD hS => ?_)
  refine lv_istore (lv' := [(6, .int (iI ((fX9_written G (sc xs (i + 1))).2 26 0))), (0, .ref b), (1, .ref (E 0)), (2, .ref (F 0)), (3, .ref o), (4, .ref od), (5, .int (iI i))]) hx hb dL_law_2197 hl (by decide) rfl (fun ls hl => ?_)
  refine lv_aload_n hx hb dL_law_2199 rfl (lv_at hl 3 rfl) ?_
  refine lv_aload_n hx hb dL_law_2200 rfl (lv_at hl 1 rfl) ?_
  refine lv_iload hx hb dL_law_2201 (lv_at hl 6 rfl) ?_
  refine lv_iconst (v := iI 1) hx hb dL_law_2203 rfl ?_
  refine z_iadd hx hb dL_law_2204 ?_
  refine z_sld K hS (by omega) (by omega) dL_law_2205 ?_
  refine lw_gi (As := [.int (iI (sc xs (i + 1)))]) (rest := []) K (kX9_written l D F cI cC ztr (fun _ => ztr_o) ztr_b G (sc xs (i + 1)) (sc_r xs _) (rl_WI hR) (fX9_written G (sc xs (i + 1))).1 (fX9_written G (sc xs (i + 1))).2 rfl) (cwV 1 hts gL_law_X9_written rfl rfl rfl (by decide +kernel) ⟨Nat.le_of_ble_eq_true rfl, Nat.le_of_ble_eq_true rfl⟩) hP hD hS rfl hl.1 rfl (Nat.le_of_ble_eq_true rfl) dL_law_2206 ⟨by omega, by omega⟩ (fun H locs hP hD hS => ?_)
  refine lv_istore (lv' := [(7, .int (iI (fX9_written G (sc xs (i + 1))).1)), (6, .int (iI ((fX9_written G (sc xs (i + 1))).2 26 0))), (0, .ref b), (1, .ref (E 0)), (2, .ref (F 0)), (3, .ref o), (4, .ref od), (5, .int (iI i))]) hx hb dL_law_2209 hl (by decide) rfl (fun ls hl => ?_)
  exact lw_tail (k := (fX8_written C (sc xs (i + 1))).1) (c0 := cells) (s0 := slots) K hs.1 rfl (AnsL_r hs.2.1 (by decide)).1 (fun hz => by rw [hf' ((AnsL_r hs.2.1 (by decide)).2 hz)]; exact congrArg (fun z => (iI z).toInt64) (hs.2.2 ((AnsL_r hs.2.1 (by decide)).2 hz))) hP hD hS hl (by omega) (by omega) ⟨by omega, by omega⟩ kont (by decide) dL_law_2211 dL_law_2212 dL_law_2215 dL_law_2217 dL_law_2222 dL_law_2224 dL_law_2227 dL_law_2228 dL_law_2229 dL_law_2230 dL_law_2232 dL_law_2233 dL_law_2234 dL_law_2239
set_option maxHeartbeats 4000000 in
set_option maxRecDepth 100000 in
theorem lc_account {p : Program} {l : Launch} {e : Env} {s : State} {m : MethodId} {args : Array Value} {below : List Frame} {meth : Method} {c : Code} {D : va_G} {cI cC cJ cDD : ClassId} {T : Nat → Nat} {b L : Nat} {xs : Nat → Int32} {E F : Nat → Nat} {o od : Nat} {Q : State → Prop} {i : Int} {cells slots : Nat} (K : LC p l s m args c D cI cC cJ cDD T b L xs) (h0 : 0 ≤ i) (h4 : i + 4 ≤ L) (hcr : cells + 2 ≤ room_1.cells ∧ slots + 12 ≤ room_1.slots) (kont : LK p l e s m args below meth c D cI cC cJ cDD E F o od b i Q cells slots) {C G : Mem} {f : Nat → Int64} {fd : Nat → UInt64} {H : Heap} {locs : List Loc} {ls : Array Slot} (hR : RelR C G) (hP : va_P D vwCl (VL E F cI cC cJ cDD o od C G f fd) H) (hD : va_D (lA s) (VL E F cI cC cJ cDD o od C G f fd)) (hS : va_S (lA s) s.heap H locs) (hl : lv_has ls 9 [(0, .ref b), (1, .ref (E 0)), (2, .ref (F 0)), (3, .ref o), (4, .ref od), (5, .int (iI i))]) : W p l e room_1 s m args below meth c H locs cells slots Q (F0 m 2242 ls []) := by
  have hst := K.2.2.2.2.2.2.2.2.2.2.1
  obtain ⟨hx, hb, hml, hown, hts, -, -, hK, -, -, -, hL⟩ := id K
  have hs := s_account hR (sc xs (i + 1))
  refine lv_aload_n hx hb dL_law_2242 rfl (lv_at hl 1 rfl) ?_
  refine lv_aload_n hx hb dL_law_2243 rfl (lv_at hl 0 rfl) ?_
  refine lv_iload hx hb dL_law_2244 (lv_at hl 5 rfl) ?_
  refine lv_iconst (v := iI 1) hx hb dL_law_2246 rfl ?_
  refine z_iadd hx hb dL_law_2247 ?_
  refine z_sld K hS (by omega) (by omega) dL_law_2248 ?_
  refine lv_aload_n hx hb dL_law_2249 rfl (lv_at hl 3 rfl) ?_
  refine lw_hl (n := 1) (As := [.ref (E 0), .int (iI (sc xs (i + 1))), .ref o]) (rest := []) K (hX_account l hst D E cI cC cJ cDD T o C (sc xs (i + 1)) (sc_r xs _) (rl_CI hR) (rl_SI hR) (rl_TI hR) (fX8_account C (sc xs (i + 1))).1 (fX8_account C (sc xs (i + 1))).2.1 (fX8_account C (sc xs (i + 1))).2.2 rfl ((fX9_account G (sc xs (i + 1))).2 26 0) hs.2.1) (vx_cwSW 3 hts gL_law_L_account rfl rfl rfl (by decide +kernel) ⟨Nat.le_of_ble_eq_true rfl, Nat.le_of_ble_eq_true rfl⟩) hP hD hS rfl hl.1 rfl (Nat.le_of_ble_eq_true rfl) dL_law_2250 ⟨by omega, by omega⟩ (fun f' H locs hf' hP hD hS => ?_)
  refine lv_istore (lv' := [(6, .int (iI ((fX9_account G (sc xs (i + 1))).2 26 0))), (0, .ref b), (1, .ref (E 0)), (2, .ref (F 0)), (3, .ref o), (4, .ref od), (5, .int (iI i))]) hx hb dL_law_2253 hl (by decide) rfl (fun ls hl => ?_)
  refine lv_aload_n hx hb dL_law_2255 rfl (lv_at hl 3 rfl) ?_
  refine lv_aload_n hx hb dL_law_2256 rfl (lv_at hl 1 rfl) ?_
  refine lv_iload hx hb dL_law_2257 (lv_at hl 6 rfl) ?_
  refine lv_iconst (v := iI 1) hx hb dL_law_2259 rfl ?_
  refine z_iadd hx hb dL_law_2260 ?_
  refine z_sld K hS (by omega) (by omega) dL_law_2261 ?_
  refine lw_gi (As := [.int (iI (sc xs (i + 1)))]) (rest := []) K (kX9_account l D F cI cC ztr (fun _ => ztr_o) ztr_b G (sc xs (i + 1)) (sc_r xs _) (rl_GI hR) (fX9_account G (sc xs (i + 1))).1 (fX9_account G (sc xs (i + 1))).2 rfl) (cwV 1 hts gL_law_X9_account rfl rfl rfl (by decide +kernel) ⟨Nat.le_of_ble_eq_true rfl, Nat.le_of_ble_eq_true rfl⟩) hP hD hS rfl hl.1 rfl (Nat.le_of_ble_eq_true rfl) dL_law_2262 ⟨by omega, by omega⟩ (fun H locs hP hD hS => ?_)
  refine lv_istore (lv' := [(7, .int (iI (fX9_account G (sc xs (i + 1))).1)), (6, .int (iI ((fX9_account G (sc xs (i + 1))).2 26 0))), (0, .ref b), (1, .ref (E 0)), (2, .ref (F 0)), (3, .ref o), (4, .ref od), (5, .int (iI i))]) hx hb dL_law_2265 hl (by decide) rfl (fun ls hl => ?_)
  exact lw_tail (k := (fX8_account C (sc xs (i + 1))).1) (c0 := cells) (s0 := slots) K hs.1 rfl (AnsL_r hs.2.1 (by decide)).1 (fun hz => by rw [hf' ((AnsL_r hs.2.1 (by decide)).2 hz)]; exact congrArg (fun z => (iI z).toInt64) (hs.2.2 ((AnsL_r hs.2.1 (by decide)).2 hz))) hP hD hS hl (by omega) (by omega) ⟨by omega, by omega⟩ kont (by decide) dL_law_2267 dL_law_2268 dL_law_2271 dL_law_2273 dL_law_2278 dL_law_2280 dL_law_2283 dL_law_2284 dL_law_2285 dL_law_2286 dL_law_2288 dL_law_2289 dL_law_2290 dL_law_2295
set_option maxHeartbeats 4000000 in
set_option maxRecDepth 100000 in
theorem lc_meanStains {p : Program} {l : Launch} {e : Env} {s : State} {m : MethodId} {args : Array Value} {below : List Frame} {meth : Method} {c : Code} {D : va_G} {cI cC cJ cDD : ClassId} {T : Nat → Nat} {b L : Nat} {xs : Nat → Int32} {E F : Nat → Nat} {o od : Nat} {Q : State → Prop} {i : Int} {cells slots : Nat} (K : LC p l s m args c D cI cC cJ cDD T b L xs) (h0 : 0 ≤ i) (h4 : i + 4 ≤ L) (hcr : cells + 2 ≤ room_1.cells ∧ slots + 12 ≤ room_1.slots) (kont : LK p l e s m args below meth c D cI cC cJ cDD E F o od b i Q cells slots) {C G : Mem} {f : Nat → Int64} {fd : Nat → UInt64} {H : Heap} {locs : List Loc} {ls : Array Slot} (hR : RelR C G) (hP : va_P D vwCl (VL E F cI cC cJ cDD o od C G f fd) H) (hD : va_D (lA s) (VL E F cI cC cJ cDD o od C G f fd)) (hS : va_S (lA s) s.heap H locs) (hl : lv_has ls 9 [(0, .ref b), (1, .ref (E 0)), (2, .ref (F 0)), (3, .ref o), (4, .ref od), (5, .int (iI i))]) : W p l e room_1 s m args below meth c H locs cells slots Q (F0 m 2298 ls []) := by
  have hst := K.2.2.2.2.2.2.2.2.2.2.1
  obtain ⟨hx, hb, hml, hown, hts, -, -, hK, -, -, -, hL⟩ := id K
  have hs := s_meanStains hR
  refine lv_aload_n hx hb dL_law_2298 rfl (lv_at hl 1 rfl) ?_
  refine lv_aload hx hb dL_law_2299 (lv_at hl 4 rfl) ?_
  refine lw_hd (n := 1) (As := [.ref (E 0), .ref od]) (rest := []) K (hX_meanStains l hst D E cI cC cJ cDD T od C (rl_CI hR) (fX8_meanStains C).1 (fX8_meanStains C).2 rfl ((fX9_meanStains G).2 26 0) hs.2.1) (vx_cwSW 2 hts gL_law_L_meanStains rfl rfl rfl (by decide +kernel) ⟨Nat.le_of_ble_eq_true rfl, Nat.le_of_ble_eq_true rfl⟩) hP hD hS rfl hl.1 rfl (Nat.le_of_ble_eq_true rfl) dL_law_2301 ⟨by omega, by omega⟩ (fun f' H locs hf' hP hD hS => ?_)
  refine lv_istore (lv' := [(6, .int (iI ((fX9_meanStains G).2 26 0))), (0, .ref b), (1, .ref (E 0)), (2, .ref (F 0)), (3, .ref o), (4, .ref od), (5, .int (iI i))]) hx hb dL_law_2304 hl (by decide) rfl (fun ls hl => ?_)
  refine lv_aload_n hx hb dL_law_2306 rfl (lv_at hl 3 rfl) ?_
  refine lw_gr (As := []) (rest := []) K (kX9_meanStains l D F cI cC ztr (fun _ => ztr_o) ztr_b G (rl_GI hR) (fX9_meanStains G).1 (fX9_meanStains G).2 rfl) (cwV 0 hts gL_law_X9_meanStains rfl rfl rfl (by decide +kernel) ⟨Nat.le_of_ble_eq_true rfl, Nat.le_of_ble_eq_true rfl⟩) hP hD hS rfl hl.1 rfl (Nat.le_of_ble_eq_true rfl) dL_law_2307 ⟨by omega, by omega⟩ (fun H locs hP hD hS => ?_)
  refine lv_dstore (lv' := [(7, .double ((fX9_meanStains G).1)), (6, .int (iI ((fX9_meanStains G).2 26 0))), (0, .ref b), (1, .ref (E 0)), (2, .ref (F 0)), (3, .ref o), (4, .ref od), (5, .int (iI i))]) hx hb dL_law_2310 hl (by decide) rfl (fun ls hl => ?_)
  exact lw_tailM (x := (fX8_meanStains C).2) (c0 := cells) (s0 := slots) K hs.1 rfl (AnsL_r hs.2.1 (by decide)).1 (fun hz => hf' ((AnsL_r hs.2.1 (by decide)).2 hz)) (fun hz => hs.2.2 ((AnsL_r hs.2.1 (by decide)).2 hz)) hP hD hS hl (by omega) (by omega) ⟨by omega, by omega⟩ kont
set_option maxHeartbeats 4000000 in
set_option maxRecDepth 100000 in
theorem lc_foldedShare {p : Program} {l : Launch} {e : Env} {s : State} {m : MethodId} {args : Array Value} {below : List Frame} {meth : Method} {c : Code} {D : va_G} {cI cC cJ cDD : ClassId} {T : Nat → Nat} {b L : Nat} {xs : Nat → Int32} {E F : Nat → Nat} {o od : Nat} {Q : State → Prop} {i : Int} {cells slots : Nat} (K : LC p l s m args c D cI cC cJ cDD T b L xs) (h0 : 0 ≤ i) (h4 : i + 4 ≤ L) (hcr : cells + 2 ≤ room_1.cells ∧ slots + 12 ≤ room_1.slots) (kont : LK p l e s m args below meth c D cI cC cJ cDD E F o od b i Q cells slots) {C G : Mem} {f : Nat → Int64} {fd : Nat → UInt64} {H : Heap} {locs : List Loc} {ls : Array Slot} (hR : RelR C G) (hP : va_P D vwCl (VL E F cI cC cJ cDD o od C G f fd) H) (hD : va_D (lA s) (VL E F cI cC cJ cDD o od C G f fd)) (hS : va_S (lA s) s.heap H locs) (hl : lv_has ls 9 [(0, .ref b), (1, .ref (E 0)), (2, .ref (F 0)), (3, .ref o), (4, .ref od), (5, .int (iI i))]) : W p l e room_1 s m args below meth c H locs cells slots Q (F0 m 2363 ls []) := by
  have hst := K.2.2.2.2.2.2.2.2.2.2.1
  obtain ⟨hx, hb, hml, hown, hts, -, -, hK, -, -, -, hL⟩ := id K
  have hs := s_foldedShare hR
  refine lv_aload_n hx hb dL_law_2363 rfl (lv_at hl 1 rfl) ?_
  refine lv_aload hx hb dL_law_2364 (lv_at hl 4 rfl) ?_
  refine lw_hd (n := 1) (As := [.ref (E 0), .ref od]) (rest := []) K (hX_foldedShare l hst D E cI cC cJ cDD T od C (rl_CI hR) (fX8_foldedShare C).1 (fX8_foldedShare C).2 rfl ((fX9_foldedShare G).2 26 0) hs.2.1) (vx_cwSW 2 hts gL_law_L_foldedShare rfl rfl rfl (by decide +kernel) ⟨Nat.le_of_ble_eq_true rfl, Nat.le_of_ble_eq_true rfl⟩) hP hD hS rfl hl.1 rfl (Nat.le_of_ble_eq_true rfl) dL_law_2366 ⟨by omega, by omega⟩ (fun f' H locs hf' hP hD hS => ?_)
  refine lv_istore (lv' := [(6, .int (iI ((fX9_foldedShare G).2 26 0))), (0, .ref b), (1, .ref (E 0)), (2, .ref (F 0)), (3, .ref o), (4, .ref od), (5, .int (iI i))]) hx hb dL_law_2369 hl (by decide) rfl (fun ls hl => ?_)
  refine lv_aload_n hx hb dL_law_2371 rfl (lv_at hl 3 rfl) ?_
  refine lw_gr (As := []) (rest := []) K (kX9_foldedShare l D F cI cC ztr (fun _ => ztr_o) ztr_b G (rl_GI hR) (fX9_foldedShare G).1 (fX9_foldedShare G).2 rfl) (cwV 0 hts gL_law_X9_foldedShare rfl rfl rfl (by decide +kernel) ⟨Nat.le_of_ble_eq_true rfl, Nat.le_of_ble_eq_true rfl⟩) hP hD hS rfl hl.1 rfl (Nat.le_of_ble_eq_true rfl) dL_law_2372 ⟨by omega, by omega⟩ (fun H locs hP hD hS => ?_)
  refine lv_fstore (lv' := [(7, .float ((fX9_foldedShare G).1)), (6, .int (iI ((fX9_foldedShare G).2 26 0))), (0, .ref b), (1, .ref (E 0)), (2, .ref (F 0)), (3, .ref o), (4, .ref od), (5, .int (iI i))]) hx hb dL_law_2375 hl (by decide) rfl (fun ls hl => ?_)
  exact lw_tailS (x := (fX8_foldedShare C).2) (c0 := cells) (s0 := slots) K hs.1 rfl (AnsL_r hs.2.1 (by decide)).1 (fun hz => hf' ((AnsL_r hs.2.1 (by decide)).2 hz)) (fun hz => hs.2.2 ((AnsL_r hs.2.1 (by decide)).2 hz)) (fun hz => ⟨fp_shareD (rl_CI hR) rfl ((AnsL_r hs.2.1 (by decide)).2 hz), fp_shareE (rl_CI hR) rfl ((AnsL_r hs.2.1 (by decide)).2 hz)⟩) hP hD hS hl (by omega) (by omega) ⟨by omega, by omega⟩ kont
set_option maxHeartbeats 4000000 in
set_option maxRecDepth 100000 in
theorem lc_undo {p : Program} {l : Launch} {e : Env} {s : State} {m : MethodId} {args : Array Value} {below : List Frame} {meth : Method} {c : Code} {D : va_G} {cI cC cJ cDD : ClassId} {T : Nat → Nat} {b L : Nat} {xs : Nat → Int32} {E F : Nat → Nat} {o od : Nat} {Q : State → Prop} {i : Int} {cells slots : Nat} (K : LC p l s m args c D cI cC cJ cDD T b L xs) (h0 : 0 ≤ i) (h4 : i + 4 ≤ L) (hcr : cells + 2 ≤ room_1.cells ∧ slots + 12 ≤ room_1.slots) (kont : LK p l e s m args below meth c D cI cC cJ cDD E F o od b i Q cells slots) {C G : Mem} {f : Nat → Int64} {fd : Nat → UInt64} {H : Heap} {locs : List Loc} {ls : Array Slot} (hR : RelR C G) (hP : va_P D vwCl (VL E F cI cC cJ cDD o od C G f fd) H) (hD : va_D (lA s) (VL E F cI cC cJ cDD o od C G f fd)) (hS : va_S (lA s) s.heap H locs) (hl : lv_has ls 9 [(0, .ref b), (1, .ref (E 0)), (2, .ref (F 0)), (3, .ref o), (4, .ref od), (5, .int (iI i))]) : W p l e room_1 s m args below meth c H locs cells slots Q (F0 m 2429 ls []) := by
  have hst := K.2.2.2.2.2.2.2.2.2.2.1
  obtain ⟨hx, hb, hml, hown, hts, -, -, hK, -, -, -, hL⟩ := id K
  have hs := s_undo hR
  refine lv_aload_n hx hb dL_law_2429 rfl (lv_at hl 1 rfl) ?_
  refine lv_aload_n hx hb dL_law_2430 rfl (lv_at hl 3 rfl) ?_
  refine lw_hl (n := 1) (As := [.ref (E 0), .ref o]) (rest := []) K (hX_undo l hst D E cI cC cJ cDD T o C (rl_HN hR) (fX8_undo C).1 (fX8_undo C).2.1 (fX8_undo C).2.2 rfl ((fX9_undo G).2 26 0) hs.2.1) (vx_cwSW 2 hts gL_law_L_undo rfl rfl rfl (by decide +kernel) ⟨Nat.le_of_ble_eq_true rfl, Nat.le_of_ble_eq_true rfl⟩) hP hD hS rfl hl.1 rfl (Nat.le_of_ble_eq_true rfl) dL_law_2431 ⟨by omega, by omega⟩ (fun f' H locs hf' hP hD hS => ?_)
  refine lv_istore (lv' := [(6, .int (iI ((fX9_undo G).2 26 0))), (0, .ref b), (1, .ref (E 0)), (2, .ref (F 0)), (3, .ref o), (4, .ref od), (5, .int (iI i))]) hx hb dL_law_2434 hl (by decide) rfl (fun ls hl => ?_)
  refine lv_aload_n hx hb dL_law_2436 rfl (lv_at hl 3 rfl) ?_
  refine lw_gi (As := []) (rest := []) K (kX9_undo l D F cI cC ztr (fun _ => ztr_o) ztr_b G (rl_CH hR) (fX9_undo G).1 (fX9_undo G).2 rfl) (cwV 0 hts gL_law_X9_undo rfl rfl rfl (by decide +kernel) ⟨Nat.le_of_ble_eq_true rfl, Nat.le_of_ble_eq_true rfl⟩) hP hD hS rfl hl.1 rfl (Nat.le_of_ble_eq_true rfl) dL_law_2437 ⟨by omega, by omega⟩ (fun H locs hP hD hS => ?_)
  refine lv_istore (lv' := [(7, .int (iI (fX9_undo G).1)), (6, .int (iI ((fX9_undo G).2 26 0))), (0, .ref b), (1, .ref (E 0)), (2, .ref (F 0)), (3, .ref o), (4, .ref od), (5, .int (iI i))]) hx hb dL_law_2440 hl (by decide) rfl (fun ls hl => ?_)
  exact lw_tail (k := (fX8_undo C).1) (c0 := cells) (s0 := slots) K hs.1 rfl (AnsL_r hs.2.1 (by decide)).1 (fun hz => by rw [hf' ((AnsL_r hs.2.1 (by decide)).2 hz)]; exact congrArg (fun z => (iI z).toInt64) (hs.2.2 ((AnsL_r hs.2.1 (by decide)).2 hz))) hP hD hS hl (by omega) (by omega) ⟨by omega, by omega⟩ kont (by decide) dL_law_2442 dL_law_2443 dL_law_2446 dL_law_2448 dL_law_2453 dL_law_2455 dL_law_2458 dL_law_2459 dL_law_2460 dL_law_2461 dL_law_2463 dL_law_2464 dL_law_2465 dL_law_2470
set_option maxHeartbeats 4000000 in
set_option maxRecDepth 100000 in
theorem lc_save {p : Program} {l : Launch} {e : Env} {s : State} {m : MethodId} {args : Array Value} {below : List Frame} {meth : Method} {c : Code} {D : va_G} {cI cC cJ cDD : ClassId} {T : Nat → Nat} {b L : Nat} {xs : Nat → Int32} {E F : Nat → Nat} {o od : Nat} {Q : State → Prop} {i : Int} {cells slots : Nat} (K : LC p l s m args c D cI cC cJ cDD T b L xs) (h0 : 0 ≤ i) (h4 : i + 4 ≤ L) (hcr : cells + 2 ≤ room_1.cells ∧ slots + 12 ≤ room_1.slots) (kont : LK p l e s m args below meth c D cI cC cJ cDD E F o od b i Q cells slots) {C G : Mem} {f : Nat → Int64} {fd : Nat → UInt64} {H : Heap} {locs : List Loc} {ls : Array Slot} (hR : RelR C G) (hP : va_P D vwCl (VL E F cI cC cJ cDD o od C G f fd) H) (hD : va_D (lA s) (VL E F cI cC cJ cDD o od C G f fd)) (hS : va_S (lA s) s.heap H locs) (hl : lv_has ls 9 [(0, .ref b), (1, .ref (E 0)), (2, .ref (F 0)), (3, .ref o), (4, .ref od), (5, .int (iI i))]) : W p l e room_1 s m args below meth c H locs cells slots Q (F0 m 2473 ls []) := by
  have hst := K.2.2.2.2.2.2.2.2.2.2.1
  obtain ⟨hx, hb, hml, hown, hts, -, -, hK, -, -, -, hL⟩ := id K
  have hs := s_save hR
  refine lv_aload_n hx hb dL_law_2473 rfl (lv_at hl 1 rfl) ?_
  refine lw_ci (As := []) (rest := []) K (kX8_save l D E cI cC ztr (fun _ => ztr_o) ztr_b C (fX8_save C).1 (fX8_save C).2 rfl) (cwV 0 hts gL_law_X8_save rfl rfl rfl (by decide +kernel) ⟨Nat.le_of_ble_eq_true rfl, Nat.le_of_ble_eq_true rfl⟩) hP hD hS rfl hl.1 rfl (Nat.le_of_ble_eq_true rfl) dL_law_2474 ⟨by omega, by omega⟩ (fun H locs hP hD hS => ?_)
  refine lv_aload_n hx hb dL_law_2477 rfl (lv_at hl 2 rfl) ?_
  refine lw_gi (As := []) (rest := [.int (iI (fX8_save C).1)]) K (kX9_save l D F cI cC ztr (fun _ => ztr_o) ztr_b G (fX9_save G).1 (fX9_save G).2 rfl) (cwV 0 hts gL_law_X9_save rfl rfl rfl (by decide +kernel) ⟨Nat.le_of_ble_eq_true rfl, Nat.le_of_ble_eq_true rfl⟩) hP hD hS rfl hl.1 rfl (Nat.le_of_ble_eq_true rfl) dL_law_2478 ⟨by omega, by omega⟩ (fun H locs hP hD hS => ?_)
  refine lv_icmp_eq (tgt := 2530) hx hb dL_law_2481 (by decide) (fun _ => ?_) (fun h => absurd (by rw [hs.2.2]) h)
  exact W.widen (by omega) (by omega) (kont _ _ f fd H locs ls hs.1 hP hD hS (lv_sub hl [0, 1, 2, 3, 4, 5] rfl))
set_option maxHeartbeats 4000000 in
set_option maxRecDepth 100000 in
theorem lc_restore {p : Program} {l : Launch} {e : Env} {s : State} {m : MethodId} {args : Array Value} {below : List Frame} {meth : Method} {c : Code} {D : va_G} {cI cC cJ cDD : ClassId} {T : Nat → Nat} {b L : Nat} {xs : Nat → Int32} {E F : Nat → Nat} {o od : Nat} {Q : State → Prop} {i : Int} {cells slots : Nat} (K : LC p l s m args c D cI cC cJ cDD T b L xs) (h0 : 0 ≤ i) (h4 : i + 4 ≤ L) (hcr : cells + 2 ≤ room_1.cells ∧ slots + 12 ≤ room_1.slots) (kont : LK p l e s m args below meth c D cI cC cJ cDD E F o od b i Q cells slots) {C G : Mem} {f : Nat → Int64} {fd : Nat → UInt64} {H : Heap} {locs : List Loc} {ls : Array Slot} (hR : RelR C G) (hP : va_P D vwCl (VL E F cI cC cJ cDD o od C G f fd) H) (hD : va_D (lA s) (VL E F cI cC cJ cDD o od C G f fd)) (hS : va_S (lA s) s.heap H locs) (hl : lv_has ls 9 [(0, .ref b), (1, .ref (E 0)), (2, .ref (F 0)), (3, .ref o), (4, .ref od), (5, .int (iI i))]) : W p l e room_1 s m args below meth c H locs cells slots Q (F0 m 2486 ls []) := by
  have hst := K.2.2.2.2.2.2.2.2.2.2.1
  obtain ⟨hx, hb, hml, hown, hts, -, -, hK, -, -, -, hL⟩ := id K
  have hs := s_restore hR
  refine lv_aload_n hx hb dL_law_2486 rfl (lv_at hl 1 rfl) ?_
  refine lv_aload_n hx hb dL_law_2487 rfl (lv_at hl 3 rfl) ?_
  refine lw_hl (n := 1) (As := [.ref (E 0), .ref o]) (rest := []) K (hX_restore l hst D E cI cC cJ cDD T o C (rl_c16 hR) (fX8_restore C).1 (fX8_restore C).2.1 (fX8_restore C).2.2 rfl ((fX9_restore G).2 26 0) hs.2.1) (vx_cwSW 2 hts gL_law_L_restore rfl rfl rfl (by decide +kernel) ⟨Nat.le_of_ble_eq_true rfl, Nat.le_of_ble_eq_true rfl⟩) hP hD hS rfl hl.1 rfl (Nat.le_of_ble_eq_true rfl) dL_law_2488 ⟨by omega, by omega⟩ (fun f' H locs hf' hP hD hS => ?_)
  refine lv_istore (lv' := [(6, .int (iI ((fX9_restore G).2 26 0))), (0, .ref b), (1, .ref (E 0)), (2, .ref (F 0)), (3, .ref o), (4, .ref od), (5, .int (iI i))]) hx hb dL_law_2491 hl (by decide) rfl (fun ls hl => ?_)
  refine lv_aload_n hx hb dL_law_2493 rfl (lv_at hl 3 rfl) ?_
  refine lw_gi (As := []) (rest := []) K (kX9_restore l D F cI cC ztr (fun _ => ztr_o) ztr_b G (rl_g15 hR) (fX9_restore G).1 (fX9_restore G).2 rfl) (cwV 0 hts gL_law_X9_restore rfl rfl rfl (by decide +kernel) ⟨Nat.le_of_ble_eq_true rfl, Nat.le_of_ble_eq_true rfl⟩) hP hD hS rfl hl.1 rfl (Nat.le_of_ble_eq_true rfl) dL_law_2494 ⟨by omega, by omega⟩ (fun H locs hP hD hS => ?_)
  refine lv_istore (lv' := [(7, .int (iI (fX9_restore G).1)), (6, .int (iI ((fX9_restore G).2 26 0))), (0, .ref b), (1, .ref (E 0)), (2, .ref (F 0)), (3, .ref o), (4, .ref od), (5, .int (iI i))]) hx hb dL_law_2497 hl (by decide) rfl (fun ls hl => ?_)
  exact lw_tail (k := (fX8_restore C).1) (c0 := cells) (s0 := slots) K hs.1 rfl (AnsL_r hs.2.1 (by decide)).1 (fun hz => by rw [hf' ((AnsL_r hs.2.1 (by decide)).2 hz)]; exact congrArg (fun z => (iI z).toInt64) (hs.2.2 ((AnsL_r hs.2.1 (by decide)).2 hz))) hP hD hS hl (by omega) (by omega) ⟨by omega, by omega⟩ kont (by decide) dL_law_2499 dL_law_2500 dL_law_2503 dL_law_2505 dL_law_2510 dL_law_2512 dL_law_2515 dL_law_2516 dL_law_2517 dL_law_2518 dL_law_2520 dL_law_2521 dL_law_2522 dL_law_2527
