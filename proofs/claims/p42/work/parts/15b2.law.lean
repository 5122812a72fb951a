set_option maxHeartbeats 4000000 in
set_option maxRecDepth 100000 in
theorem law_part_26 {p : Program} {l : Launch} {e : Env} {s : State} {m : MethodId} {below : List Frame} {meth : Method} {c : Code} {H : Heap} {locs : List Loc} {ls : Array Slot} {D : va_G} {y : Nat → ClassId} {base : Nat} {S : zS} {a : Nat → Nat} {bs : Nat} (hst : l.stackTraces = false) (C : CallFix p m c code 2 s #[Value.ref bs] wsL_law RL) (hr : meth.sig.returnType = ret) (hlocks : meth.locks = false) (hy31 : y 99 < 2 ^ 31) (hNw : zNew S a) (hDs : zDs a) (hbase : base = s.heap.size) (hw : zW D y base S s H locs) (hl : lv_has ls 2 [(1, .ref (a 0)), (0, .ref (y 98))]) : W p l e room_1 s m #[Value.ref bs] below meth c H locs 296 7119 (lw_Z below #[Value.ref bs] s) (F0 m 1551 ls []) := by
  have hx := C.1
  have hb := C.2.1
  have hown := C.2.2.2.1
  have hts := C.2.2.2.2
  refine lv_aload_n hx hb dL_law_1551 rfl (lv_at hl 0 rfl) ?_
  refine lv_bipush (v := 49) hx hb dL_law_1552 (by decide) ?_
  refine lv_iconst (v := 4) hx hb dL_law_1554 (by decide) ?_
  refine znewI (N := 4) C hw (by decide +kernel) (by decide) (by decide) (Nat.le_of_ble_eq_true rfl) (Nat.le_of_ble_eq_true rfl) (Nat.le_of_ble_eq_true rfl) dL_law_1555 (fun q1555 H kq1555 hw => ?_)
  have hA : zAr S (znR S q1555 22 4 (fun _ => 0)) q1555 4 [] := zAr.new kq1555
  generalize (znR S q1555 22 4 (fun _ => 0)) = Sa1555 at hw hA
  refine lv_dup hx hb dL_law_1557 rfl ?_
  refine lv_iconst (v := 0) hx hb dL_law_1558 (by decide) ?_
  refine lv_iconst (v := 0) hx hb dL_law_1559 (by decide) ?_
  refine zast_I (a := q1555) C hw hA.2.1 hA.2.2.1 (zin_of (N := 4) (by decide) (by grind) (by grind)) dL_law_1560 (fun H locs hw => ?_)
  have hA : zAr S (zsR Sa1555 22 q1555 (upd (zR Sa1555 22 q1555) (0 : Int32).toNatClampNeg 0)) q1555 4 [0] := zAr.st (k := 0) hA kq1555 (by decide) rfl
  generalize (zsR Sa1555 22 q1555 (upd (zR Sa1555 22 q1555) (0 : Int32).toNatClampNeg 0)) = Sa1560 at hw hA
  refine lv_dup hx hb dL_law_1561 rfl ?_
  refine lv_iconst (v := 1) hx hb dL_law_1562 (by decide) ?_
  refine lv_iconst (v := 0) hx hb dL_law_1563 (by decide) ?_
  refine zast_I (a := q1555) C hw hA.2.1 hA.2.2.1 (zin_of (N := 4) (by decide) (by grind) (by grind)) dL_law_1564 (fun H locs hw => ?_)
  have hA : zAr S (zsR Sa1560 22 q1555 (upd (zR Sa1560 22 q1555) (1 : Int32).toNatClampNeg 0)) q1555 4 [0, 0] := zAr.st (k := 1) hA kq1555 (by decide) rfl
  generalize (zsR Sa1560 22 q1555 (upd (zR Sa1560 22 q1555) (1 : Int32).toNatClampNeg 0)) = Sa1564 at hw hA
  refine lv_dup hx hb dL_law_1565 rfl ?_
  refine lv_iconst (v := 2) hx hb dL_law_1566 (by decide) ?_
  refine lv_bipush (v := 10) hx hb dL_law_1567 (by decide) ?_
  refine zast_I (a := q1555) C hw hA.2.1 hA.2.2.1 (zin_of (N := 4) (by decide) (by grind) (by grind)) dL_law_1569 (fun H locs hw => ?_)
  have hA : zAr S (zsR Sa1564 22 q1555 (upd (zR Sa1564 22 q1555) (2 : Int32).toNatClampNeg 10)) q1555 4 [0, 0, 10] := zAr.st (k := 2) hA kq1555 (by decide) rfl
  generalize (zsR Sa1564 22 q1555 (upd (zR Sa1564 22 q1555) (2 : Int32).toNatClampNeg 10)) = Sa1569 at hw hA
  refine lv_dup hx hb dL_law_1570 rfl ?_
  refine lv_iconst (v := 3) hx hb dL_law_1571 (by decide) ?_
  refine lv_bipush (v := 110) hx hb dL_law_1572 (by decide) ?_
  refine zast_I (a := q1555) C hw hA.2.1 hA.2.2.1 (zin_of (N := 4) (by decide) (by grind) (by grind)) dL_law_1574 (fun H locs hw => ?_)
  have hA : zAr S (zsR Sa1569 22 q1555 (upd (zR Sa1569 22 q1555) (3 : Int32).toNatClampNeg 110)) q1555 4 [0, 0, 10, 110] := zAr.st (k := 3) hA kq1555 (by decide) rfl
  generalize (zsR Sa1569 22 q1555 (upd (zR Sa1569 22 q1555) (3 : Int32).toNatClampNeg 110)) = Sa1574 at hw hA
  obtain ⟨hG, hK9, hN9, hA⟩ := hA
  have hj0 : zR Sa1574 22 q1555 0 = 0 := (hA 0 0 rfl).trans rfl
  have hj1 : zR Sa1574 22 q1555 1 = 0 := (hA 1 0 rfl).trans rfl
  have hj2 : zR Sa1574 22 q1555 2 = 10 := (hA 2 10 rfl).trans rfl
  have hj3 : zR Sa1574 22 q1555 3 = 110 := (hA 3 110 rfl).trans rfl
  have hNw := zNew.gw hG hNw
  refine zcSW_i (As := [.ref (a 0), .int 49, .ref q1555]) (rest := []) (n9 := 3) C hw (c_L_ask_1_decodeSerial_r l hst D y base Sa1574 a 0 0 10 110 q1555 hNw.1 hNw.2.1 hK9 hN9 hj0 hj1 hj2 hj3 (by decide)) gL_law_L_ask rfl (by decide +kernel) ⟨⟨rfl, rfl⟩, Nat.le_of_ble_eq_true rfl, Nat.le_of_ble_eq_true rfl⟩ rfl hl.1 rfl (Nat.le_of_ble_eq_true rfl) ⟨Nat.le_of_ble_eq_true rfl, Nat.le_of_ble_eq_true rfl⟩ dL_law_1575 (fun r1575 S1575 H locs hp1575 hw => ?_)
  have h9 : r1575 = (0) ∧ S1575 = zsI Sa1574 112 (a 4) 0 := by
    rcases hp1575 with h | h | h
    · exact absurd h.1 (by decide +kernel)
    · exact absurd h.1 (by decide +kernel)
    · exact h.2
  obtain ⟨rfl, hS9⟩ := h9
  have hNw : zNew S1575 a := by rw [hS9]; exact zNew.same hNw hNw.2.1.2.2.2.1
  refine lv_if_ne (tgt := 1945) hx hb dL_law_1578 (by decide) (fun c1578 => absurd c1578 (by decide)) (fun _ => ?_)
  refine lv_aload_n hx hb dL_law_1581 rfl (lv_at hl 0 rfl) ?_
  refine lv_bipush (v := 50) hx hb dL_law_1582 (by decide) ?_
  refine lv_iconst (v := 3) hx hb dL_law_1584 (by decide) ?_
  refine znewI (N := 3) C hw (by decide +kernel) (by decide) (by decide) (Nat.le_of_ble_eq_true rfl) (Nat.le_of_ble_eq_true rfl) (Nat.le_of_ble_eq_true rfl) dL_law_1585 (fun q1585 H kq1585 hw => ?_)
  have hA : zAr S1575 (znR S1575 q1585 22 3 (fun _ => 0)) q1585 3 [] := zAr.new kq1585
  generalize (znR S1575 q1585 22 3 (fun _ => 0)) = Sa1585 at hw hA
  refine lv_dup hx hb dL_law_1587 rfl ?_
  refine lv_iconst (v := 0) hx hb dL_law_1588 (by decide) ?_
  refine lv_iconst (v := 0) hx hb dL_law_1589 (by decide) ?_
  refine zast_I (a := q1585) C hw hA.2.1 hA.2.2.1 (zin_of (N := 3) (by decide) (by grind) (by grind)) dL_law_1590 (fun H locs hw => ?_)
  have hA : zAr S1575 (zsR Sa1585 22 q1585 (upd (zR Sa1585 22 q1585) (0 : Int32).toNatClampNeg 0)) q1585 3 [0] := zAr.st (k := 0) hA kq1585 (by decide) rfl
  generalize (zsR Sa1585 22 q1585 (upd (zR Sa1585 22 q1585) (0 : Int32).toNatClampNeg 0)) = Sa1590 at hw hA
  refine lv_dup hx hb dL_law_1591 rfl ?_
  refine lv_iconst (v := 1) hx hb dL_law_1592 (by decide) ?_
  refine lv_iconst (v := 1) hx hb dL_law_1593 (by decide) ?_
  refine zast_I (a := q1585) C hw hA.2.1 hA.2.2.1 (zin_of (N := 3) (by decide) (by grind) (by grind)) dL_law_1594 (fun H locs hw => ?_)
  have hA : zAr S1575 (zsR Sa1590 22 q1585 (upd (zR Sa1590 22 q1585) (1 : Int32).toNatClampNeg 1)) q1585 3 [0, 1] := zAr.st (k := 1) hA kq1585 (by decide) rfl
  generalize (zsR Sa1590 22 q1585 (upd (zR Sa1590 22 q1585) (1 : Int32).toNatClampNeg 1)) = Sa1594 at hw hA
  refine lv_dup hx hb dL_law_1595 rfl ?_
  refine lv_iconst (v := 2) hx hb dL_law_1596 (by decide) ?_
  refine lv_iconst (v := 1) hx hb dL_law_1597 (by decide) ?_
  refine zast_I (a := q1585) C hw hA.2.1 hA.2.2.1 (zin_of (N := 3) (by decide) (by grind) (by grind)) dL_law_1598 (fun H locs hw => ?_)
  have hA : zAr S1575 (zsR Sa1594 22 q1585 (upd (zR Sa1594 22 q1585) (2 : Int32).toNatClampNeg 1)) q1585 3 [0, 1, 1] := zAr.st (k := 2) hA kq1585 (by decide) rfl
  generalize (zsR Sa1594 22 q1585 (upd (zR Sa1594 22 q1585) (2 : Int32).toNatClampNeg 1)) = Sa1598 at hw hA
  obtain ⟨hG, hK9, hN9, hA⟩ := hA
  have hj0 : zR Sa1598 22 q1585 0 = 0 := (hA 0 0 rfl).trans rfl
  have hj1 : zR Sa1598 22 q1585 1 = 1 := (hA 1 1 rfl).trans rfl
  have hj2 : zR Sa1598 22 q1585 2 = 1 := (hA 2 1 rfl).trans rfl
  have hNw := zNew.gw hG hNw
  refine zcSW_i (As := [.ref (a 0), .int 50, .ref q1585]) (rest := []) (n9 := 3) C hw (c_L_ask_2_decodeTwo_r l hst D y base Sa1598 a 0 1 1 q1585 hNw.1 hNw.2.1 (by decide +kernel) hK9 hN9 hj0 hj1 hj2) gL_law_L_ask rfl (by decide +kernel) ⟨⟨rfl, rfl⟩, Nat.le_of_ble_eq_true rfl, Nat.le_of_ble_eq_true rfl⟩ rfl hl.1 rfl (Nat.le_of_ble_eq_true rfl) ⟨Nat.le_of_ble_eq_true rfl, Nat.le_of_ble_eq_true rfl⟩ dL_law_1599 (fun r1599 S1599 H locs hp1599 hw => ?_)
  have h9 : r1599 = (-2000000002) ∧ S1599 = Sa1598 := by
    rcases hp1599 with h | h
    · exact absurd h.1 (by decide +kernel)
    · exact h.2
  obtain ⟨rfl, hS9⟩ := h9
  have hS9 := hS9.symm
  subst hS9
  refine lv_ldc (own := RL) (v := (-2000000002)) hx hb hown (hts (.constant RL 71 (-2000000002)) (by decide +kernel)) dL_law_1602 ?_
  refine lv_icmp_ne (tgt := 1945) hx hb dL_law_1604 (by decide) (fun c1604 => absurd c1604 (by decide)) (fun _ => ?_)
  exact law_part_27 hst C hr hlocks hy31 hNw hDs hbase hw hl

set_option maxHeartbeats 4000000 in
set_option maxRecDepth 100000 in
theorem law_part_25 {p : Program} {l : Launch} {e : Env} {s : State} {m : MethodId} {below : List Frame} {meth : Method} {c : Code} {H : Heap} {locs : List Loc} {ls : Array Slot} {D : va_G} {y : Nat → ClassId} {base : Nat} {S : zS} {a : Nat → Nat} {bs : Nat} (hst : l.stackTraces = false) (C : CallFix p m c code 2 s #[Value.ref bs] wsL_law RL) (hr : meth.sig.returnType = ret) (hlocks : meth.locks = false) (hy31 : y 99 < 2 ^ 31) (hNw : zNew S a) (hDs : zDs a) (hbase : base = s.heap.size) (hw : zW D y base S s H locs) (hl : lv_has ls 2 [(1, .ref (a 0)), (0, .ref (y 98))]) : W p l e room_1 s m #[Value.ref bs] below meth c H locs 286 7063 (lw_Z below #[Value.ref bs] s) (F0 m 1487 ls []) := by
  have hx := C.1
  have hb := C.2.1
  have hown := C.2.2.2.1
  have hts := C.2.2.2.2
  refine lv_aload_n hx hb dL_law_1487 rfl (lv_at hl 0 rfl) ?_
  refine lv_bipush (v := 49) hx hb dL_law_1488 (by decide) ?_
  refine lv_iconst (v := 4) hx hb dL_law_1490 (by decide) ?_
  refine znewI (N := 4) C hw (by decide +kernel) (by decide) (by decide) (Nat.le_of_ble_eq_true rfl) (Nat.le_of_ble_eq_true rfl) (Nat.le_of_ble_eq_true rfl) dL_law_1491 (fun q1491 H kq1491 hw => ?_)
  have hA : zAr S (znR S q1491 22 4 (fun _ => 0)) q1491 4 [] := zAr.new kq1491
  generalize (znR S q1491 22 4 (fun _ => 0)) = Sa1491 at hw hA
  refine lv_dup hx hb dL_law_1493 rfl ?_
  refine lv_iconst (v := 0) hx hb dL_law_1494 (by decide) ?_
  refine lv_iconst (v := 0) hx hb dL_law_1495 (by decide) ?_
  refine zast_I (a := q1491) C hw hA.2.1 hA.2.2.1 (zin_of (N := 4) (by decide) (by grind) (by grind)) dL_law_1496 (fun H locs hw => ?_)
  have hA : zAr S (zsR Sa1491 22 q1491 (upd (zR Sa1491 22 q1491) (0 : Int32).toNatClampNeg 0)) q1491 4 [0] := zAr.st (k := 0) hA kq1491 (by decide) rfl
  generalize (zsR Sa1491 22 q1491 (upd (zR Sa1491 22 q1491) (0 : Int32).toNatClampNeg 0)) = Sa1496 at hw hA
  refine lv_dup hx hb dL_law_1497 rfl ?_
  refine lv_iconst (v := 1) hx hb dL_law_1498 (by decide) ?_
  refine lv_iconst (v := 0) hx hb dL_law_1499 (by decide) ?_
  refine zast_I (a := q1491) C hw hA.2.1 hA.2.2.1 (zin_of (N := 4) (by decide) (by grind) (by grind)) dL_law_1500 (fun H locs hw => ?_)
  have hA : zAr S (zsR Sa1496 22 q1491 (upd (zR Sa1496 22 q1491) (1 : Int32).toNatClampNeg 0)) q1491 4 [0, 0] := zAr.st (k := 1) hA kq1491 (by decide) rfl
  generalize (zsR Sa1496 22 q1491 (upd (zR Sa1496 22 q1491) (1 : Int32).toNatClampNeg 0)) = Sa1500 at hw hA
  refine lv_dup hx hb dL_law_1501 rfl ?_
  refine lv_iconst (v := 2) hx hb dL_law_1502 (by decide) ?_
  refine lv_bipush (v := 9) hx hb dL_law_1503 (by decide) ?_
  refine zast_I (a := q1491) C hw hA.2.1 hA.2.2.1 (zin_of (N := 4) (by decide) (by grind) (by grind)) dL_law_1505 (fun H locs hw => ?_)
  have hA : zAr S (zsR Sa1500 22 q1491 (upd (zR Sa1500 22 q1491) (2 : Int32).toNatClampNeg 9)) q1491 4 [0, 0, 9] := zAr.st (k := 2) hA kq1491 (by decide) rfl
  generalize (zsR Sa1500 22 q1491 (upd (zR Sa1500 22 q1491) (2 : Int32).toNatClampNeg 9)) = Sa1505 at hw hA
  refine lv_dup hx hb dL_law_1506 rfl ?_
  refine lv_iconst (v := 3) hx hb dL_law_1507 (by decide) ?_
  refine lv_bipush (v := 110) hx hb dL_law_1508 (by decide) ?_
  refine zast_I (a := q1491) C hw hA.2.1 hA.2.2.1 (zin_of (N := 4) (by decide) (by grind) (by grind)) dL_law_1510 (fun H locs hw => ?_)
  have hA : zAr S (zsR Sa1505 22 q1491 (upd (zR Sa1505 22 q1491) (3 : Int32).toNatClampNeg 110)) q1491 4 [0, 0, 9, 110] := zAr.st (k := 3) hA kq1491 (by decide) rfl
  generalize (zsR Sa1505 22 q1491 (upd (zR Sa1505 22 q1491) (3 : Int32).toNatClampNeg 110)) = Sa1510 at hw hA
  obtain ⟨hG, hK9, hN9, hA⟩ := hA
  have hj0 : zR Sa1510 22 q1491 0 = 0 := (hA 0 0 rfl).trans rfl
  have hj1 : zR Sa1510 22 q1491 1 = 0 := (hA 1 0 rfl).trans rfl
  have hj2 : zR Sa1510 22 q1491 2 = 9 := (hA 2 9 rfl).trans rfl
  have hj3 : zR Sa1510 22 q1491 3 = 110 := (hA 3 110 rfl).trans rfl
  have hNw := zNew.gw hG hNw
  refine zcSW_i (As := [.ref (a 0), .int 49, .ref q1491]) (rest := []) (n9 := 3) C hw (c_L_ask_1_decodeSerial_r l hst D y base Sa1510 a 0 0 9 110 q1491 hNw.1 hNw.2.1 hK9 hN9 hj0 hj1 hj2 hj3 (by decide)) gL_law_L_ask rfl (by decide +kernel) ⟨⟨rfl, rfl⟩, Nat.le_of_ble_eq_true rfl, Nat.le_of_ble_eq_true rfl⟩ rfl hl.1 rfl (Nat.le_of_ble_eq_true rfl) ⟨Nat.le_of_ble_eq_true rfl, Nat.le_of_ble_eq_true rfl⟩ dL_law_1511 (fun r1511 S1511 H locs hp1511 hw => ?_)
  have h9 : r1511 = (-2000000002) ∧ S1511 = Sa1510 := by
    rcases hp1511 with h | h | h
    · exact absurd h.1 (by decide +kernel)
    · exact h.2
    · exact absurd h.1 (by decide +kernel)
  obtain ⟨rfl, hS9⟩ := h9
  have hS9 := hS9.symm
  subst hS9
  refine lv_ldc (own := RL) (v := (-2000000002)) hx hb hown (hts (.constant RL 71 (-2000000002)) (by decide +kernel)) dL_law_1514 ?_
  refine lv_icmp_ne (tgt := 1945) hx hb dL_law_1516 (by decide) (fun c1516 => absurd c1516 (by decide)) (fun _ => ?_)
  refine lv_aload_n hx hb dL_law_1519 rfl (lv_at hl 0 rfl) ?_
  refine lv_bipush (v := 49) hx hb dL_law_1520 (by decide) ?_
  refine lv_iconst (v := 4) hx hb dL_law_1522 (by decide) ?_
  refine znewI (N := 4) C hw (by decide +kernel) (by decide) (by decide) (Nat.le_of_ble_eq_true rfl) (Nat.le_of_ble_eq_true rfl) (Nat.le_of_ble_eq_true rfl) dL_law_1523 (fun q1523 H kq1523 hw => ?_)
  have hA : zAr Sa1510 (znR Sa1510 q1523 22 4 (fun _ => 0)) q1523 4 [] := zAr.new kq1523
  generalize (znR Sa1510 q1523 22 4 (fun _ => 0)) = Sa1523 at hw hA
  refine lv_dup hx hb dL_law_1525 rfl ?_
  refine lv_iconst (v := 0) hx hb dL_law_1526 (by decide) ?_
  refine lv_iconst (v := 0) hx hb dL_law_1527 (by decide) ?_
  refine zast_I (a := q1523) C hw hA.2.1 hA.2.2.1 (zin_of (N := 4) (by decide) (by grind) (by grind)) dL_law_1528 (fun H locs hw => ?_)
  have hA : zAr Sa1510 (zsR Sa1523 22 q1523 (upd (zR Sa1523 22 q1523) (0 : Int32).toNatClampNeg 0)) q1523 4 [0] := zAr.st (k := 0) hA kq1523 (by decide) rfl
  generalize (zsR Sa1523 22 q1523 (upd (zR Sa1523 22 q1523) (0 : Int32).toNatClampNeg 0)) = Sa1528 at hw hA
  refine lv_dup hx hb dL_law_1529 rfl ?_
  refine lv_iconst (v := 1) hx hb dL_law_1530 (by decide) ?_
  refine lv_iconst (v := 0) hx hb dL_law_1531 (by decide) ?_
  refine zast_I (a := q1523) C hw hA.2.1 hA.2.2.1 (zin_of (N := 4) (by decide) (by grind) (by grind)) dL_law_1532 (fun H locs hw => ?_)
  have hA : zAr Sa1510 (zsR Sa1528 22 q1523 (upd (zR Sa1528 22 q1523) (1 : Int32).toNatClampNeg 0)) q1523 4 [0, 0] := zAr.st (k := 1) hA kq1523 (by decide) rfl
  generalize (zsR Sa1528 22 q1523 (upd (zR Sa1528 22 q1523) (1 : Int32).toNatClampNeg 0)) = Sa1532 at hw hA
  refine lv_dup hx hb dL_law_1533 rfl ?_
  refine lv_iconst (v := 2) hx hb dL_law_1534 (by decide) ?_
  refine lv_bipush (v := 10) hx hb dL_law_1535 (by decide) ?_
  refine zast_I (a := q1523) C hw hA.2.1 hA.2.2.1 (zin_of (N := 4) (by decide) (by grind) (by grind)) dL_law_1537 (fun H locs hw => ?_)
  have hA : zAr Sa1510 (zsR Sa1532 22 q1523 (upd (zR Sa1532 22 q1523) (2 : Int32).toNatClampNeg 10)) q1523 4 [0, 0, 10] := zAr.st (k := 2) hA kq1523 (by decide) rfl
  generalize (zsR Sa1532 22 q1523 (upd (zR Sa1532 22 q1523) (2 : Int32).toNatClampNeg 10)) = Sa1537 at hw hA
  refine lv_dup hx hb dL_law_1538 rfl ?_
  refine lv_iconst (v := 3) hx hb dL_law_1539 (by decide) ?_
  refine lv_bipush (v := 120) hx hb dL_law_1540 (by decide) ?_
  refine zast_I (a := q1523) C hw hA.2.1 hA.2.2.1 (zin_of (N := 4) (by decide) (by grind) (by grind)) dL_law_1542 (fun H locs hw => ?_)
  have hA : zAr Sa1510 (zsR Sa1537 22 q1523 (upd (zR Sa1537 22 q1523) (3 : Int32).toNatClampNeg 120)) q1523 4 [0, 0, 10, 120] := zAr.st (k := 3) hA kq1523 (by decide) rfl
  generalize (zsR Sa1537 22 q1523 (upd (zR Sa1537 22 q1523) (3 : Int32).toNatClampNeg 120)) = Sa1542 at hw hA
  obtain ⟨hG, hK9, hN9, hA⟩ := hA
  have hj0 : zR Sa1542 22 q1523 0 = 0 := (hA 0 0 rfl).trans rfl
  have hj1 : zR Sa1542 22 q1523 1 = 0 := (hA 1 0 rfl).trans rfl
  have hj2 : zR Sa1542 22 q1523 2 = 10 := (hA 2 10 rfl).trans rfl
  have hj3 : zR Sa1542 22 q1523 3 = 120 := (hA 3 120 rfl).trans rfl
  have hNw := zNew.gw hG hNw
  refine zcSW_i (As := [.ref (a 0), .int 49, .ref q1523]) (rest := []) (n9 := 3) C hw (c_L_ask_1_decodeSerial_r l hst D y base Sa1542 a 0 0 10 120 q1523 hNw.1 hNw.2.1 hK9 hN9 hj0 hj1 hj2 hj3 (by decide)) gL_law_L_ask rfl (by decide +kernel) ⟨⟨rfl, rfl⟩, Nat.le_of_ble_eq_true rfl, Nat.le_of_ble_eq_true rfl⟩ rfl hl.1 rfl (Nat.le_of_ble_eq_true rfl) ⟨Nat.le_of_ble_eq_true rfl, Nat.le_of_ble_eq_true rfl⟩ dL_law_1543 (fun r1543 S1543 H locs hp1543 hw => ?_)
  have h9 : r1543 = (-2000000002) ∧ S1543 = Sa1542 := by
    rcases hp1543 with h | h | h
    · exact absurd h.1 (by decide +kernel)
    · exact h.2
    · exact absurd h.1 (by decide +kernel)
  obtain ⟨rfl, hS9⟩ := h9
  have hS9 := hS9.symm
  subst hS9
  refine lv_ldc (own := RL) (v := (-2000000002)) hx hb hown (hts (.constant RL 71 (-2000000002)) (by decide +kernel)) dL_law_1546 ?_
  refine lv_icmp_ne (tgt := 1945) hx hb dL_law_1548 (by decide) (fun c1548 => absurd c1548 (by decide)) (fun _ => ?_)
  exact law_part_26 hst C hr hlocks hy31 hNw hDs hbase hw hl

set_option maxHeartbeats 4000000 in
set_option maxRecDepth 100000 in
theorem law_part_24 {p : Program} {l : Launch} {e : Env} {s : State} {m : MethodId} {below : List Frame} {meth : Method} {c : Code} {H : Heap} {locs : List Loc} {ls : Array Slot} {D : va_G} {y : Nat → ClassId} {base : Nat} {S : zS} {a : Nat → Nat} {bs : Nat} (hst : l.stackTraces = false) (C : CallFix p m c code 2 s #[Value.ref bs] wsL_law RL) (hr : meth.sig.returnType = ret) (hlocks : meth.locks = false) (hy31 : y 99 < 2 ^ 31) (hNw : zNew S a) (hDs : zDs a) (hbase : base = s.heap.size) (hw : zW D y base S s H locs) (hl : lv_has ls 2 [(1, .ref (a 0)), (0, .ref (y 98))]) : W p l e room_1 s m #[Value.ref bs] below meth c H locs 276 7016 (lw_Z below #[Value.ref bs] s) (F0 m 1422 ls []) := by
  have hx := C.1
  have hb := C.2.1
  have hown := C.2.2.2.1
  have hts := C.2.2.2.2
  refine lv_aload_n hx hb dL_law_1422 rfl (lv_at hl 0 rfl) ?_
  refine lv_bipush (v := 112) hx hb dL_law_1423 (by decide) ?_
  refine lv_iconst (v := 3) hx hb dL_law_1425 (by decide) ?_
  refine znewI (N := 3) C hw (by decide +kernel) (by decide) (by decide) (Nat.le_of_ble_eq_true rfl) (Nat.le_of_ble_eq_true rfl) (Nat.le_of_ble_eq_true rfl) dL_law_1426 (fun q1426 H kq1426 hw => ?_)
  have hA : zAr S (znR S q1426 22 3 (fun _ => 0)) q1426 3 [] := zAr.new kq1426
  generalize (znR S q1426 22 3 (fun _ => 0)) = Sa1426 at hw hA
  refine lv_dup hx hb dL_law_1428 rfl ?_
  refine lv_iconst (v := 0) hx hb dL_law_1429 (by decide) ?_
  refine lv_bipush (v := 112) hx hb dL_law_1430 (by decide) ?_
  refine zast_I (a := q1426) C hw hA.2.1 hA.2.2.1 (zin_of (N := 3) (by decide) (by grind) (by grind)) dL_law_1432 (fun H locs hw => ?_)
  have hA : zAr S (zsR Sa1426 22 q1426 (upd (zR Sa1426 22 q1426) (0 : Int32).toNatClampNeg 112)) q1426 3 [112] := zAr.st (k := 0) hA kq1426 (by decide) rfl
  generalize (zsR Sa1426 22 q1426 (upd (zR Sa1426 22 q1426) (0 : Int32).toNatClampNeg 112)) = Sa1432 at hw hA
  refine lv_dup hx hb dL_law_1433 rfl ?_
  refine lv_iconst (v := 1) hx hb dL_law_1434 (by decide) ?_
  refine lv_bipush (v := 9) hx hb dL_law_1435 (by decide) ?_
  refine zast_I (a := q1426) C hw hA.2.1 hA.2.2.1 (zin_of (N := 3) (by decide) (by grind) (by grind)) dL_law_1437 (fun H locs hw => ?_)
  have hA : zAr S (zsR Sa1432 22 q1426 (upd (zR Sa1432 22 q1426) (1 : Int32).toNatClampNeg 9)) q1426 3 [112, 9] := zAr.st (k := 1) hA kq1426 (by decide) rfl
  generalize (zsR Sa1432 22 q1426 (upd (zR Sa1432 22 q1426) (1 : Int32).toNatClampNeg 9)) = Sa1437 at hw hA
  refine lv_dup hx hb dL_law_1438 rfl ?_
  refine lv_iconst (v := 2) hx hb dL_law_1439 (by decide) ?_
  refine lv_bipush (v := 16) hx hb dL_law_1440 (by decide) ?_
  refine zast_I (a := q1426) C hw hA.2.1 hA.2.2.1 (zin_of (N := 3) (by decide) (by grind) (by grind)) dL_law_1442 (fun H locs hw => ?_)
  have hA : zAr S (zsR Sa1437 22 q1426 (upd (zR Sa1437 22 q1426) (2 : Int32).toNatClampNeg 16)) q1426 3 [112, 9, 16] := zAr.st (k := 2) hA kq1426 (by decide) rfl
  generalize (zsR Sa1437 22 q1426 (upd (zR Sa1437 22 q1426) (2 : Int32).toNatClampNeg 16)) = Sa1442 at hw hA
  obtain ⟨hG, hK9, hN9, hA⟩ := hA
  have hj0 : zR Sa1442 22 q1426 0 = 112 := (hA 0 112 rfl).trans rfl
  have hj1 : zR Sa1442 22 q1426 1 = 9 := (hA 1 9 rfl).trans rfl
  have hj2 : zR Sa1442 22 q1426 2 = 16 := (hA 2 16 rfl).trans rfl
  have hNw := zNew.gw hG hNw
  refine zcSW_i (As := [.ref (a 0), .int 112, .ref q1426]) (rest := []) (n9 := 3) C hw (c_L_ask_p_step_r l hst D y base Sa1442 a 112 9 16 q1426 hNw.1 hNw.2.1 (by decide +kernel) hK9 hN9 hj0 hj1 hj2 (by decide)) gL_law_L_ask rfl (by decide +kernel) ⟨⟨rfl, rfl⟩, Nat.le_of_ble_eq_true rfl, Nat.le_of_ble_eq_true rfl⟩ rfl hl.1 rfl (Nat.le_of_ble_eq_true rfl) ⟨Nat.le_of_ble_eq_true rfl, Nat.le_of_ble_eq_true rfl⟩ dL_law_1443 (fun r1443 S1443 H locs hp1443 hw => ?_)
  have h9 : r1443 = (-2000000002) ∧ S1443 = Sa1442 := by
    rcases hp1443 with h | h
    · exact absurd h.1 (by decide +kernel)
    · exact h.2
  obtain ⟨rfl, hS9⟩ := h9
  have hS9 := hS9.symm
  subst hS9
  refine lv_ldc (own := RL) (v := (-2000000002)) hx hb hown (hts (.constant RL 71 (-2000000002)) (by decide +kernel)) dL_law_1446 ?_
  refine lv_icmp_ne (tgt := 1945) hx hb dL_law_1448 (by decide) (fun c1448 => absurd c1448 (by decide)) (fun _ => ?_)
  refine lv_aload_n hx hb dL_law_1451 rfl (lv_at hl 0 rfl) ?_
  refine lv_bipush (v := 84) hx hb dL_law_1452 (by decide) ?_
  refine lv_iconst (v := 1) hx hb dL_law_1454 (by decide) ?_
  refine znewI (N := 1) C hw (by decide +kernel) (by decide) (by decide) (Nat.le_of_ble_eq_true rfl) (Nat.le_of_ble_eq_true rfl) (Nat.le_of_ble_eq_true rfl) dL_law_1455 (fun q1455 H kq1455 hw => ?_)
  have hA : zAr Sa1442 (znR Sa1442 q1455 22 1 (fun _ => 0)) q1455 1 [] := zAr.new kq1455
  generalize (znR Sa1442 q1455 22 1 (fun _ => 0)) = Sa1455 at hw hA
  refine lv_dup hx hb dL_law_1457 rfl ?_
  refine lv_iconst (v := 0) hx hb dL_law_1458 (by decide) ?_
  refine lv_iconst (v := 0) hx hb dL_law_1459 (by decide) ?_
  refine zast_I (a := q1455) C hw hA.2.1 hA.2.2.1 (zin_of (N := 1) (by decide) (by grind) (by grind)) dL_law_1460 (fun H locs hw => ?_)
  have hA : zAr Sa1442 (zsR Sa1455 22 q1455 (upd (zR Sa1455 22 q1455) (0 : Int32).toNatClampNeg 0)) q1455 1 [0] := zAr.st (k := 0) hA kq1455 (by decide) rfl
  generalize (zsR Sa1455 22 q1455 (upd (zR Sa1455 22 q1455) (0 : Int32).toNatClampNeg 0)) = Sa1460 at hw hA
  obtain ⟨hG, hK9, hN9, hA⟩ := hA
  have hj0 : zR Sa1460 22 q1455 0 = 0 := (hA 0 0 rfl).trans rfl
  have hNw := zNew.gw hG hNw
  refine zcSW_i (As := [.ref (a 0), .int 84, .ref q1455]) (rest := []) (n9 := 3) C hw (c_L_ask_T_trigger_r l hst D y base Sa1460 a 0 q1455 hNw.1 hNw.2.1 hK9 hN9 hj0) gL_law_L_ask rfl (by decide +kernel) ⟨⟨rfl, rfl⟩, Nat.le_of_ble_eq_true rfl, Nat.le_of_ble_eq_true rfl⟩ rfl hl.1 rfl (Nat.le_of_ble_eq_true rfl) ⟨Nat.le_of_ble_eq_true rfl, Nat.le_of_ble_eq_true rfl⟩ dL_law_1461 (fun r1461 S1461 H locs hp1461 hw => ?_)
  have h9 : r1461 = (-2000000004) ∧ S1461 = Sa1460 := by
    rcases hp1461 with h | h
    · exact absurd h.1 (by decide +kernel)
    · exact h.2
  obtain ⟨rfl, hS9⟩ := h9
  have hS9 := hS9.symm
  subst hS9
  refine lv_ldc (own := RL) (v := (-2000000004)) hx hb hown (hts (.constant RL 77 (-2000000004)) (by decide +kernel)) dL_law_1464 ?_
  refine lv_icmp_ne (tgt := 1945) hx hb dL_law_1466 (by decide) (fun c1466 => absurd c1466 (by decide)) (fun _ => ?_)
  refine lv_aload_n hx hb dL_law_1469 rfl (lv_at hl 0 rfl) ?_
  refine lv_bipush (v := 84) hx hb dL_law_1470 (by decide) ?_
  refine lv_iconst (v := 1) hx hb dL_law_1472 (by decide) ?_
  refine znewI (N := 1) C hw (by decide +kernel) (by decide) (by decide) (Nat.le_of_ble_eq_true rfl) (Nat.le_of_ble_eq_true rfl) (Nat.le_of_ble_eq_true rfl) dL_law_1473 (fun q1473 H kq1473 hw => ?_)
  have hA : zAr Sa1460 (znR Sa1460 q1473 22 1 (fun _ => 0)) q1473 1 [] := zAr.new kq1473
  generalize (znR Sa1460 q1473 22 1 (fun _ => 0)) = Sa1473 at hw hA
  refine lv_dup hx hb dL_law_1475 rfl ?_
  refine lv_iconst (v := 0) hx hb dL_law_1476 (by decide) ?_
  refine lv_iconst (v := 2) hx hb dL_law_1477 (by decide) ?_
  refine zast_I (a := q1473) C hw hA.2.1 hA.2.2.1 (zin_of (N := 1) (by decide) (by grind) (by grind)) dL_law_1478 (fun H locs hw => ?_)
  have hA : zAr Sa1460 (zsR Sa1473 22 q1473 (upd (zR Sa1473 22 q1473) (0 : Int32).toNatClampNeg 2)) q1473 1 [2] := zAr.st (k := 0) hA kq1473 (by decide) rfl
  generalize (zsR Sa1473 22 q1473 (upd (zR Sa1473 22 q1473) (0 : Int32).toNatClampNeg 2)) = Sa1478 at hw hA
  obtain ⟨hG, hK9, hN9, hA⟩ := hA
  have hj0 : zR Sa1478 22 q1473 0 = 2 := (hA 0 2 rfl).trans rfl
  have hNw := zNew.gw hG hNw
  refine zcSW_i (As := [.ref (a 0), .int 84, .ref q1473]) (rest := []) (n9 := 3) C hw (c_L_ask_T_trigger_r l hst D y base Sa1478 a 2 q1473 hNw.1 hNw.2.1 hK9 hN9 hj0) gL_law_L_ask rfl (by decide +kernel) ⟨⟨rfl, rfl⟩, Nat.le_of_ble_eq_true rfl, Nat.le_of_ble_eq_true rfl⟩ rfl hl.1 rfl (Nat.le_of_ble_eq_true rfl) ⟨Nat.le_of_ble_eq_true rfl, Nat.le_of_ble_eq_true rfl⟩ dL_law_1479 (fun r1479 S1479 H locs hp1479 hw => ?_)
  have h9 : r1479 = (-2000000001) ∧ S1479 = Sa1478 := by
    rcases hp1479 with h | h
    · exact h.2
    · exact absurd h.1 (by decide +kernel)
  obtain ⟨rfl, hS9⟩ := h9
  have hS9 := hS9.symm
  subst hS9
  refine lv_ldc (own := RL) (v := (-2000000001)) hx hb hown (hts (.constant RL 68 (-2000000001)) (by decide +kernel)) dL_law_1482 ?_
  refine lv_icmp_ne (tgt := 1945) hx hb dL_law_1484 (by decide) (fun c1484 => absurd c1484 (by decide)) (fun _ => ?_)
  exact law_part_25 hst C hr hlocks hy31 hNw hDs hbase hw hl

set_option maxHeartbeats 4000000 in
set_option maxRecDepth 100000 in
theorem law_part_23 {p : Program} {l : Launch} {e : Env} {s : State} {m : MethodId} {below : List Frame} {meth : Method} {c : Code} {H : Heap} {locs : List Loc} {ls : Array Slot} {D : va_G} {y : Nat → ClassId} {base : Nat} {S : zS} {a : Nat → Nat} {bs : Nat} (hst : l.stackTraces = false) (C : CallFix p m c code 2 s #[Value.ref bs] wsL_law RL) (hr : meth.sig.returnType = ret) (hlocks : meth.locks = false) (hy31 : y 99 < 2 ^ 31) (hNw : zNew S a) (hDs : zDs a) (hbase : base = s.heap.size) (hw : zW D y base S s H locs) (hl : lv_has ls 2 [(1, .ref (a 0)), (0, .ref (y 98))]) : W p l e room_1 s m #[Value.ref bs] below meth c H locs 268 6974 (lw_Z below #[Value.ref bs] s) (F0 m 1368 ls []) := by
  have hx := C.1
  have hb := C.2.1
  have hown := C.2.2.2.1
  have hts := C.2.2.2.2
  refine lv_aload_n hx hb dL_law_1368 rfl (lv_at hl 0 rfl) ?_
  refine lv_bipush (v := 112) hx hb dL_law_1369 (by decide) ?_
  refine lv_iconst (v := 3) hx hb dL_law_1371 (by decide) ?_
  refine znewI (N := 3) C hw (by decide +kernel) (by decide) (by decide) (Nat.le_of_ble_eq_true rfl) (Nat.le_of_ble_eq_true rfl) (Nat.le_of_ble_eq_true rfl) dL_law_1372 (fun q1372 H kq1372 hw => ?_)
  have hA : zAr S (znR S q1372 22 3 (fun _ => 0)) q1372 3 [] := zAr.new kq1372
  generalize (znR S q1372 22 3 (fun _ => 0)) = Sa1372 at hw hA
  refine lv_dup hx hb dL_law_1374 rfl ?_
  refine lv_iconst (v := 0) hx hb dL_law_1375 (by decide) ?_
  refine lv_bipush (v := 120) hx hb dL_law_1376 (by decide) ?_
  refine zast_I (a := q1372) C hw hA.2.1 hA.2.2.1 (zin_of (N := 3) (by decide) (by grind) (by grind)) dL_law_1378 (fun H locs hw => ?_)
  have hA : zAr S (zsR Sa1372 22 q1372 (upd (zR Sa1372 22 q1372) (0 : Int32).toNatClampNeg 120)) q1372 3 [120] := zAr.st (k := 0) hA kq1372 (by decide) rfl
  generalize (zsR Sa1372 22 q1372 (upd (zR Sa1372 22 q1372) (0 : Int32).toNatClampNeg 120)) = Sa1378 at hw hA
  refine lv_dup hx hb dL_law_1379 rfl ?_
  refine lv_iconst (v := 1) hx hb dL_law_1380 (by decide) ?_
  refine lv_iconst (v := 0) hx hb dL_law_1381 (by decide) ?_
  refine zast_I (a := q1372) C hw hA.2.1 hA.2.2.1 (zin_of (N := 3) (by decide) (by grind) (by grind)) dL_law_1382 (fun H locs hw => ?_)
  have hA : zAr S (zsR Sa1378 22 q1372 (upd (zR Sa1378 22 q1372) (1 : Int32).toNatClampNeg 0)) q1372 3 [120, 0] := zAr.st (k := 1) hA kq1372 (by decide) rfl
  generalize (zsR Sa1378 22 q1372 (upd (zR Sa1378 22 q1372) (1 : Int32).toNatClampNeg 0)) = Sa1382 at hw hA
  refine lv_dup hx hb dL_law_1383 rfl ?_
  refine lv_iconst (v := 2) hx hb dL_law_1384 (by decide) ?_
  refine lv_iconst (v := 1) hx hb dL_law_1385 (by decide) ?_
  refine zast_I (a := q1372) C hw hA.2.1 hA.2.2.1 (zin_of (N := 3) (by decide) (by grind) (by grind)) dL_law_1386 (fun H locs hw => ?_)
  have hA : zAr S (zsR Sa1382 22 q1372 (upd (zR Sa1382 22 q1372) (2 : Int32).toNatClampNeg 1)) q1372 3 [120, 0, 1] := zAr.st (k := 2) hA kq1372 (by decide) rfl
  generalize (zsR Sa1382 22 q1372 (upd (zR Sa1382 22 q1372) (2 : Int32).toNatClampNeg 1)) = Sa1386 at hw hA
  obtain ⟨hG, hK9, hN9, hA⟩ := hA
  have hj0 : zR Sa1386 22 q1372 0 = 120 := (hA 0 120 rfl).trans rfl
  have hj1 : zR Sa1386 22 q1372 1 = 0 := (hA 1 0 rfl).trans rfl
  have hj2 : zR Sa1386 22 q1372 2 = 1 := (hA 2 1 rfl).trans rfl
  have hNw := zNew.gw hG hNw
  refine zcSW_i (As := [.ref (a 0), .int 112, .ref q1372]) (rest := []) (n9 := 3) C hw (c_L_ask_p_step_r l hst D y base Sa1386 a 120 0 1 q1372 hNw.1 hNw.2.1 (by decide +kernel) hK9 hN9 hj0 hj1 hj2 (by decide)) gL_law_L_ask rfl (by decide +kernel) ⟨⟨rfl, rfl⟩, Nat.le_of_ble_eq_true rfl, Nat.le_of_ble_eq_true rfl⟩ rfl hl.1 rfl (Nat.le_of_ble_eq_true rfl) ⟨Nat.le_of_ble_eq_true rfl, Nat.le_of_ble_eq_true rfl⟩ dL_law_1387 (fun r1387 S1387 H locs hp1387 hw => ?_)
  have h9 : r1387 = (-2000000002) ∧ S1387 = Sa1386 := by
    rcases hp1387 with h | h
    · exact absurd h.1 (by decide +kernel)
    · exact h.2
  obtain ⟨rfl, hS9⟩ := h9
  have hS9 := hS9.symm
  subst hS9
  refine lv_ldc (own := RL) (v := (-2000000002)) hx hb hown (hts (.constant RL 71 (-2000000002)) (by decide +kernel)) dL_law_1390 ?_
  refine lv_icmp_ne (tgt := 1945) hx hb dL_law_1392 (by decide) (fun c1392 => absurd c1392 (by decide)) (fun _ => ?_)
  refine lv_aload_n hx hb dL_law_1395 rfl (lv_at hl 0 rfl) ?_
  refine lv_bipush (v := 112) hx hb dL_law_1396 (by decide) ?_
  refine lv_iconst (v := 3) hx hb dL_law_1398 (by decide) ?_
  refine znewI (N := 3) C hw (by decide +kernel) (by decide) (by decide) (Nat.le_of_ble_eq_true rfl) (Nat.le_of_ble_eq_true rfl) (Nat.le_of_ble_eq_true rfl) dL_law_1399 (fun q1399 H kq1399 hw => ?_)
  have hA : zAr Sa1386 (znR Sa1386 q1399 22 3 (fun _ => 0)) q1399 3 [] := zAr.new kq1399
  generalize (znR Sa1386 q1399 22 3 (fun _ => 0)) = Sa1399 at hw hA
  refine lv_dup hx hb dL_law_1401 rfl ?_
  refine lv_iconst (v := 0) hx hb dL_law_1402 (by decide) ?_
  refine lv_bipush (v := 114) hx hb dL_law_1403 (by decide) ?_
  refine zast_I (a := q1399) C hw hA.2.1 hA.2.2.1 (zin_of (N := 3) (by decide) (by grind) (by grind)) dL_law_1405 (fun H locs hw => ?_)
  have hA : zAr Sa1386 (zsR Sa1399 22 q1399 (upd (zR Sa1399 22 q1399) (0 : Int32).toNatClampNeg 114)) q1399 3 [114] := zAr.st (k := 0) hA kq1399 (by decide) rfl
  generalize (zsR Sa1399 22 q1399 (upd (zR Sa1399 22 q1399) (0 : Int32).toNatClampNeg 114)) = Sa1405 at hw hA
  refine lv_dup hx hb dL_law_1406 rfl ?_
  refine lv_iconst (v := 1) hx hb dL_law_1407 (by decide) ?_
  refine lv_iconst (v := 0) hx hb dL_law_1408 (by decide) ?_
  refine zast_I (a := q1399) C hw hA.2.1 hA.2.2.1 (zin_of (N := 3) (by decide) (by grind) (by grind)) dL_law_1409 (fun H locs hw => ?_)
  have hA : zAr Sa1386 (zsR Sa1405 22 q1399 (upd (zR Sa1405 22 q1399) (1 : Int32).toNatClampNeg 0)) q1399 3 [114, 0] := zAr.st (k := 1) hA kq1399 (by decide) rfl
  generalize (zsR Sa1405 22 q1399 (upd (zR Sa1405 22 q1399) (1 : Int32).toNatClampNeg 0)) = Sa1409 at hw hA
  refine lv_dup hx hb dL_law_1410 rfl ?_
  refine lv_iconst (v := 2) hx hb dL_law_1411 (by decide) ?_
  refine lv_iconst (v := 0) hx hb dL_law_1412 (by decide) ?_
  refine zast_I (a := q1399) C hw hA.2.1 hA.2.2.1 (zin_of (N := 3) (by decide) (by grind) (by grind)) dL_law_1413 (fun H locs hw => ?_)
  have hA : zAr Sa1386 (zsR Sa1409 22 q1399 (upd (zR Sa1409 22 q1399) (2 : Int32).toNatClampNeg 0)) q1399 3 [114, 0, 0] := zAr.st (k := 2) hA kq1399 (by decide) rfl
  generalize (zsR Sa1409 22 q1399 (upd (zR Sa1409 22 q1399) (2 : Int32).toNatClampNeg 0)) = Sa1413 at hw hA
  obtain ⟨hG, hK9, hN9, hA⟩ := hA
  have hj0 : zR Sa1413 22 q1399 0 = 114 := (hA 0 114 rfl).trans rfl
  have hj1 : zR Sa1413 22 q1399 1 = 0 := (hA 1 0 rfl).trans rfl
  have hj2 : zR Sa1413 22 q1399 2 = 0 := (hA 2 0 rfl).trans rfl
  have hNw := zNew.gw hG hNw
  refine zcSW_i (As := [.ref (a 0), .int 112, .ref q1399]) (rest := []) (n9 := 3) C hw (c_L_ask_p_step_r l hst D y base Sa1413 a 114 0 0 q1399 hNw.1 hNw.2.1 (by decide +kernel) hK9 hN9 hj0 hj1 hj2 (by decide)) gL_law_L_ask rfl (by decide +kernel) ⟨⟨rfl, rfl⟩, Nat.le_of_ble_eq_true rfl, Nat.le_of_ble_eq_true rfl⟩ rfl hl.1 rfl (Nat.le_of_ble_eq_true rfl) ⟨Nat.le_of_ble_eq_true rfl, Nat.le_of_ble_eq_true rfl⟩ dL_law_1414 (fun r1414 S1414 H locs hp1414 hw => ?_)
  have h9 : r1414 = (-2000000002) ∧ S1414 = Sa1413 := by
    rcases hp1414 with h | h
    · exact absurd h.1 (by decide +kernel)
    · exact h.2
  obtain ⟨rfl, hS9⟩ := h9
  have hS9 := hS9.symm
  subst hS9
  refine lv_ldc (own := RL) (v := (-2000000002)) hx hb hown (hts (.constant RL 71 (-2000000002)) (by decide +kernel)) dL_law_1417 ?_
  refine lv_icmp_ne (tgt := 1945) hx hb dL_law_1419 (by decide) (fun c1419 => absurd c1419 (by decide)) (fun _ => ?_)
  exact law_part_24 hst C hr hlocks hy31 hNw hDs hbase hw hl

set_option maxHeartbeats 4000000 in
set_option maxRecDepth 100000 in
theorem law_part_22 {p : Program} {l : Launch} {e : Env} {s : State} {m : MethodId} {below : List Frame} {meth : Method} {c : Code} {H : Heap} {locs : List Loc} {ls : Array Slot} {D : va_G} {y : Nat → ClassId} {base : Nat} {S : zS} {a : Nat → Nat} {bs : Nat} (hst : l.stackTraces = false) (C : CallFix p m c code 2 s #[Value.ref bs] wsL_law RL) (hr : meth.sig.returnType = ret) (hlocks : meth.locks = false) (hy31 : y 99 < 2 ^ 31) (hNw : zNew S a) (hDs : zDs a) (hbase : base = s.heap.size) (hw : zW D y base S s H locs) (hl : lv_has ls 2 [(1, .ref (a 0)), (0, .ref (y 98))]) : W p l e room_1 s m #[Value.ref bs] below meth c H locs 259 6925 (lw_Z below #[Value.ref bs] s) (F0 m 1311 ls []) := by
  have hx := C.1
  have hb := C.2.1
  have hown := C.2.2.2.1
  have hts := C.2.2.2.2
  refine lv_aload_n hx hb dL_law_1311 rfl (lv_at hl 0 rfl) ?_
  refine lv_bipush (v := 66) hx hb dL_law_1312 (by decide) ?_
  refine lv_iconst (v := 4) hx hb dL_law_1314 (by decide) ?_
  refine znewI (N := 4) C hw (by decide +kernel) (by decide) (by decide) (Nat.le_of_ble_eq_true rfl) (Nat.le_of_ble_eq_true rfl) (Nat.le_of_ble_eq_true rfl) dL_law_1315 (fun q1315 H kq1315 hw => ?_)
  have hA : zAr S (znR S q1315 22 4 (fun _ => 0)) q1315 4 [] := zAr.new kq1315
  generalize (znR S q1315 22 4 (fun _ => 0)) = Sa1315 at hw hA
  refine lv_dup hx hb dL_law_1317 rfl ?_
  refine lv_iconst (v := 0) hx hb dL_law_1318 (by decide) ?_
  refine lv_iconst (v := 0) hx hb dL_law_1319 (by decide) ?_
  refine zast_I (a := q1315) C hw hA.2.1 hA.2.2.1 (zin_of (N := 4) (by decide) (by grind) (by grind)) dL_law_1320 (fun H locs hw => ?_)
  have hA : zAr S (zsR Sa1315 22 q1315 (upd (zR Sa1315 22 q1315) (0 : Int32).toNatClampNeg 0)) q1315 4 [0] := zAr.st (k := 0) hA kq1315 (by decide) rfl
  generalize (zsR Sa1315 22 q1315 (upd (zR Sa1315 22 q1315) (0 : Int32).toNatClampNeg 0)) = Sa1320 at hw hA
  refine lv_dup hx hb dL_law_1321 rfl ?_
  refine lv_iconst (v := 1) hx hb dL_law_1322 (by decide) ?_
  refine lv_iconst (v := 0) hx hb dL_law_1323 (by decide) ?_
  refine zast_I (a := q1315) C hw hA.2.1 hA.2.2.1 (zin_of (N := 4) (by decide) (by grind) (by grind)) dL_law_1324 (fun H locs hw => ?_)
  have hA : zAr S (zsR Sa1320 22 q1315 (upd (zR Sa1320 22 q1315) (1 : Int32).toNatClampNeg 0)) q1315 4 [0, 0] := zAr.st (k := 1) hA kq1315 (by decide) rfl
  generalize (zsR Sa1320 22 q1315 (upd (zR Sa1320 22 q1315) (1 : Int32).toNatClampNeg 0)) = Sa1324 at hw hA
  refine lv_dup hx hb dL_law_1325 rfl ?_
  refine lv_iconst (v := 2) hx hb dL_law_1326 (by decide) ?_
  refine lv_iconst (v := 0) hx hb dL_law_1327 (by decide) ?_
  refine zast_I (a := q1315) C hw hA.2.1 hA.2.2.1 (zin_of (N := 4) (by decide) (by grind) (by grind)) dL_law_1328 (fun H locs hw => ?_)
  have hA : zAr S (zsR Sa1324 22 q1315 (upd (zR Sa1324 22 q1315) (2 : Int32).toNatClampNeg 0)) q1315 4 [0, 0, 0] := zAr.st (k := 2) hA kq1315 (by decide) rfl
  generalize (zsR Sa1324 22 q1315 (upd (zR Sa1324 22 q1315) (2 : Int32).toNatClampNeg 0)) = Sa1328 at hw hA
  refine lv_dup hx hb dL_law_1329 rfl ?_
  refine lv_iconst (v := 3) hx hb dL_law_1330 (by decide) ?_
  refine lv_iconst (v := 0) hx hb dL_law_1331 (by decide) ?_
  refine zast_I (a := q1315) C hw hA.2.1 hA.2.2.1 (zin_of (N := 4) (by decide) (by grind) (by grind)) dL_law_1332 (fun H locs hw => ?_)
  have hA : zAr S (zsR Sa1328 22 q1315 (upd (zR Sa1328 22 q1315) (3 : Int32).toNatClampNeg 0)) q1315 4 [0, 0, 0, 0] := zAr.st (k := 3) hA kq1315 (by decide) rfl
  generalize (zsR Sa1328 22 q1315 (upd (zR Sa1328 22 q1315) (3 : Int32).toNatClampNeg 0)) = Sa1332 at hw hA
  obtain ⟨hG, hK9, hN9, hA⟩ := hA
  have hj0 : zR Sa1332 22 q1315 0 = 0 := (hA 0 0 rfl).trans rfl
  have hj1 : zR Sa1332 22 q1315 1 = 0 := (hA 1 0 rfl).trans rfl
  have hj2 : zR Sa1332 22 q1315 2 = 0 := (hA 2 0 rfl).trans rfl
  have hj3 : zR Sa1332 22 q1315 3 = 0 := (hA 3 0 rfl).trans rfl
  have hNw := zNew.gw hG hNw
  refine zcSW_i (As := [.ref (a 0), .int 66, .ref q1315]) (rest := []) (n9 := 3) C hw (c_L_ask_B_block_r l hst D y base Sa1332 a 0 0 0 0 q1315 hNw.1 hNw.2.1 hK9 hN9 hj0 hj1 hj2 hj3) gL_law_L_ask rfl (by decide +kernel) ⟨⟨rfl, rfl⟩, Nat.le_of_ble_eq_true rfl, Nat.le_of_ble_eq_true rfl⟩ rfl hl.1 rfl (Nat.le_of_ble_eq_true rfl) ⟨Nat.le_of_ble_eq_true rfl, Nat.le_of_ble_eq_true rfl⟩ dL_law_1333 (fun r1333 S1333 H locs hp1333 hw => ?_)
  have h9 : r1333 = (-2000000005) ∧ S1333 = Sa1332 := by
    rcases hp1333 with h | h | h
    · exact absurd h.1 (by decide +kernel)
    · exact absurd h.1 (by decide +kernel)
    · exact h.2
  obtain ⟨rfl, hS9⟩ := h9
  have hS9 := hS9.symm
  subst hS9
  refine lv_ldc (own := RL) (v := (-2000000005)) hx hb hown (hts (.constant RL 80 (-2000000005)) (by decide +kernel)) dL_law_1336 ?_
  refine lv_icmp_ne (tgt := 1945) hx hb dL_law_1338 (by decide) (fun c1338 => absurd c1338 (by decide)) (fun _ => ?_)
  refine lv_aload_n hx hb dL_law_1341 rfl (lv_at hl 0 rfl) ?_
  refine lv_bipush (v := 112) hx hb dL_law_1342 (by decide) ?_
  refine lv_iconst (v := 3) hx hb dL_law_1344 (by decide) ?_
  refine znewI (N := 3) C hw (by decide +kernel) (by decide) (by decide) (Nat.le_of_ble_eq_true rfl) (Nat.le_of_ble_eq_true rfl) (Nat.le_of_ble_eq_true rfl) dL_law_1345 (fun q1345 H kq1345 hw => ?_)
  have hA : zAr Sa1332 (znR Sa1332 q1345 22 3 (fun _ => 0)) q1345 3 [] := zAr.new kq1345
  generalize (znR Sa1332 q1345 22 3 (fun _ => 0)) = Sa1345 at hw hA
  refine lv_dup hx hb dL_law_1347 rfl ?_
  refine lv_iconst (v := 0) hx hb dL_law_1348 (by decide) ?_
  refine lv_bipush (v := 114) hx hb dL_law_1349 (by decide) ?_
  refine zast_I (a := q1345) C hw hA.2.1 hA.2.2.1 (zin_of (N := 3) (by decide) (by grind) (by grind)) dL_law_1351 (fun H locs hw => ?_)
  have hA : zAr Sa1332 (zsR Sa1345 22 q1345 (upd (zR Sa1345 22 q1345) (0 : Int32).toNatClampNeg 114)) q1345 3 [114] := zAr.st (k := 0) hA kq1345 (by decide) rfl
  generalize (zsR Sa1345 22 q1345 (upd (zR Sa1345 22 q1345) (0 : Int32).toNatClampNeg 114)) = Sa1351 at hw hA
  refine lv_dup hx hb dL_law_1352 rfl ?_
  refine lv_iconst (v := 1) hx hb dL_law_1353 (by decide) ?_
  refine lv_iconst (v := 4) hx hb dL_law_1354 (by decide) ?_
  refine zast_I (a := q1345) C hw hA.2.1 hA.2.2.1 (zin_of (N := 3) (by decide) (by grind) (by grind)) dL_law_1355 (fun H locs hw => ?_)
  have hA : zAr Sa1332 (zsR Sa1351 22 q1345 (upd (zR Sa1351 22 q1345) (1 : Int32).toNatClampNeg 4)) q1345 3 [114, 4] := zAr.st (k := 1) hA kq1345 (by decide) rfl
  generalize (zsR Sa1351 22 q1345 (upd (zR Sa1351 22 q1345) (1 : Int32).toNatClampNeg 4)) = Sa1355 at hw hA
  refine lv_dup hx hb dL_law_1356 rfl ?_
  refine lv_iconst (v := 2) hx hb dL_law_1357 (by decide) ?_
  refine lv_iconst (v := 1) hx hb dL_law_1358 (by decide) ?_
  refine zast_I (a := q1345) C hw hA.2.1 hA.2.2.1 (zin_of (N := 3) (by decide) (by grind) (by grind)) dL_law_1359 (fun H locs hw => ?_)
  have hA : zAr Sa1332 (zsR Sa1355 22 q1345 (upd (zR Sa1355 22 q1345) (2 : Int32).toNatClampNeg 1)) q1345 3 [114, 4, 1] := zAr.st (k := 2) hA kq1345 (by decide) rfl
  generalize (zsR Sa1355 22 q1345 (upd (zR Sa1355 22 q1345) (2 : Int32).toNatClampNeg 1)) = Sa1359 at hw hA
  obtain ⟨hG, hK9, hN9, hA⟩ := hA
  have hj0 : zR Sa1359 22 q1345 0 = 114 := (hA 0 114 rfl).trans rfl
  have hj1 : zR Sa1359 22 q1345 1 = 4 := (hA 1 4 rfl).trans rfl
  have hj2 : zR Sa1359 22 q1345 2 = 1 := (hA 2 1 rfl).trans rfl
  have hNw := zNew.gw hG hNw
  refine zcSW_i (As := [.ref (a 0), .int 112, .ref q1345]) (rest := []) (n9 := 3) C hw (c_L_ask_p_step_r l hst D y base Sa1359 a 114 4 1 q1345 hNw.1 hNw.2.1 (by decide +kernel) hK9 hN9 hj0 hj1 hj2 (by decide)) gL_law_L_ask rfl (by decide +kernel) ⟨⟨rfl, rfl⟩, Nat.le_of_ble_eq_true rfl, Nat.le_of_ble_eq_true rfl⟩ rfl hl.1 rfl (Nat.le_of_ble_eq_true rfl) ⟨Nat.le_of_ble_eq_true rfl, Nat.le_of_ble_eq_true rfl⟩ dL_law_1360 (fun r1360 S1360 H locs hp1360 hw => ?_)
  have h9 : r1360 = (-2000000001) ∧ S1360 = Sa1359 := by
    rcases hp1360 with h | h
    · exact h.2
    · exact absurd h.1 (by decide +kernel)
  obtain ⟨rfl, hS9⟩ := h9
  have hS9 := hS9.symm
  subst hS9
  refine lv_ldc (own := RL) (v := (-2000000001)) hx hb hown (hts (.constant RL 68 (-2000000001)) (by decide +kernel)) dL_law_1363 ?_
  refine lv_icmp_ne (tgt := 1945) hx hb dL_law_1365 (by decide) (fun c1365 => absurd c1365 (by decide)) (fun _ => ?_)
  exact law_part_23 hst C hr hlocks hy31 hNw hDs hbase hw hl
