set_option maxHeartbeats 4000000 in
set_option maxRecDepth 100000 in
theorem law_case_16 {p : Program} {l : Launch} {e : Env} {s : State} {m : MethodId} {below : List Frame} {meth : Method} {c : Code} {H : Heap} {locs : List Loc} {ls : Array Slot} {D : va_G} {y : Nat → ClassId} {base : Nat} {S : zS} {a b : Nat → Nat} {o od bs : Nat} {xs : Nat → Int32} (hst : l.stackTraces = false) (C : CallFix p m c code 9 s #[Value.ref bs] wsL_law RL) (hend : zEnd p l e s m bs below meth c base)
    (hXs : va_X bs 9 xs s s.heap) (hbl : bs < s.heap.size) (hbs : base = s.heap.size) (hy : y 94 = 0) (hX : zX S a) (h0 : zX0 S a) (hM : zMd S b) (hM0 : zMd0 S b) (hF : zQ S 49 (b 4) = some (y 92) ∧ zQ S 49 (b 5) = some (y 92)) (hreg : ∀ i j, i < 128 → zR S 22 (b (100 + i)) j = 0) (hko : zK S o = 24) (hno : zN S o = 1)
    (hw : zW D y base S s H locs) (hl : lv_has ls 9 [(5, .int 0), (0, .ref bs), (1, .ref (a 0)), (2, .ref (b 0)), (3, .ref o), (4, .ref od)]) : W p l e room_1 s m #[Value.ref bs] below meth c H locs 1000 60000 (lw_Z below #[Value.ref bs] s) (F0 m 1579 ls []) := by
  have hx := C.1
  have hb := C.2.1
  have hown := C.2.2.2.1
  have hts := C.2.2.2.2
  refine lv_aload_n hx hb dL_law_1579 rfl (lv_at hl 2 rfl) ?_
  refine lv_aload_n hx hb dL_law_1580 rfl (lv_at hl 1 rfl) ?_
  refine lv_iload hx hb dL_law_1581 (lv_at hl 0 rfl) ?_
  refine lv_iconst (v := 1) hx hb dL_law_1583 (by decide) ?_
  refine lv_iadd hx hb dL_law_1584 ?_
  refine zrd (x := 1) (by decide) ?_
  refine zsld (v := xs 1) C hw hXs hbl hbs (zin_of (N := 9) (by decide) (by decide) (by decide)) rfl dL_law_1585 ?_
  refine lv_i2c (v := ((xs 1).toUInt32 % 65536).toInt32) hx hb dL_law_1586 rfl ?_
  refine lv_aload_n hx hb dL_law_1587 rfl (lv_at hl 1 rfl) ?_
  refine lv_iload hx hb dL_law_1588 (lv_at hl 0 rfl) ?_
  refine lv_iconst (v := 2) hx hb dL_law_1590 (by decide) ?_
  refine lv_iadd hx hb dL_law_1591 ?_
  refine zrd (x := 2) (by decide) ?_
  refine zsld (v := xs 2) C hw hXs hbl hbs (zin_of (N := 9) (by decide) (by decide) (by decide)) rfl dL_law_1592 ?_
  refine lv_aload_n hx hb dL_law_1593 rfl (lv_at hl 1 rfl) ?_
  refine lv_iload hx hb dL_law_1594 (lv_at hl 0 rfl) ?_
  refine lv_iconst (v := 3) hx hb dL_law_1596 (by decide) ?_
  refine lv_iadd hx hb dL_law_1597 ?_
  refine zrd (x := 3) (by decide) ?_
  refine zsld (v := xs 3) C hw hXs hbl hbs (zin_of (N := 9) (by decide) (by decide) (by decide)) rfl dL_law_1598 ?_
  refine lv_aload_n hx hb dL_law_1599 rfl (lv_at hl 4 rfl) ?_
  refine zcSW_i (As := [.ref (a 0), .int (((xs 1).toUInt32 % 65536).toInt32), .int (xs 2), .int (xs 3), .ref o]) (rest := []) (n9 := 5) C hw (c_L_step l hst D y base S a (((xs 1).toUInt32 % 65536).toInt32) (xs 2) (xs 3) o hX (by first | assumption | exact zbo_01 _) hko (by first | assumption | exact zbo_01 _)) gL_law_L_step rfl (by decide +kernel) ⟨⟨rfl, rfl⟩, Nat.le_of_ble_eq_true rfl, Nat.le_of_ble_eq_true rfl⟩ rfl hl.1 rfl (Nat.le_of_ble_eq_true rfl) ⟨Nat.le_of_ble_eq_true rfl, Nat.le_of_ble_eq_true rfl⟩ dL_law_1600 (fun r1600 S1600 H locs hp1600 hw => ?_)
  obtain ⟨hk9, hv9, hco⟩ := hp1600
  obtain ⟨hM9, hM09, hF9, hF95⟩ := hco.ref hM hM0 hF
  obtain ⟨hko9, hno9⟩ := hco.o hko hno
  obtain ⟨y, y92, y94, y95, y96, hw⟩ := zW_out hw hy hko9 hno9
  have hMd : zMd (zdl S1600 o) b := hM9.dl hko9
  have hM0d : zMd0 (zdl S1600 o) b := hM09
  have hFd : zQ (zdl S1600 o) 49 (b 4) = some (y 92) := by rw [y92]; exact hF9
  have hEd : zMdE (zdl S1600 o) b := ⟨⟨_, hF9⟩, _, hF95⟩
  refine lv_istore (lv' := [(6, .int r1600), (5, .int 0), (0, .ref bs), (1, .ref (a 0)), (2, .ref (b 0)), (3, .ref o), (4, .ref od)]) hx hb dL_law_1603 hl (by decide) rfl (fun ls hl => ?_)
  refine lv_aload_n hx hb dL_law_1605 rfl (lv_at hl 4 rfl) ?_
  refine lv_aload_n hx hb dL_law_1606 rfl (lv_at hl 2 rfl) ?_
  refine lv_iload hx hb dL_law_1607 (lv_at hl 1 rfl) ?_
  refine lv_iconst (v := 1) hx hb dL_law_1609 (by decide) ?_
  refine lv_iadd hx hb dL_law_1610 ?_
  refine zrd (x := 1) (by decide) ?_
  refine zsld (v := xs 1) C hw hXs hbl hbs (zin_of (N := 9) (by decide) (by decide) (by decide)) rfl dL_law_1611 ?_
  refine lv_i2c (v := ((xs 1).toUInt32 % 65536).toInt32) hx hb dL_law_1612 rfl ?_
  refine lv_aload_n hx hb dL_law_1613 rfl (lv_at hl 2 rfl) ?_
  refine lv_iload hx hb dL_law_1614 (lv_at hl 1 rfl) ?_
  refine lv_iconst (v := 2) hx hb dL_law_1616 (by decide) ?_
  refine lv_iadd hx hb dL_law_1617 ?_
  refine zrd (x := 2) (by decide) ?_
  refine zsld (v := xs 2) C hw hXs hbl hbs (zin_of (N := 9) (by decide) (by decide) (by decide)) rfl dL_law_1618 ?_
  refine lv_aload_n hx hb dL_law_1619 rfl (lv_at hl 2 rfl) ?_
  refine lv_iload hx hb dL_law_1620 (lv_at hl 1 rfl) ?_
  refine lv_iconst (v := 3) hx hb dL_law_1622 (by decide) ?_
  refine lv_iadd hx hb dL_law_1623 ?_
  refine zrd (x := 3) (by decide) ?_
  refine zsld (v := xs 3) C hw hXs hbl hbs (zin_of (N := 9) (by decide) (by decide) (by decide)) rfl dL_law_1624 ?_
  refine zcV_i (As := [.int (((xs 1).toUInt32 % 65536).toInt32), .int (xs 2), .int (xs 3)]) (rest := []) (n9 := 3) (b := (b 0)) C hw (c_X11_step l D y base (zdl S1600 o) b (((xs 1).toUInt32 % 65536).toInt32) (xs 2) (xs 3) hMd (by first | assumption | exact zbo_01 _) (by first | assumption | exact zbo_01 _)) gL_law_X11_step rfl (by decide +kernel) ⟨⟨rfl, rfl⟩, Nat.le_of_ble_eq_true rfl, Nat.le_of_ble_eq_true rfl⟩ hMd.1 ⟨by decide, by decide⟩ rfl rfl hl.1 rfl (Nat.le_of_ble_eq_true rfl) ⟨Nat.le_of_ble_eq_true rfl, Nat.le_of_ble_eq_true rfl⟩ dL_law_1625 (fun r1625 S1625 H locs hp1625 hw => ?_)
  obtain ⟨r1, r2, r3⟩ := hp1625
  refine lv_istore (lv' := [(7, .int r1625), (6, .int r1600), (5, .int 0), (0, .ref bs), (1, .ref (a 0)), (2, .ref (b 0)), (3, .ref o), (4, .ref od)]) hx hb dL_law_1628 hl (by decide) rfl (fun ls hl => ?_)
  refine lv_aload_n hx hb dL_law_1630 rfl (lv_at hl 5 rfl) ?_
  refine zcV_i (As := []) (rest := []) (n9 := 0) (b := (b 0)) C hw (c_X11_thrown l D y base S1625 (b 0) (kd_step (((xs 1).toUInt32 % 65536).toInt32) (xs 2) (xs 3)) r1 r2) gL_law_X11_thrown rfl (by decide +kernel) ⟨⟨rfl, rfl⟩, Nat.le_of_ble_eq_true rfl, Nat.le_of_ble_eq_true rfl⟩ r1 ⟨by decide, by decide⟩ rfl rfl hl.1 rfl (Nat.le_of_ble_eq_true rfl) ⟨Nat.le_of_ble_eq_true rfl, Nat.le_of_ble_eq_true rfl⟩ dL_law_1631 (fun r1631 S1631 H locs hp1631 hw => ?_)
  obtain ⟨rfl, hS9⟩ := hp1631
  have hS9 := hS9.symm
  subst hS9
  refine lv_iload hx hb dL_law_1634 (lv_at hl 1 rfl) ?_
  refine lv_icmp_eq (tgt := 1641) hx hb dL_law_1636 (by decide) (fun c1636 => ?_) (fun c1636 => (show False from (c1636 hk9.symm)).elim)
  refine lv_iload hx hb dL_law_1641 (lv_at hl 1 rfl) ?_
  refine lv_if_ne (tgt := 1658) hx hb dL_law_1643 (by decide) (fun c1643 => ?_) (fun c1643 => ?_)
  · refine lv_goto (tgt := 2892) hx hb dL_law_1658 (by decide) ?_
    exact hend _ _ _ _ _ (Nat.le_of_ble_eq_true rfl) (Nat.le_of_ble_eq_true rfl) hw.2.2.1 (lv_sub hl [2, 3] rfl)
  · have hz9 : kd_step (((xs 1).toUInt32 % 65536).toInt32) (xs 2) (xs 3) = 0 := hk9.symm.trans c1643
    have hb9 := r3 hz9
    subst hb9
    refine lv_aload_n hx hb dL_law_1646 rfl (lv_at hl 6 rfl) ?_
    refine lv_iconst (v := 0) hx hb dL_law_1647 (by decide) ?_
    refine zaldX C hw y94 y95 dL_law_1648 ?_
    refine zrdl (x := ((1 : Int32).toInt64)) (y96.trans (hv9 hz9)) ?_
    refine lv_iload hx hb dL_law_1649 (lv_at hl 0 rfl) ?_
    refine lv_i2l (v := (1 : Int32).toInt64) hx hb dL_law_1651 rfl ?_
    refine W.lcmp hx hb dL_law_1652 ?_
    refine zrd (x := 0) ((lg_cmp_eq _ _).mpr rfl) ?_
    refine lv_if_eq (tgt := 1658) hx hb dL_law_1653 (by decide) (fun _ => ?_) (fun c1653 => absurd c1653 (by decide))
    refine lv_goto (tgt := 2892) hx hb dL_law_1658 (by decide) ?_
    exact hend _ _ _ _ _ (Nat.le_of_ble_eq_true rfl) (Nat.le_of_ble_eq_true rfl) hw.2.2.1 (lv_sub hl [2, 3] rfl)

set_option maxHeartbeats 4000000 in
set_option maxRecDepth 100000 in
theorem law_case_17 {p : Program} {l : Launch} {e : Env} {s : State} {m : MethodId} {below : List Frame} {meth : Method} {c : Code} {H : Heap} {locs : List Loc} {ls : Array Slot} {D : va_G} {y : Nat → ClassId} {base : Nat} {S : zS} {a b : Nat → Nat} {o od bs : Nat} {xs : Nat → Int32} (hst : l.stackTraces = false) (C : CallFix p m c code 9 s #[Value.ref bs] wsL_law RL) (hend : zEnd p l e s m bs below meth c base)
    (hXs : va_X bs 9 xs s s.heap) (hbl : bs < s.heap.size) (hbs : base = s.heap.size) (hy : y 94 = 0) (hX : zX S a) (h0 : zX0 S a) (hM : zMd S b) (hM0 : zMd0 S b) (hF : zQ S 49 (b 4) = some (y 92) ∧ zQ S 49 (b 5) = some (y 92)) (hreg : ∀ i j, i < 128 → zR S 22 (b (100 + i)) j = 0) (hko : zK S o = 24) (hno : zN S o = 1)
    (hw : zW D y base S s H locs) (hl : lv_has ls 9 [(5, .int 0), (0, .ref bs), (1, .ref (a 0)), (2, .ref (b 0)), (3, .ref o), (4, .ref od)]) : W p l e room_1 s m #[Value.ref bs] below meth c H locs 1000 60000 (lw_Z below #[Value.ref bs] s) (F0 m 1661 ls []) := by
  have hx := C.1
  have hb := C.2.1
  have hown := C.2.2.2.1
  have hts := C.2.2.2.2
  refine lv_aload_n hx hb dL_law_1661 rfl (lv_at hl 2 rfl) ?_
  refine zcV_i (As := []) (rest := []) (n9 := 0) (b := (a 0)) C hw (c_X7_reset l D y base S a hX (by first | assumption | exact zbo_01 _)) gL_law_X7_reset rfl (by decide +kernel) ⟨⟨rfl, rfl⟩, Nat.le_of_ble_eq_true rfl, Nat.le_of_ble_eq_true rfl⟩ hX.1 ⟨by decide, by decide⟩ rfl rfl hl.1 rfl (Nat.le_of_ble_eq_true rfl) ⟨Nat.le_of_ble_eq_true rfl, Nat.le_of_ble_eq_true rfl⟩ dL_law_1662 (fun r1662 S1662 H locs hp1662 hw => ?_)
  obtain ⟨rfl, hcl9⟩ := hp1662
  obtain ⟨hM9, hM09, hF9, hF95⟩ := hcl9.ref hM hM0 hF
  have hEd : zMdE S1662 b := ⟨⟨_, hF9⟩, _, hF95⟩
  refine lv_aload_n hx hb dL_law_1665 rfl (lv_at hl 3 rfl) ?_
  refine zcV_i (As := []) (rest := [.int 0]) (n9 := 0) (b := (b 0)) C hw (c_X11_reset l D y base S1662 b hM9 (by first | assumption | exact zbo_01 _) (by first | assumption | exact zbo_01 _)) gL_law_X11_reset rfl (by decide +kernel) ⟨⟨rfl, rfl⟩, Nat.le_of_ble_eq_true rfl, Nat.le_of_ble_eq_true rfl⟩ hM9.1 ⟨by decide, by decide⟩ rfl rfl hl.1 rfl (Nat.le_of_ble_eq_true rfl) ⟨Nat.le_of_ble_eq_true rfl, Nat.le_of_ble_eq_true rfl⟩ dL_law_1666 (fun r1666 S1666 H locs hp1666 hw => ?_)
  obtain ⟨r1, rfl⟩ := hp1666
  refine lv_icmp_eq (tgt := 2892) hx hb dL_law_1669 (by decide) (fun _ => ?_) (fun c1669 => absurd c1669 (by decide))
  exact hend _ _ _ _ _ (Nat.le_of_ble_eq_true rfl) (Nat.le_of_ble_eq_true rfl) hw.2.2.1 (lv_sub hl [0, 1] rfl)

set_option maxHeartbeats 4000000 in
set_option maxRecDepth 100000 in
theorem law_case_18 {p : Program} {l : Launch} {e : Env} {s : State} {m : MethodId} {below : List Frame} {meth : Method} {c : Code} {H : Heap} {locs : List Loc} {ls : Array Slot} {D : va_G} {y : Nat → ClassId} {base : Nat} {S : zS} {a b : Nat → Nat} {o od bs : Nat} {xs : Nat → Int32} (hst : l.stackTraces = false) (C : CallFix p m c code 9 s #[Value.ref bs] wsL_law RL) (hend : zEnd p l e s m bs below meth c base)
    (hXs : va_X bs 9 xs s s.heap) (hbl : bs < s.heap.size) (hbs : base = s.heap.size) (hy : y 94 = 0) (hX : zX S a) (h0 : zX0 S a) (hM : zMd S b) (hM0 : zMd0 S b) (hF : zQ S 49 (b 4) = some (y 92) ∧ zQ S 49 (b 5) = some (y 92)) (hreg : ∀ i j, i < 128 → zR S 22 (b (100 + i)) j = 0) (hko : zK S o = 24) (hno : zN S o = 1)
    (hw : zW D y base S s H locs) (hl : lv_has ls 9 [(5, .int 0), (0, .ref bs), (1, .ref (a 0)), (2, .ref (b 0)), (3, .ref o), (4, .ref od)]) : W p l e room_1 s m #[Value.ref bs] below meth c H locs 1000 60000 (lw_Z below #[Value.ref bs] s) (F0 m 1674 ls []) := by
  have hx := C.1
  have hb := C.2.1
  have hown := C.2.2.2.1
  have hts := C.2.2.2.2
  refine lv_aload_n hx hb dL_law_1674 rfl (lv_at hl 2 rfl) ?_
  refine lv_aload_n hx hb dL_law_1675 rfl (lv_at hl 1 rfl) ?_
  refine lv_iload hx hb dL_law_1676 (lv_at hl 0 rfl) ?_
  refine lv_iconst (v := 1) hx hb dL_law_1678 (by decide) ?_
  refine lv_iadd hx hb dL_law_1679 ?_
  refine zrd (x := 1) (by decide) ?_
  refine zsld (v := xs 1) C hw hXs hbl hbs (zin_of (N := 9) (by decide) (by decide) (by decide)) rfl dL_law_1680 ?_
  refine lv_aload_n hx hb dL_law_1681 rfl (lv_at hl 4 rfl) ?_
  refine zcSW_i (As := [.ref (a 0), .int (xs 1), .ref o]) (rest := []) (n9 := 3) C hw (c_L_trigger l hst D y base S a (xs 1) o hX (by first | assumption | exact zbo_01 _) hko (by first | assumption | exact zbo_01 _)) gL_law_L_trigger rfl (by decide +kernel) ⟨⟨rfl, rfl⟩, Nat.le_of_ble_eq_true rfl, Nat.le_of_ble_eq_true rfl⟩ rfl hl.1 rfl (Nat.le_of_ble_eq_true rfl) ⟨Nat.le_of_ble_eq_true rfl, Nat.le_of_ble_eq_true rfl⟩ dL_law_1682 (fun r1682 S1682 H locs hp1682 hw => ?_)
  obtain ⟨hk9, hv9, hco⟩ := hp1682
  obtain ⟨hM9, hM09, hF9, hF95⟩ := hco.ref hM hM0 hF
  obtain ⟨hko9, hno9⟩ := hco.o hko hno
  obtain ⟨y, y92, y94, y95, y96, hw⟩ := zW_out hw hy hko9 hno9
  have hMd : zMd (zdl S1682 o) b := hM9.dl hko9
  have hM0d : zMd0 (zdl S1682 o) b := hM09
  have hFd : zQ (zdl S1682 o) 49 (b 4) = some (y 92) := by rw [y92]; exact hF9
  have hEd : zMdE (zdl S1682 o) b := ⟨⟨_, hF9⟩, _, hF95⟩
  refine lv_istore (lv' := [(6, .int r1682), (5, .int 0), (0, .ref bs), (1, .ref (a 0)), (2, .ref (b 0)), (3, .ref o), (4, .ref od)]) hx hb dL_law_1685 hl (by decide) rfl (fun ls hl => ?_)
  refine lv_aload_n hx hb dL_law_1687 rfl (lv_at hl 4 rfl) ?_
  refine lv_aload_n hx hb dL_law_1688 rfl (lv_at hl 2 rfl) ?_
  refine lv_iload hx hb dL_law_1689 (lv_at hl 1 rfl) ?_
  refine lv_iconst (v := 1) hx hb dL_law_1691 (by decide) ?_
  refine lv_iadd hx hb dL_law_1692 ?_
  refine zrd (x := 1) (by decide) ?_
  refine zsld (v := xs 1) C hw hXs hbl hbs (zin_of (N := 9) (by decide) (by decide) (by decide)) rfl dL_law_1693 ?_
  refine zcV_i (As := [.int (xs 1)]) (rest := []) (n9 := 1) (b := (b 0)) C hw (c_X11_trigger l D y base (zdl S1682 o) b (xs 1) hMd (by first | assumption | exact zbo_01 _)) gL_law_X11_trigger rfl (by decide +kernel) ⟨⟨rfl, rfl⟩, Nat.le_of_ble_eq_true rfl, Nat.le_of_ble_eq_true rfl⟩ hMd.1 ⟨by decide, by decide⟩ rfl rfl hl.1 rfl (Nat.le_of_ble_eq_true rfl) ⟨Nat.le_of_ble_eq_true rfl, Nat.le_of_ble_eq_true rfl⟩ dL_law_1694 (fun r1694 S1694 H locs hp1694 hw => ?_)
  obtain ⟨r1, r2, r3⟩ := hp1694
  refine lv_istore (lv' := [(7, .int r1694), (6, .int r1682), (5, .int 0), (0, .ref bs), (1, .ref (a 0)), (2, .ref (b 0)), (3, .ref o), (4, .ref od)]) hx hb dL_law_1697 hl (by decide) rfl (fun ls hl => ?_)
  refine lv_aload_n hx hb dL_law_1699 rfl (lv_at hl 5 rfl) ?_
  refine zcV_i (As := []) (rest := []) (n9 := 0) (b := (b 0)) C hw (c_X11_thrown l D y base S1694 (b 0) (kd_sample (xs 1)) r1 r2) gL_law_X11_thrown rfl (by decide +kernel) ⟨⟨rfl, rfl⟩, Nat.le_of_ble_eq_true rfl, Nat.le_of_ble_eq_true rfl⟩ r1 ⟨by decide, by decide⟩ rfl rfl hl.1 rfl (Nat.le_of_ble_eq_true rfl) ⟨Nat.le_of_ble_eq_true rfl, Nat.le_of_ble_eq_true rfl⟩ dL_law_1700 (fun r1700 S1700 H locs hp1700 hw => ?_)
  obtain ⟨rfl, hS9⟩ := hp1700
  have hS9 := hS9.symm
  subst hS9
  refine lv_iload hx hb dL_law_1703 (lv_at hl 1 rfl) ?_
  refine lv_icmp_eq (tgt := 1710) hx hb dL_law_1705 (by decide) (fun c1705 => ?_) (fun c1705 => (show False from (c1705 hk9.symm)).elim)
  refine lv_iload hx hb dL_law_1710 (lv_at hl 1 rfl) ?_
  refine lv_if_ne (tgt := 1727) hx hb dL_law_1712 (by decide) (fun c1712 => ?_) (fun c1712 => ?_)
  · refine lv_goto (tgt := 2892) hx hb dL_law_1727 (by decide) ?_
    exact hend _ _ _ _ _ (Nat.le_of_ble_eq_true rfl) (Nat.le_of_ble_eq_true rfl) hw.2.2.1 (lv_sub hl [2, 3] rfl)
  · have hz9 : kd_sample (xs 1) = 0 := hk9.symm.trans c1712
    have hb9 := r3 hz9
    subst hb9
    refine lv_aload_n hx hb dL_law_1715 rfl (lv_at hl 6 rfl) ?_
    refine lv_iconst (v := 0) hx hb dL_law_1716 (by decide) ?_
    refine zaldX C hw y94 y95 dL_law_1717 ?_
    refine zrdl (x := ((0 : Int32).toInt64)) (y96.trans (hv9 hz9)) ?_
    refine lv_iload hx hb dL_law_1718 (lv_at hl 0 rfl) ?_
    refine lv_i2l (v := (0 : Int32).toInt64) hx hb dL_law_1720 rfl ?_
    refine W.lcmp hx hb dL_law_1721 ?_
    refine zrd (x := 0) ((lg_cmp_eq _ _).mpr rfl) ?_
    refine lv_if_eq (tgt := 1727) hx hb dL_law_1722 (by decide) (fun _ => ?_) (fun c1722 => absurd c1722 (by decide))
    refine lv_goto (tgt := 2892) hx hb dL_law_1727 (by decide) ?_
    exact hend _ _ _ _ _ (Nat.le_of_ble_eq_true rfl) (Nat.le_of_ble_eq_true rfl) hw.2.2.1 (lv_sub hl [2, 3] rfl)

set_option maxHeartbeats 4000000 in
set_option maxRecDepth 100000 in
theorem law_case_19 {p : Program} {l : Launch} {e : Env} {s : State} {m : MethodId} {below : List Frame} {meth : Method} {c : Code} {H : Heap} {locs : List Loc} {ls : Array Slot} {D : va_G} {y : Nat → ClassId} {base : Nat} {S : zS} {a b : Nat → Nat} {o od bs : Nat} {xs : Nat → Int32} (hst : l.stackTraces = false) (C : CallFix p m c code 9 s #[Value.ref bs] wsL_law RL) (hend : zEnd p l e s m bs below meth c base)
    (hXs : va_X bs 9 xs s s.heap) (hbl : bs < s.heap.size) (hbs : base = s.heap.size) (hy : y 94 = 0) (hX : zX S a) (h0 : zX0 S a) (hM : zMd S b) (hM0 : zMd0 S b) (hF : zQ S 49 (b 4) = some (y 92) ∧ zQ S 49 (b 5) = some (y 92)) (hreg : ∀ i j, i < 128 → zR S 22 (b (100 + i)) j = 0) (hko : zK S o = 24) (hno : zN S o = 1)
    (hw : zW D y base S s H locs) (hl : lv_has ls 9 [(5, .int 0), (0, .ref bs), (1, .ref (a 0)), (2, .ref (b 0)), (3, .ref o), (4, .ref od)]) : W p l e room_1 s m #[Value.ref bs] below meth c H locs 1000 60000 (lw_Z below #[Value.ref bs] s) (F0 m 1730 ls []) := by
  have hx := C.1
  have hb := C.2.1
  have hown := C.2.2.2.1
  have hts := C.2.2.2.2
  refine lv_aload_n hx hb dL_law_1730 rfl (lv_at hl 2 rfl) ?_
  refine lv_aload_n hx hb dL_law_1731 rfl (lv_at hl 1 rfl) ?_
  refine lv_iload hx hb dL_law_1732 (lv_at hl 0 rfl) ?_
  refine lv_iconst (v := 1) hx hb dL_law_1734 (by decide) ?_
  refine lv_iadd hx hb dL_law_1735 ?_
  refine zrd (x := 1) (by decide) ?_
  refine zsld (v := xs 1) C hw hXs hbl hbs (zin_of (N := 9) (by decide) (by decide) (by decide)) rfl dL_law_1736 ?_
  refine lv_aload_n hx hb dL_law_1737 rfl (lv_at hl 1 rfl) ?_
  refine lv_iload hx hb dL_law_1738 (lv_at hl 0 rfl) ?_
  refine lv_iconst (v := 2) hx hb dL_law_1740 (by decide) ?_
  refine lv_iadd hx hb dL_law_1741 ?_
  refine zrd (x := 2) (by decide) ?_
  refine zsld (v := xs 2) C hw hXs hbl hbs (zin_of (N := 9) (by decide) (by decide) (by decide)) rfl dL_law_1742 ?_
  refine lv_aload_n hx hb dL_law_1743 rfl (lv_at hl 1 rfl) ?_
  refine lv_iload hx hb dL_law_1744 (lv_at hl 0 rfl) ?_
  refine lv_iconst (v := 3) hx hb dL_law_1746 (by decide) ?_
  refine lv_iadd hx hb dL_law_1747 ?_
  refine zrd (x := 3) (by decide) ?_
  refine zsld (v := xs 3) C hw hXs hbl hbs (zin_of (N := 9) (by decide) (by decide) (by decide)) rfl dL_law_1748 ?_
  refine lv_aload_n hx hb dL_law_1749 rfl (lv_at hl 1 rfl) ?_
  refine lv_iload hx hb dL_law_1750 (lv_at hl 0 rfl) ?_
  refine lv_iconst (v := 4) hx hb dL_law_1752 (by decide) ?_
  refine lv_iadd hx hb dL_law_1753 ?_
  refine zrd (x := 4) (by decide) ?_
  refine zsld (v := xs 4) C hw hXs hbl hbs (zin_of (N := 9) (by decide) (by decide) (by decide)) rfl dL_law_1754 ?_
  refine lv_i2c (v := ((xs 4).toUInt32 % 65536).toInt32) hx hb dL_law_1755 rfl ?_
  refine lv_aload_n hx hb dL_law_1756 rfl (lv_at hl 4 rfl) ?_
  refine zcSW_i (As := [.ref (a 0), .int (xs 1), .int (xs 2), .int (xs 3), .int (((xs 4).toUInt32 % 65536).toInt32), .ref o]) (rest := []) (n9 := 6) C hw (c_L_decodeSerial l hst D y base S a (xs 1) (xs 2) (xs 3) (((xs 4).toUInt32 % 65536).toInt32) o hX (by first | assumption | exact zbo_01 _) hko (by first | assumption | exact zbo_01 _)) gL_law_L_decodeSerial rfl (by decide +kernel) ⟨⟨rfl, rfl⟩, Nat.le_of_ble_eq_true rfl, Nat.le_of_ble_eq_true rfl⟩ rfl hl.1 rfl (Nat.le_of_ble_eq_true rfl) ⟨Nat.le_of_ble_eq_true rfl, Nat.le_of_ble_eq_true rfl⟩ dL_law_1757 (fun r1757 S1757 H locs hp1757 hw => ?_)
  obtain ⟨hk9, hv9, hco⟩ := hp1757
  obtain ⟨hM9, hM09, hF9, hF95⟩ := hco.ref hM hM0 hF
  obtain ⟨hko9, hno9⟩ := hco.o hko hno
  obtain ⟨y, y92, y94, y95, y96, hw⟩ := zW_out hw hy hko9 hno9
  have hMd : zMd (zdl S1757 o) b := hM9.dl hko9
  have hM0d : zMd0 (zdl S1757 o) b := hM09
  have hFd : zQ (zdl S1757 o) 49 (b 4) = some (y 92) := by rw [y92]; exact hF9
  have hEd : zMdE (zdl S1757 o) b := ⟨⟨_, hF9⟩, _, hF95⟩
  refine lv_istore (lv' := [(6, .int r1757), (5, .int 0), (0, .ref bs), (1, .ref (a 0)), (2, .ref (b 0)), (3, .ref o), (4, .ref od)]) hx hb dL_law_1760 hl (by decide) rfl (fun ls hl => ?_)
  refine lv_aload_n hx hb dL_law_1762 rfl (lv_at hl 4 rfl) ?_
  refine lv_aload_n hx hb dL_law_1763 rfl (lv_at hl 2 rfl) ?_
  refine lv_iload hx hb dL_law_1764 (lv_at hl 1 rfl) ?_
  refine lv_iconst (v := 1) hx hb dL_law_1766 (by decide) ?_
  refine lv_iadd hx hb dL_law_1767 ?_
  refine zrd (x := 1) (by decide) ?_
  refine zsld (v := xs 1) C hw hXs hbl hbs (zin_of (N := 9) (by decide) (by decide) (by decide)) rfl dL_law_1768 ?_
  refine lv_aload_n hx hb dL_law_1769 rfl (lv_at hl 2 rfl) ?_
  refine lv_iload hx hb dL_law_1770 (lv_at hl 1 rfl) ?_
  refine lv_iconst (v := 2) hx hb dL_law_1772 (by decide) ?_
  refine lv_iadd hx hb dL_law_1773 ?_
  refine zrd (x := 2) (by decide) ?_
  refine zsld (v := xs 2) C hw hXs hbl hbs (zin_of (N := 9) (by decide) (by decide) (by decide)) rfl dL_law_1774 ?_
  refine lv_aload_n hx hb dL_law_1775 rfl (lv_at hl 2 rfl) ?_
  refine lv_iload hx hb dL_law_1776 (lv_at hl 1 rfl) ?_
  refine lv_iconst (v := 3) hx hb dL_law_1778 (by decide) ?_
  refine lv_iadd hx hb dL_law_1779 ?_
  refine zrd (x := 3) (by decide) ?_
  refine zsld (v := xs 3) C hw hXs hbl hbs (zin_of (N := 9) (by decide) (by decide) (by decide)) rfl dL_law_1780 ?_
  refine lv_aload_n hx hb dL_law_1781 rfl (lv_at hl 2 rfl) ?_
  refine lv_iload hx hb dL_law_1782 (lv_at hl 1 rfl) ?_
  refine lv_iconst (v := 4) hx hb dL_law_1784 (by decide) ?_
  refine lv_iadd hx hb dL_law_1785 ?_
  refine zrd (x := 4) (by decide) ?_
  refine zsld (v := xs 4) C hw hXs hbl hbs (zin_of (N := 9) (by decide) (by decide) (by decide)) rfl dL_law_1786 ?_
  refine lv_i2c (v := ((xs 4).toUInt32 % 65536).toInt32) hx hb dL_law_1787 rfl ?_
  refine zcV_i (As := [.int (xs 1), .int (xs 2), .int (xs 3), .int (((xs 4).toUInt32 % 65536).toInt32)]) (rest := []) (n9 := 4) (b := (b 0)) C hw (c_X11_decodeSerial l D y base (zdl S1757 o) b (xs 1) (xs 2) (xs 3) (((xs 4).toUInt32 % 65536).toInt32) hMd (by first | assumption | exact zbo_01 _) (by first | assumption | exact zbo_01 _)) gL_law_X11_decodeSerial rfl (by decide +kernel) ⟨⟨rfl, rfl⟩, Nat.le_of_ble_eq_true rfl, Nat.le_of_ble_eq_true rfl⟩ hMd.1 ⟨by decide, by decide⟩ rfl rfl hl.1 rfl (Nat.le_of_ble_eq_true rfl) ⟨Nat.le_of_ble_eq_true rfl, Nat.le_of_ble_eq_true rfl⟩ dL_law_1788 (fun r1788 S1788 H locs hp1788 hw => ?_)
  obtain ⟨r1, r2, r3⟩ := hp1788
  refine lv_istore (lv' := [(7, .int r1788), (6, .int r1757), (5, .int 0), (0, .ref bs), (1, .ref (a 0)), (2, .ref (b 0)), (3, .ref o), (4, .ref od)]) hx hb dL_law_1791 hl (by decide) rfl (fun ls hl => ?_)
  refine lv_aload_n hx hb dL_law_1793 rfl (lv_at hl 5 rfl) ?_
  refine zcV_i (As := []) (rest := []) (n9 := 0) (b := (b 0)) C hw (c_X11_thrown l D y base S1788 (b 0) (kd_decodeSerial (xs 1) (xs 2) (xs 3) (((xs 4).toUInt32 % 65536).toInt32)) r1 r2) gL_law_X11_thrown rfl (by decide +kernel) ⟨⟨rfl, rfl⟩, Nat.le_of_ble_eq_true rfl, Nat.le_of_ble_eq_true rfl⟩ r1 ⟨by decide, by decide⟩ rfl rfl hl.1 rfl (Nat.le_of_ble_eq_true rfl) ⟨Nat.le_of_ble_eq_true rfl, Nat.le_of_ble_eq_true rfl⟩ dL_law_1794 (fun r1794 S1794 H locs hp1794 hw => ?_)
  obtain ⟨rfl, hS9⟩ := hp1794
  have hS9 := hS9.symm
  subst hS9
  refine lv_iload hx hb dL_law_1797 (lv_at hl 1 rfl) ?_
  refine lv_icmp_eq (tgt := 1804) hx hb dL_law_1799 (by decide) (fun c1799 => ?_) (fun c1799 => (show False from (c1799 hk9.symm)).elim)
  refine lv_iload hx hb dL_law_1804 (lv_at hl 1 rfl) ?_
  refine lv_if_ne (tgt := 1821) hx hb dL_law_1806 (by decide) (fun c1806 => ?_) (fun c1806 => ?_)
  · refine lv_goto (tgt := 2892) hx hb dL_law_1821 (by decide) ?_
    exact hend _ _ _ _ _ (Nat.le_of_ble_eq_true rfl) (Nat.le_of_ble_eq_true rfl) hw.2.2.1 (lv_sub hl [2, 3] rfl)
  · have hz9 : kd_decodeSerial (xs 1) (xs 2) (xs 3) (((xs 4).toUInt32 % 65536).toInt32) = 0 := hk9.symm.trans c1806
    have hb9 := r3 hz9
    subst hb9
    refine lv_aload_n hx hb dL_law_1809 rfl (lv_at hl 6 rfl) ?_
    refine lv_iconst (v := 0) hx hb dL_law_1810 (by decide) ?_
    refine zaldX C hw y94 y95 dL_law_1811 ?_
    refine zrdl (x := ((0 : Int32).toInt64)) (y96.trans (hv9 hz9)) ?_
    refine lv_iload hx hb dL_law_1812 (lv_at hl 0 rfl) ?_
    refine lv_i2l (v := (0 : Int32).toInt64) hx hb dL_law_1814 rfl ?_
    refine W.lcmp hx hb dL_law_1815 ?_
    refine zrd (x := 0) ((lg_cmp_eq _ _).mpr rfl) ?_
    refine lv_if_eq (tgt := 1821) hx hb dL_law_1816 (by decide) (fun _ => ?_) (fun c1816 => absurd c1816 (by decide))
    refine lv_goto (tgt := 2892) hx hb dL_law_1821 (by decide) ?_
    exact hend _ _ _ _ _ (Nat.le_of_ble_eq_true rfl) (Nat.le_of_ble_eq_true rfl) hw.2.2.1 (lv_sub hl [2, 3] rfl)

set_option maxHeartbeats 4000000 in
set_option maxRecDepth 100000 in
theorem law_case_20 {p : Program} {l : Launch} {e : Env} {s : State} {m : MethodId} {below : List Frame} {meth : Method} {c : Code} {H : Heap} {locs : List Loc} {ls : Array Slot} {D : va_G} {y : Nat → ClassId} {base : Nat} {S : zS} {a b : Nat → Nat} {o od bs : Nat} {xs : Nat → Int32} (hst : l.stackTraces = false) (C : CallFix p m c code 9 s #[Value.ref bs] wsL_law RL) (hend : zEnd p l e s m bs below meth c base)
    (hXs : va_X bs 9 xs s s.heap) (hbl : bs < s.heap.size) (hbs : base = s.heap.size) (hy : y 94 = 0) (hX : zX S a) (h0 : zX0 S a) (hM : zMd S b) (hM0 : zMd0 S b) (hF : zQ S 49 (b 4) = some (y 92) ∧ zQ S 49 (b 5) = some (y 92)) (hreg : ∀ i j, i < 128 → zR S 22 (b (100 + i)) j = 0) (hko : zK S o = 24) (hno : zN S o = 1)
    (hw : zW D y base S s H locs) (hl : lv_has ls 9 [(5, .int 0), (0, .ref bs), (1, .ref (a 0)), (2, .ref (b 0)), (3, .ref o), (4, .ref od)]) : W p l e room_1 s m #[Value.ref bs] below meth c H locs 1000 60000 (lw_Z below #[Value.ref bs] s) (F0 m 1824 ls []) := by
  have hx := C.1
  have hb := C.2.1
  have hown := C.2.2.2.1
  have hts := C.2.2.2.2
  refine lv_aload_n hx hb dL_law_1824 rfl (lv_at hl 2 rfl) ?_
  refine lv_aload_n hx hb dL_law_1825 rfl (lv_at hl 1 rfl) ?_
  refine lv_iload hx hb dL_law_1826 (lv_at hl 0 rfl) ?_
  refine lv_iconst (v := 1) hx hb dL_law_1828 (by decide) ?_
  refine lv_iadd hx hb dL_law_1829 ?_
  refine zrd (x := 1) (by decide) ?_
  refine zsld (v := xs 1) C hw hXs hbl hbs (zin_of (N := 9) (by decide) (by decide) (by decide)) rfl dL_law_1830 ?_
  refine lv_aload_n hx hb dL_law_1831 rfl (lv_at hl 1 rfl) ?_
  refine lv_iload hx hb dL_law_1832 (lv_at hl 0 rfl) ?_
  refine lv_iconst (v := 2) hx hb dL_law_1834 (by decide) ?_
  refine lv_iadd hx hb dL_law_1835 ?_
  refine zrd (x := 2) (by decide) ?_
  refine zsld (v := xs 2) C hw hXs hbl hbs (zin_of (N := 9) (by decide) (by decide) (by decide)) rfl dL_law_1836 ?_
  refine lv_aload_n hx hb dL_law_1837 rfl (lv_at hl 1 rfl) ?_
  refine lv_iload hx hb dL_law_1838 (lv_at hl 0 rfl) ?_
  refine lv_iconst (v := 3) hx hb dL_law_1840 (by decide) ?_
  refine lv_iadd hx hb dL_law_1841 ?_
  refine zrd (x := 3) (by decide) ?_
  refine zsld (v := xs 3) C hw hXs hbl hbs (zin_of (N := 9) (by decide) (by decide) (by decide)) rfl dL_law_1842 ?_
  refine lv_aload_n hx hb dL_law_1843 rfl (lv_at hl 4 rfl) ?_
  refine zcSW_i (As := [.ref (a 0), .int (xs 1), .int (xs 2), .int (xs 3), .ref o]) (rest := []) (n9 := 5) C hw (c_L_decodeTwo l hst D y base S a (xs 1) (xs 2) (xs 3) o hX (by first | assumption | exact zbo_01 _) hko (by first | assumption | exact zbo_01 _)) gL_law_L_decodeTwo rfl (by decide +kernel) ⟨⟨rfl, rfl⟩, Nat.le_of_ble_eq_true rfl, Nat.le_of_ble_eq_true rfl⟩ rfl hl.1 rfl (Nat.le_of_ble_eq_true rfl) ⟨Nat.le_of_ble_eq_true rfl, Nat.le_of_ble_eq_true rfl⟩ dL_law_1844 (fun r1844 S1844 H locs hp1844 hw => ?_)
  obtain ⟨hk9, hv9, hco⟩ := hp1844
  obtain ⟨hM9, hM09, hF9, hF95⟩ := hco.ref hM hM0 hF
  obtain ⟨hko9, hno9⟩ := hco.o hko hno
  obtain ⟨y, y92, y94, y95, y96, hw⟩ := zW_out hw hy hko9 hno9
  have hMd : zMd (zdl S1844 o) b := hM9.dl hko9
  have hM0d : zMd0 (zdl S1844 o) b := hM09
  have hFd : zQ (zdl S1844 o) 49 (b 4) = some (y 92) := by rw [y92]; exact hF9
  have hEd : zMdE (zdl S1844 o) b := ⟨⟨_, hF9⟩, _, hF95⟩
  refine lv_istore (lv' := [(6, .int r1844), (5, .int 0), (0, .ref bs), (1, .ref (a 0)), (2, .ref (b 0)), (3, .ref o), (4, .ref od)]) hx hb dL_law_1847 hl (by decide) rfl (fun ls hl => ?_)
  refine lv_aload_n hx hb dL_law_1849 rfl (lv_at hl 4 rfl) ?_
  refine lv_aload_n hx hb dL_law_1850 rfl (lv_at hl 2 rfl) ?_
  refine lv_iload hx hb dL_law_1851 (lv_at hl 1 rfl) ?_
  refine lv_iconst (v := 1) hx hb dL_law_1853 (by decide) ?_
  refine lv_iadd hx hb dL_law_1854 ?_
  refine zrd (x := 1) (by decide) ?_
  refine zsld (v := xs 1) C hw hXs hbl hbs (zin_of (N := 9) (by decide) (by decide) (by decide)) rfl dL_law_1855 ?_
  refine lv_aload_n hx hb dL_law_1856 rfl (lv_at hl 2 rfl) ?_
  refine lv_iload hx hb dL_law_1857 (lv_at hl 1 rfl) ?_
  refine lv_iconst (v := 2) hx hb dL_law_1859 (by decide) ?_
  refine lv_iadd hx hb dL_law_1860 ?_
  refine zrd (x := 2) (by decide) ?_
  refine zsld (v := xs 2) C hw hXs hbl hbs (zin_of (N := 9) (by decide) (by decide) (by decide)) rfl dL_law_1861 ?_
  refine lv_aload_n hx hb dL_law_1862 rfl (lv_at hl 2 rfl) ?_
  refine lv_iload hx hb dL_law_1863 (lv_at hl 1 rfl) ?_
  refine lv_iconst (v := 3) hx hb dL_law_1865 (by decide) ?_
  refine lv_iadd hx hb dL_law_1866 ?_
  refine zrd (x := 3) (by decide) ?_
  refine zsld (v := xs 3) C hw hXs hbl hbs (zin_of (N := 9) (by decide) (by decide) (by decide)) rfl dL_law_1867 ?_
  refine zcV_i (As := [.int (xs 1), .int (xs 2), .int (xs 3)]) (rest := []) (n9 := 3) (b := (b 0)) C hw (c_X11_decodeTwo l D y base (zdl S1844 o) b (xs 1) (xs 2) (xs 3) hMd (by first | assumption | exact zbo_01 _) (by first | assumption | exact zbo_01 _)) gL_law_X11_decodeTwo rfl (by decide +kernel) ⟨⟨rfl, rfl⟩, Nat.le_of_ble_eq_true rfl, Nat.le_of_ble_eq_true rfl⟩ hMd.1 ⟨by decide, by decide⟩ rfl rfl hl.1 rfl (Nat.le_of_ble_eq_true rfl) ⟨Nat.le_of_ble_eq_true rfl, Nat.le_of_ble_eq_true rfl⟩ dL_law_1868 (fun r1868 S1868 H locs hp1868 hw => ?_)
  obtain ⟨r1, r2, r3⟩ := hp1868
  refine lv_istore (lv' := [(7, .int r1868), (6, .int r1844), (5, .int 0), (0, .ref bs), (1, .ref (a 0)), (2, .ref (b 0)), (3, .ref o), (4, .ref od)]) hx hb dL_law_1871 hl (by decide) rfl (fun ls hl => ?_)
  refine lv_aload_n hx hb dL_law_1873 rfl (lv_at hl 5 rfl) ?_
  refine zcV_i (As := []) (rest := []) (n9 := 0) (b := (b 0)) C hw (c_X11_thrown l D y base S1868 (b 0) (kd_decodeTwo (xs 1) (xs 2) (xs 3)) r1 r2) gL_law_X11_thrown rfl (by decide +kernel) ⟨⟨rfl, rfl⟩, Nat.le_of_ble_eq_true rfl, Nat.le_of_ble_eq_true rfl⟩ r1 ⟨by decide, by decide⟩ rfl rfl hl.1 rfl (Nat.le_of_ble_eq_true rfl) ⟨Nat.le_of_ble_eq_true rfl, Nat.le_of_ble_eq_true rfl⟩ dL_law_1874 (fun r1874 S1874 H locs hp1874 hw => ?_)
  obtain ⟨rfl, hS9⟩ := hp1874
  have hS9 := hS9.symm
  subst hS9
  refine lv_iload hx hb dL_law_1877 (lv_at hl 1 rfl) ?_
  refine lv_icmp_eq (tgt := 1884) hx hb dL_law_1879 (by decide) (fun c1879 => ?_) (fun c1879 => (show False from (c1879 hk9.symm)).elim)
  refine lv_iload hx hb dL_law_1884 (lv_at hl 1 rfl) ?_
  refine lv_if_ne (tgt := 1901) hx hb dL_law_1886 (by decide) (fun c1886 => ?_) (fun c1886 => ?_)
  · refine lv_goto (tgt := 2892) hx hb dL_law_1901 (by decide) ?_
    exact hend _ _ _ _ _ (Nat.le_of_ble_eq_true rfl) (Nat.le_of_ble_eq_true rfl) hw.2.2.1 (lv_sub hl [2, 3] rfl)
  · have hz9 : kd_decodeTwo (xs 1) (xs 2) (xs 3) = 0 := hk9.symm.trans c1886
    have hb9 := r3 hz9
    subst hb9
    refine lv_aload_n hx hb dL_law_1889 rfl (lv_at hl 6 rfl) ?_
    refine lv_iconst (v := 0) hx hb dL_law_1890 (by decide) ?_
    refine zaldX C hw y94 y95 dL_law_1891 ?_
    refine zrdl (x := ((0 : Int32).toInt64)) (y96.trans (hv9 hz9)) ?_
    refine lv_iload hx hb dL_law_1892 (lv_at hl 0 rfl) ?_
    refine lv_i2l (v := (0 : Int32).toInt64) hx hb dL_law_1894 rfl ?_
    refine W.lcmp hx hb dL_law_1895 ?_
    refine zrd (x := 0) ((lg_cmp_eq _ _).mpr rfl) ?_
    refine lv_if_eq (tgt := 1901) hx hb dL_law_1896 (by decide) (fun _ => ?_) (fun c1896 => absurd c1896 (by decide))
    refine lv_goto (tgt := 2892) hx hb dL_law_1901 (by decide) ?_
    exact hend _ _ _ _ _ (Nat.le_of_ble_eq_true rfl) (Nat.le_of_ble_eq_true rfl) hw.2.2.1 (lv_sub hl [2, 3] rfl)

set_option maxHeartbeats 4000000 in
set_option maxRecDepth 100000 in
theorem law_case_21 {p : Program} {l : Launch} {e : Env} {s : State} {m : MethodId} {below : List Frame} {meth : Method} {c : Code} {H : Heap} {locs : List Loc} {ls : Array Slot} {D : va_G} {y : Nat → ClassId} {base : Nat} {S : zS} {a b : Nat → Nat} {o od bs : Nat} {xs : Nat → Int32} (hst : l.stackTraces = false) (C : CallFix p m c code 9 s #[Value.ref bs] wsL_law RL) (hend : zEnd p l e s m bs below meth c base)
    (hXs : va_X bs 9 xs s s.heap) (hbl : bs < s.heap.size) (hbs : base = s.heap.size) (hy : y 94 = 0) (hX : zX S a) (h0 : zX0 S a) (hM : zMd S b) (hM0 : zMd0 S b) (hF : zQ S 49 (b 4) = some (y 92) ∧ zQ S 49 (b 5) = some (y 92)) (hreg : ∀ i j, i < 128 → zR S 22 (b (100 + i)) j = 0) (hko : zK S o = 24) (hno : zN S o = 1)
    (hw : zW D y base S s H locs) (hl : lv_has ls 9 [(5, .int 0), (0, .ref bs), (1, .ref (a 0)), (2, .ref (b 0)), (3, .ref o), (4, .ref od)]) : W p l e room_1 s m #[Value.ref bs] below meth c H locs 1000 60000 (lw_Z below #[Value.ref bs] s) (F0 m 1904 ls []) := by
  have hx := C.1
  have hb := C.2.1
  have hown := C.2.2.2.1
  have hts := C.2.2.2.2
  refine lv_aload_n hx hb dL_law_1904 rfl (lv_at hl 2 rfl) ?_
  refine lv_aload_n hx hb dL_law_1905 rfl (lv_at hl 1 rfl) ?_
  refine lv_iload hx hb dL_law_1906 (lv_at hl 0 rfl) ?_
  refine lv_iconst (v := 1) hx hb dL_law_1908 (by decide) ?_
  refine lv_iadd hx hb dL_law_1909 ?_
  refine zrd (x := 1) (by decide) ?_
  refine zsld (v := xs 1) C hw hXs hbl hbs (zin_of (N := 9) (by decide) (by decide) (by decide)) rfl dL_law_1910 ?_
  refine lv_aload_n hx hb dL_law_1911 rfl (lv_at hl 1 rfl) ?_
  refine lv_iload hx hb dL_law_1912 (lv_at hl 0 rfl) ?_
  refine lv_iconst (v := 2) hx hb dL_law_1914 (by decide) ?_
  refine lv_iadd hx hb dL_law_1915 ?_
  refine zrd (x := 2) (by decide) ?_
  refine zsld (v := xs 2) C hw hXs hbl hbs (zin_of (N := 9) (by decide) (by decide) (by decide)) rfl dL_law_1916 ?_
  refine lv_aload_n hx hb dL_law_1917 rfl (lv_at hl 1 rfl) ?_
  refine lv_iload hx hb dL_law_1918 (lv_at hl 0 rfl) ?_
  refine lv_iconst (v := 3) hx hb dL_law_1920 (by decide) ?_
  refine lv_iadd hx hb dL_law_1921 ?_
  refine zrd (x := 3) (by decide) ?_
  refine zsld (v := xs 3) C hw hXs hbl hbs (zin_of (N := 9) (by decide) (by decide) (by decide)) rfl dL_law_1922 ?_
  refine lv_aload_n hx hb dL_law_1923 rfl (lv_at hl 1 rfl) ?_
  refine lv_iload hx hb dL_law_1924 (lv_at hl 0 rfl) ?_
  refine lv_iconst (v := 4) hx hb dL_law_1926 (by decide) ?_
  refine lv_iadd hx hb dL_law_1927 ?_
  refine zrd (x := 4) (by decide) ?_
  refine zsld (v := xs 4) C hw hXs hbl hbs (zin_of (N := 9) (by decide) (by decide) (by decide)) rfl dL_law_1928 ?_
  refine lv_aload_n hx hb dL_law_1929 rfl (lv_at hl 1 rfl) ?_
  refine lv_iload hx hb dL_law_1930 (lv_at hl 0 rfl) ?_
  refine lv_iconst (v := 5) hx hb dL_law_1932 (by decide) ?_
  refine lv_iadd hx hb dL_law_1933 ?_
  refine zrd (x := 5) (by decide) ?_
  refine zsld (v := xs 5) C hw hXs hbl hbs (zin_of (N := 9) (by decide) (by decide) (by decide)) rfl dL_law_1934 ?_
  refine lv_aload_n hx hb dL_law_1935 rfl (lv_at hl 4 rfl) ?_
  refine zcSW_i (As := [.ref (a 0), .int (xs 1), .int (xs 2), .int (xs 3), .int (xs 4), .int (xs 5), .ref o]) (rest := []) (n9 := 7) C hw (c_L_decodeFour l hst D y base S a (xs 1) (xs 2) (xs 3) (xs 4) (xs 5) o hX (by first | assumption | exact zbo_01 _) hko (by first | assumption | exact zbo_01 _)) gL_law_L_decodeFour rfl (by decide +kernel) ⟨⟨rfl, rfl⟩, Nat.le_of_ble_eq_true rfl, Nat.le_of_ble_eq_true rfl⟩ rfl hl.1 rfl (Nat.le_of_ble_eq_true rfl) ⟨Nat.le_of_ble_eq_true rfl, Nat.le_of_ble_eq_true rfl⟩ dL_law_1936 (fun r1936 S1936 H locs hp1936 hw => ?_)
  obtain ⟨hk9, hv9, hco⟩ := hp1936
  obtain ⟨hM9, hM09, hF9, hF95⟩ := hco.ref hM hM0 hF
  obtain ⟨hko9, hno9⟩ := hco.o hko hno
  obtain ⟨y, y92, y94, y95, y96, hw⟩ := zW_out hw hy hko9 hno9
  have hMd : zMd (zdl S1936 o) b := hM9.dl hko9
  have hM0d : zMd0 (zdl S1936 o) b := hM09
  have hFd : zQ (zdl S1936 o) 49 (b 4) = some (y 92) := by rw [y92]; exact hF9
  have hEd : zMdE (zdl S1936 o) b := ⟨⟨_, hF9⟩, _, hF95⟩
  refine lv_istore (lv' := [(6, .int r1936), (5, .int 0), (0, .ref bs), (1, .ref (a 0)), (2, .ref (b 0)), (3, .ref o), (4, .ref od)]) hx hb dL_law_1939 hl (by decide) rfl (fun ls hl => ?_)
  refine lv_aload_n hx hb dL_law_1941 rfl (lv_at hl 4 rfl) ?_
  refine lv_aload_n hx hb dL_law_1942 rfl (lv_at hl 2 rfl) ?_
  refine lv_iload hx hb dL_law_1943 (lv_at hl 1 rfl) ?_
  refine lv_iconst (v := 1) hx hb dL_law_1945 (by decide) ?_
  refine lv_iadd hx hb dL_law_1946 ?_
  refine zrd (x := 1) (by decide) ?_
  refine zsld (v := xs 1) C hw hXs hbl hbs (zin_of (N := 9) (by decide) (by decide) (by decide)) rfl dL_law_1947 ?_
  refine lv_aload_n hx hb dL_law_1948 rfl (lv_at hl 2 rfl) ?_
  refine lv_iload hx hb dL_law_1949 (lv_at hl 1 rfl) ?_
  refine lv_iconst (v := 2) hx hb dL_law_1951 (by decide) ?_
  refine lv_iadd hx hb dL_law_1952 ?_
  refine zrd (x := 2) (by decide) ?_
  refine zsld (v := xs 2) C hw hXs hbl hbs (zin_of (N := 9) (by decide) (by decide) (by decide)) rfl dL_law_1953 ?_
  refine lv_aload_n hx hb dL_law_1954 rfl (lv_at hl 2 rfl) ?_
  refine lv_iload hx hb dL_law_1955 (lv_at hl 1 rfl) ?_
  refine lv_iconst (v := 3) hx hb dL_law_1957 (by decide) ?_
  refine lv_iadd hx hb dL_law_1958 ?_
  refine zrd (x := 3) (by decide) ?_
  refine zsld (v := xs 3) C hw hXs hbl hbs (zin_of (N := 9) (by decide) (by decide) (by decide)) rfl dL_law_1959 ?_
  refine lv_aload_n hx hb dL_law_1960 rfl (lv_at hl 2 rfl) ?_
  refine lv_iload hx hb dL_law_1961 (lv_at hl 1 rfl) ?_
  refine lv_iconst (v := 4) hx hb dL_law_1963 (by decide) ?_
  refine lv_iadd hx hb dL_law_1964 ?_
  refine zrd (x := 4) (by decide) ?_
  refine zsld (v := xs 4) C hw hXs hbl hbs (zin_of (N := 9) (by decide) (by decide) (by decide)) rfl dL_law_1965 ?_
  refine lv_aload_n hx hb dL_law_1966 rfl (lv_at hl 2 rfl) ?_
  refine lv_iload hx hb dL_law_1967 (lv_at hl 1 rfl) ?_
  refine lv_iconst (v := 5) hx hb dL_law_1969 (by decide) ?_
  refine lv_iadd hx hb dL_law_1970 ?_
  refine zrd (x := 5) (by decide) ?_
  refine zsld (v := xs 5) C hw hXs hbl hbs (zin_of (N := 9) (by decide) (by decide) (by decide)) rfl dL_law_1971 ?_
  refine zcV_i (As := [.int (xs 1), .int (xs 2), .int (xs 3), .int (xs 4), .int (xs 5)]) (rest := []) (n9 := 5) (b := (b 0)) C hw (c_X11_decodeFour l D y base (zdl S1936 o) b (xs 1) (xs 2) (xs 3) (xs 4) (xs 5) hMd (by first | assumption | exact zbo_01 _) (by first | assumption | exact zbo_01 _)) gL_law_X11_decodeFour rfl (by decide +kernel) ⟨⟨rfl, rfl⟩, Nat.le_of_ble_eq_true rfl, Nat.le_of_ble_eq_true rfl⟩ hMd.1 ⟨by decide, by decide⟩ rfl rfl hl.1 rfl (Nat.le_of_ble_eq_true rfl) ⟨Nat.le_of_ble_eq_true rfl, Nat.le_of_ble_eq_true rfl⟩ dL_law_1972 (fun r1972 S1972 H locs hp1972 hw => ?_)
  obtain ⟨r1, r2, r3⟩ := hp1972
  refine lv_istore (lv' := [(7, .int r1972), (6, .int r1936), (5, .int 0), (0, .ref bs), (1, .ref (a 0)), (2, .ref (b 0)), (3, .ref o), (4, .ref od)]) hx hb dL_law_1975 hl (by decide) rfl (fun ls hl => ?_)
  refine lv_aload_n hx hb dL_law_1977 rfl (lv_at hl 5 rfl) ?_
  refine zcV_i (As := []) (rest := []) (n9 := 0) (b := (b 0)) C hw (c_X11_thrown l D y base S1972 (b 0) (kd_decodeFour (xs 1) (xs 2) (xs 3) (xs 4) (xs 5)) r1 r2) gL_law_X11_thrown rfl (by decide +kernel) ⟨⟨rfl, rfl⟩, Nat.le_of_ble_eq_true rfl, Nat.le_of_ble_eq_true rfl⟩ r1 ⟨by decide, by decide⟩ rfl rfl hl.1 rfl (Nat.le_of_ble_eq_true rfl) ⟨Nat.le_of_ble_eq_true rfl, Nat.le_of_ble_eq_true rfl⟩ dL_law_1978 (fun r1978 S1978 H locs hp1978 hw => ?_)
  obtain ⟨rfl, hS9⟩ := hp1978
  have hS9 := hS9.symm
  subst hS9
  refine lv_iload hx hb dL_law_1981 (lv_at hl 1 rfl) ?_
  refine lv_icmp_eq (tgt := 1988) hx hb dL_law_1983 (by decide) (fun c1983 => ?_) (fun c1983 => (show False from (c1983 hk9.symm)).elim)
  refine lv_iload hx hb dL_law_1988 (lv_at hl 1 rfl) ?_
  refine lv_if_ne (tgt := 2005) hx hb dL_law_1990 (by decide) (fun c1990 => ?_) (fun c1990 => ?_)
  · refine lv_goto (tgt := 2892) hx hb dL_law_2005 (by decide) ?_
    exact hend _ _ _ _ _ (Nat.le_of_ble_eq_true rfl) (Nat.le_of_ble_eq_true rfl) hw.2.2.1 (lv_sub hl [2, 3] rfl)
  · have hz9 : kd_decodeFour (xs 1) (xs 2) (xs 3) (xs 4) (xs 5) = 0 := hk9.symm.trans c1990
    have hb9 := r3 hz9
    subst hb9
    refine lv_aload_n hx hb dL_law_1993 rfl (lv_at hl 6 rfl) ?_
    refine lv_iconst (v := 0) hx hb dL_law_1994 (by decide) ?_
    refine zaldX C hw y94 y95 dL_law_1995 ?_
    refine zrdl (x := ((0 : Int32).toInt64)) (y96.trans (hv9 hz9)) ?_
    refine lv_iload hx hb dL_law_1996 (lv_at hl 0 rfl) ?_
    refine lv_i2l (v := (0 : Int32).toInt64) hx hb dL_law_1998 rfl ?_
    refine W.lcmp hx hb dL_law_1999 ?_
    refine zrd (x := 0) ((lg_cmp_eq _ _).mpr rfl) ?_
    refine lv_if_eq (tgt := 2005) hx hb dL_law_2000 (by decide) (fun _ => ?_) (fun c2000 => absurd c2000 (by decide))
    refine lv_goto (tgt := 2892) hx hb dL_law_2005 (by decide) ?_
    exact hend _ _ _ _ _ (Nat.le_of_ble_eq_true rfl) (Nat.le_of_ble_eq_true rfl) hw.2.2.1 (lv_sub hl [2, 3] rfl)

set_option maxHeartbeats 4000000 in
set_option maxRecDepth 100000 in
theorem law_case_22 {p : Program} {l : Launch} {e : Env} {s : State} {m : MethodId} {below : List Frame} {meth : Method} {c : Code} {H : Heap} {locs : List Loc} {ls : Array Slot} {D : va_G} {y : Nat → ClassId} {base : Nat} {S : zS} {a b : Nat → Nat} {o od bs : Nat} {xs : Nat → Int32} (hst : l.stackTraces = false) (C : CallFix p m c code 9 s #[Value.ref bs] wsL_law RL) (hend : zEnd p l e s m bs below meth c base)
    (hXs : va_X bs 9 xs s s.heap) (hbl : bs < s.heap.size) (hbs : base = s.heap.size) (hy : y 94 = 0) (hX : zX S a) (h0 : zX0 S a) (hM : zMd S b) (hM0 : zMd0 S b) (hF : zQ S 49 (b 4) = some (y 92) ∧ zQ S 49 (b 5) = some (y 92)) (hreg : ∀ i j, i < 128 → zR S 22 (b (100 + i)) j = 0) (hko : zK S o = 24) (hno : zN S o = 1)
    (hw : zW D y base S s H locs) (hl : lv_has ls 9 [(5, .int 0), (0, .ref bs), (1, .ref (a 0)), (2, .ref (b 0)), (3, .ref o), (4, .ref od)]) : W p l e room_1 s m #[Value.ref bs] below meth c H locs 1000 60000 (lw_Z below #[Value.ref bs] s) (F0 m 2008 ls []) := by
  have hx := C.1
  have hb := C.2.1
  have hown := C.2.2.2.1
  have hts := C.2.2.2.2
  refine lv_aload_n hx hb dL_law_2008 rfl (lv_at hl 2 rfl) ?_
  refine zcV_i (As := []) (rest := []) (n9 := 0) (b := (a 0)) C hw (c_X7_notes l D y base S a hX (by first | assumption | exact zbo_01 _)) gL_law_X7_notes rfl (by decide +kernel) ⟨⟨rfl, rfl⟩, Nat.le_of_ble_eq_true rfl, Nat.le_of_ble_eq_true rfl⟩ hX.1 ⟨by decide, by decide⟩ rfl rfl hl.1 rfl (Nat.le_of_ble_eq_true rfl) ⟨Nat.le_of_ble_eq_true rfl, Nat.le_of_ble_eq_true rfl⟩ dL_law_2009 (fun r2009 S2009 H locs hp2009 hw => ?_)
  obtain ⟨rfl, hcl9⟩ := hp2009
  obtain ⟨hM9, hM09, hF9, hF95⟩ := hcl9.ref hM hM0 hF
  have hEd : zMdE S2009 b := ⟨⟨_, hF9⟩, _, hF95⟩
  refine lv_aload_n hx hb dL_law_2012 rfl (lv_at hl 3 rfl) ?_
  refine zcV_i (As := []) (rest := [.int 0]) (n9 := 0) (b := (b 0)) C hw (c_X11_notes_ l D y base S2009 b hM9 (by first | assumption | exact zbo_01 _)) gL_law_X11_notes_ rfl (by decide +kernel) ⟨⟨rfl, rfl⟩, Nat.le_of_ble_eq_true rfl, Nat.le_of_ble_eq_true rfl⟩ hM9.1 ⟨by decide, by decide⟩ rfl rfl hl.1 rfl (Nat.le_of_ble_eq_true rfl) ⟨Nat.le_of_ble_eq_true rfl, Nat.le_of_ble_eq_true rfl⟩ dL_law_2013 (fun r2013 S2013 H locs hp2013 hw => ?_)
  obtain ⟨r1, rfl⟩ := hp2013
  refine lv_icmp_eq (tgt := 2892) hx hb dL_law_2016 (by decide) (fun _ => ?_) (fun c2016 => absurd c2016 (by decide))
  exact hend _ _ _ _ _ (Nat.le_of_ble_eq_true rfl) (Nat.le_of_ble_eq_true rfl) hw.2.2.1 (lv_sub hl [0, 1] rfl)

set_option maxHeartbeats 4000000 in
set_option maxRecDepth 100000 in
theorem law_case_23 {p : Program} {l : Launch} {e : Env} {s : State} {m : MethodId} {below : List Frame} {meth : Method} {c : Code} {H : Heap} {locs : List Loc} {ls : Array Slot} {D : va_G} {y : Nat → ClassId} {base : Nat} {S : zS} {a b : Nat → Nat} {o od bs : Nat} {xs : Nat → Int32} (hst : l.stackTraces = false) (C : CallFix p m c code 9 s #[Value.ref bs] wsL_law RL) (hend : zEnd p l e s m bs below meth c base)
    (hXs : va_X bs 9 xs s s.heap) (hbl : bs < s.heap.size) (hbs : base = s.heap.size) (hy : y 94 = 0) (hX : zX S a) (h0 : zX0 S a) (hM : zMd S b) (hM0 : zMd0 S b) (hF : zQ S 49 (b 4) = some (y 92) ∧ zQ S 49 (b 5) = some (y 92)) (hreg : ∀ i j, i < 128 → zR S 22 (b (100 + i)) j = 0) (hko : zK S o = 24) (hno : zN S o = 1)
    (hw : zW D y base S s H locs) (hl : lv_has ls 9 [(5, .int 0), (0, .ref bs), (1, .ref (a 0)), (2, .ref (b 0)), (3, .ref o), (4, .ref od)]) : W p l e room_1 s m #[Value.ref bs] below meth c H locs 1000 60000 (lw_Z below #[Value.ref bs] s) (F0 m 2021 ls []) := by
  have hx := C.1
  have hb := C.2.1
  have hown := C.2.2.2.1
  have hts := C.2.2.2.2
  refine lv_aload_n hx hb dL_law_2021 rfl (lv_at hl 2 rfl) ?_
  refine lv_aload_n hx hb dL_law_2022 rfl (lv_at hl 1 rfl) ?_
  refine lv_iload hx hb dL_law_2023 (lv_at hl 0 rfl) ?_
  refine lv_iconst (v := 1) hx hb dL_law_2025 (by decide) ?_
  refine lv_iadd hx hb dL_law_2026 ?_
  refine zrd (x := 1) (by decide) ?_
  refine zsld (v := xs 1) C hw hXs hbl hbs (zin_of (N := 9) (by decide) (by decide) (by decide)) rfl dL_law_2027 ?_
  refine lv_aload_n hx hb dL_law_2028 rfl (lv_at hl 4 rfl) ?_
  refine zcSW_i (As := [.ref (a 0), .int (xs 1), .ref o]) (rest := []) (n9 := 3) C hw (c_L_kind l hst D y base S a (xs 1) o hX (by first | assumption | exact zbo_01 _) hko (by first | assumption | exact zbo_01 _)) gL_law_L_kind rfl (by decide +kernel) ⟨⟨rfl, rfl⟩, Nat.le_of_ble_eq_true rfl, Nat.le_of_ble_eq_true rfl⟩ rfl hl.1 rfl (Nat.le_of_ble_eq_true rfl) ⟨Nat.le_of_ble_eq_true rfl, Nat.le_of_ble_eq_true rfl⟩ dL_law_2029 (fun r2029 S2029 H locs hp2029 hw => ?_)
  obtain ⟨hk9, hv9, hco⟩ := hp2029
  obtain ⟨hM9, hM09, hF9, hF95⟩ := hco.ref hM hM0 hF
  obtain ⟨hko9, hno9⟩ := hco.o hko hno
  obtain ⟨y, y92, y94, y95, y96, hw⟩ := zW_out hw hy hko9 hno9
  have hMd : zMd (zdl S2029 o) b := hM9.dl hko9
  have hM0d : zMd0 (zdl S2029 o) b := hM09
  have hFd : zQ (zdl S2029 o) 49 (b 4) = some (y 92) := by rw [y92]; exact hF9
  have hEd : zMdE (zdl S2029 o) b := ⟨⟨_, hF9⟩, _, hF95⟩
  refine lv_istore (lv' := [(6, .int r2029), (5, .int 0), (0, .ref bs), (1, .ref (a 0)), (2, .ref (b 0)), (3, .ref o), (4, .ref od)]) hx hb dL_law_2032 hl (by decide) rfl (fun ls hl => ?_)
  refine lv_aload_n hx hb dL_law_2034 rfl (lv_at hl 4 rfl) ?_
  refine lv_aload_n hx hb dL_law_2035 rfl (lv_at hl 2 rfl) ?_
  refine lv_iload hx hb dL_law_2036 (lv_at hl 1 rfl) ?_
  refine lv_iconst (v := 1) hx hb dL_law_2038 (by decide) ?_
  refine lv_iadd hx hb dL_law_2039 ?_
  refine zrd (x := 1) (by decide) ?_
  refine zsld (v := xs 1) C hw hXs hbl hbs (zin_of (N := 9) (by decide) (by decide) (by decide)) rfl dL_law_2040 ?_
  refine zcV_i (As := [.int (xs 1)]) (rest := []) (n9 := 1) (b := (b 0)) C hw (c_X11_kind l D y base (zdl S2029 o) b (xs 1) hMd (by first | assumption | exact zbo_01 _)) gL_law_X11_kind rfl (by decide +kernel) ⟨⟨rfl, rfl⟩, Nat.le_of_ble_eq_true rfl, Nat.le_of_ble_eq_true rfl⟩ hMd.1 ⟨by decide, by decide⟩ rfl rfl hl.1 rfl (Nat.le_of_ble_eq_true rfl) ⟨Nat.le_of_ble_eq_true rfl, Nat.le_of_ble_eq_true rfl⟩ dL_law_2041 (fun r2041 S2041 H locs hp2041 hw => ?_)
  obtain ⟨r1, r2, r3⟩ := hp2041
  refine lv_istore (lv' := [(7, .int r2041), (6, .int r2029), (5, .int 0), (0, .ref bs), (1, .ref (a 0)), (2, .ref (b 0)), (3, .ref o), (4, .ref od)]) hx hb dL_law_2044 hl (by decide) rfl (fun ls hl => ?_)
  refine lv_aload_n hx hb dL_law_2046 rfl (lv_at hl 5 rfl) ?_
  refine zcV_i (As := []) (rest := []) (n9 := 0) (b := (b 0)) C hw (c_X11_thrown l D y base S2041 (b 0) (1 : Int32) r1 r2) gL_law_X11_thrown rfl (by decide +kernel) ⟨⟨rfl, rfl⟩, Nat.le_of_ble_eq_true rfl, Nat.le_of_ble_eq_true rfl⟩ r1 ⟨by decide, by decide⟩ rfl rfl hl.1 rfl (Nat.le_of_ble_eq_true rfl) ⟨Nat.le_of_ble_eq_true rfl, Nat.le_of_ble_eq_true rfl⟩ dL_law_2047 (fun r2047 S2047 H locs hp2047 hw => ?_)
  obtain ⟨rfl, hS9⟩ := hp2047
  have hS9 := hS9.symm
  subst hS9
  refine lv_iload hx hb dL_law_2050 (lv_at hl 1 rfl) ?_
  refine lv_icmp_eq (tgt := 2057) hx hb dL_law_2052 (by decide) (fun c2052 => ?_) (fun c2052 => (show False from (c2052 hk9.symm)).elim)
  refine lv_iload hx hb dL_law_2057 (lv_at hl 1 rfl) ?_
  refine lv_if_ne (tgt := 2074) hx hb dL_law_2059 (by decide) (fun c2059 => ?_) (fun c2059 => ?_)
  · refine lv_goto (tgt := 2892) hx hb dL_law_2074 (by decide) ?_
    exact hend _ _ _ _ _ (Nat.le_of_ble_eq_true rfl) (Nat.le_of_ble_eq_true rfl) hw.2.2.1 (lv_sub hl [2, 3] rfl)
  · have hz9 : (1 : Int32) = 0 := hk9.symm.trans c2059
    have hb9 := r3 hz9
    subst hb9
    refine lv_aload_n hx hb dL_law_2062 rfl (lv_at hl 6 rfl) ?_
    refine lv_iconst (v := 0) hx hb dL_law_2063 (by decide) ?_
    refine zaldX C hw y94 y95 dL_law_2064 ?_
    refine zrdl (x := ((0 : Int32).toInt64)) (y96.trans (hv9 hz9)) ?_
    refine lv_iload hx hb dL_law_2065 (lv_at hl 0 rfl) ?_
    refine lv_i2l (v := (0 : Int32).toInt64) hx hb dL_law_2067 rfl ?_
    refine W.lcmp hx hb dL_law_2068 ?_
    refine zrd (x := 0) ((lg_cmp_eq _ _).mpr rfl) ?_
    refine lv_if_eq (tgt := 2074) hx hb dL_law_2069 (by decide) (fun _ => ?_) (fun c2069 => absurd c2069 (by decide))
    refine lv_goto (tgt := 2892) hx hb dL_law_2074 (by decide) ?_
    exact hend _ _ _ _ _ (Nat.le_of_ble_eq_true rfl) (Nat.le_of_ble_eq_true rfl) hw.2.2.1 (lv_sub hl [2, 3] rfl)

