set_option maxHeartbeats 4000000 in
set_option maxRecDepth 100000 in
theorem law_part_11 {p : Program} {l : Launch} {e : Env} {s : State} {m : MethodId} {below : List Frame} {meth : Method} {c : Code} {H : Heap} {locs : List Loc} {ls : Array Slot} {D : va_G} {y : Nat → ClassId} {base : Nat} {S : zS} {a : Nat → Nat} {bs : Nat} (hst : l.stackTraces = false) (C : CallFix p m c code 2 s #[Value.ref bs] wsL_law RL) (hr : meth.sig.returnType = ret) (hlocks : meth.locks = false) (hy31 : y 99 < 2 ^ 31) (hNw : zNew S a) (hDs : zDs a) (hbase : base = s.heap.size) (hw : zW D y base S s H locs) (hl : lv_has ls 2 [(1, .ref (a 0)), (0, .ref (y 98))]) : W p l e room_1 s m #[Value.ref bs] below meth c H locs 145 6272 (lw_Z below #[Value.ref bs] s) (F0 m 731 ls []) := by
  have hx := C.1
  have hb := C.2.1
  have hown := C.2.2.2.1
  have hts := C.2.2.2.2
  refine lv_aload_n hx hb dL_law_731 rfl (lv_at hl 0 rfl) ?_
  refine lv_bipush (v := 116) hx hb dL_law_732 (by decide) ?_
  refine lv_bipush (v := 8) hx hb dL_law_734 (by decide) ?_
  refine znewI (N := 8) C hw (by decide +kernel) (by decide) (by decide) (Nat.le_of_ble_eq_true rfl) (Nat.le_of_ble_eq_true rfl) (Nat.le_of_ble_eq_true rfl) dL_law_736 (fun q736 H kq736 hw => ?_)
  have hA : zAr S (znR S q736 22 8 (fun _ => 0)) q736 8 [] := zAr.new kq736
  generalize (znR S q736 22 8 (fun _ => 0)) = Sa736 at hw hA
  refine lv_dup hx hb dL_law_738 rfl ?_
  refine lv_iconst (v := 0) hx hb dL_law_739 (by decide) ?_
  refine lv_iconst (v := 0) hx hb dL_law_740 (by decide) ?_
  refine zast_I (a := q736) C hw hA.2.1 hA.2.2.1 (zin_of (N := 8) (by decide) (by grind) (by grind)) dL_law_741 (fun H locs hw => ?_)
  have hA : zAr S (zsR Sa736 22 q736 (upd (zR Sa736 22 q736) (0 : Int32).toNatClampNeg 0)) q736 8 [0] := zAr.st (k := 0) hA kq736 (by decide) rfl
  generalize (zsR Sa736 22 q736 (upd (zR Sa736 22 q736) (0 : Int32).toNatClampNeg 0)) = Sa741 at hw hA
  refine lv_dup hx hb dL_law_742 rfl ?_
  refine lv_iconst (v := 1) hx hb dL_law_743 (by decide) ?_
  refine lv_iconst (v := 1) hx hb dL_law_744 (by decide) ?_
  refine zast_I (a := q736) C hw hA.2.1 hA.2.2.1 (zin_of (N := 8) (by decide) (by grind) (by grind)) dL_law_745 (fun H locs hw => ?_)
  have hA : zAr S (zsR Sa741 22 q736 (upd (zR Sa741 22 q736) (1 : Int32).toNatClampNeg 1)) q736 8 [0, 1] := zAr.st (k := 1) hA kq736 (by decide) rfl
  generalize (zsR Sa741 22 q736 (upd (zR Sa741 22 q736) (1 : Int32).toNatClampNeg 1)) = Sa745 at hw hA
  refine lv_dup hx hb dL_law_746 rfl ?_
  refine lv_iconst (v := 2) hx hb dL_law_747 (by decide) ?_
  refine lv_iconst (v := 0) hx hb dL_law_748 (by decide) ?_
  refine zast_I (a := q736) C hw hA.2.1 hA.2.2.1 (zin_of (N := 8) (by decide) (by grind) (by grind)) dL_law_749 (fun H locs hw => ?_)
  have hA : zAr S (zsR Sa745 22 q736 (upd (zR Sa745 22 q736) (2 : Int32).toNatClampNeg 0)) q736 8 [0, 1, 0] := zAr.st (k := 2) hA kq736 (by decide) rfl
  generalize (zsR Sa745 22 q736 (upd (zR Sa745 22 q736) (2 : Int32).toNatClampNeg 0)) = Sa749 at hw hA
  refine lv_dup hx hb dL_law_750 rfl ?_
  refine lv_iconst (v := 3) hx hb dL_law_751 (by decide) ?_
  refine lv_iconst (v := 0) hx hb dL_law_752 (by decide) ?_
  refine zast_I (a := q736) C hw hA.2.1 hA.2.2.1 (zin_of (N := 8) (by decide) (by grind) (by grind)) dL_law_753 (fun H locs hw => ?_)
  have hA : zAr S (zsR Sa749 22 q736 (upd (zR Sa749 22 q736) (3 : Int32).toNatClampNeg 0)) q736 8 [0, 1, 0, 0] := zAr.st (k := 3) hA kq736 (by decide) rfl
  generalize (zsR Sa749 22 q736 (upd (zR Sa749 22 q736) (3 : Int32).toNatClampNeg 0)) = Sa753 at hw hA
  refine lv_dup hx hb dL_law_754 rfl ?_
  refine lv_iconst (v := 4) hx hb dL_law_755 (by decide) ?_
  refine lv_iconst (v := 0) hx hb dL_law_756 (by decide) ?_
  refine zast_I (a := q736) C hw hA.2.1 hA.2.2.1 (zin_of (N := 8) (by decide) (by grind) (by grind)) dL_law_757 (fun H locs hw => ?_)
  have hA : zAr S (zsR Sa753 22 q736 (upd (zR Sa753 22 q736) (4 : Int32).toNatClampNeg 0)) q736 8 [0, 1, 0, 0, 0] := zAr.st (k := 4) hA kq736 (by decide) rfl
  generalize (zsR Sa753 22 q736 (upd (zR Sa753 22 q736) (4 : Int32).toNatClampNeg 0)) = Sa757 at hw hA
  refine lv_dup hx hb dL_law_758 rfl ?_
  refine lv_iconst (v := 5) hx hb dL_law_759 (by decide) ?_
  refine lv_iconst (v := 0) hx hb dL_law_760 (by decide) ?_
  refine zast_I (a := q736) C hw hA.2.1 hA.2.2.1 (zin_of (N := 8) (by decide) (by grind) (by grind)) dL_law_761 (fun H locs hw => ?_)
  have hA : zAr S (zsR Sa757 22 q736 (upd (zR Sa757 22 q736) (5 : Int32).toNatClampNeg 0)) q736 8 [0, 1, 0, 0, 0, 0] := zAr.st (k := 5) hA kq736 (by decide) rfl
  generalize (zsR Sa757 22 q736 (upd (zR Sa757 22 q736) (5 : Int32).toNatClampNeg 0)) = Sa761 at hw hA
  refine lv_dup hx hb dL_law_762 rfl ?_
  refine lv_bipush (v := 6) hx hb dL_law_763 (by decide) ?_
  refine lv_iconst (v := 0) hx hb dL_law_765 (by decide) ?_
  refine zast_I (a := q736) C hw hA.2.1 hA.2.2.1 (zin_of (N := 8) (by decide) (by grind) (by grind)) dL_law_766 (fun H locs hw => ?_)
  have hA : zAr S (zsR Sa761 22 q736 (upd (zR Sa761 22 q736) (6 : Int32).toNatClampNeg 0)) q736 8 [0, 1, 0, 0, 0, 0, 0] := zAr.st (k := 6) hA kq736 (by decide) rfl
  generalize (zsR Sa761 22 q736 (upd (zR Sa761 22 q736) (6 : Int32).toNatClampNeg 0)) = Sa766 at hw hA
  refine lv_dup hx hb dL_law_767 rfl ?_
  refine lv_bipush (v := 7) hx hb dL_law_768 (by decide) ?_
  refine lv_bipush (v := 51) hx hb dL_law_770 (by decide) ?_
  refine zast_I (a := q736) C hw hA.2.1 hA.2.2.1 (zin_of (N := 8) (by decide) (by grind) (by grind)) dL_law_772 (fun H locs hw => ?_)
  have hA : zAr S (zsR Sa766 22 q736 (upd (zR Sa766 22 q736) (7 : Int32).toNatClampNeg 51)) q736 8 [0, 1, 0, 0, 0, 0, 0, 51] := zAr.st (k := 7) hA kq736 (by decide) rfl
  generalize (zsR Sa766 22 q736 (upd (zR Sa766 22 q736) (7 : Int32).toNatClampNeg 51)) = Sa772 at hw hA
  obtain ⟨hG, hK9, hN9, hA⟩ := hA
  have hj0 : zR Sa772 22 q736 0 = 0 := (hA 0 0 rfl).trans rfl
  have hj1 : zR Sa772 22 q736 1 = 1 := (hA 1 1 rfl).trans rfl
  have hj2 : zR Sa772 22 q736 2 = 0 := (hA 2 0 rfl).trans rfl
  have hj3 : zR Sa772 22 q736 3 = 0 := (hA 3 0 rfl).trans rfl
  have hj4 : zR Sa772 22 q736 4 = 0 := (hA 4 0 rfl).trans rfl
  have hj5 : zR Sa772 22 q736 5 = 0 := (hA 5 0 rfl).trans rfl
  have hj6 : zR Sa772 22 q736 6 = 0 := (hA 6 0 rfl).trans rfl
  have hj7 : zR Sa772 22 q736 7 = 51 := (hA 7 51 rfl).trans rfl
  have hNw := zNew.gw hG hNw
  refine zcSW_i (As := [.ref (a 0), .int 116, .ref q736]) (rest := []) (n9 := 3) C hw (c_L_ask_t_twoWires_r l hst D y base Sa772 a 0 1 0 0 0 0 0 51 q736 hNw.1 hNw.2.1 (by decide +kernel) (by decide +kernel) hK9 hN9 hj0 hj1 hj2 hj3 hj4 hj5 hj6 hj7) gL_law_L_ask rfl (by decide +kernel) ⟨⟨rfl, rfl⟩, Nat.le_of_ble_eq_true rfl, Nat.le_of_ble_eq_true rfl⟩ rfl hl.1 rfl (Nat.le_of_ble_eq_true rfl) ⟨Nat.le_of_ble_eq_true rfl, Nat.le_of_ble_eq_true rfl⟩ dL_law_773 (fun r773 S773 H locs hp773 hw => ?_)
  have h9 : r773 = (-2000000002) ∧ S773 = Sa772 := by
    rcases hp773 with h | h
    · exact absurd h.1 (by decide +kernel)
    · exact h.2
  obtain ⟨rfl, hS9⟩ := h9
  have hS9 := hS9.symm
  subst hS9
  refine lv_ldc (own := RL) (v := (-2000000002)) hx hb hown (hts (.constant RL 71 (-2000000002)) (by decide +kernel)) dL_law_776 ?_
  refine lv_icmp_ne (tgt := 1945) hx hb dL_law_778 (by decide) (fun c778 => absurd c778 (by decide)) (fun _ => ?_)
  exact law_part_12 hst C hr hlocks hy31 hNw hDs hbase hw hl

set_option maxHeartbeats 4000000 in
set_option maxRecDepth 100000 in
theorem law_part_10 {p : Program} {l : Launch} {e : Env} {s : State} {m : MethodId} {below : List Frame} {meth : Method} {c : Code} {H : Heap} {locs : List Loc} {ls : Array Slot} {D : va_G} {y : Nat → ClassId} {base : Nat} {S : zS} {a : Nat → Nat} {bs : Nat} (hst : l.stackTraces = false) (C : CallFix p m c code 2 s #[Value.ref bs] wsL_law RL) (hr : meth.sig.returnType = ret) (hlocks : meth.locks = false) (hy31 : y 99 < 2 ^ 31) (hNw : zNew S a) (hDs : zDs a) (hbase : base = s.heap.size) (hw : zW D y base S s H locs) (hl : lv_has ls 2 [(1, .ref (a 0)), (0, .ref (y 98))]) : W p l e room_1 s m #[Value.ref bs] below meth c H locs 136 6216 (lw_Z below #[Value.ref bs] s) (F0 m 681 ls []) := by
  have hx := C.1
  have hb := C.2.1
  have hown := C.2.2.2.1
  have hts := C.2.2.2.2
  refine lv_aload_n hx hb dL_law_681 rfl (lv_at hl 0 rfl) ?_
  refine lv_bipush (v := 116) hx hb dL_law_682 (by decide) ?_
  refine lv_bipush (v := 8) hx hb dL_law_684 (by decide) ?_
  refine znewI (N := 8) C hw (by decide +kernel) (by decide) (by decide) (Nat.le_of_ble_eq_true rfl) (Nat.le_of_ble_eq_true rfl) (Nat.le_of_ble_eq_true rfl) dL_law_686 (fun q686 H kq686 hw => ?_)
  have hA : zAr S (znR S q686 22 8 (fun _ => 0)) q686 8 [] := zAr.new kq686
  generalize (znR S q686 22 8 (fun _ => 0)) = Sa686 at hw hA
  refine lv_dup hx hb dL_law_688 rfl ?_
  refine lv_iconst (v := 0) hx hb dL_law_689 (by decide) ?_
  refine lv_iconst (v := 0) hx hb dL_law_690 (by decide) ?_
  refine zast_I (a := q686) C hw hA.2.1 hA.2.2.1 (zin_of (N := 8) (by decide) (by grind) (by grind)) dL_law_691 (fun H locs hw => ?_)
  have hA : zAr S (zsR Sa686 22 q686 (upd (zR Sa686 22 q686) (0 : Int32).toNatClampNeg 0)) q686 8 [0] := zAr.st (k := 0) hA kq686 (by decide) rfl
  generalize (zsR Sa686 22 q686 (upd (zR Sa686 22 q686) (0 : Int32).toNatClampNeg 0)) = Sa691 at hw hA
  refine lv_dup hx hb dL_law_692 rfl ?_
  refine lv_iconst (v := 1) hx hb dL_law_693 (by decide) ?_
  refine lv_iconst (v := 1) hx hb dL_law_694 (by decide) ?_
  refine zast_I (a := q686) C hw hA.2.1 hA.2.2.1 (zin_of (N := 8) (by decide) (by grind) (by grind)) dL_law_695 (fun H locs hw => ?_)
  have hA : zAr S (zsR Sa691 22 q686 (upd (zR Sa691 22 q686) (1 : Int32).toNatClampNeg 1)) q686 8 [0, 1] := zAr.st (k := 1) hA kq686 (by decide) rfl
  generalize (zsR Sa691 22 q686 (upd (zR Sa691 22 q686) (1 : Int32).toNatClampNeg 1)) = Sa695 at hw hA
  refine lv_dup hx hb dL_law_696 rfl ?_
  refine lv_iconst (v := 2) hx hb dL_law_697 (by decide) ?_
  refine lv_iconst (v := 0) hx hb dL_law_698 (by decide) ?_
  refine zast_I (a := q686) C hw hA.2.1 hA.2.2.1 (zin_of (N := 8) (by decide) (by grind) (by grind)) dL_law_699 (fun H locs hw => ?_)
  have hA : zAr S (zsR Sa695 22 q686 (upd (zR Sa695 22 q686) (2 : Int32).toNatClampNeg 0)) q686 8 [0, 1, 0] := zAr.st (k := 2) hA kq686 (by decide) rfl
  generalize (zsR Sa695 22 q686 (upd (zR Sa695 22 q686) (2 : Int32).toNatClampNeg 0)) = Sa699 at hw hA
  refine lv_dup hx hb dL_law_700 rfl ?_
  refine lv_iconst (v := 3) hx hb dL_law_701 (by decide) ?_
  refine lv_iconst (v := 0) hx hb dL_law_702 (by decide) ?_
  refine zast_I (a := q686) C hw hA.2.1 hA.2.2.1 (zin_of (N := 8) (by decide) (by grind) (by grind)) dL_law_703 (fun H locs hw => ?_)
  have hA : zAr S (zsR Sa699 22 q686 (upd (zR Sa699 22 q686) (3 : Int32).toNatClampNeg 0)) q686 8 [0, 1, 0, 0] := zAr.st (k := 3) hA kq686 (by decide) rfl
  generalize (zsR Sa699 22 q686 (upd (zR Sa699 22 q686) (3 : Int32).toNatClampNeg 0)) = Sa703 at hw hA
  refine lv_dup hx hb dL_law_704 rfl ?_
  refine lv_iconst (v := 4) hx hb dL_law_705 (by decide) ?_
  refine lv_bipush (v := 16) hx hb dL_law_706 (by decide) ?_
  refine zast_I (a := q686) C hw hA.2.1 hA.2.2.1 (zin_of (N := 8) (by decide) (by grind) (by grind)) dL_law_708 (fun H locs hw => ?_)
  have hA : zAr S (zsR Sa703 22 q686 (upd (zR Sa703 22 q686) (4 : Int32).toNatClampNeg 16)) q686 8 [0, 1, 0, 0, 16] := zAr.st (k := 4) hA kq686 (by decide) rfl
  generalize (zsR Sa703 22 q686 (upd (zR Sa703 22 q686) (4 : Int32).toNatClampNeg 16)) = Sa708 at hw hA
  refine lv_dup hx hb dL_law_709 rfl ?_
  refine lv_iconst (v := 5) hx hb dL_law_710 (by decide) ?_
  refine lv_iconst (v := 0) hx hb dL_law_711 (by decide) ?_
  refine zast_I (a := q686) C hw hA.2.1 hA.2.2.1 (zin_of (N := 8) (by decide) (by grind) (by grind)) dL_law_712 (fun H locs hw => ?_)
  have hA : zAr S (zsR Sa708 22 q686 (upd (zR Sa708 22 q686) (5 : Int32).toNatClampNeg 0)) q686 8 [0, 1, 0, 0, 16, 0] := zAr.st (k := 5) hA kq686 (by decide) rfl
  generalize (zsR Sa708 22 q686 (upd (zR Sa708 22 q686) (5 : Int32).toNatClampNeg 0)) = Sa712 at hw hA
  refine lv_dup hx hb dL_law_713 rfl ?_
  refine lv_bipush (v := 6) hx hb dL_law_714 (by decide) ?_
  refine lv_iconst (v := 0) hx hb dL_law_716 (by decide) ?_
  refine zast_I (a := q686) C hw hA.2.1 hA.2.2.1 (zin_of (N := 8) (by decide) (by grind) (by grind)) dL_law_717 (fun H locs hw => ?_)
  have hA : zAr S (zsR Sa712 22 q686 (upd (zR Sa712 22 q686) (6 : Int32).toNatClampNeg 0)) q686 8 [0, 1, 0, 0, 16, 0, 0] := zAr.st (k := 6) hA kq686 (by decide) rfl
  generalize (zsR Sa712 22 q686 (upd (zR Sa712 22 q686) (6 : Int32).toNatClampNeg 0)) = Sa717 at hw hA
  refine lv_dup hx hb dL_law_718 rfl ?_
  refine lv_bipush (v := 7) hx hb dL_law_719 (by decide) ?_
  refine lv_iconst (v := 1) hx hb dL_law_721 (by decide) ?_
  refine zast_I (a := q686) C hw hA.2.1 hA.2.2.1 (zin_of (N := 8) (by decide) (by grind) (by grind)) dL_law_722 (fun H locs hw => ?_)
  have hA : zAr S (zsR Sa717 22 q686 (upd (zR Sa717 22 q686) (7 : Int32).toNatClampNeg 1)) q686 8 [0, 1, 0, 0, 16, 0, 0, 1] := zAr.st (k := 7) hA kq686 (by decide) rfl
  generalize (zsR Sa717 22 q686 (upd (zR Sa717 22 q686) (7 : Int32).toNatClampNeg 1)) = Sa722 at hw hA
  obtain ⟨hG, hK9, hN9, hA⟩ := hA
  have hj0 : zR Sa722 22 q686 0 = 0 := (hA 0 0 rfl).trans rfl
  have hj1 : zR Sa722 22 q686 1 = 1 := (hA 1 1 rfl).trans rfl
  have hj2 : zR Sa722 22 q686 2 = 0 := (hA 2 0 rfl).trans rfl
  have hj3 : zR Sa722 22 q686 3 = 0 := (hA 3 0 rfl).trans rfl
  have hj4 : zR Sa722 22 q686 4 = 16 := (hA 4 16 rfl).trans rfl
  have hj5 : zR Sa722 22 q686 5 = 0 := (hA 5 0 rfl).trans rfl
  have hj6 : zR Sa722 22 q686 6 = 0 := (hA 6 0 rfl).trans rfl
  have hj7 : zR Sa722 22 q686 7 = 1 := (hA 7 1 rfl).trans rfl
  have hNw := zNew.gw hG hNw
  refine zcSW_i (As := [.ref (a 0), .int 116, .ref q686]) (rest := []) (n9 := 3) C hw (c_L_ask_t_twoWires_r l hst D y base Sa722 a 0 1 0 0 16 0 0 1 q686 hNw.1 hNw.2.1 (by decide +kernel) (by decide +kernel) hK9 hN9 hj0 hj1 hj2 hj3 hj4 hj5 hj6 hj7) gL_law_L_ask rfl (by decide +kernel) ⟨⟨rfl, rfl⟩, Nat.le_of_ble_eq_true rfl, Nat.le_of_ble_eq_true rfl⟩ rfl hl.1 rfl (Nat.le_of_ble_eq_true rfl) ⟨Nat.le_of_ble_eq_true rfl, Nat.le_of_ble_eq_true rfl⟩ dL_law_723 (fun r723 S723 H locs hp723 hw => ?_)
  have h9 : r723 = (-2000000002) ∧ S723 = Sa722 := by
    rcases hp723 with h | h
    · exact absurd h.1 (by decide +kernel)
    · exact h.2
  obtain ⟨rfl, hS9⟩ := h9
  have hS9 := hS9.symm
  subst hS9
  refine lv_ldc (own := RL) (v := (-2000000002)) hx hb hown (hts (.constant RL 71 (-2000000002)) (by decide +kernel)) dL_law_726 ?_
  refine lv_icmp_ne (tgt := 1945) hx hb dL_law_728 (by decide) (fun c728 => absurd c728 (by decide)) (fun _ => ?_)
  exact law_part_11 hst C hr hlocks hy31 hNw hDs hbase hw hl

set_option maxHeartbeats 4000000 in
set_option maxRecDepth 100000 in
theorem law_part_9 {p : Program} {l : Launch} {e : Env} {s : State} {m : MethodId} {below : List Frame} {meth : Method} {c : Code} {H : Heap} {locs : List Loc} {ls : Array Slot} {D : va_G} {y : Nat → ClassId} {base : Nat} {S : zS} {a : Nat → Nat} {bs : Nat} (hst : l.stackTraces = false) (C : CallFix p m c code 2 s #[Value.ref bs] wsL_law RL) (hr : meth.sig.returnType = ret) (hlocks : meth.locks = false) (hy31 : y 99 < 2 ^ 31) (hNw : zNew S a) (hDs : zDs a) (hbase : base = s.heap.size) (hw : zW D y base S s H locs) (hl : lv_has ls 2 [(1, .ref (a 0)), (0, .ref (y 98))]) : W p l e room_1 s m #[Value.ref bs] below meth c H locs 127 6160 (lw_Z below #[Value.ref bs] s) (F0 m 630 ls []) := by
  have hx := C.1
  have hb := C.2.1
  have hown := C.2.2.2.1
  have hts := C.2.2.2.2
  refine lv_aload_n hx hb dL_law_630 rfl (lv_at hl 0 rfl) ?_
  refine lv_bipush (v := 116) hx hb dL_law_631 (by decide) ?_
  refine lv_bipush (v := 8) hx hb dL_law_633 (by decide) ?_
  refine znewI (N := 8) C hw (by decide +kernel) (by decide) (by decide) (Nat.le_of_ble_eq_true rfl) (Nat.le_of_ble_eq_true rfl) (Nat.le_of_ble_eq_true rfl) dL_law_635 (fun q635 H kq635 hw => ?_)
  have hA : zAr S (znR S q635 22 8 (fun _ => 0)) q635 8 [] := zAr.new kq635
  generalize (znR S q635 22 8 (fun _ => 0)) = Sa635 at hw hA
  refine lv_dup hx hb dL_law_637 rfl ?_
  refine lv_iconst (v := 0) hx hb dL_law_638 (by decide) ?_
  refine lv_iconst (v := 0) hx hb dL_law_639 (by decide) ?_
  refine zast_I (a := q635) C hw hA.2.1 hA.2.2.1 (zin_of (N := 8) (by decide) (by grind) (by grind)) dL_law_640 (fun H locs hw => ?_)
  have hA : zAr S (zsR Sa635 22 q635 (upd (zR Sa635 22 q635) (0 : Int32).toNatClampNeg 0)) q635 8 [0] := zAr.st (k := 0) hA kq635 (by decide) rfl
  generalize (zsR Sa635 22 q635 (upd (zR Sa635 22 q635) (0 : Int32).toNatClampNeg 0)) = Sa640 at hw hA
  refine lv_dup hx hb dL_law_641 rfl ?_
  refine lv_iconst (v := 1) hx hb dL_law_642 (by decide) ?_
  refine lv_iconst (v := 1) hx hb dL_law_643 (by decide) ?_
  refine zast_I (a := q635) C hw hA.2.1 hA.2.2.1 (zin_of (N := 8) (by decide) (by grind) (by grind)) dL_law_644 (fun H locs hw => ?_)
  have hA : zAr S (zsR Sa640 22 q635 (upd (zR Sa640 22 q635) (1 : Int32).toNatClampNeg 1)) q635 8 [0, 1] := zAr.st (k := 1) hA kq635 (by decide) rfl
  generalize (zsR Sa640 22 q635 (upd (zR Sa640 22 q635) (1 : Int32).toNatClampNeg 1)) = Sa644 at hw hA
  refine lv_dup hx hb dL_law_645 rfl ?_
  refine lv_iconst (v := 2) hx hb dL_law_646 (by decide) ?_
  refine lv_sipush (v := 128) hx hb dL_law_647 (by decide) ?_
  refine zast_I (a := q635) C hw hA.2.1 hA.2.2.1 (zin_of (N := 8) (by decide) (by grind) (by grind)) dL_law_650 (fun H locs hw => ?_)
  have hA : zAr S (zsR Sa644 22 q635 (upd (zR Sa644 22 q635) (2 : Int32).toNatClampNeg 128)) q635 8 [0, 1, 128] := zAr.st (k := 2) hA kq635 (by decide) rfl
  generalize (zsR Sa644 22 q635 (upd (zR Sa644 22 q635) (2 : Int32).toNatClampNeg 128)) = Sa650 at hw hA
  refine lv_dup hx hb dL_law_651 rfl ?_
  refine lv_iconst (v := 3) hx hb dL_law_652 (by decide) ?_
  refine lv_iconst (v := 0) hx hb dL_law_653 (by decide) ?_
  refine zast_I (a := q635) C hw hA.2.1 hA.2.2.1 (zin_of (N := 8) (by decide) (by grind) (by grind)) dL_law_654 (fun H locs hw => ?_)
  have hA : zAr S (zsR Sa650 22 q635 (upd (zR Sa650 22 q635) (3 : Int32).toNatClampNeg 0)) q635 8 [0, 1, 128, 0] := zAr.st (k := 3) hA kq635 (by decide) rfl
  generalize (zsR Sa650 22 q635 (upd (zR Sa650 22 q635) (3 : Int32).toNatClampNeg 0)) = Sa654 at hw hA
  refine lv_dup hx hb dL_law_655 rfl ?_
  refine lv_iconst (v := 4) hx hb dL_law_656 (by decide) ?_
  refine lv_iconst (v := 0) hx hb dL_law_657 (by decide) ?_
  refine zast_I (a := q635) C hw hA.2.1 hA.2.2.1 (zin_of (N := 8) (by decide) (by grind) (by grind)) dL_law_658 (fun H locs hw => ?_)
  have hA : zAr S (zsR Sa654 22 q635 (upd (zR Sa654 22 q635) (4 : Int32).toNatClampNeg 0)) q635 8 [0, 1, 128, 0, 0] := zAr.st (k := 4) hA kq635 (by decide) rfl
  generalize (zsR Sa654 22 q635 (upd (zR Sa654 22 q635) (4 : Int32).toNatClampNeg 0)) = Sa658 at hw hA
  refine lv_dup hx hb dL_law_659 rfl ?_
  refine lv_iconst (v := 5) hx hb dL_law_660 (by decide) ?_
  refine lv_iconst (v := 0) hx hb dL_law_661 (by decide) ?_
  refine zast_I (a := q635) C hw hA.2.1 hA.2.2.1 (zin_of (N := 8) (by decide) (by grind) (by grind)) dL_law_662 (fun H locs hw => ?_)
  have hA : zAr S (zsR Sa658 22 q635 (upd (zR Sa658 22 q635) (5 : Int32).toNatClampNeg 0)) q635 8 [0, 1, 128, 0, 0, 0] := zAr.st (k := 5) hA kq635 (by decide) rfl
  generalize (zsR Sa658 22 q635 (upd (zR Sa658 22 q635) (5 : Int32).toNatClampNeg 0)) = Sa662 at hw hA
  refine lv_dup hx hb dL_law_663 rfl ?_
  refine lv_bipush (v := 6) hx hb dL_law_664 (by decide) ?_
  refine lv_iconst (v := 0) hx hb dL_law_666 (by decide) ?_
  refine zast_I (a := q635) C hw hA.2.1 hA.2.2.1 (zin_of (N := 8) (by decide) (by grind) (by grind)) dL_law_667 (fun H locs hw => ?_)
  have hA : zAr S (zsR Sa662 22 q635 (upd (zR Sa662 22 q635) (6 : Int32).toNatClampNeg 0)) q635 8 [0, 1, 128, 0, 0, 0, 0] := zAr.st (k := 6) hA kq635 (by decide) rfl
  generalize (zsR Sa662 22 q635 (upd (zR Sa662 22 q635) (6 : Int32).toNatClampNeg 0)) = Sa667 at hw hA
  refine lv_dup hx hb dL_law_668 rfl ?_
  refine lv_bipush (v := 7) hx hb dL_law_669 (by decide) ?_
  refine lv_iconst (v := 1) hx hb dL_law_671 (by decide) ?_
  refine zast_I (a := q635) C hw hA.2.1 hA.2.2.1 (zin_of (N := 8) (by decide) (by grind) (by grind)) dL_law_672 (fun H locs hw => ?_)
  have hA : zAr S (zsR Sa667 22 q635 (upd (zR Sa667 22 q635) (7 : Int32).toNatClampNeg 1)) q635 8 [0, 1, 128, 0, 0, 0, 0, 1] := zAr.st (k := 7) hA kq635 (by decide) rfl
  generalize (zsR Sa667 22 q635 (upd (zR Sa667 22 q635) (7 : Int32).toNatClampNeg 1)) = Sa672 at hw hA
  obtain ⟨hG, hK9, hN9, hA⟩ := hA
  have hj0 : zR Sa672 22 q635 0 = 0 := (hA 0 0 rfl).trans rfl
  have hj1 : zR Sa672 22 q635 1 = 1 := (hA 1 1 rfl).trans rfl
  have hj2 : zR Sa672 22 q635 2 = 128 := (hA 2 128 rfl).trans rfl
  have hj3 : zR Sa672 22 q635 3 = 0 := (hA 3 0 rfl).trans rfl
  have hj4 : zR Sa672 22 q635 4 = 0 := (hA 4 0 rfl).trans rfl
  have hj5 : zR Sa672 22 q635 5 = 0 := (hA 5 0 rfl).trans rfl
  have hj6 : zR Sa672 22 q635 6 = 0 := (hA 6 0 rfl).trans rfl
  have hj7 : zR Sa672 22 q635 7 = 1 := (hA 7 1 rfl).trans rfl
  have hNw := zNew.gw hG hNw
  refine zcSW_i (As := [.ref (a 0), .int 116, .ref q635]) (rest := []) (n9 := 3) C hw (c_L_ask_t_twoWires_r l hst D y base Sa672 a 0 1 128 0 0 0 0 1 q635 hNw.1 hNw.2.1 (by decide +kernel) (by decide +kernel) hK9 hN9 hj0 hj1 hj2 hj3 hj4 hj5 hj6 hj7) gL_law_L_ask rfl (by decide +kernel) ⟨⟨rfl, rfl⟩, Nat.le_of_ble_eq_true rfl, Nat.le_of_ble_eq_true rfl⟩ rfl hl.1 rfl (Nat.le_of_ble_eq_true rfl) ⟨Nat.le_of_ble_eq_true rfl, Nat.le_of_ble_eq_true rfl⟩ dL_law_673 (fun r673 S673 H locs hp673 hw => ?_)
  have h9 : r673 = (-2000000002) ∧ S673 = Sa672 := by
    rcases hp673 with h | h
    · exact absurd h.1 (by decide +kernel)
    · exact h.2
  obtain ⟨rfl, hS9⟩ := h9
  have hS9 := hS9.symm
  subst hS9
  refine lv_ldc (own := RL) (v := (-2000000002)) hx hb hown (hts (.constant RL 71 (-2000000002)) (by decide +kernel)) dL_law_676 ?_
  refine lv_icmp_ne (tgt := 1945) hx hb dL_law_678 (by decide) (fun c678 => absurd c678 (by decide)) (fun _ => ?_)
  exact law_part_10 hst C hr hlocks hy31 hNw hDs hbase hw hl

set_option maxHeartbeats 4000000 in
set_option maxRecDepth 100000 in
theorem law_part_8 {p : Program} {l : Launch} {e : Env} {s : State} {m : MethodId} {below : List Frame} {meth : Method} {c : Code} {H : Heap} {locs : List Loc} {ls : Array Slot} {D : va_G} {y : Nat → ClassId} {base : Nat} {S : zS} {a : Nat → Nat} {bs : Nat} (hst : l.stackTraces = false) (C : CallFix p m c code 2 s #[Value.ref bs] wsL_law RL) (hr : meth.sig.returnType = ret) (hlocks : meth.locks = false) (hy31 : y 99 < 2 ^ 31) (hNw : zNew S a) (hDs : zDs a) (hbase : base = s.heap.size) (hw : zW D y base S s H locs) (hl : lv_has ls 2 [(1, .ref (a 0)), (0, .ref (y 98))]) : W p l e room_1 s m #[Value.ref bs] below meth c H locs 118 6104 (lw_Z below #[Value.ref bs] s) (F0 m 581 ls []) := by
  have hx := C.1
  have hb := C.2.1
  have hown := C.2.2.2.1
  have hts := C.2.2.2.2
  refine lv_aload_n hx hb dL_law_581 rfl (lv_at hl 0 rfl) ?_
  refine lv_bipush (v := 116) hx hb dL_law_582 (by decide) ?_
  refine lv_bipush (v := 8) hx hb dL_law_584 (by decide) ?_
  refine znewI (N := 8) C hw (by decide +kernel) (by decide) (by decide) (Nat.le_of_ble_eq_true rfl) (Nat.le_of_ble_eq_true rfl) (Nat.le_of_ble_eq_true rfl) dL_law_586 (fun q586 H kq586 hw => ?_)
  have hA : zAr S (znR S q586 22 8 (fun _ => 0)) q586 8 [] := zAr.new kq586
  generalize (znR S q586 22 8 (fun _ => 0)) = Sa586 at hw hA
  refine lv_dup hx hb dL_law_588 rfl ?_
  refine lv_iconst (v := 0) hx hb dL_law_589 (by decide) ?_
  refine lv_iconst (v := 0) hx hb dL_law_590 (by decide) ?_
  refine zast_I (a := q586) C hw hA.2.1 hA.2.2.1 (zin_of (N := 8) (by decide) (by grind) (by grind)) dL_law_591 (fun H locs hw => ?_)
  have hA : zAr S (zsR Sa586 22 q586 (upd (zR Sa586 22 q586) (0 : Int32).toNatClampNeg 0)) q586 8 [0] := zAr.st (k := 0) hA kq586 (by decide) rfl
  generalize (zsR Sa586 22 q586 (upd (zR Sa586 22 q586) (0 : Int32).toNatClampNeg 0)) = Sa591 at hw hA
  refine lv_dup hx hb dL_law_592 rfl ?_
  refine lv_iconst (v := 1) hx hb dL_law_593 (by decide) ?_
  refine lv_iconst (v := 0) hx hb dL_law_594 (by decide) ?_
  refine zast_I (a := q586) C hw hA.2.1 hA.2.2.1 (zin_of (N := 8) (by decide) (by grind) (by grind)) dL_law_595 (fun H locs hw => ?_)
  have hA : zAr S (zsR Sa591 22 q586 (upd (zR Sa591 22 q586) (1 : Int32).toNatClampNeg 0)) q586 8 [0, 0] := zAr.st (k := 1) hA kq586 (by decide) rfl
  generalize (zsR Sa591 22 q586 (upd (zR Sa591 22 q586) (1 : Int32).toNatClampNeg 0)) = Sa595 at hw hA
  refine lv_dup hx hb dL_law_596 rfl ?_
  refine lv_iconst (v := 2) hx hb dL_law_597 (by decide) ?_
  refine lv_iconst (v := 0) hx hb dL_law_598 (by decide) ?_
  refine zast_I (a := q586) C hw hA.2.1 hA.2.2.1 (zin_of (N := 8) (by decide) (by grind) (by grind)) dL_law_599 (fun H locs hw => ?_)
  have hA : zAr S (zsR Sa595 22 q586 (upd (zR Sa595 22 q586) (2 : Int32).toNatClampNeg 0)) q586 8 [0, 0, 0] := zAr.st (k := 2) hA kq586 (by decide) rfl
  generalize (zsR Sa595 22 q586 (upd (zR Sa595 22 q586) (2 : Int32).toNatClampNeg 0)) = Sa599 at hw hA
  refine lv_dup hx hb dL_law_600 rfl ?_
  refine lv_iconst (v := 3) hx hb dL_law_601 (by decide) ?_
  refine lv_iconst (v := 0) hx hb dL_law_602 (by decide) ?_
  refine zast_I (a := q586) C hw hA.2.1 hA.2.2.1 (zin_of (N := 8) (by decide) (by grind) (by grind)) dL_law_603 (fun H locs hw => ?_)
  have hA : zAr S (zsR Sa599 22 q586 (upd (zR Sa599 22 q586) (3 : Int32).toNatClampNeg 0)) q586 8 [0, 0, 0, 0] := zAr.st (k := 3) hA kq586 (by decide) rfl
  generalize (zsR Sa599 22 q586 (upd (zR Sa599 22 q586) (3 : Int32).toNatClampNeg 0)) = Sa603 at hw hA
  refine lv_dup hx hb dL_law_604 rfl ?_
  refine lv_iconst (v := 4) hx hb dL_law_605 (by decide) ?_
  refine lv_iconst (v := 0) hx hb dL_law_606 (by decide) ?_
  refine zast_I (a := q586) C hw hA.2.1 hA.2.2.1 (zin_of (N := 8) (by decide) (by grind) (by grind)) dL_law_607 (fun H locs hw => ?_)
  have hA : zAr S (zsR Sa603 22 q586 (upd (zR Sa603 22 q586) (4 : Int32).toNatClampNeg 0)) q586 8 [0, 0, 0, 0, 0] := zAr.st (k := 4) hA kq586 (by decide) rfl
  generalize (zsR Sa603 22 q586 (upd (zR Sa603 22 q586) (4 : Int32).toNatClampNeg 0)) = Sa607 at hw hA
  refine lv_dup hx hb dL_law_608 rfl ?_
  refine lv_iconst (v := 5) hx hb dL_law_609 (by decide) ?_
  refine lv_iconst (v := 0) hx hb dL_law_610 (by decide) ?_
  refine zast_I (a := q586) C hw hA.2.1 hA.2.2.1 (zin_of (N := 8) (by decide) (by grind) (by grind)) dL_law_611 (fun H locs hw => ?_)
  have hA : zAr S (zsR Sa607 22 q586 (upd (zR Sa607 22 q586) (5 : Int32).toNatClampNeg 0)) q586 8 [0, 0, 0, 0, 0, 0] := zAr.st (k := 5) hA kq586 (by decide) rfl
  generalize (zsR Sa607 22 q586 (upd (zR Sa607 22 q586) (5 : Int32).toNatClampNeg 0)) = Sa611 at hw hA
  refine lv_dup hx hb dL_law_612 rfl ?_
  refine lv_bipush (v := 6) hx hb dL_law_613 (by decide) ?_
  refine lv_iconst (v := 0) hx hb dL_law_615 (by decide) ?_
  refine zast_I (a := q586) C hw hA.2.1 hA.2.2.1 (zin_of (N := 8) (by decide) (by grind) (by grind)) dL_law_616 (fun H locs hw => ?_)
  have hA : zAr S (zsR Sa611 22 q586 (upd (zR Sa611 22 q586) (6 : Int32).toNatClampNeg 0)) q586 8 [0, 0, 0, 0, 0, 0, 0] := zAr.st (k := 6) hA kq586 (by decide) rfl
  generalize (zsR Sa611 22 q586 (upd (zR Sa611 22 q586) (6 : Int32).toNatClampNeg 0)) = Sa616 at hw hA
  refine lv_dup hx hb dL_law_617 rfl ?_
  refine lv_bipush (v := 7) hx hb dL_law_618 (by decide) ?_
  refine lv_iconst (v := 1) hx hb dL_law_620 (by decide) ?_
  refine zast_I (a := q586) C hw hA.2.1 hA.2.2.1 (zin_of (N := 8) (by decide) (by grind) (by grind)) dL_law_621 (fun H locs hw => ?_)
  have hA : zAr S (zsR Sa616 22 q586 (upd (zR Sa616 22 q586) (7 : Int32).toNatClampNeg 1)) q586 8 [0, 0, 0, 0, 0, 0, 0, 1] := zAr.st (k := 7) hA kq586 (by decide) rfl
  generalize (zsR Sa616 22 q586 (upd (zR Sa616 22 q586) (7 : Int32).toNatClampNeg 1)) = Sa621 at hw hA
  obtain ⟨hG, hK9, hN9, hA⟩ := hA
  have hj0 : zR Sa621 22 q586 0 = 0 := (hA 0 0 rfl).trans rfl
  have hj1 : zR Sa621 22 q586 1 = 0 := (hA 1 0 rfl).trans rfl
  have hj2 : zR Sa621 22 q586 2 = 0 := (hA 2 0 rfl).trans rfl
  have hj3 : zR Sa621 22 q586 3 = 0 := (hA 3 0 rfl).trans rfl
  have hj4 : zR Sa621 22 q586 4 = 0 := (hA 4 0 rfl).trans rfl
  have hj5 : zR Sa621 22 q586 5 = 0 := (hA 5 0 rfl).trans rfl
  have hj6 : zR Sa621 22 q586 6 = 0 := (hA 6 0 rfl).trans rfl
  have hj7 : zR Sa621 22 q586 7 = 1 := (hA 7 1 rfl).trans rfl
  have hNw := zNew.gw hG hNw
  refine zcSW_i (As := [.ref (a 0), .int 116, .ref q586]) (rest := []) (n9 := 3) C hw (c_L_ask_t_twoWires_r l hst D y base Sa621 a 0 0 0 0 0 0 0 1 q586 hNw.1 hNw.2.1 (by decide +kernel) (by decide +kernel) hK9 hN9 hj0 hj1 hj2 hj3 hj4 hj5 hj6 hj7) gL_law_L_ask rfl (by decide +kernel) ⟨⟨rfl, rfl⟩, Nat.le_of_ble_eq_true rfl, Nat.le_of_ble_eq_true rfl⟩ rfl hl.1 rfl (Nat.le_of_ble_eq_true rfl) ⟨Nat.le_of_ble_eq_true rfl, Nat.le_of_ble_eq_true rfl⟩ dL_law_622 (fun r622 S622 H locs hp622 hw => ?_)
  have h9 : r622 = (-2000000002) ∧ S622 = Sa621 := by
    rcases hp622 with h | h
    · exact absurd h.1 (by decide +kernel)
    · exact h.2
  obtain ⟨rfl, hS9⟩ := h9
  have hS9 := hS9.symm
  subst hS9
  refine lv_ldc (own := RL) (v := (-2000000002)) hx hb hown (hts (.constant RL 71 (-2000000002)) (by decide +kernel)) dL_law_625 ?_
  refine lv_icmp_ne (tgt := 1945) hx hb dL_law_627 (by decide) (fun c627 => absurd c627 (by decide)) (fun _ => ?_)
  exact law_part_9 hst C hr hlocks hy31 hNw hDs hbase hw hl

set_option maxHeartbeats 4000000 in
set_option maxRecDepth 100000 in
theorem law_part_7 {p : Program} {l : Launch} {e : Env} {s : State} {m : MethodId} {below : List Frame} {meth : Method} {c : Code} {H : Heap} {locs : List Loc} {ls : Array Slot} {D : va_G} {y : Nat → ClassId} {base : Nat} {S : zS} {a : Nat → Nat} {bs : Nat} (hst : l.stackTraces = false) (C : CallFix p m c code 2 s #[Value.ref bs] wsL_law RL) (hr : meth.sig.returnType = ret) (hlocks : meth.locks = false) (hy31 : y 99 < 2 ^ 31) (hNw : zNew S a) (hDs : zDs a) (hbase : base = s.heap.size) (hw : zW D y base S s H locs) (hl : lv_has ls 2 [(1, .ref (a 0)), (0, .ref (y 98))]) : W p l e room_1 s m #[Value.ref bs] below meth c H locs 109 6048 (lw_Z below #[Value.ref bs] s) (F0 m 532 ls []) := by
  have hx := C.1
  have hb := C.2.1
  have hown := C.2.2.2.1
  have hts := C.2.2.2.2
  refine lv_aload_n hx hb dL_law_532 rfl (lv_at hl 0 rfl) ?_
  refine lv_bipush (v := 116) hx hb dL_law_533 (by decide) ?_
  refine lv_bipush (v := 8) hx hb dL_law_535 (by decide) ?_
  refine znewI (N := 8) C hw (by decide +kernel) (by decide) (by decide) (Nat.le_of_ble_eq_true rfl) (Nat.le_of_ble_eq_true rfl) (Nat.le_of_ble_eq_true rfl) dL_law_537 (fun q537 H kq537 hw => ?_)
  have hA : zAr S (znR S q537 22 8 (fun _ => 0)) q537 8 [] := zAr.new kq537
  generalize (znR S q537 22 8 (fun _ => 0)) = Sa537 at hw hA
  refine lv_dup hx hb dL_law_539 rfl ?_
  refine lv_iconst (v := 0) hx hb dL_law_540 (by decide) ?_
  refine lv_iconst (v := 0) hx hb dL_law_541 (by decide) ?_
  refine zast_I (a := q537) C hw hA.2.1 hA.2.2.1 (zin_of (N := 8) (by decide) (by grind) (by grind)) dL_law_542 (fun H locs hw => ?_)
  have hA : zAr S (zsR Sa537 22 q537 (upd (zR Sa537 22 q537) (0 : Int32).toNatClampNeg 0)) q537 8 [0] := zAr.st (k := 0) hA kq537 (by decide) rfl
  generalize (zsR Sa537 22 q537 (upd (zR Sa537 22 q537) (0 : Int32).toNatClampNeg 0)) = Sa542 at hw hA
  refine lv_dup hx hb dL_law_543 rfl ?_
  refine lv_iconst (v := 1) hx hb dL_law_544 (by decide) ?_
  refine lv_iconst (v := 4) hx hb dL_law_545 (by decide) ?_
  refine zast_I (a := q537) C hw hA.2.1 hA.2.2.1 (zin_of (N := 8) (by decide) (by grind) (by grind)) dL_law_546 (fun H locs hw => ?_)
  have hA : zAr S (zsR Sa542 22 q537 (upd (zR Sa542 22 q537) (1 : Int32).toNatClampNeg 4)) q537 8 [0, 4] := zAr.st (k := 1) hA kq537 (by decide) rfl
  generalize (zsR Sa542 22 q537 (upd (zR Sa542 22 q537) (1 : Int32).toNatClampNeg 4)) = Sa546 at hw hA
  refine lv_dup hx hb dL_law_547 rfl ?_
  refine lv_iconst (v := 2) hx hb dL_law_548 (by decide) ?_
  refine lv_iconst (v := 0) hx hb dL_law_549 (by decide) ?_
  refine zast_I (a := q537) C hw hA.2.1 hA.2.2.1 (zin_of (N := 8) (by decide) (by grind) (by grind)) dL_law_550 (fun H locs hw => ?_)
  have hA : zAr S (zsR Sa546 22 q537 (upd (zR Sa546 22 q537) (2 : Int32).toNatClampNeg 0)) q537 8 [0, 4, 0] := zAr.st (k := 2) hA kq537 (by decide) rfl
  generalize (zsR Sa546 22 q537 (upd (zR Sa546 22 q537) (2 : Int32).toNatClampNeg 0)) = Sa550 at hw hA
  refine lv_dup hx hb dL_law_551 rfl ?_
  refine lv_iconst (v := 3) hx hb dL_law_552 (by decide) ?_
  refine lv_iconst (v := 0) hx hb dL_law_553 (by decide) ?_
  refine zast_I (a := q537) C hw hA.2.1 hA.2.2.1 (zin_of (N := 8) (by decide) (by grind) (by grind)) dL_law_554 (fun H locs hw => ?_)
  have hA : zAr S (zsR Sa550 22 q537 (upd (zR Sa550 22 q537) (3 : Int32).toNatClampNeg 0)) q537 8 [0, 4, 0, 0] := zAr.st (k := 3) hA kq537 (by decide) rfl
  generalize (zsR Sa550 22 q537 (upd (zR Sa550 22 q537) (3 : Int32).toNatClampNeg 0)) = Sa554 at hw hA
  refine lv_dup hx hb dL_law_555 rfl ?_
  refine lv_iconst (v := 4) hx hb dL_law_556 (by decide) ?_
  refine lv_iconst (v := 0) hx hb dL_law_557 (by decide) ?_
  refine zast_I (a := q537) C hw hA.2.1 hA.2.2.1 (zin_of (N := 8) (by decide) (by grind) (by grind)) dL_law_558 (fun H locs hw => ?_)
  have hA : zAr S (zsR Sa554 22 q537 (upd (zR Sa554 22 q537) (4 : Int32).toNatClampNeg 0)) q537 8 [0, 4, 0, 0, 0] := zAr.st (k := 4) hA kq537 (by decide) rfl
  generalize (zsR Sa554 22 q537 (upd (zR Sa554 22 q537) (4 : Int32).toNatClampNeg 0)) = Sa558 at hw hA
  refine lv_dup hx hb dL_law_559 rfl ?_
  refine lv_iconst (v := 5) hx hb dL_law_560 (by decide) ?_
  refine lv_iconst (v := 0) hx hb dL_law_561 (by decide) ?_
  refine zast_I (a := q537) C hw hA.2.1 hA.2.2.1 (zin_of (N := 8) (by decide) (by grind) (by grind)) dL_law_562 (fun H locs hw => ?_)
  have hA : zAr S (zsR Sa558 22 q537 (upd (zR Sa558 22 q537) (5 : Int32).toNatClampNeg 0)) q537 8 [0, 4, 0, 0, 0, 0] := zAr.st (k := 5) hA kq537 (by decide) rfl
  generalize (zsR Sa558 22 q537 (upd (zR Sa558 22 q537) (5 : Int32).toNatClampNeg 0)) = Sa562 at hw hA
  refine lv_dup hx hb dL_law_563 rfl ?_
  refine lv_bipush (v := 6) hx hb dL_law_564 (by decide) ?_
  refine lv_iconst (v := 0) hx hb dL_law_566 (by decide) ?_
  refine zast_I (a := q537) C hw hA.2.1 hA.2.2.1 (zin_of (N := 8) (by decide) (by grind) (by grind)) dL_law_567 (fun H locs hw => ?_)
  have hA : zAr S (zsR Sa562 22 q537 (upd (zR Sa562 22 q537) (6 : Int32).toNatClampNeg 0)) q537 8 [0, 4, 0, 0, 0, 0, 0] := zAr.st (k := 6) hA kq537 (by decide) rfl
  generalize (zsR Sa562 22 q537 (upd (zR Sa562 22 q537) (6 : Int32).toNatClampNeg 0)) = Sa567 at hw hA
  refine lv_dup hx hb dL_law_568 rfl ?_
  refine lv_bipush (v := 7) hx hb dL_law_569 (by decide) ?_
  refine lv_iconst (v := 1) hx hb dL_law_571 (by decide) ?_
  refine zast_I (a := q537) C hw hA.2.1 hA.2.2.1 (zin_of (N := 8) (by decide) (by grind) (by grind)) dL_law_572 (fun H locs hw => ?_)
  have hA : zAr S (zsR Sa567 22 q537 (upd (zR Sa567 22 q537) (7 : Int32).toNatClampNeg 1)) q537 8 [0, 4, 0, 0, 0, 0, 0, 1] := zAr.st (k := 7) hA kq537 (by decide) rfl
  generalize (zsR Sa567 22 q537 (upd (zR Sa567 22 q537) (7 : Int32).toNatClampNeg 1)) = Sa572 at hw hA
  obtain ⟨hG, hK9, hN9, hA⟩ := hA
  have hj0 : zR Sa572 22 q537 0 = 0 := (hA 0 0 rfl).trans rfl
  have hj1 : zR Sa572 22 q537 1 = 4 := (hA 1 4 rfl).trans rfl
  have hj2 : zR Sa572 22 q537 2 = 0 := (hA 2 0 rfl).trans rfl
  have hj3 : zR Sa572 22 q537 3 = 0 := (hA 3 0 rfl).trans rfl
  have hj4 : zR Sa572 22 q537 4 = 0 := (hA 4 0 rfl).trans rfl
  have hj5 : zR Sa572 22 q537 5 = 0 := (hA 5 0 rfl).trans rfl
  have hj6 : zR Sa572 22 q537 6 = 0 := (hA 6 0 rfl).trans rfl
  have hj7 : zR Sa572 22 q537 7 = 1 := (hA 7 1 rfl).trans rfl
  have hNw := zNew.gw hG hNw
  refine zcSW_i (As := [.ref (a 0), .int 116, .ref q537]) (rest := []) (n9 := 3) C hw (c_L_ask_t_twoWires_r l hst D y base Sa572 a 0 4 0 0 0 0 0 1 q537 hNw.1 hNw.2.1 (by decide +kernel) (by decide +kernel) hK9 hN9 hj0 hj1 hj2 hj3 hj4 hj5 hj6 hj7) gL_law_L_ask rfl (by decide +kernel) ⟨⟨rfl, rfl⟩, Nat.le_of_ble_eq_true rfl, Nat.le_of_ble_eq_true rfl⟩ rfl hl.1 rfl (Nat.le_of_ble_eq_true rfl) ⟨Nat.le_of_ble_eq_true rfl, Nat.le_of_ble_eq_true rfl⟩ dL_law_573 (fun r573 S573 H locs hp573 hw => ?_)
  have h9 : r573 = (-2000000001) ∧ S573 = Sa572 := by
    rcases hp573 with h | h
    · exact h.2
    · exact absurd h.1 (by decide +kernel)
  obtain ⟨rfl, hS9⟩ := h9
  have hS9 := hS9.symm
  subst hS9
  refine lv_ldc (own := RL) (v := (-2000000001)) hx hb hown (hts (.constant RL 68 (-2000000001)) (by decide +kernel)) dL_law_576 ?_
  refine lv_icmp_ne (tgt := 1945) hx hb dL_law_578 (by decide) (fun c578 => absurd c578 (by decide)) (fun _ => ?_)
  exact law_part_8 hst C hr hlocks hy31 hNw hDs hbase hw hl
