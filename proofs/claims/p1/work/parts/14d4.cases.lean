set_option maxHeartbeats 4000000 in
set_option maxRecDepth 100000 in
theorem law_case_32 {p : Program} {l : Launch} {e : Env} {s : State} {m : MethodId} {below : List Frame} {meth : Method} {c : Code} {H : Heap} {locs : List Loc} {ls : Array Slot} {D : va_G} {y : Nat → ClassId} {base : Nat} {S : zS} {a b : Nat → Nat} {o od bs : Nat} {xs : Nat → Int32} (hst : l.stackTraces = false) (C : CallFix p m c code 9 s #[Value.ref bs] wsL_law RL) (hend : zEnd p l e s m bs below meth c base)
    (hXs : va_X bs 9 xs s s.heap) (hbl : bs < s.heap.size) (hbs : base = s.heap.size) (hy : y 94 = 0) (hX : zX S a) (h0 : zX0 S a) (hM : zMd S b) (hM0 : zMd0 S b) (hF : zQ S 49 (b 4) = some (y 92) ∧ zQ S 49 (b 5) = some (y 92)) (hreg : ∀ i j, i < 128 → zR S 22 (b (100 + i)) j = 0) (hko : zK S o = 24) (hno : zN S o = 1)
    (hw : zW D y base S s H locs) (hl : lv_has ls 9 [(5, .int 0), (0, .ref bs), (1, .ref (a 0)), (2, .ref (b 0)), (3, .ref o), (4, .ref od)]) : W p l e room_1 s m #[Value.ref bs] below meth c H locs 1000 60000 (lw_Z below #[Value.ref bs] s) (F0 m 2561 ls []) := by
  have hx := C.1
  have hb := C.2.1
  have hown := C.2.2.2.1
  have hts := C.2.2.2.2
  refine lv_aload_n hx hb dL_law_2561 rfl (lv_at hl 2 rfl) ?_
  refine lv_aload_n hx hb dL_law_2562 rfl (lv_at hl 1 rfl) ?_
  refine lv_iload hx hb dL_law_2563 (lv_at hl 0 rfl) ?_
  refine lv_iconst (v := 1) hx hb dL_law_2565 (by decide) ?_
  refine lv_iadd hx hb dL_law_2566 ?_
  refine zrd (x := 1) (by decide) ?_
  refine zsld (v := xs 1) C hw hXs hbl hbs (zin_of (N := 9) (by decide) (by decide) (by decide)) rfl dL_law_2567 ?_
  refine lv_aload_n hx hb dL_law_2568 rfl (lv_at hl 4 rfl) ?_
  refine zcSW_i (As := [.ref (a 0), .int (xs 1), .ref o]) (rest := []) (n9 := 3) C hw (c_L_differs l hst D y base S a (xs 1) o hX (by first | assumption | exact zbo_01 _) hko (by first | assumption | exact zbo_01 _)) gL_law_L_differs rfl (by decide +kernel) ⟨⟨rfl, rfl⟩, Nat.le_of_ble_eq_true rfl, Nat.le_of_ble_eq_true rfl⟩ rfl hl.1 rfl (Nat.le_of_ble_eq_true rfl) ⟨Nat.le_of_ble_eq_true rfl, Nat.le_of_ble_eq_true rfl⟩ dL_law_2569 (fun r2569 S2569 H locs hp2569 hw => ?_)
  obtain ⟨hk9, hv9, hco⟩ := hp2569
  obtain ⟨hM9, hM09, hF9, hF95⟩ := hco.ref hM hM0 hF
  obtain ⟨hko9, hno9⟩ := hco.o hko hno
  obtain ⟨y, y92, y94, y95, y96, hw⟩ := zW_out hw hy hko9 hno9
  have hMd : zMd (zdl S2569 o) b := hM9.dl hko9
  have hM0d : zMd0 (zdl S2569 o) b := hM09
  have hFd : zQ (zdl S2569 o) 49 (b 4) = some (y 92) := by rw [y92]; exact hF9
  have hEd : zMdE (zdl S2569 o) b := ⟨⟨_, hF9⟩, _, hF95⟩
  refine lv_istore (lv' := [(6, .int r2569), (5, .int 0), (0, .ref bs), (1, .ref (a 0)), (2, .ref (b 0)), (3, .ref o), (4, .ref od)]) hx hb dL_law_2572 hl (by decide) rfl (fun ls hl => ?_)
  refine lv_aload_n hx hb dL_law_2574 rfl (lv_at hl 4 rfl) ?_
  refine lv_aload_n hx hb dL_law_2575 rfl (lv_at hl 2 rfl) ?_
  refine lv_iload hx hb dL_law_2576 (lv_at hl 1 rfl) ?_
  refine lv_iconst (v := 1) hx hb dL_law_2578 (by decide) ?_
  refine lv_iadd hx hb dL_law_2579 ?_
  refine zrd (x := 1) (by decide) ?_
  refine zsld (v := xs 1) C hw hXs hbl hbs (zin_of (N := 9) (by decide) (by decide) (by decide)) rfl dL_law_2580 ?_
  refine zcV_i (As := [.int (xs 1)]) (rest := []) (n9 := 1) (b := (b 0)) C hw (c_X11_differs l D y base (zdl S2569 o) b (xs 1) hMd (by first | assumption | exact zbo_01 _)) gL_law_X11_differs rfl (by decide +kernel) ⟨⟨rfl, rfl⟩, Nat.le_of_ble_eq_true rfl, Nat.le_of_ble_eq_true rfl⟩ hMd.1 ⟨by decide, by decide⟩ rfl rfl hl.1 rfl (Nat.le_of_ble_eq_true rfl) ⟨Nat.le_of_ble_eq_true rfl, Nat.le_of_ble_eq_true rfl⟩ dL_law_2581 (fun r2581 S2581 H locs hp2581 hw => ?_)
  obtain ⟨r1, r2, r3⟩ := hp2581
  refine lv_istore (lv' := [(7, .int r2581), (6, .int r2569), (5, .int 0), (0, .ref bs), (1, .ref (a 0)), (2, .ref (b 0)), (3, .ref o), (4, .ref od)]) hx hb dL_law_2584 hl (by decide) rfl (fun ls hl => ?_)
  refine lv_aload_n hx hb dL_law_2586 rfl (lv_at hl 5 rfl) ?_
  refine zcV_i (As := []) (rest := []) (n9 := 0) (b := (b 0)) C hw (c_X11_thrown l D y base S2581 (b 0) (kd_differs (xs 1)) r1 r2) gL_law_X11_thrown rfl (by decide +kernel) ⟨⟨rfl, rfl⟩, Nat.le_of_ble_eq_true rfl, Nat.le_of_ble_eq_true rfl⟩ r1 ⟨by decide, by decide⟩ rfl rfl hl.1 rfl (Nat.le_of_ble_eq_true rfl) ⟨Nat.le_of_ble_eq_true rfl, Nat.le_of_ble_eq_true rfl⟩ dL_law_2587 (fun r2587 S2587 H locs hp2587 hw => ?_)
  obtain ⟨rfl, hS9⟩ := hp2587
  have hS9 := hS9.symm
  subst hS9
  refine lv_iload hx hb dL_law_2590 (lv_at hl 1 rfl) ?_
  refine lv_icmp_eq (tgt := 2597) hx hb dL_law_2592 (by decide) (fun c2592 => ?_) (fun c2592 => (show False from (c2592 hk9.symm)).elim)
  refine lv_iload hx hb dL_law_2597 (lv_at hl 1 rfl) ?_
  refine lv_if_ne (tgt := 2614) hx hb dL_law_2599 (by decide) (fun c2599 => ?_) (fun c2599 => ?_)
  · refine lv_goto (tgt := 2892) hx hb dL_law_2614 (by decide) ?_
    exact hend _ _ _ _ _ (Nat.le_of_ble_eq_true rfl) (Nat.le_of_ble_eq_true rfl) hw.2.2.1 (lv_sub hl [2, 3] rfl)
  · have hz9 : kd_differs (xs 1) = 0 := hk9.symm.trans c2599
    have hb9 := r3 hz9
    subst hb9
    refine lv_aload_n hx hb dL_law_2602 rfl (lv_at hl 6 rfl) ?_
    refine lv_iconst (v := 0) hx hb dL_law_2603 (by decide) ?_
    refine zaldX C hw y94 y95 dL_law_2604 ?_
    refine zrdl (x := ((0 : Int32).toInt64)) (y96.trans (hv9 hz9)) ?_
    refine lv_iload hx hb dL_law_2605 (lv_at hl 0 rfl) ?_
    refine lv_i2l (v := (0 : Int32).toInt64) hx hb dL_law_2607 rfl ?_
    refine W.lcmp hx hb dL_law_2608 ?_
    refine zrd (x := 0) ((lg_cmp_eq _ _).mpr rfl) ?_
    refine lv_if_eq (tgt := 2614) hx hb dL_law_2609 (by decide) (fun _ => ?_) (fun c2609 => absurd c2609 (by decide))
    refine lv_goto (tgt := 2892) hx hb dL_law_2614 (by decide) ?_
    exact hend _ _ _ _ _ (Nat.le_of_ble_eq_true rfl) (Nat.le_of_ble_eq_true rfl) hw.2.2.1 (lv_sub hl [2, 3] rfl)

set_option maxHeartbeats 4000000 in
set_option maxRecDepth 100000 in
theorem law_case_33 {p : Program} {l : Launch} {e : Env} {s : State} {m : MethodId} {below : List Frame} {meth : Method} {c : Code} {H : Heap} {locs : List Loc} {ls : Array Slot} {D : va_G} {y : Nat → ClassId} {base : Nat} {S : zS} {a b : Nat → Nat} {o od bs : Nat} {xs : Nat → Int32} (hst : l.stackTraces = false) (C : CallFix p m c code 9 s #[Value.ref bs] wsL_law RL) (hend : zEnd p l e s m bs below meth c base)
    (hXs : va_X bs 9 xs s s.heap) (hbl : bs < s.heap.size) (hbs : base = s.heap.size) (hy : y 94 = 0) (hX : zX S a) (h0 : zX0 S a) (hM : zMd S b) (hM0 : zMd0 S b) (hF : zQ S 49 (b 4) = some (y 92) ∧ zQ S 49 (b 5) = some (y 92)) (hreg : ∀ i j, i < 128 → zR S 22 (b (100 + i)) j = 0) (hko : zK S o = 24) (hno : zN S o = 1)
    (hw : zW D y base S s H locs) (hl : lv_has ls 9 [(5, .int 0), (0, .ref bs), (1, .ref (a 0)), (2, .ref (b 0)), (3, .ref o), (4, .ref od)]) : W p l e room_1 s m #[Value.ref bs] below meth c H locs 1000 60000 (lw_Z below #[Value.ref bs] s) (F0 m 2617 ls []) := by
  have hx := C.1
  have hb := C.2.1
  have hown := C.2.2.2.1
  have hts := C.2.2.2.2
  refine lv_aload_n hx hb dL_law_2617 rfl (lv_at hl 2 rfl) ?_
  refine lv_aload_n hx hb dL_law_2618 rfl (lv_at hl 1 rfl) ?_
  refine lv_iload hx hb dL_law_2619 (lv_at hl 0 rfl) ?_
  refine lv_iconst (v := 1) hx hb dL_law_2621 (by decide) ?_
  refine lv_iadd hx hb dL_law_2622 ?_
  refine zrd (x := 1) (by decide) ?_
  refine zsld (v := xs 1) C hw hXs hbl hbs (zin_of (N := 9) (by decide) (by decide) (by decide)) rfl dL_law_2623 ?_
  refine lv_aload_n hx hb dL_law_2624 rfl (lv_at hl 4 rfl) ?_
  refine zcSW_i (As := [.ref (a 0), .int (xs 1), .ref o]) (rest := []) (n9 := 3) C hw (c_L_best l hst D y base S a (xs 1) o hX (by first | assumption | exact zbo_01 _) hko (by first | assumption | exact zbo_01 _)) gL_law_L_best rfl (by decide +kernel) ⟨⟨rfl, rfl⟩, Nat.le_of_ble_eq_true rfl, Nat.le_of_ble_eq_true rfl⟩ rfl hl.1 rfl (Nat.le_of_ble_eq_true rfl) ⟨Nat.le_of_ble_eq_true rfl, Nat.le_of_ble_eq_true rfl⟩ dL_law_2625 (fun r2625 S2625 H locs hp2625 hw => ?_)
  obtain ⟨hk9, hv9, hco⟩ := hp2625
  obtain ⟨hM9, hM09, hF9, hF95⟩ := hco.ref hM hM0 hF
  obtain ⟨hko9, hno9⟩ := hco.o hko hno
  obtain ⟨y, y92, y94, y95, y96, hw⟩ := zW_out hw hy hko9 hno9
  have hMd : zMd (zdl S2625 o) b := hM9.dl hko9
  have hM0d : zMd0 (zdl S2625 o) b := hM09
  have hFd : zQ (zdl S2625 o) 49 (b 4) = some (y 92) := by rw [y92]; exact hF9
  have hEd : zMdE (zdl S2625 o) b := ⟨⟨_, hF9⟩, _, hF95⟩
  refine lv_istore (lv' := [(6, .int r2625), (5, .int 0), (0, .ref bs), (1, .ref (a 0)), (2, .ref (b 0)), (3, .ref o), (4, .ref od)]) hx hb dL_law_2628 hl (by decide) rfl (fun ls hl => ?_)
  refine lv_aload_n hx hb dL_law_2630 rfl (lv_at hl 4 rfl) ?_
  refine lv_aload_n hx hb dL_law_2631 rfl (lv_at hl 2 rfl) ?_
  refine lv_iload hx hb dL_law_2632 (lv_at hl 1 rfl) ?_
  refine lv_iconst (v := 1) hx hb dL_law_2634 (by decide) ?_
  refine lv_iadd hx hb dL_law_2635 ?_
  refine zrd (x := 1) (by decide) ?_
  refine zsld (v := xs 1) C hw hXs hbl hbs (zin_of (N := 9) (by decide) (by decide) (by decide)) rfl dL_law_2636 ?_
  refine zcV_i (As := [.int (xs 1)]) (rest := []) (n9 := 1) (b := (b 0)) C hw (c_X11_best l D y base (zdl S2625 o) b (xs 1) hMd (by first | assumption | exact zbo_01 _)) gL_law_X11_best rfl (by decide +kernel) ⟨⟨rfl, rfl⟩, Nat.le_of_ble_eq_true rfl, Nat.le_of_ble_eq_true rfl⟩ hMd.1 ⟨by decide, by decide⟩ rfl rfl hl.1 rfl (Nat.le_of_ble_eq_true rfl) ⟨Nat.le_of_ble_eq_true rfl, Nat.le_of_ble_eq_true rfl⟩ dL_law_2637 (fun r2637 S2637 H locs hp2637 hw => ?_)
  obtain ⟨r1, r2, r3⟩ := hp2637
  refine lv_istore (lv' := [(7, .int r2637), (6, .int r2625), (5, .int 0), (0, .ref bs), (1, .ref (a 0)), (2, .ref (b 0)), (3, .ref o), (4, .ref od)]) hx hb dL_law_2640 hl (by decide) rfl (fun ls hl => ?_)
  refine lv_aload_n hx hb dL_law_2642 rfl (lv_at hl 5 rfl) ?_
  refine zcV_i (As := []) (rest := []) (n9 := 0) (b := (b 0)) C hw (c_X11_thrown l D y base S2637 (b 0) (kd_best (xs 1)) r1 r2) gL_law_X11_thrown rfl (by decide +kernel) ⟨⟨rfl, rfl⟩, Nat.le_of_ble_eq_true rfl, Nat.le_of_ble_eq_true rfl⟩ r1 ⟨by decide, by decide⟩ rfl rfl hl.1 rfl (Nat.le_of_ble_eq_true rfl) ⟨Nat.le_of_ble_eq_true rfl, Nat.le_of_ble_eq_true rfl⟩ dL_law_2643 (fun r2643 S2643 H locs hp2643 hw => ?_)
  obtain ⟨rfl, hS9⟩ := hp2643
  have hS9 := hS9.symm
  subst hS9
  refine lv_iload hx hb dL_law_2646 (lv_at hl 1 rfl) ?_
  refine lv_icmp_eq (tgt := 2653) hx hb dL_law_2648 (by decide) (fun c2648 => ?_) (fun c2648 => (show False from (c2648 hk9.symm)).elim)
  refine lv_iload hx hb dL_law_2653 (lv_at hl 1 rfl) ?_
  refine lv_if_ne (tgt := 2670) hx hb dL_law_2655 (by decide) (fun c2655 => ?_) (fun c2655 => ?_)
  · refine lv_goto (tgt := 2892) hx hb dL_law_2670 (by decide) ?_
    exact hend _ _ _ _ _ (Nat.le_of_ble_eq_true rfl) (Nat.le_of_ble_eq_true rfl) hw.2.2.1 (lv_sub hl [2, 3] rfl)
  · have hz9 : kd_best (xs 1) = 0 := hk9.symm.trans c2655
    have hb9 := r3 hz9
    subst hb9
    refine lv_aload_n hx hb dL_law_2658 rfl (lv_at hl 6 rfl) ?_
    refine lv_iconst (v := 0) hx hb dL_law_2659 (by decide) ?_
    refine zaldX C hw y94 y95 dL_law_2660 ?_
    refine zrdl (x := ((0 : Int32).toInt64)) (y96.trans (hv9 hz9)) ?_
    refine lv_iload hx hb dL_law_2661 (lv_at hl 0 rfl) ?_
    refine lv_i2l (v := (0 : Int32).toInt64) hx hb dL_law_2663 rfl ?_
    refine W.lcmp hx hb dL_law_2664 ?_
    refine zrd (x := 0) ((lg_cmp_eq _ _).mpr rfl) ?_
    refine lv_if_eq (tgt := 2670) hx hb dL_law_2665 (by decide) (fun _ => ?_) (fun c2665 => absurd c2665 (by decide))
    refine lv_goto (tgt := 2892) hx hb dL_law_2670 (by decide) ?_
    exact hend _ _ _ _ _ (Nat.le_of_ble_eq_true rfl) (Nat.le_of_ble_eq_true rfl) hw.2.2.1 (lv_sub hl [2, 3] rfl)

set_option maxHeartbeats 4000000 in
set_option maxRecDepth 100000 in
theorem law_case_34 {p : Program} {l : Launch} {e : Env} {s : State} {m : MethodId} {below : List Frame} {meth : Method} {c : Code} {H : Heap} {locs : List Loc} {ls : Array Slot} {D : va_G} {y : Nat → ClassId} {base : Nat} {S : zS} {a b : Nat → Nat} {o od bs : Nat} {xs : Nat → Int32} (hst : l.stackTraces = false) (C : CallFix p m c code 9 s #[Value.ref bs] wsL_law RL) (hend : zEnd p l e s m bs below meth c base)
    (hXs : va_X bs 9 xs s s.heap) (hbl : bs < s.heap.size) (hbs : base = s.heap.size) (hy : y 94 = 0) (hX : zX S a) (h0 : zX0 S a) (hM : zMd S b) (hM0 : zMd0 S b) (hF : zQ S 49 (b 4) = some (y 92) ∧ zQ S 49 (b 5) = some (y 92)) (hreg : ∀ i j, i < 128 → zR S 22 (b (100 + i)) j = 0) (hko : zK S o = 24) (hno : zN S o = 1)
    (hw : zW D y base S s H locs) (hl : lv_has ls 9 [(5, .int 0), (0, .ref bs), (1, .ref (a 0)), (2, .ref (b 0)), (3, .ref o), (4, .ref od)]) : W p l e room_1 s m #[Value.ref bs] below meth c H locs 1000 60000 (lw_Z below #[Value.ref bs] s) (F0 m 2673 ls []) := by
  have hx := C.1
  have hb := C.2.1
  have hown := C.2.2.2.1
  have hts := C.2.2.2.2
  refine lv_aload_n hx hb dL_law_2673 rfl (lv_at hl 2 rfl) ?_
  refine zcV_i (As := []) (rest := []) (n9 := 0) (b := (a 0)) C hw (c_X7_flips l D y base S a hX (by first | assumption | exact zbo_01 _)) gL_law_X7_flips rfl (by decide +kernel) ⟨⟨rfl, rfl⟩, Nat.le_of_ble_eq_true rfl, Nat.le_of_ble_eq_true rfl⟩ hX.1 ⟨by decide, by decide⟩ rfl rfl hl.1 rfl (Nat.le_of_ble_eq_true rfl) ⟨Nat.le_of_ble_eq_true rfl, Nat.le_of_ble_eq_true rfl⟩ dL_law_2674 (fun r2674 S2674 H locs hp2674 hw => ?_)
  obtain ⟨rfl, hcl9⟩ := hp2674
  obtain ⟨hM9, hM09, hF9, hF95⟩ := hcl9.ref hM hM0 hF
  have hEd : zMdE S2674 b := ⟨⟨_, hF9⟩, _, hF95⟩
  refine lv_aload_n hx hb dL_law_2677 rfl (lv_at hl 3 rfl) ?_
  refine zcV_i (As := []) (rest := [.int 0]) (n9 := 0) (b := (b 0)) C hw (c_X11_flips l D y base S2674 b hM9 (by first | assumption | exact zbo_01 _)) gL_law_X11_flips rfl (by decide +kernel) ⟨⟨rfl, rfl⟩, Nat.le_of_ble_eq_true rfl, Nat.le_of_ble_eq_true rfl⟩ hM9.1 ⟨by decide, by decide⟩ rfl rfl hl.1 rfl (Nat.le_of_ble_eq_true rfl) ⟨Nat.le_of_ble_eq_true rfl, Nat.le_of_ble_eq_true rfl⟩ dL_law_2678 (fun r2678 S2678 H locs hp2678 hw => ?_)
  obtain ⟨r1, rfl⟩ := hp2678
  refine lv_icmp_eq (tgt := 2892) hx hb dL_law_2681 (by decide) (fun _ => ?_) (fun c2681 => absurd c2681 (by decide))
  exact hend _ _ _ _ _ (Nat.le_of_ble_eq_true rfl) (Nat.le_of_ble_eq_true rfl) hw.2.2.1 (lv_sub hl [0, 1] rfl)

set_option maxHeartbeats 4000000 in
set_option maxRecDepth 100000 in
theorem law_case_35 {p : Program} {l : Launch} {e : Env} {s : State} {m : MethodId} {below : List Frame} {meth : Method} {c : Code} {H : Heap} {locs : List Loc} {ls : Array Slot} {D : va_G} {y : Nat → ClassId} {base : Nat} {S : zS} {a b : Nat → Nat} {o od bs : Nat} {xs : Nat → Int32} (hst : l.stackTraces = false) (C : CallFix p m c code 9 s #[Value.ref bs] wsL_law RL) (hend : zEnd p l e s m bs below meth c base)
    (hXs : va_X bs 9 xs s s.heap) (hbl : bs < s.heap.size) (hbs : base = s.heap.size) (hy : y 94 = 0) (hX : zX S a) (h0 : zX0 S a) (hM : zMd S b) (hM0 : zMd0 S b) (hF : zQ S 49 (b 4) = some (y 92) ∧ zQ S 49 (b 5) = some (y 92)) (hreg : ∀ i j, i < 128 → zR S 22 (b (100 + i)) j = 0) (hko : zK S o = 24) (hno : zN S o = 1)
    (hw : zW D y base S s H locs) (hl : lv_has ls 9 [(5, .int 0), (0, .ref bs), (1, .ref (a 0)), (2, .ref (b 0)), (3, .ref o), (4, .ref od)]) : W p l e room_1 s m #[Value.ref bs] below meth c H locs 1000 60000 (lw_Z below #[Value.ref bs] s) (F0 m 2686 ls []) := by
  have hx := C.1
  have hb := C.2.1
  have hown := C.2.2.2.1
  have hts := C.2.2.2.2
  refine lv_aload_n hx hb dL_law_2686 rfl (lv_at hl 2 rfl) ?_
  refine zcV_l (As := []) (rest := []) (n9 := 0) (b := (a 0)) C hw (c_X7_checksum l D y base S a hX (by first | assumption | exact zbo_01 _)) gL_law_X7_checksum rfl (by decide +kernel) ⟨⟨rfl, rfl⟩, Nat.le_of_ble_eq_true rfl, Nat.le_of_ble_eq_true rfl⟩ hX.1 ⟨by decide, by decide⟩ rfl rfl hl.1 rfl (Nat.le_of_ble_eq_true rfl) ⟨Nat.le_of_ble_eq_true rfl, Nat.le_of_ble_eq_true rfl⟩ dL_law_2687 (fun r2687 S2687 H locs hp2687 hw => ?_)
  obtain ⟨rfl, hcl9⟩ := hp2687
  obtain ⟨hM9, hM09, hF9, hF95⟩ := hcl9.ref hM hM0 hF
  have hEd : zMdE S2687 b := ⟨⟨_, hF9⟩, _, hF95⟩
  refine lv_aload_n hx hb dL_law_2690 rfl (lv_at hl 3 rfl) ?_
  refine zcV_l (As := []) (rest := [.long ((7 : Int32).toInt64)]) (n9 := 0) (b := (b 0)) C hw (c_X11_checksum l D y base S2687 b hM9 (by first | assumption | exact zbo_01 _)) gL_law_X11_checksum rfl (by decide +kernel) ⟨⟨rfl, rfl⟩, Nat.le_of_ble_eq_true rfl, Nat.le_of_ble_eq_true rfl⟩ hM9.1 ⟨by decide, by decide⟩ rfl rfl hl.1 rfl (Nat.le_of_ble_eq_true rfl) ⟨Nat.le_of_ble_eq_true rfl, Nat.le_of_ble_eq_true rfl⟩ dL_law_2691 (fun r2691 S2691 H locs hp2691 hw => ?_)
  obtain ⟨r1, rfl⟩ := hp2691
  refine W.lcmp hx hb dL_law_2694 ?_
  refine zrd (x := 0) ((lg_cmp_eq _ _).mpr rfl) ?_
  refine lv_if_eq (tgt := 2892) hx hb dL_law_2695 (by decide) (fun _ => ?_) (fun c2695 => absurd c2695 (by decide))
  exact hend _ _ _ _ _ (Nat.le_of_ble_eq_true rfl) (Nat.le_of_ble_eq_true rfl) hw.2.2.1 (lv_sub hl [0, 1] rfl)

set_option maxHeartbeats 4000000 in
set_option maxRecDepth 100000 in
theorem law_case_36 {p : Program} {l : Launch} {e : Env} {s : State} {m : MethodId} {below : List Frame} {meth : Method} {c : Code} {H : Heap} {locs : List Loc} {ls : Array Slot} {D : va_G} {y : Nat → ClassId} {base : Nat} {S : zS} {a b : Nat → Nat} {o od bs : Nat} {xs : Nat → Int32} (hst : l.stackTraces = false) (C : CallFix p m c code 9 s #[Value.ref bs] wsL_law RL) (hend : zEnd p l e s m bs below meth c base)
    (hXs : va_X bs 9 xs s s.heap) (hbl : bs < s.heap.size) (hbs : base = s.heap.size) (hy : y 94 = 0) (hX : zX S a) (h0 : zX0 S a) (hM : zMd S b) (hM0 : zMd0 S b) (hF : zQ S 49 (b 4) = some (y 92) ∧ zQ S 49 (b 5) = some (y 92)) (hreg : ∀ i j, i < 128 → zR S 22 (b (100 + i)) j = 0) (hko : zK S o = 24) (hno : zN S o = 1)
    (hw : zW D y base S s H locs) (hl : lv_has ls 9 [(5, .int 0), (0, .ref bs), (1, .ref (a 0)), (2, .ref (b 0)), (3, .ref o), (4, .ref od)]) : W p l e room_1 s m #[Value.ref bs] below meth c H locs 1000 60000 (lw_Z below #[Value.ref bs] s) (F0 m 2700 ls []) := by
  have hx := C.1
  have hb := C.2.1
  have hown := C.2.2.2.1
  have hts := C.2.2.2.2
  refine lv_aload_n hx hb dL_law_2700 rfl (lv_at hl 2 rfl) ?_
  refine lv_aload_n hx hb dL_law_2701 rfl (lv_at hl 1 rfl) ?_
  refine lv_iload hx hb dL_law_2702 (lv_at hl 0 rfl) ?_
  refine lv_iconst (v := 1) hx hb dL_law_2704 (by decide) ?_
  refine lv_iadd hx hb dL_law_2705 ?_
  refine zrd (x := 1) (by decide) ?_
  refine zsld (v := xs 1) C hw hXs hbl hbs (zin_of (N := 9) (by decide) (by decide) (by decide)) rfl dL_law_2706 ?_
  refine lv_aload_n hx hb dL_law_2707 rfl (lv_at hl 1 rfl) ?_
  refine lv_iload hx hb dL_law_2708 (lv_at hl 0 rfl) ?_
  refine lv_iconst (v := 2) hx hb dL_law_2710 (by decide) ?_
  refine lv_iadd hx hb dL_law_2711 ?_
  refine zrd (x := 2) (by decide) ?_
  refine zsld (v := xs 2) C hw hXs hbl hbs (zin_of (N := 9) (by decide) (by decide) (by decide)) rfl dL_law_2712 ?_
  refine lv_aload hx hb dL_law_2713 (lv_at hl 5 rfl) ?_
  refine zcSW_i (As := [.ref (a 0), .int (xs 1), .int (xs 2), .ref od]) (rest := []) (n9 := 4) C hw (c_L_highShare l hst D y base S a (xs 1) (xs 2) od hX (by first | assumption | exact zbo_01 _)) gL_law_L_highShare rfl (by decide +kernel) ⟨⟨rfl, rfl⟩, Nat.le_of_ble_eq_true rfl, Nat.le_of_ble_eq_true rfl⟩ rfl hl.1 rfl (Nat.le_of_ble_eq_true rfl) ⟨Nat.le_of_ble_eq_true rfl, Nat.le_of_ble_eq_true rfl⟩ dL_law_2715 (fun r2715 S2715 H locs hp2715 hw => ?_)
  obtain ⟨hk9, hv9, hco⟩ := hp2715
  obtain ⟨hM9, hM09, hF9, hF95⟩ := hco.ref hM hM0 hF
  refine lv_istore (lv' := [(6, .int r2715), (5, .int 0), (0, .ref bs), (1, .ref (a 0)), (2, .ref (b 0)), (3, .ref o), (4, .ref od)]) hx hb dL_law_2718 hl (by decide) rfl (fun ls hl => ?_)
  refine lv_aload_n hx hb dL_law_2720 rfl (lv_at hl 4 rfl) ?_
  refine lv_aload_n hx hb dL_law_2721 rfl (lv_at hl 2 rfl) ?_
  refine lv_iload hx hb dL_law_2722 (lv_at hl 1 rfl) ?_
  refine lv_iconst (v := 1) hx hb dL_law_2724 (by decide) ?_
  refine lv_iadd hx hb dL_law_2725 ?_
  refine zrd (x := 1) (by decide) ?_
  refine zsld (v := xs 1) C hw hXs hbl hbs (zin_of (N := 9) (by decide) (by decide) (by decide)) rfl dL_law_2726 ?_
  refine lv_aload_n hx hb dL_law_2727 rfl (lv_at hl 2 rfl) ?_
  refine lv_iload hx hb dL_law_2728 (lv_at hl 1 rfl) ?_
  refine lv_iconst (v := 2) hx hb dL_law_2730 (by decide) ?_
  refine lv_iadd hx hb dL_law_2731 ?_
  refine zrd (x := 2) (by decide) ?_
  refine zsld (v := xs 2) C hw hXs hbl hbs (zin_of (N := 9) (by decide) (by decide) (by decide)) rfl dL_law_2732 ?_
  refine zcV_f (As := [.int (xs 1), .int (xs 2)]) (rest := []) (n9 := 2) (b := (b 0)) C hw (c_X11_highShare l D y base S2715 b (xs 1) (xs 2) hM9) gL_law_X11_highShare rfl (by decide +kernel) ⟨⟨rfl, rfl⟩, Nat.le_of_ble_eq_true rfl, Nat.le_of_ble_eq_true rfl⟩ hM9.1 ⟨by decide, by decide⟩ rfl rfl hl.1 rfl (Nat.le_of_ble_eq_true rfl) ⟨Nat.le_of_ble_eq_true rfl, Nat.le_of_ble_eq_true rfl⟩ dL_law_2733 (fun r2733 S2733 H locs hp2733 hw => ?_)
  obtain ⟨r1, r2⟩ := hp2733
  refine lv_fstore (lv' := [(7, .float r2733), (6, .int r2715), (5, .int 0), (0, .ref bs), (1, .ref (a 0)), (2, .ref (b 0)), (3, .ref o), (4, .ref od)]) hx hb dL_law_2736 hl (by decide) rfl (fun ls hl => ?_)
  refine lv_aload_n hx hb dL_law_2738 rfl (lv_at hl 5 rfl) ?_
  refine zcV_i (As := []) (rest := []) (n9 := 0) (b := (b 0)) C hw (c_X11_thrown l D y base S2733 (b 0) (kd_run (xs 1) (xs 2)) r1 r2) gL_law_X11_thrown rfl (by decide +kernel) ⟨⟨rfl, rfl⟩, Nat.le_of_ble_eq_true rfl, Nat.le_of_ble_eq_true rfl⟩ r1 ⟨by decide, by decide⟩ rfl rfl hl.1 rfl (Nat.le_of_ble_eq_true rfl) ⟨Nat.le_of_ble_eq_true rfl, Nat.le_of_ble_eq_true rfl⟩ dL_law_2739 (fun r2739 S2739 H locs hp2739 hw => ?_)
  obtain ⟨rfl, hS9⟩ := hp2739
  have hS9 := hS9.symm
  subst hS9
  refine lv_iload hx hb dL_law_2742 (lv_at hl 1 rfl) ?_
  refine lv_icmp_eq (tgt := 2749) hx hb dL_law_2744 (by decide) (fun c2744 => ?_) (fun c2744 => (show False from (c2744 hk9.symm)).elim)
  refine lv_iload hx hb dL_law_2749 (lv_at hl 1 rfl) ?_
  refine lv_if_ne (tgt := 2787) hx hb dL_law_2751 (by decide) (fun c2751 => ?_) (fun c2751 => ?_)
  · refine lv_goto (tgt := 2892) hx hb dL_law_2787 (by decide) ?_
    exact hend _ _ _ _ _ (Nat.le_of_ble_eq_true rfl) (Nat.le_of_ble_eq_true rfl) hw.2.2.1 (lv_sub hl [2, 3] rfl)
  · exact absurd (hk9.symm.trans c2751) (kd_run_ne _ _)

set_option maxHeartbeats 4000000 in
set_option maxRecDepth 100000 in
theorem law_case_37 {p : Program} {l : Launch} {e : Env} {s : State} {m : MethodId} {below : List Frame} {meth : Method} {c : Code} {H : Heap} {locs : List Loc} {ls : Array Slot} {D : va_G} {y : Nat → ClassId} {base : Nat} {S : zS} {a b : Nat → Nat} {o od bs : Nat} {xs : Nat → Int32} (hst : l.stackTraces = false) (C : CallFix p m c code 9 s #[Value.ref bs] wsL_law RL) (hend : zEnd p l e s m bs below meth c base)
    (hXs : va_X bs 9 xs s s.heap) (hbl : bs < s.heap.size) (hbs : base = s.heap.size) (hy : y 94 = 0) (hX : zX S a) (h0 : zX0 S a) (hM : zMd S b) (hM0 : zMd0 S b) (hF : zQ S 49 (b 4) = some (y 92) ∧ zQ S 49 (b 5) = some (y 92)) (hreg : ∀ i j, i < 128 → zR S 22 (b (100 + i)) j = 0) (hko : zK S o = 24) (hno : zN S o = 1)
    (hw : zW D y base S s H locs) (hl : lv_has ls 9 [(5, .int 0), (0, .ref bs), (1, .ref (a 0)), (2, .ref (b 0)), (3, .ref o), (4, .ref od)]) : W p l e room_1 s m #[Value.ref bs] below meth c H locs 1000 60000 (lw_Z below #[Value.ref bs] s) (F0 m 2790 ls []) := by
  have hx := C.1
  have hb := C.2.1
  have hown := C.2.2.2.1
  have hts := C.2.2.2.2
  refine lv_aload_n hx hb dL_law_2790 rfl (lv_at hl 2 rfl) ?_
  refine lv_aload_n hx hb dL_law_2791 rfl (lv_at hl 1 rfl) ?_
  refine lv_iload hx hb dL_law_2792 (lv_at hl 0 rfl) ?_
  refine lv_iconst (v := 1) hx hb dL_law_2794 (by decide) ?_
  refine lv_iadd hx hb dL_law_2795 ?_
  refine zrd (x := 1) (by decide) ?_
  refine zsld (v := xs 1) C hw hXs hbl hbs (zin_of (N := 9) (by decide) (by decide) (by decide)) rfl dL_law_2796 ?_
  refine lv_aload_n hx hb dL_law_2797 rfl (lv_at hl 1 rfl) ?_
  refine lv_iload hx hb dL_law_2798 (lv_at hl 0 rfl) ?_
  refine lv_iconst (v := 2) hx hb dL_law_2800 (by decide) ?_
  refine lv_iadd hx hb dL_law_2801 ?_
  refine zrd (x := 2) (by decide) ?_
  refine zsld (v := xs 2) C hw hXs hbl hbs (zin_of (N := 9) (by decide) (by decide) (by decide)) rfl dL_law_2802 ?_
  refine lv_aload hx hb dL_law_2803 (lv_at hl 5 rfl) ?_
  refine zcSW_i (As := [.ref (a 0), .int (xs 1), .int (xs 2), .ref od]) (rest := []) (n9 := 4) C hw (c_L_meanRun l hst D y base S a (xs 1) (xs 2) od hX (by first | assumption | exact zbo_01 _)) gL_law_L_meanRun rfl (by decide +kernel) ⟨⟨rfl, rfl⟩, Nat.le_of_ble_eq_true rfl, Nat.le_of_ble_eq_true rfl⟩ rfl hl.1 rfl (Nat.le_of_ble_eq_true rfl) ⟨Nat.le_of_ble_eq_true rfl, Nat.le_of_ble_eq_true rfl⟩ dL_law_2805 (fun r2805 S2805 H locs hp2805 hw => ?_)
  obtain ⟨hk9, hv9, hco⟩ := hp2805
  obtain ⟨hM9, hM09, hF9, hF95⟩ := hco.ref hM hM0 hF
  refine lv_istore (lv' := [(6, .int r2805), (5, .int 0), (0, .ref bs), (1, .ref (a 0)), (2, .ref (b 0)), (3, .ref o), (4, .ref od)]) hx hb dL_law_2808 hl (by decide) rfl (fun ls hl => ?_)
  refine lv_aload_n hx hb dL_law_2810 rfl (lv_at hl 4 rfl) ?_
  refine lv_aload_n hx hb dL_law_2811 rfl (lv_at hl 2 rfl) ?_
  refine lv_iload hx hb dL_law_2812 (lv_at hl 1 rfl) ?_
  refine lv_iconst (v := 1) hx hb dL_law_2814 (by decide) ?_
  refine lv_iadd hx hb dL_law_2815 ?_
  refine zrd (x := 1) (by decide) ?_
  refine zsld (v := xs 1) C hw hXs hbl hbs (zin_of (N := 9) (by decide) (by decide) (by decide)) rfl dL_law_2816 ?_
  refine lv_aload_n hx hb dL_law_2817 rfl (lv_at hl 2 rfl) ?_
  refine lv_iload hx hb dL_law_2818 (lv_at hl 1 rfl) ?_
  refine lv_iconst (v := 2) hx hb dL_law_2820 (by decide) ?_
  refine lv_iadd hx hb dL_law_2821 ?_
  refine zrd (x := 2) (by decide) ?_
  refine zsld (v := xs 2) C hw hXs hbl hbs (zin_of (N := 9) (by decide) (by decide) (by decide)) rfl dL_law_2822 ?_
  refine zcV_d (As := [.int (xs 1), .int (xs 2)]) (rest := []) (n9 := 2) (b := (b 0)) C hw (c_X11_meanRun l D y base S2805 b (xs 1) (xs 2) hM9) gL_law_X11_meanRun rfl (by decide +kernel) ⟨⟨rfl, rfl⟩, Nat.le_of_ble_eq_true rfl, Nat.le_of_ble_eq_true rfl⟩ hM9.1 ⟨by decide, by decide⟩ rfl rfl hl.1 rfl (Nat.le_of_ble_eq_true rfl) ⟨Nat.le_of_ble_eq_true rfl, Nat.le_of_ble_eq_true rfl⟩ dL_law_2823 (fun r2823 S2823 H locs hp2823 hw => ?_)
  obtain ⟨r1, r2⟩ := hp2823
  refine lv_dstore (lv' := [(7, .double r2823), (6, .int r2805), (5, .int 0), (0, .ref bs), (1, .ref (a 0)), (2, .ref (b 0)), (3, .ref o), (4, .ref od)]) hx hb dL_law_2826 hl (by decide) rfl (fun ls hl => ?_)
  refine lv_aload_n hx hb dL_law_2828 rfl (lv_at hl 5 rfl) ?_
  refine zcV_i (As := []) (rest := []) (n9 := 0) (b := (b 0)) C hw (c_X11_thrown l D y base S2823 (b 0) (kd_run (xs 1) (xs 2)) r1 r2) gL_law_X11_thrown rfl (by decide +kernel) ⟨⟨rfl, rfl⟩, Nat.le_of_ble_eq_true rfl, Nat.le_of_ble_eq_true rfl⟩ r1 ⟨by decide, by decide⟩ rfl rfl hl.1 rfl (Nat.le_of_ble_eq_true rfl) ⟨Nat.le_of_ble_eq_true rfl, Nat.le_of_ble_eq_true rfl⟩ dL_law_2829 (fun r2829 S2829 H locs hp2829 hw => ?_)
  obtain ⟨rfl, hS9⟩ := hp2829
  have hS9 := hS9.symm
  subst hS9
  refine lv_iload hx hb dL_law_2832 (lv_at hl 1 rfl) ?_
  refine lv_icmp_eq (tgt := 2839) hx hb dL_law_2834 (by decide) (fun c2834 => ?_) (fun c2834 => (show False from (c2834 hk9.symm)).elim)
  refine lv_iload hx hb dL_law_2839 (lv_at hl 1 rfl) ?_
  refine lv_if_ne (tgt := 2876) hx hb dL_law_2841 (by decide) (fun c2841 => ?_) (fun c2841 => ?_)
  · refine lv_goto (tgt := 2892) hx hb dL_law_2876 (by decide) ?_
    exact hend _ _ _ _ _ (Nat.le_of_ble_eq_true rfl) (Nat.le_of_ble_eq_true rfl) hw.2.2.1 (lv_sub hl [2, 3] rfl)
  · exact absurd (hk9.symm.trans c2841) (kd_run_ne _ _)

set_option maxHeartbeats 4000000 in
set_option maxRecDepth 100000 in
theorem law_case_38 {p : Program} {l : Launch} {e : Env} {s : State} {m : MethodId} {below : List Frame} {meth : Method} {c : Code} {H : Heap} {locs : List Loc} {ls : Array Slot} {D : va_G} {y : Nat → ClassId} {base : Nat} {S : zS} {a b : Nat → Nat} {o od bs : Nat} {xs : Nat → Int32} (hst : l.stackTraces = false) (C : CallFix p m c code 9 s #[Value.ref bs] wsL_law RL) (hend : zEnd p l e s m bs below meth c base)
    (hXs : va_X bs 9 xs s s.heap) (hbl : bs < s.heap.size) (hbs : base = s.heap.size) (hy : y 94 = 0) (hX : zX S a) (h0 : zX0 S a) (hM : zMd S b) (hM0 : zMd0 S b) (hF : zQ S 49 (b 4) = some (y 92) ∧ zQ S 49 (b 5) = some (y 92)) (hreg : ∀ i j, i < 128 → zR S 22 (b (100 + i)) j = 0) (hko : zK S o = 24) (hno : zN S o = 1)
    (hw : zW D y base S s H locs) (hl : lv_has ls 9 [(5, .int 0), (0, .ref bs), (1, .ref (a 0)), (2, .ref (b 0)), (3, .ref o), (4, .ref od)]) : W p l e room_1 s m #[Value.ref bs] below meth c H locs 1000 60000 (lw_Z below #[Value.ref bs] s) (F0 m 2879 ls []) := by
  have hx := C.1
  have hb := C.2.1
  have hown := C.2.2.2.1
  have hts := C.2.2.2.2
  refine lv_aload_n hx hb dL_law_2879 rfl (lv_at hl 2 rfl) ?_
  refine zcV_i (As := []) (rest := []) (n9 := 0) (b := (a 0)) C hw (c_X7_isSound l D y base S a hX (by first | assumption | exact zbo_01 _)) gL_law_X7_isSound rfl (by decide +kernel) ⟨⟨rfl, rfl⟩, Nat.le_of_ble_eq_true rfl, Nat.le_of_ble_eq_true rfl⟩ hX.1 ⟨by decide, by decide⟩ rfl rfl hl.1 rfl (Nat.le_of_ble_eq_true rfl) ⟨Nat.le_of_ble_eq_true rfl, Nat.le_of_ble_eq_true rfl⟩ dL_law_2880 (fun r2880 S2880 H locs hp2880 hw => ?_)
  obtain ⟨rfl, hcl9⟩ := hp2880
  obtain ⟨hM9, hM09, hF9, hF95⟩ := hcl9.ref hM hM0 hF
  have hEd : zMdE S2880 b := ⟨⟨_, hF9⟩, _, hF95⟩
  refine lv_aload_n hx hb dL_law_2883 rfl (lv_at hl 3 rfl) ?_
  refine zcV_i (As := []) (rest := [.int 1]) (n9 := 0) (b := (b 0)) C hw (c_X11_isSound l D y base S2880 b hM9 (by first | assumption | exact zbo_01 _)) gL_law_X11_isSound rfl (by decide +kernel) ⟨⟨rfl, rfl⟩, Nat.le_of_ble_eq_true rfl, Nat.le_of_ble_eq_true rfl⟩ hM9.1 ⟨by decide, by decide⟩ rfl rfl hl.1 rfl (Nat.le_of_ble_eq_true rfl) ⟨Nat.le_of_ble_eq_true rfl, Nat.le_of_ble_eq_true rfl⟩ dL_law_2884 (fun r2884 S2884 H locs hp2884 hw => ?_)
  obtain ⟨r1, rfl⟩ := hp2884
  refine lv_icmp_eq (tgt := 2892) hx hb dL_law_2887 (by decide) (fun _ => ?_) (fun c2887 => absurd c2887 (by decide))
  exact hend _ _ _ _ _ (Nat.le_of_ble_eq_true rfl) (Nat.le_of_ble_eq_true rfl) hw.2.2.1 (lv_sub hl [0, 1] rfl)

