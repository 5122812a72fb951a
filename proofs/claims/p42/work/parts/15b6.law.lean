set_option maxHeartbeats 4000000 in
set_option maxRecDepth 100000 in
theorem law_part_6 {p : Program} {l : Launch} {e : Env} {s : State} {m : MethodId} {below : List Frame} {meth : Method} {c : Code} {H : Heap} {locs : List Loc} {ls : Array Slot} {D : va_G} {y : Nat → ClassId} {base : Nat} {S : zS} {a : Nat → Nat} {bs : Nat} (hst : l.stackTraces = false) (C : CallFix p m c code 2 s #[Value.ref bs] wsL_law RL) (hr : meth.sig.returnType = ret) (hlocks : meth.locks = false) (hy31 : y 99 < 2 ^ 31) (hNw : zNew S a) (hDs : zDs a) (hbase : base = s.heap.size) (hw : zW D y base S s H locs) (hl : lv_has ls 2 [(1, .ref (a 0)), (0, .ref (y 98))]) : W p l e room_1 s m #[Value.ref bs] below meth c H locs 96 5972 (lw_Z below #[Value.ref bs] s) (F0 m 460 ls []) := by
  have hx := C.1
  have hb := C.2.1
  have hown := C.2.2.2.1
  have hts := C.2.2.2.2
  refine lv_aload_n hx hb dL_law_460 rfl (lv_at hl 0 rfl) ?_
  refine lv_bipush (v := 115) hx hb dL_law_461 (by decide) ?_
  refine lv_iconst (v := 5) hx hb dL_law_463 (by decide) ?_
  refine znewI (N := 5) C hw (by decide +kernel) (by decide) (by decide) (Nat.le_of_ble_eq_true rfl) (Nat.le_of_ble_eq_true rfl) (Nat.le_of_ble_eq_true rfl) dL_law_464 (fun q464 H kq464 hw => ?_)
  have hA : zAr S (znR S q464 22 5 (fun _ => 0)) q464 5 [] := zAr.new kq464
  generalize (znR S q464 22 5 (fun _ => 0)) = Sa464 at hw hA
  refine lv_dup hx hb dL_law_466 rfl ?_
  refine lv_iconst (v := 0) hx hb dL_law_467 (by decide) ?_
  refine lv_iconst (v := 0) hx hb dL_law_468 (by decide) ?_
  refine zast_I (a := q464) C hw hA.2.1 hA.2.2.1 (zin_of (N := 5) (by decide) (by grind) (by grind)) dL_law_469 (fun H locs hw => ?_)
  have hA : zAr S (zsR Sa464 22 q464 (upd (zR Sa464 22 q464) (0 : Int32).toNatClampNeg 0)) q464 5 [0] := zAr.st (k := 0) hA kq464 (by decide) rfl
  generalize (zsR Sa464 22 q464 (upd (zR Sa464 22 q464) (0 : Int32).toNatClampNeg 0)) = Sa469 at hw hA
  refine lv_dup hx hb dL_law_470 rfl ?_
  refine lv_iconst (v := 1) hx hb dL_law_471 (by decide) ?_
  refine lv_iconst (v := 0) hx hb dL_law_472 (by decide) ?_
  refine zast_I (a := q464) C hw hA.2.1 hA.2.2.1 (zin_of (N := 5) (by decide) (by grind) (by grind)) dL_law_473 (fun H locs hw => ?_)
  have hA : zAr S (zsR Sa469 22 q464 (upd (zR Sa469 22 q464) (1 : Int32).toNatClampNeg 0)) q464 5 [0, 0] := zAr.st (k := 1) hA kq464 (by decide) rfl
  generalize (zsR Sa469 22 q464 (upd (zR Sa469 22 q464) (1 : Int32).toNatClampNeg 0)) = Sa473 at hw hA
  refine lv_dup hx hb dL_law_474 rfl ?_
  refine lv_iconst (v := 2) hx hb dL_law_475 (by decide) ?_
  refine lv_iconst (v := 0) hx hb dL_law_476 (by decide) ?_
  refine zast_I (a := q464) C hw hA.2.1 hA.2.2.1 (zin_of (N := 5) (by decide) (by grind) (by grind)) dL_law_477 (fun H locs hw => ?_)
  have hA : zAr S (zsR Sa473 22 q464 (upd (zR Sa473 22 q464) (2 : Int32).toNatClampNeg 0)) q464 5 [0, 0, 0] := zAr.st (k := 2) hA kq464 (by decide) rfl
  generalize (zsR Sa473 22 q464 (upd (zR Sa473 22 q464) (2 : Int32).toNatClampNeg 0)) = Sa477 at hw hA
  refine lv_dup hx hb dL_law_478 rfl ?_
  refine lv_iconst (v := 3) hx hb dL_law_479 (by decide) ?_
  refine lv_iconst (v := 2) hx hb dL_law_480 (by decide) ?_
  refine zast_I (a := q464) C hw hA.2.1 hA.2.2.1 (zin_of (N := 5) (by decide) (by grind) (by grind)) dL_law_481 (fun H locs hw => ?_)
  have hA : zAr S (zsR Sa477 22 q464 (upd (zR Sa477 22 q464) (3 : Int32).toNatClampNeg 2)) q464 5 [0, 0, 0, 2] := zAr.st (k := 3) hA kq464 (by decide) rfl
  generalize (zsR Sa477 22 q464 (upd (zR Sa477 22 q464) (3 : Int32).toNatClampNeg 2)) = Sa481 at hw hA
  refine lv_dup hx hb dL_law_482 rfl ?_
  refine lv_iconst (v := 4) hx hb dL_law_483 (by decide) ?_
  refine lv_bipush (v := 120) hx hb dL_law_484 (by decide) ?_
  refine zast_I (a := q464) C hw hA.2.1 hA.2.2.1 (zin_of (N := 5) (by decide) (by grind) (by grind)) dL_law_486 (fun H locs hw => ?_)
  have hA : zAr S (zsR Sa481 22 q464 (upd (zR Sa481 22 q464) (4 : Int32).toNatClampNeg 120)) q464 5 [0, 0, 0, 2, 120] := zAr.st (k := 4) hA kq464 (by decide) rfl
  generalize (zsR Sa481 22 q464 (upd (zR Sa481 22 q464) (4 : Int32).toNatClampNeg 120)) = Sa486 at hw hA
  obtain ⟨hG, hK9, hN9, hA⟩ := hA
  have hj0 : zR Sa486 22 q464 0 = 0 := (hA 0 0 rfl).trans rfl
  have hj1 : zR Sa486 22 q464 1 = 0 := (hA 1 0 rfl).trans rfl
  have hj2 : zR Sa486 22 q464 2 = 0 := (hA 2 0 rfl).trans rfl
  have hj3 : zR Sa486 22 q464 3 = 2 := (hA 3 2 rfl).trans rfl
  have hj4 : zR Sa486 22 q464 4 = 120 := (hA 4 120 rfl).trans rfl
  have hNw := zNew.gw hG hNw
  refine zcSW_i (As := [.ref (a 0), .int 115, .ref q464]) (rest := []) (n9 := 3) C hw (c_L_ask_s_serial_r l hst D y base Sa486 a 0 0 0 2 120 q464 hNw.1 hNw.2.1 (by decide +kernel) hK9 hN9 hj0 hj1 hj2 hj3 hj4 (by decide)) gL_law_L_ask rfl (by decide +kernel) ⟨⟨rfl, rfl⟩, Nat.le_of_ble_eq_true rfl, Nat.le_of_ble_eq_true rfl⟩ rfl hl.1 rfl (Nat.le_of_ble_eq_true rfl) ⟨Nat.le_of_ble_eq_true rfl, Nat.le_of_ble_eq_true rfl⟩ dL_law_487 (fun r487 S487 H locs hp487 hw => ?_)
  have h9 : r487 = (-2000000002) ∧ S487 = Sa486 := by
    rcases hp487 with h | h
    · exact absurd h.1 (by decide +kernel)
    · exact h.2
  obtain ⟨rfl, hS9⟩ := h9
  have hS9 := hS9.symm
  subst hS9
  refine lv_ldc (own := RL) (v := (-2000000002)) hx hb hown (hts (.constant RL 71 (-2000000002)) (by decide +kernel)) dL_law_490 ?_
  refine lv_icmp_ne (tgt := 1945) hx hb dL_law_492 (by decide) (fun c492 => absurd c492 (by decide)) (fun _ => ?_)
  refine lv_aload_n hx hb dL_law_495 rfl (lv_at hl 0 rfl) ?_
  refine lv_bipush (v := 115) hx hb dL_law_496 (by decide) ?_
  refine lv_iconst (v := 5) hx hb dL_law_498 (by decide) ?_
  refine znewI (N := 5) C hw (by decide +kernel) (by decide) (by decide) (Nat.le_of_ble_eq_true rfl) (Nat.le_of_ble_eq_true rfl) (Nat.le_of_ble_eq_true rfl) dL_law_499 (fun q499 H kq499 hw => ?_)
  have hA : zAr Sa486 (znR Sa486 q499 22 5 (fun _ => 0)) q499 5 [] := zAr.new kq499
  generalize (znR Sa486 q499 22 5 (fun _ => 0)) = Sa499 at hw hA
  refine lv_dup hx hb dL_law_501 rfl ?_
  refine lv_iconst (v := 0) hx hb dL_law_502 (by decide) ?_
  refine lv_iconst (v := 0) hx hb dL_law_503 (by decide) ?_
  refine zast_I (a := q499) C hw hA.2.1 hA.2.2.1 (zin_of (N := 5) (by decide) (by grind) (by grind)) dL_law_504 (fun H locs hw => ?_)
  have hA : zAr Sa486 (zsR Sa499 22 q499 (upd (zR Sa499 22 q499) (0 : Int32).toNatClampNeg 0)) q499 5 [0] := zAr.st (k := 0) hA kq499 (by decide) rfl
  generalize (zsR Sa499 22 q499 (upd (zR Sa499 22 q499) (0 : Int32).toNatClampNeg 0)) = Sa504 at hw hA
  refine lv_dup hx hb dL_law_505 rfl ?_
  refine lv_iconst (v := 1) hx hb dL_law_506 (by decide) ?_
  refine lv_iconst (v := 0) hx hb dL_law_507 (by decide) ?_
  refine zast_I (a := q499) C hw hA.2.1 hA.2.2.1 (zin_of (N := 5) (by decide) (by grind) (by grind)) dL_law_508 (fun H locs hw => ?_)
  have hA : zAr Sa486 (zsR Sa504 22 q499 (upd (zR Sa504 22 q499) (1 : Int32).toNatClampNeg 0)) q499 5 [0, 0] := zAr.st (k := 1) hA kq499 (by decide) rfl
  generalize (zsR Sa504 22 q499 (upd (zR Sa504 22 q499) (1 : Int32).toNatClampNeg 0)) = Sa508 at hw hA
  refine lv_dup hx hb dL_law_509 rfl ?_
  refine lv_iconst (v := 2) hx hb dL_law_510 (by decide) ?_
  refine lv_sipush (v := 9999) hx hb dL_law_511 (by decide) ?_
  refine zast_I (a := q499) C hw hA.2.1 hA.2.2.1 (zin_of (N := 5) (by decide) (by grind) (by grind)) dL_law_514 (fun H locs hw => ?_)
  have hA : zAr Sa486 (zsR Sa508 22 q499 (upd (zR Sa508 22 q499) (2 : Int32).toNatClampNeg 9999)) q499 5 [0, 0, 9999] := zAr.st (k := 2) hA kq499 (by decide) rfl
  generalize (zsR Sa508 22 q499 (upd (zR Sa508 22 q499) (2 : Int32).toNatClampNeg 9999)) = Sa514 at hw hA
  refine lv_dup hx hb dL_law_515 rfl ?_
  refine lv_iconst (v := 3) hx hb dL_law_516 (by decide) ?_
  refine lv_iconst (v := 2) hx hb dL_law_517 (by decide) ?_
  refine zast_I (a := q499) C hw hA.2.1 hA.2.2.1 (zin_of (N := 5) (by decide) (by grind) (by grind)) dL_law_518 (fun H locs hw => ?_)
  have hA : zAr Sa486 (zsR Sa514 22 q499 (upd (zR Sa514 22 q499) (3 : Int32).toNatClampNeg 2)) q499 5 [0, 0, 9999, 2] := zAr.st (k := 3) hA kq499 (by decide) rfl
  generalize (zsR Sa514 22 q499 (upd (zR Sa514 22 q499) (3 : Int32).toNatClampNeg 2)) = Sa518 at hw hA
  refine lv_dup hx hb dL_law_519 rfl ?_
  refine lv_iconst (v := 4) hx hb dL_law_520 (by decide) ?_
  refine lv_bipush (v := 110) hx hb dL_law_521 (by decide) ?_
  refine zast_I (a := q499) C hw hA.2.1 hA.2.2.1 (zin_of (N := 5) (by decide) (by grind) (by grind)) dL_law_523 (fun H locs hw => ?_)
  have hA : zAr Sa486 (zsR Sa518 22 q499 (upd (zR Sa518 22 q499) (4 : Int32).toNatClampNeg 110)) q499 5 [0, 0, 9999, 2, 110] := zAr.st (k := 4) hA kq499 (by decide) rfl
  generalize (zsR Sa518 22 q499 (upd (zR Sa518 22 q499) (4 : Int32).toNatClampNeg 110)) = Sa523 at hw hA
  obtain ⟨hG, hK9, hN9, hA⟩ := hA
  have hj0 : zR Sa523 22 q499 0 = (nI 0) := (hA 0 0 rfl).trans rfl
  have hj1 : zR Sa523 22 q499 1 = (nI 0) := (hA 1 0 rfl).trans rfl
  have hj2 : zR Sa523 22 q499 2 = (nI 9999) := (hA 2 9999 rfl).trans rfl
  have hj3 : zR Sa523 22 q499 3 = (nI 2) := (hA 3 2 rfl).trans rfl
  have hj4 : zR Sa523 22 q499 4 = 110 := (hA 4 110 rfl).trans rfl
  have hNw := zNew.gw hG hNw
  refine zcSW_i (As := [.ref (a 0), .int 115, .ref q499]) (rest := []) (n9 := 3) C hw (c_L_ask_s_serial_n l hst D y base Sa523 a 0 0 9999 2 110 _ _ _ _ _ _ _ q499 hNw.1 hDs (by decide +kernel) (by decide +kernel) (by decide +kernel) (by decide +kernel) (by decide +kernel) (zOb.new hNw) (⟨10017, by decide, by decide +kernel⟩) hK9 hN9 hj0 hj1 hj2 hj3 hj4 (by decide)) gL_law_L_ask rfl (by decide +kernel) ⟨⟨rfl, rfl⟩, Nat.le_of_ble_eq_true rfl, Nat.le_of_ble_eq_true rfl⟩ rfl hl.1 rfl (Nat.le_of_ble_eq_true rfl) ⟨Nat.le_of_ble_eq_true rfl, Nat.le_of_ble_eq_true rfl⟩ dL_law_524 (fun r524 S524 H locs hp524 hw => ?_)
  obtain ⟨rfl, hLt⟩ := hp524
  have hNw := zNew.late hDs hNw hLt
  refine lv_ldc (own := RL) (v := (-2000000003)) hx hb hown (hts (.constant RL 74 (-2000000003)) (by decide +kernel)) dL_law_527 ?_
  refine lv_icmp_ne (tgt := 1945) hx hb dL_law_529 (by decide) (fun c529 => absurd c529 (by decide)) (fun _ => ?_)
  exact law_part_7 hst C hr hlocks hy31 hNw hDs hbase hw hl

set_option maxHeartbeats 4000000 in
set_option maxRecDepth 100000 in
theorem law_part_5 {p : Program} {l : Launch} {e : Env} {s : State} {m : MethodId} {below : List Frame} {meth : Method} {c : Code} {H : Heap} {locs : List Loc} {ls : Array Slot} {D : va_G} {y : Nat → ClassId} {base : Nat} {S : zS} {a : Nat → Nat} {bs : Nat} (hst : l.stackTraces = false) (C : CallFix p m c code 2 s #[Value.ref bs] wsL_law RL) (hr : meth.sig.returnType = ret) (hlocks : meth.locks = false) (hy31 : y 99 < 2 ^ 31) (hNw : zNew S a) (hDs : zDs a) (hbase : base = s.heap.size) (hw : zW D y base S s H locs) (hl : lv_has ls 2 [(1, .ref (a 0)), (0, .ref (y 98))]) : W p l e room_1 s m #[Value.ref bs] below meth c H locs 84 5902 (lw_Z below #[Value.ref bs] s) (F0 m 388 ls []) := by
  have hx := C.1
  have hb := C.2.1
  have hown := C.2.2.2.1
  have hts := C.2.2.2.2
  refine lv_aload_n hx hb dL_law_388 rfl (lv_at hl 0 rfl) ?_
  refine lv_bipush (v := 115) hx hb dL_law_389 (by decide) ?_
  refine lv_iconst (v := 5) hx hb dL_law_391 (by decide) ?_
  refine znewI (N := 5) C hw (by decide +kernel) (by decide) (by decide) (Nat.le_of_ble_eq_true rfl) (Nat.le_of_ble_eq_true rfl) (Nat.le_of_ble_eq_true rfl) dL_law_392 (fun q392 H kq392 hw => ?_)
  have hA : zAr S (znR S q392 22 5 (fun _ => 0)) q392 5 [] := zAr.new kq392
  generalize (znR S q392 22 5 (fun _ => 0)) = Sa392 at hw hA
  refine lv_dup hx hb dL_law_394 rfl ?_
  refine lv_iconst (v := 0) hx hb dL_law_395 (by decide) ?_
  refine lv_iconst (v := 0) hx hb dL_law_396 (by decide) ?_
  refine zast_I (a := q392) C hw hA.2.1 hA.2.2.1 (zin_of (N := 5) (by decide) (by grind) (by grind)) dL_law_397 (fun H locs hw => ?_)
  have hA : zAr S (zsR Sa392 22 q392 (upd (zR Sa392 22 q392) (0 : Int32).toNatClampNeg 0)) q392 5 [0] := zAr.st (k := 0) hA kq392 (by decide) rfl
  generalize (zsR Sa392 22 q392 (upd (zR Sa392 22 q392) (0 : Int32).toNatClampNeg 0)) = Sa397 at hw hA
  refine lv_dup hx hb dL_law_398 rfl ?_
  refine lv_iconst (v := 1) hx hb dL_law_399 (by decide) ?_
  refine lv_sipush (v := 256) hx hb dL_law_400 (by decide) ?_
  refine zast_I (a := q392) C hw hA.2.1 hA.2.2.1 (zin_of (N := 5) (by decide) (by grind) (by grind)) dL_law_403 (fun H locs hw => ?_)
  have hA : zAr S (zsR Sa397 22 q392 (upd (zR Sa397 22 q392) (1 : Int32).toNatClampNeg 256)) q392 5 [0, 256] := zAr.st (k := 1) hA kq392 (by decide) rfl
  generalize (zsR Sa397 22 q392 (upd (zR Sa397 22 q392) (1 : Int32).toNatClampNeg 256)) = Sa403 at hw hA
  refine lv_dup hx hb dL_law_404 rfl ?_
  refine lv_iconst (v := 2) hx hb dL_law_405 (by decide) ?_
  refine lv_iconst (v := 0) hx hb dL_law_406 (by decide) ?_
  refine zast_I (a := q392) C hw hA.2.1 hA.2.2.1 (zin_of (N := 5) (by decide) (by grind) (by grind)) dL_law_407 (fun H locs hw => ?_)
  have hA : zAr S (zsR Sa403 22 q392 (upd (zR Sa403 22 q392) (2 : Int32).toNatClampNeg 0)) q392 5 [0, 256, 0] := zAr.st (k := 2) hA kq392 (by decide) rfl
  generalize (zsR Sa403 22 q392 (upd (zR Sa403 22 q392) (2 : Int32).toNatClampNeg 0)) = Sa407 at hw hA
  refine lv_dup hx hb dL_law_408 rfl ?_
  refine lv_iconst (v := 3) hx hb dL_law_409 (by decide) ?_
  refine lv_iconst (v := 2) hx hb dL_law_410 (by decide) ?_
  refine zast_I (a := q392) C hw hA.2.1 hA.2.2.1 (zin_of (N := 5) (by decide) (by grind) (by grind)) dL_law_411 (fun H locs hw => ?_)
  have hA : zAr S (zsR Sa407 22 q392 (upd (zR Sa407 22 q392) (3 : Int32).toNatClampNeg 2)) q392 5 [0, 256, 0, 2] := zAr.st (k := 3) hA kq392 (by decide) rfl
  generalize (zsR Sa407 22 q392 (upd (zR Sa407 22 q392) (3 : Int32).toNatClampNeg 2)) = Sa411 at hw hA
  refine lv_dup hx hb dL_law_412 rfl ?_
  refine lv_iconst (v := 4) hx hb dL_law_413 (by decide) ?_
  refine lv_bipush (v := 110) hx hb dL_law_414 (by decide) ?_
  refine zast_I (a := q392) C hw hA.2.1 hA.2.2.1 (zin_of (N := 5) (by decide) (by grind) (by grind)) dL_law_416 (fun H locs hw => ?_)
  have hA : zAr S (zsR Sa411 22 q392 (upd (zR Sa411 22 q392) (4 : Int32).toNatClampNeg 110)) q392 5 [0, 256, 0, 2, 110] := zAr.st (k := 4) hA kq392 (by decide) rfl
  generalize (zsR Sa411 22 q392 (upd (zR Sa411 22 q392) (4 : Int32).toNatClampNeg 110)) = Sa416 at hw hA
  obtain ⟨hG, hK9, hN9, hA⟩ := hA
  have hj0 : zR Sa416 22 q392 0 = 0 := (hA 0 0 rfl).trans rfl
  have hj1 : zR Sa416 22 q392 1 = 256 := (hA 1 256 rfl).trans rfl
  have hj2 : zR Sa416 22 q392 2 = 0 := (hA 2 0 rfl).trans rfl
  have hj3 : zR Sa416 22 q392 3 = 2 := (hA 3 2 rfl).trans rfl
  have hj4 : zR Sa416 22 q392 4 = 110 := (hA 4 110 rfl).trans rfl
  have hNw := zNew.gw hG hNw
  refine zcSW_i (As := [.ref (a 0), .int 115, .ref q392]) (rest := []) (n9 := 3) C hw (c_L_ask_s_serial_r l hst D y base Sa416 a 0 256 0 2 110 q392 hNw.1 hNw.2.1 (by decide +kernel) hK9 hN9 hj0 hj1 hj2 hj3 hj4 (by decide)) gL_law_L_ask rfl (by decide +kernel) ⟨⟨rfl, rfl⟩, Nat.le_of_ble_eq_true rfl, Nat.le_of_ble_eq_true rfl⟩ rfl hl.1 rfl (Nat.le_of_ble_eq_true rfl) ⟨Nat.le_of_ble_eq_true rfl, Nat.le_of_ble_eq_true rfl⟩ dL_law_417 (fun r417 S417 H locs hp417 hw => ?_)
  have h9 : r417 = (-2000000002) ∧ S417 = Sa416 := by
    rcases hp417 with h | h
    · exact absurd h.1 (by decide +kernel)
    · exact h.2
  obtain ⟨rfl, hS9⟩ := h9
  have hS9 := hS9.symm
  subst hS9
  refine lv_ldc (own := RL) (v := (-2000000002)) hx hb hown (hts (.constant RL 71 (-2000000002)) (by decide +kernel)) dL_law_420 ?_
  refine lv_icmp_ne (tgt := 1945) hx hb dL_law_422 (by decide) (fun c422 => absurd c422 (by decide)) (fun _ => ?_)
  refine lv_aload_n hx hb dL_law_425 rfl (lv_at hl 0 rfl) ?_
  refine lv_bipush (v := 115) hx hb dL_law_426 (by decide) ?_
  refine lv_iconst (v := 5) hx hb dL_law_428 (by decide) ?_
  refine znewI (N := 5) C hw (by decide +kernel) (by decide) (by decide) (Nat.le_of_ble_eq_true rfl) (Nat.le_of_ble_eq_true rfl) (Nat.le_of_ble_eq_true rfl) dL_law_429 (fun q429 H kq429 hw => ?_)
  have hA : zAr Sa416 (znR Sa416 q429 22 5 (fun _ => 0)) q429 5 [] := zAr.new kq429
  generalize (znR Sa416 q429 22 5 (fun _ => 0)) = Sa429 at hw hA
  refine lv_dup hx hb dL_law_431 rfl ?_
  refine lv_iconst (v := 0) hx hb dL_law_432 (by decide) ?_
  refine lv_iconst (v := 0) hx hb dL_law_433 (by decide) ?_
  refine zast_I (a := q429) C hw hA.2.1 hA.2.2.1 (zin_of (N := 5) (by decide) (by grind) (by grind)) dL_law_434 (fun H locs hw => ?_)
  have hA : zAr Sa416 (zsR Sa429 22 q429 (upd (zR Sa429 22 q429) (0 : Int32).toNatClampNeg 0)) q429 5 [0] := zAr.st (k := 0) hA kq429 (by decide) rfl
  generalize (zsR Sa429 22 q429 (upd (zR Sa429 22 q429) (0 : Int32).toNatClampNeg 0)) = Sa434 at hw hA
  refine lv_dup hx hb dL_law_435 rfl ?_
  refine lv_iconst (v := 1) hx hb dL_law_436 (by decide) ?_
  refine lv_iconst (v := 0) hx hb dL_law_437 (by decide) ?_
  refine zast_I (a := q429) C hw hA.2.1 hA.2.2.1 (zin_of (N := 5) (by decide) (by grind) (by grind)) dL_law_438 (fun H locs hw => ?_)
  have hA : zAr Sa416 (zsR Sa434 22 q429 (upd (zR Sa434 22 q429) (1 : Int32).toNatClampNeg 0)) q429 5 [0, 0] := zAr.st (k := 1) hA kq429 (by decide) rfl
  generalize (zsR Sa434 22 q429 (upd (zR Sa434 22 q429) (1 : Int32).toNatClampNeg 0)) = Sa438 at hw hA
  refine lv_dup hx hb dL_law_439 rfl ?_
  refine lv_iconst (v := 2) hx hb dL_law_440 (by decide) ?_
  refine lv_iconst (v := 0) hx hb dL_law_441 (by decide) ?_
  refine zast_I (a := q429) C hw hA.2.1 hA.2.2.1 (zin_of (N := 5) (by decide) (by grind) (by grind)) dL_law_442 (fun H locs hw => ?_)
  have hA : zAr Sa416 (zsR Sa438 22 q429 (upd (zR Sa438 22 q429) (2 : Int32).toNatClampNeg 0)) q429 5 [0, 0, 0] := zAr.st (k := 2) hA kq429 (by decide) rfl
  generalize (zsR Sa438 22 q429 (upd (zR Sa438 22 q429) (2 : Int32).toNatClampNeg 0)) = Sa442 at hw hA
  refine lv_dup hx hb dL_law_443 rfl ?_
  refine lv_iconst (v := 3) hx hb dL_law_444 (by decide) ?_
  refine lv_iconst (v := 1) hx hb dL_law_445 (by decide) ?_
  refine zast_I (a := q429) C hw hA.2.1 hA.2.2.1 (zin_of (N := 5) (by decide) (by grind) (by grind)) dL_law_446 (fun H locs hw => ?_)
  have hA : zAr Sa416 (zsR Sa442 22 q429 (upd (zR Sa442 22 q429) (3 : Int32).toNatClampNeg 1)) q429 5 [0, 0, 0, 1] := zAr.st (k := 3) hA kq429 (by decide) rfl
  generalize (zsR Sa442 22 q429 (upd (zR Sa442 22 q429) (3 : Int32).toNatClampNeg 1)) = Sa446 at hw hA
  refine lv_dup hx hb dL_law_447 rfl ?_
  refine lv_iconst (v := 4) hx hb dL_law_448 (by decide) ?_
  refine lv_bipush (v := 110) hx hb dL_law_449 (by decide) ?_
  refine zast_I (a := q429) C hw hA.2.1 hA.2.2.1 (zin_of (N := 5) (by decide) (by grind) (by grind)) dL_law_451 (fun H locs hw => ?_)
  have hA : zAr Sa416 (zsR Sa446 22 q429 (upd (zR Sa446 22 q429) (4 : Int32).toNatClampNeg 110)) q429 5 [0, 0, 0, 1, 110] := zAr.st (k := 4) hA kq429 (by decide) rfl
  generalize (zsR Sa446 22 q429 (upd (zR Sa446 22 q429) (4 : Int32).toNatClampNeg 110)) = Sa451 at hw hA
  obtain ⟨hG, hK9, hN9, hA⟩ := hA
  have hj0 : zR Sa451 22 q429 0 = 0 := (hA 0 0 rfl).trans rfl
  have hj1 : zR Sa451 22 q429 1 = 0 := (hA 1 0 rfl).trans rfl
  have hj2 : zR Sa451 22 q429 2 = 0 := (hA 2 0 rfl).trans rfl
  have hj3 : zR Sa451 22 q429 3 = 1 := (hA 3 1 rfl).trans rfl
  have hj4 : zR Sa451 22 q429 4 = 110 := (hA 4 110 rfl).trans rfl
  have hNw := zNew.gw hG hNw
  refine zcSW_i (As := [.ref (a 0), .int 115, .ref q429]) (rest := []) (n9 := 3) C hw (c_L_ask_s_serial_r l hst D y base Sa451 a 0 0 0 1 110 q429 hNw.1 hNw.2.1 (by decide +kernel) hK9 hN9 hj0 hj1 hj2 hj3 hj4 (by decide)) gL_law_L_ask rfl (by decide +kernel) ⟨⟨rfl, rfl⟩, Nat.le_of_ble_eq_true rfl, Nat.le_of_ble_eq_true rfl⟩ rfl hl.1 rfl (Nat.le_of_ble_eq_true rfl) ⟨Nat.le_of_ble_eq_true rfl, Nat.le_of_ble_eq_true rfl⟩ dL_law_452 (fun r452 S452 H locs hp452 hw => ?_)
  have h9 : r452 = (-2000000002) ∧ S452 = Sa451 := by
    rcases hp452 with h | h
    · exact absurd h.1 (by decide +kernel)
    · exact h.2
  obtain ⟨rfl, hS9⟩ := h9
  have hS9 := hS9.symm
  subst hS9
  refine lv_ldc (own := RL) (v := (-2000000002)) hx hb hown (hts (.constant RL 71 (-2000000002)) (by decide +kernel)) dL_law_455 ?_
  refine lv_icmp_ne (tgt := 1945) hx hb dL_law_457 (by decide) (fun c457 => absurd c457 (by decide)) (fun _ => ?_)
  exact law_part_6 hst C hr hlocks hy31 hNw hDs hbase hw hl

set_option maxHeartbeats 4000000 in
set_option maxRecDepth 100000 in
theorem law_part_4 {p : Program} {l : Launch} {e : Env} {s : State} {m : MethodId} {below : List Frame} {meth : Method} {c : Code} {H : Heap} {locs : List Loc} {ls : Array Slot} {D : va_G} {y : Nat → ClassId} {base : Nat} {S : zS} {a : Nat → Nat} {bs : Nat} (hst : l.stackTraces = false) (C : CallFix p m c code 2 s #[Value.ref bs] wsL_law RL) (hr : meth.sig.returnType = ret) (hlocks : meth.locks = false) (hy31 : y 99 < 2 ^ 31) (hNw : zNew S a) (hDs : zDs a) (hbase : base = s.heap.size) (hw : zW D y base S s H locs) (hl : lv_has ls 2 [(1, .ref (a 0)), (0, .ref (y 98))]) : W p l e room_1 s m #[Value.ref bs] below meth c H locs 76 5860 (lw_Z below #[Value.ref bs] s) (F0 m 334 ls []) := by
  have hx := C.1
  have hb := C.2.1
  have hown := C.2.2.2.1
  have hts := C.2.2.2.2
  refine lv_aload_n hx hb dL_law_334 rfl (lv_at hl 0 rfl) ?_
  refine lv_bipush (v := 68) hx hb dL_law_335 (by decide) ?_
  refine lv_iconst (v := 1) hx hb dL_law_337 (by decide) ?_
  refine znewI (N := 1) C hw (by decide +kernel) (by decide) (by decide) (Nat.le_of_ble_eq_true rfl) (Nat.le_of_ble_eq_true rfl) (Nat.le_of_ble_eq_true rfl) dL_law_338 (fun q338 H kq338 hw => ?_)
  have hA : zAr S (znR S q338 22 1 (fun _ => 0)) q338 1 [] := zAr.new kq338
  generalize (znR S q338 22 1 (fun _ => 0)) = Sa338 at hw hA
  refine lv_dup hx hb dL_law_340 rfl ?_
  refine lv_iconst (v := 0) hx hb dL_law_341 (by decide) ?_
  refine lv_bipush (v := (-51)) hx hb dL_law_342 (by decide) ?_
  refine zast_I (a := q338) C hw hA.2.1 hA.2.2.1 (zin_of (N := 1) (by decide) (by grind) (by grind)) dL_law_344 (fun H locs hw => ?_)
  have hA : zAr S (zsR Sa338 22 q338 (upd (zR Sa338 22 q338) (0 : Int32).toNatClampNeg (-51))) q338 1 [(-51)] := zAr.st (k := 0) hA kq338 (by decide) rfl
  generalize (zsR Sa338 22 q338 (upd (zR Sa338 22 q338) (0 : Int32).toNatClampNeg (-51))) = Sa344 at hw hA
  obtain ⟨hG, hK9, hN9, hA⟩ := hA
  have hj0 : zR Sa344 22 q338 0 = (-51) := (hA 0 (-51) rfl).trans rfl
  have hNw := zNew.gw hG hNw
  refine zcSW_i (As := [.ref (a 0), .int 68, .ref q338]) (rest := []) (n9 := 3) C hw (c_L_ask_D_drift_r l hst D y base Sa344 a (-51) q338 hNw.1 hNw.2.1 (by decide +kernel) hK9 hN9 hj0) gL_law_L_ask rfl (by decide +kernel) ⟨⟨rfl, rfl⟩, Nat.le_of_ble_eq_true rfl, Nat.le_of_ble_eq_true rfl⟩ rfl hl.1 rfl (Nat.le_of_ble_eq_true rfl) ⟨Nat.le_of_ble_eq_true rfl, Nat.le_of_ble_eq_true rfl⟩ dL_law_345 (fun r345 S345 H locs hp345 hw => ?_)
  have h9 : r345 = (-2000000002) ∧ S345 = Sa344 := hp345.2
  obtain ⟨rfl, hS9⟩ := h9
  have hS9 := hS9.symm
  subst hS9
  refine lv_ldc (own := RL) (v := (-2000000002)) hx hb hown (hts (.constant RL 71 (-2000000002)) (by decide +kernel)) dL_law_348 ?_
  refine lv_icmp_ne (tgt := 1945) hx hb dL_law_350 (by decide) (fun c350 => absurd c350 (by decide)) (fun _ => ?_)
  refine lv_aload_n hx hb dL_law_353 rfl (lv_at hl 0 rfl) ?_
  refine lv_bipush (v := 115) hx hb dL_law_354 (by decide) ?_
  refine lv_iconst (v := 5) hx hb dL_law_356 (by decide) ?_
  refine znewI (N := 5) C hw (by decide +kernel) (by decide) (by decide) (Nat.le_of_ble_eq_true rfl) (Nat.le_of_ble_eq_true rfl) (Nat.le_of_ble_eq_true rfl) dL_law_357 (fun q357 H kq357 hw => ?_)
  have hA : zAr Sa344 (znR Sa344 q357 22 5 (fun _ => 0)) q357 5 [] := zAr.new kq357
  generalize (znR Sa344 q357 22 5 (fun _ => 0)) = Sa357 at hw hA
  refine lv_dup hx hb dL_law_359 rfl ?_
  refine lv_iconst (v := 0) hx hb dL_law_360 (by decide) ?_
  refine lv_iconst (v := 4) hx hb dL_law_361 (by decide) ?_
  refine zast_I (a := q357) C hw hA.2.1 hA.2.2.1 (zin_of (N := 5) (by decide) (by grind) (by grind)) dL_law_362 (fun H locs hw => ?_)
  have hA : zAr Sa344 (zsR Sa357 22 q357 (upd (zR Sa357 22 q357) (0 : Int32).toNatClampNeg 4)) q357 5 [4] := zAr.st (k := 0) hA kq357 (by decide) rfl
  generalize (zsR Sa357 22 q357 (upd (zR Sa357 22 q357) (0 : Int32).toNatClampNeg 4)) = Sa362 at hw hA
  refine lv_dup hx hb dL_law_363 rfl ?_
  refine lv_iconst (v := 1) hx hb dL_law_364 (by decide) ?_
  refine lv_iconst (v := 0) hx hb dL_law_365 (by decide) ?_
  refine zast_I (a := q357) C hw hA.2.1 hA.2.2.1 (zin_of (N := 5) (by decide) (by grind) (by grind)) dL_law_366 (fun H locs hw => ?_)
  have hA : zAr Sa344 (zsR Sa362 22 q357 (upd (zR Sa362 22 q357) (1 : Int32).toNatClampNeg 0)) q357 5 [4, 0] := zAr.st (k := 1) hA kq357 (by decide) rfl
  generalize (zsR Sa362 22 q357 (upd (zR Sa362 22 q357) (1 : Int32).toNatClampNeg 0)) = Sa366 at hw hA
  refine lv_dup hx hb dL_law_367 rfl ?_
  refine lv_iconst (v := 2) hx hb dL_law_368 (by decide) ?_
  refine lv_iconst (v := 0) hx hb dL_law_369 (by decide) ?_
  refine zast_I (a := q357) C hw hA.2.1 hA.2.2.1 (zin_of (N := 5) (by decide) (by grind) (by grind)) dL_law_370 (fun H locs hw => ?_)
  have hA : zAr Sa344 (zsR Sa366 22 q357 (upd (zR Sa366 22 q357) (2 : Int32).toNatClampNeg 0)) q357 5 [4, 0, 0] := zAr.st (k := 2) hA kq357 (by decide) rfl
  generalize (zsR Sa366 22 q357 (upd (zR Sa366 22 q357) (2 : Int32).toNatClampNeg 0)) = Sa370 at hw hA
  refine lv_dup hx hb dL_law_371 rfl ?_
  refine lv_iconst (v := 3) hx hb dL_law_372 (by decide) ?_
  refine lv_iconst (v := 2) hx hb dL_law_373 (by decide) ?_
  refine zast_I (a := q357) C hw hA.2.1 hA.2.2.1 (zin_of (N := 5) (by decide) (by grind) (by grind)) dL_law_374 (fun H locs hw => ?_)
  have hA : zAr Sa344 (zsR Sa370 22 q357 (upd (zR Sa370 22 q357) (3 : Int32).toNatClampNeg 2)) q357 5 [4, 0, 0, 2] := zAr.st (k := 3) hA kq357 (by decide) rfl
  generalize (zsR Sa370 22 q357 (upd (zR Sa370 22 q357) (3 : Int32).toNatClampNeg 2)) = Sa374 at hw hA
  refine lv_dup hx hb dL_law_375 rfl ?_
  refine lv_iconst (v := 4) hx hb dL_law_376 (by decide) ?_
  refine lv_bipush (v := 110) hx hb dL_law_377 (by decide) ?_
  refine zast_I (a := q357) C hw hA.2.1 hA.2.2.1 (zin_of (N := 5) (by decide) (by grind) (by grind)) dL_law_379 (fun H locs hw => ?_)
  have hA : zAr Sa344 (zsR Sa374 22 q357 (upd (zR Sa374 22 q357) (4 : Int32).toNatClampNeg 110)) q357 5 [4, 0, 0, 2, 110] := zAr.st (k := 4) hA kq357 (by decide) rfl
  generalize (zsR Sa374 22 q357 (upd (zR Sa374 22 q357) (4 : Int32).toNatClampNeg 110)) = Sa379 at hw hA
  obtain ⟨hG, hK9, hN9, hA⟩ := hA
  have hj0 : zR Sa379 22 q357 0 = 4 := (hA 0 4 rfl).trans rfl
  have hj1 : zR Sa379 22 q357 1 = 0 := (hA 1 0 rfl).trans rfl
  have hj2 : zR Sa379 22 q357 2 = 0 := (hA 2 0 rfl).trans rfl
  have hj3 : zR Sa379 22 q357 3 = 2 := (hA 3 2 rfl).trans rfl
  have hj4 : zR Sa379 22 q357 4 = 110 := (hA 4 110 rfl).trans rfl
  have hNw := zNew.gw hG hNw
  refine zcSW_i (As := [.ref (a 0), .int 115, .ref q357]) (rest := []) (n9 := 3) C hw (c_L_ask_s_serial_r l hst D y base Sa379 a 4 0 0 2 110 q357 hNw.1 hNw.2.1 (by decide +kernel) hK9 hN9 hj0 hj1 hj2 hj3 hj4 (by decide)) gL_law_L_ask rfl (by decide +kernel) ⟨⟨rfl, rfl⟩, Nat.le_of_ble_eq_true rfl, Nat.le_of_ble_eq_true rfl⟩ rfl hl.1 rfl (Nat.le_of_ble_eq_true rfl) ⟨Nat.le_of_ble_eq_true rfl, Nat.le_of_ble_eq_true rfl⟩ dL_law_380 (fun r380 S380 H locs hp380 hw => ?_)
  have h9 : r380 = (-2000000001) ∧ S380 = Sa379 := by
    rcases hp380 with h | h
    · exact h.2
    · exact absurd h.1 (by decide +kernel)
  obtain ⟨rfl, hS9⟩ := h9
  have hS9 := hS9.symm
  subst hS9
  refine lv_ldc (own := RL) (v := (-2000000001)) hx hb hown (hts (.constant RL 68 (-2000000001)) (by decide +kernel)) dL_law_383 ?_
  refine lv_icmp_ne (tgt := 1945) hx hb dL_law_385 (by decide) (fun c385 => absurd c385 (by decide)) (fun _ => ?_)
  exact law_part_5 hst C hr hlocks hy31 hNw hDs hbase hw hl

set_option maxHeartbeats 4000000 in
set_option maxRecDepth 100000 in
theorem law_part_3 {p : Program} {l : Launch} {e : Env} {s : State} {m : MethodId} {below : List Frame} {meth : Method} {c : Code} {H : Heap} {locs : List Loc} {ls : Array Slot} {D : va_G} {y : Nat → ClassId} {base : Nat} {S : zS} {a : Nat → Nat} {bs : Nat} (hst : l.stackTraces = false) (C : CallFix p m c code 2 s #[Value.ref bs] wsL_law RL) (hr : meth.sig.returnType = ret) (hlocks : meth.locks = false) (hy31 : y 99 < 2 ^ 31) (hNw : zNew S a) (hDs : zDs a) (hbase : base = s.heap.size) (hw : zW D y base S s H locs) (hl : lv_has ls 2 [(1, .ref (a 0)), (0, .ref (y 98))]) : W p l e room_1 s m #[Value.ref bs] below meth c H locs 64 5799 (lw_Z below #[Value.ref bs] s) (F0 m 260 ls []) := by
  have hx := C.1
  have hb := C.2.1
  have hown := C.2.2.2.1
  have hts := C.2.2.2.2
  refine lv_aload_n hx hb dL_law_260 rfl (lv_at hl 0 rfl) ?_
  refine lv_bipush (v := 103) hx hb dL_law_261 (by decide) ?_
  refine lv_iconst (v := 3) hx hb dL_law_263 (by decide) ?_
  refine znewI (N := 3) C hw (by decide +kernel) (by decide) (by decide) (Nat.le_of_ble_eq_true rfl) (Nat.le_of_ble_eq_true rfl) (Nat.le_of_ble_eq_true rfl) dL_law_264 (fun q264 H kq264 hw => ?_)
  have hA : zAr S (znR S q264 22 3 (fun _ => 0)) q264 3 [] := zAr.new kq264
  generalize (znR S q264 22 3 (fun _ => 0)) = Sa264 at hw hA
  refine lv_dup hx hb dL_law_266 rfl ?_
  refine lv_iconst (v := 0) hx hb dL_law_267 (by decide) ?_
  refine lv_iconst (v := 0) hx hb dL_law_268 (by decide) ?_
  refine zast_I (a := q264) C hw hA.2.1 hA.2.2.1 (zin_of (N := 3) (by decide) (by grind) (by grind)) dL_law_269 (fun H locs hw => ?_)
  have hA : zAr S (zsR Sa264 22 q264 (upd (zR Sa264 22 q264) (0 : Int32).toNatClampNeg 0)) q264 3 [0] := zAr.st (k := 0) hA kq264 (by decide) rfl
  generalize (zsR Sa264 22 q264 (upd (zR Sa264 22 q264) (0 : Int32).toNatClampNeg 0)) = Sa269 at hw hA
  refine lv_dup hx hb dL_law_270 rfl ?_
  refine lv_iconst (v := 1) hx hb dL_law_271 (by decide) ?_
  refine lv_iconst (v := 0) hx hb dL_law_272 (by decide) ?_
  refine zast_I (a := q264) C hw hA.2.1 hA.2.2.1 (zin_of (N := 3) (by decide) (by grind) (by grind)) dL_law_273 (fun H locs hw => ?_)
  have hA : zAr S (zsR Sa269 22 q264 (upd (zR Sa269 22 q264) (1 : Int32).toNatClampNeg 0)) q264 3 [0, 0] := zAr.st (k := 1) hA kq264 (by decide) rfl
  generalize (zsR Sa269 22 q264 (upd (zR Sa269 22 q264) (1 : Int32).toNatClampNeg 0)) = Sa273 at hw hA
  refine lv_dup hx hb dL_law_274 rfl ?_
  refine lv_iconst (v := 2) hx hb dL_law_275 (by decide) ?_
  refine lv_bipush (v := 100) hx hb dL_law_276 (by decide) ?_
  refine zast_I (a := q264) C hw hA.2.1 hA.2.2.1 (zin_of (N := 3) (by decide) (by grind) (by grind)) dL_law_278 (fun H locs hw => ?_)
  have hA : zAr S (zsR Sa273 22 q264 (upd (zR Sa273 22 q264) (2 : Int32).toNatClampNeg 100)) q264 3 [0, 0, 100] := zAr.st (k := 2) hA kq264 (by decide) rfl
  generalize (zsR Sa273 22 q264 (upd (zR Sa273 22 q264) (2 : Int32).toNatClampNeg 100)) = Sa278 at hw hA
  obtain ⟨hG, hK9, hN9, hA⟩ := hA
  have hj0 : zR Sa278 22 q264 0 = 0 := (hA 0 0 rfl).trans rfl
  have hj1 : zR Sa278 22 q264 1 = 0 := (hA 1 0 rfl).trans rfl
  have hj2 : zR Sa278 22 q264 2 = 100 := (hA 2 100 rfl).trans rfl
  have hNw := zNew.gw hG hNw
  refine zcSW_i (As := [.ref (a 0), .int 103, .ref q264]) (rest := []) (n9 := 3) C hw (c_L_ask_g_glitch_r l hst D y base Sa278 a 0 0 100 q264 hNw.1 hNw.2.1 (by decide +kernel) hK9 hN9 hj0 hj1 hj2) gL_law_L_ask rfl (by decide +kernel) ⟨⟨rfl, rfl⟩, Nat.le_of_ble_eq_true rfl, Nat.le_of_ble_eq_true rfl⟩ rfl hl.1 rfl (Nat.le_of_ble_eq_true rfl) ⟨Nat.le_of_ble_eq_true rfl, Nat.le_of_ble_eq_true rfl⟩ dL_law_279 (fun r279 S279 H locs hp279 hw => ?_)
  have h9 : r279 = (-2000000002) ∧ S279 = Sa278 := by
    rcases hp279 with h | h
    · exact absurd h.1 (by decide +kernel)
    · exact h.2
  obtain ⟨rfl, hS9⟩ := h9
  have hS9 := hS9.symm
  subst hS9
  refine lv_ldc (own := RL) (v := (-2000000002)) hx hb hown (hts (.constant RL 71 (-2000000002)) (by decide +kernel)) dL_law_282 ?_
  refine lv_icmp_ne (tgt := 1945) hx hb dL_law_284 (by decide) (fun c284 => absurd c284 (by decide)) (fun _ => ?_)
  refine lv_aload_n hx hb dL_law_287 rfl (lv_at hl 0 rfl) ?_
  refine lv_bipush (v := 103) hx hb dL_law_288 (by decide) ?_
  refine lv_iconst (v := 3) hx hb dL_law_290 (by decide) ?_
  refine znewI (N := 3) C hw (by decide +kernel) (by decide) (by decide) (Nat.le_of_ble_eq_true rfl) (Nat.le_of_ble_eq_true rfl) (Nat.le_of_ble_eq_true rfl) dL_law_291 (fun q291 H kq291 hw => ?_)
  have hA : zAr Sa278 (znR Sa278 q291 22 3 (fun _ => 0)) q291 3 [] := zAr.new kq291
  generalize (znR Sa278 q291 22 3 (fun _ => 0)) = Sa291 at hw hA
  refine lv_dup hx hb dL_law_293 rfl ?_
  refine lv_iconst (v := 0) hx hb dL_law_294 (by decide) ?_
  refine lv_iconst (v := 0) hx hb dL_law_295 (by decide) ?_
  refine zast_I (a := q291) C hw hA.2.1 hA.2.2.1 (zin_of (N := 3) (by decide) (by grind) (by grind)) dL_law_296 (fun H locs hw => ?_)
  have hA : zAr Sa278 (zsR Sa291 22 q291 (upd (zR Sa291 22 q291) (0 : Int32).toNatClampNeg 0)) q291 3 [0] := zAr.st (k := 0) hA kq291 (by decide) rfl
  generalize (zsR Sa291 22 q291 (upd (zR Sa291 22 q291) (0 : Int32).toNatClampNeg 0)) = Sa296 at hw hA
  refine lv_dup hx hb dL_law_297 rfl ?_
  refine lv_iconst (v := 1) hx hb dL_law_298 (by decide) ?_
  refine lv_sipush (v := 9999) hx hb dL_law_299 (by decide) ?_
  refine zast_I (a := q291) C hw hA.2.1 hA.2.2.1 (zin_of (N := 3) (by decide) (by grind) (by grind)) dL_law_302 (fun H locs hw => ?_)
  have hA : zAr Sa278 (zsR Sa296 22 q291 (upd (zR Sa296 22 q291) (1 : Int32).toNatClampNeg 9999)) q291 3 [0, 9999] := zAr.st (k := 1) hA kq291 (by decide) rfl
  generalize (zsR Sa296 22 q291 (upd (zR Sa296 22 q291) (1 : Int32).toNatClampNeg 9999)) = Sa302 at hw hA
  refine lv_dup hx hb dL_law_303 rfl ?_
  refine lv_iconst (v := 2) hx hb dL_law_304 (by decide) ?_
  refine lv_iconst (v := 1) hx hb dL_law_305 (by decide) ?_
  refine zast_I (a := q291) C hw hA.2.1 hA.2.2.1 (zin_of (N := 3) (by decide) (by grind) (by grind)) dL_law_306 (fun H locs hw => ?_)
  have hA : zAr Sa278 (zsR Sa302 22 q291 (upd (zR Sa302 22 q291) (2 : Int32).toNatClampNeg 1)) q291 3 [0, 9999, 1] := zAr.st (k := 2) hA kq291 (by decide) rfl
  generalize (zsR Sa302 22 q291 (upd (zR Sa302 22 q291) (2 : Int32).toNatClampNeg 1)) = Sa306 at hw hA
  obtain ⟨hG, hK9, hN9, hA⟩ := hA
  have hj0 : zR Sa306 22 q291 0 = 0 := (hA 0 0 rfl).trans rfl
  have hj1 : zR Sa306 22 q291 1 = 9999 := (hA 1 9999 rfl).trans rfl
  have hj2 : zR Sa306 22 q291 2 = 1 := (hA 2 1 rfl).trans rfl
  have hNw := zNew.gw hG hNw
  refine zcSW_i (As := [.ref (a 0), .int 103, .ref q291]) (rest := []) (n9 := 3) C hw (c_L_ask_g_glitch_r l hst D y base Sa306 a 0 9999 1 q291 hNw.1 hNw.2.1 (by decide +kernel) hK9 hN9 hj0 hj1 hj2) gL_law_L_ask rfl (by decide +kernel) ⟨⟨rfl, rfl⟩, Nat.le_of_ble_eq_true rfl, Nat.le_of_ble_eq_true rfl⟩ rfl hl.1 rfl (Nat.le_of_ble_eq_true rfl) ⟨Nat.le_of_ble_eq_true rfl, Nat.le_of_ble_eq_true rfl⟩ dL_law_307 (fun r307 S307 H locs hp307 hw => ?_)
  have h9 : r307 = (-2000000002) ∧ S307 = Sa306 := by
    rcases hp307 with h | h
    · exact absurd h.1 (by decide +kernel)
    · exact h.2
  obtain ⟨rfl, hS9⟩ := h9
  have hS9 := hS9.symm
  subst hS9
  refine lv_ldc (own := RL) (v := (-2000000002)) hx hb hown (hts (.constant RL 71 (-2000000002)) (by decide +kernel)) dL_law_310 ?_
  refine lv_icmp_ne (tgt := 1945) hx hb dL_law_312 (by decide) (fun c312 => absurd c312 (by decide)) (fun _ => ?_)
  refine lv_aload_n hx hb dL_law_315 rfl (lv_at hl 0 rfl) ?_
  refine lv_bipush (v := 68) hx hb dL_law_316 (by decide) ?_
  refine lv_iconst (v := 1) hx hb dL_law_318 (by decide) ?_
  refine znewI (N := 1) C hw (by decide +kernel) (by decide) (by decide) (Nat.le_of_ble_eq_true rfl) (Nat.le_of_ble_eq_true rfl) (Nat.le_of_ble_eq_true rfl) dL_law_319 (fun q319 H kq319 hw => ?_)
  have hA : zAr Sa306 (znR Sa306 q319 22 1 (fun _ => 0)) q319 1 [] := zAr.new kq319
  generalize (znR Sa306 q319 22 1 (fun _ => 0)) = Sa319 at hw hA
  refine lv_dup hx hb dL_law_321 rfl ?_
  refine lv_iconst (v := 0) hx hb dL_law_322 (by decide) ?_
  refine lv_bipush (v := 51) hx hb dL_law_323 (by decide) ?_
  refine zast_I (a := q319) C hw hA.2.1 hA.2.2.1 (zin_of (N := 1) (by decide) (by grind) (by grind)) dL_law_325 (fun H locs hw => ?_)
  have hA : zAr Sa306 (zsR Sa319 22 q319 (upd (zR Sa319 22 q319) (0 : Int32).toNatClampNeg 51)) q319 1 [51] := zAr.st (k := 0) hA kq319 (by decide) rfl
  generalize (zsR Sa319 22 q319 (upd (zR Sa319 22 q319) (0 : Int32).toNatClampNeg 51)) = Sa325 at hw hA
  obtain ⟨hG, hK9, hN9, hA⟩ := hA
  have hj0 : zR Sa325 22 q319 0 = 51 := (hA 0 51 rfl).trans rfl
  have hNw := zNew.gw hG hNw
  refine zcSW_i (As := [.ref (a 0), .int 68, .ref q319]) (rest := []) (n9 := 3) C hw (c_L_ask_D_drift_r l hst D y base Sa325 a 51 q319 hNw.1 hNw.2.1 (by decide +kernel) hK9 hN9 hj0) gL_law_L_ask rfl (by decide +kernel) ⟨⟨rfl, rfl⟩, Nat.le_of_ble_eq_true rfl, Nat.le_of_ble_eq_true rfl⟩ rfl hl.1 rfl (Nat.le_of_ble_eq_true rfl) ⟨Nat.le_of_ble_eq_true rfl, Nat.le_of_ble_eq_true rfl⟩ dL_law_326 (fun r326 S326 H locs hp326 hw => ?_)
  have h9 : r326 = (-2000000002) ∧ S326 = Sa325 := hp326.2
  obtain ⟨rfl, hS9⟩ := h9
  have hS9 := hS9.symm
  subst hS9
  refine lv_ldc (own := RL) (v := (-2000000002)) hx hb hown (hts (.constant RL 71 (-2000000002)) (by decide +kernel)) dL_law_329 ?_
  refine lv_icmp_ne (tgt := 1945) hx hb dL_law_331 (by decide) (fun c331 => absurd c331 (by decide)) (fun _ => ?_)
  exact law_part_4 hst C hr hlocks hy31 hNw hDs hbase hw hl

set_option maxHeartbeats 4000000 in
set_option maxRecDepth 100000 in
theorem law_part_2 {p : Program} {l : Launch} {e : Env} {s : State} {m : MethodId} {below : List Frame} {meth : Method} {c : Code} {H : Heap} {locs : List Loc} {ls : Array Slot} {D : va_G} {y : Nat → ClassId} {base : Nat} {S : zS} {a : Nat → Nat} {bs : Nat} (hst : l.stackTraces = false) (C : CallFix p m c code 2 s #[Value.ref bs] wsL_law RL) (hr : meth.sig.returnType = ret) (hlocks : meth.locks = false) (hy31 : y 99 < 2 ^ 31) (hNw : zNew S a) (hDs : zDs a) (hbase : base = s.heap.size) (hw : zW D y base S s H locs) (hl : lv_has ls 2 [(1, .ref (a 0)), (0, .ref (y 98))]) : W p l e room_1 s m #[Value.ref bs] below meth c H locs 54 5745 (lw_Z below #[Value.ref bs] s) (F0 m 208 ls []) := by
  have hx := C.1
  have hb := C.2.1
  have hown := C.2.2.2.1
  have hts := C.2.2.2.2
  refine lv_aload_n hx hb dL_law_208 rfl (lv_at hl 0 rfl) ?_
  refine lv_bipush (v := 103) hx hb dL_law_209 (by decide) ?_
  refine lv_iconst (v := 3) hx hb dL_law_211 (by decide) ?_
  refine znewI (N := 3) C hw (by decide +kernel) (by decide) (by decide) (Nat.le_of_ble_eq_true rfl) (Nat.le_of_ble_eq_true rfl) (Nat.le_of_ble_eq_true rfl) dL_law_212 (fun q212 H kq212 hw => ?_)
  have hA : zAr S (znR S q212 22 3 (fun _ => 0)) q212 3 [] := zAr.new kq212
  generalize (znR S q212 22 3 (fun _ => 0)) = Sa212 at hw hA
  refine lv_dup hx hb dL_law_214 rfl ?_
  refine lv_iconst (v := 0) hx hb dL_law_215 (by decide) ?_
  refine lv_iconst (v := 4) hx hb dL_law_216 (by decide) ?_
  refine zast_I (a := q212) C hw hA.2.1 hA.2.2.1 (zin_of (N := 3) (by decide) (by grind) (by grind)) dL_law_217 (fun H locs hw => ?_)
  have hA : zAr S (zsR Sa212 22 q212 (upd (zR Sa212 22 q212) (0 : Int32).toNatClampNeg 4)) q212 3 [4] := zAr.st (k := 0) hA kq212 (by decide) rfl
  generalize (zsR Sa212 22 q212 (upd (zR Sa212 22 q212) (0 : Int32).toNatClampNeg 4)) = Sa217 at hw hA
  refine lv_dup hx hb dL_law_218 rfl ?_
  refine lv_iconst (v := 1) hx hb dL_law_219 (by decide) ?_
  refine lv_iconst (v := 0) hx hb dL_law_220 (by decide) ?_
  refine zast_I (a := q212) C hw hA.2.1 hA.2.2.1 (zin_of (N := 3) (by decide) (by grind) (by grind)) dL_law_221 (fun H locs hw => ?_)
  have hA : zAr S (zsR Sa217 22 q212 (upd (zR Sa217 22 q212) (1 : Int32).toNatClampNeg 0)) q212 3 [4, 0] := zAr.st (k := 1) hA kq212 (by decide) rfl
  generalize (zsR Sa217 22 q212 (upd (zR Sa217 22 q212) (1 : Int32).toNatClampNeg 0)) = Sa221 at hw hA
  refine lv_dup hx hb dL_law_222 rfl ?_
  refine lv_iconst (v := 2) hx hb dL_law_223 (by decide) ?_
  refine lv_iconst (v := 1) hx hb dL_law_224 (by decide) ?_
  refine zast_I (a := q212) C hw hA.2.1 hA.2.2.1 (zin_of (N := 3) (by decide) (by grind) (by grind)) dL_law_225 (fun H locs hw => ?_)
  have hA : zAr S (zsR Sa221 22 q212 (upd (zR Sa221 22 q212) (2 : Int32).toNatClampNeg 1)) q212 3 [4, 0, 1] := zAr.st (k := 2) hA kq212 (by decide) rfl
  generalize (zsR Sa221 22 q212 (upd (zR Sa221 22 q212) (2 : Int32).toNatClampNeg 1)) = Sa225 at hw hA
  obtain ⟨hG, hK9, hN9, hA⟩ := hA
  have hj0 : zR Sa225 22 q212 0 = 4 := (hA 0 4 rfl).trans rfl
  have hj1 : zR Sa225 22 q212 1 = 0 := (hA 1 0 rfl).trans rfl
  have hj2 : zR Sa225 22 q212 2 = 1 := (hA 2 1 rfl).trans rfl
  have hNw := zNew.gw hG hNw
  refine zcSW_i (As := [.ref (a 0), .int 103, .ref q212]) (rest := []) (n9 := 3) C hw (c_L_ask_g_glitch_r l hst D y base Sa225 a 4 0 1 q212 hNw.1 hNw.2.1 (by decide +kernel) hK9 hN9 hj0 hj1 hj2) gL_law_L_ask rfl (by decide +kernel) ⟨⟨rfl, rfl⟩, Nat.le_of_ble_eq_true rfl, Nat.le_of_ble_eq_true rfl⟩ rfl hl.1 rfl (Nat.le_of_ble_eq_true rfl) ⟨Nat.le_of_ble_eq_true rfl, Nat.le_of_ble_eq_true rfl⟩ dL_law_226 (fun r226 S226 H locs hp226 hw => ?_)
  have h9 : r226 = (-2000000001) ∧ S226 = Sa225 := by
    rcases hp226 with h | h
    · exact h.2
    · exact absurd h.1 (by decide +kernel)
  obtain ⟨rfl, hS9⟩ := h9
  have hS9 := hS9.symm
  subst hS9
  refine lv_ldc (own := RL) (v := (-2000000001)) hx hb hown (hts (.constant RL 68 (-2000000001)) (by decide +kernel)) dL_law_229 ?_
  refine lv_icmp_ne (tgt := 1945) hx hb dL_law_231 (by decide) (fun c231 => absurd c231 (by decide)) (fun _ => ?_)
  refine lv_aload_n hx hb dL_law_234 rfl (lv_at hl 0 rfl) ?_
  refine lv_bipush (v := 103) hx hb dL_law_235 (by decide) ?_
  refine lv_iconst (v := 3) hx hb dL_law_237 (by decide) ?_
  refine znewI (N := 3) C hw (by decide +kernel) (by decide) (by decide) (Nat.le_of_ble_eq_true rfl) (Nat.le_of_ble_eq_true rfl) (Nat.le_of_ble_eq_true rfl) dL_law_238 (fun q238 H kq238 hw => ?_)
  have hA : zAr Sa225 (znR Sa225 q238 22 3 (fun _ => 0)) q238 3 [] := zAr.new kq238
  generalize (znR Sa225 q238 22 3 (fun _ => 0)) = Sa238 at hw hA
  refine lv_dup hx hb dL_law_240 rfl ?_
  refine lv_iconst (v := 0) hx hb dL_law_241 (by decide) ?_
  refine lv_iconst (v := 0) hx hb dL_law_242 (by decide) ?_
  refine zast_I (a := q238) C hw hA.2.1 hA.2.2.1 (zin_of (N := 3) (by decide) (by grind) (by grind)) dL_law_243 (fun H locs hw => ?_)
  have hA : zAr Sa225 (zsR Sa238 22 q238 (upd (zR Sa238 22 q238) (0 : Int32).toNatClampNeg 0)) q238 3 [0] := zAr.st (k := 0) hA kq238 (by decide) rfl
  generalize (zsR Sa238 22 q238 (upd (zR Sa238 22 q238) (0 : Int32).toNatClampNeg 0)) = Sa243 at hw hA
  refine lv_dup hx hb dL_law_244 rfl ?_
  refine lv_iconst (v := 1) hx hb dL_law_245 (by decide) ?_
  refine lv_iconst (v := 0) hx hb dL_law_246 (by decide) ?_
  refine zast_I (a := q238) C hw hA.2.1 hA.2.2.1 (zin_of (N := 3) (by decide) (by grind) (by grind)) dL_law_247 (fun H locs hw => ?_)
  have hA : zAr Sa225 (zsR Sa243 22 q238 (upd (zR Sa243 22 q238) (1 : Int32).toNatClampNeg 0)) q238 3 [0, 0] := zAr.st (k := 1) hA kq238 (by decide) rfl
  generalize (zsR Sa243 22 q238 (upd (zR Sa243 22 q238) (1 : Int32).toNatClampNeg 0)) = Sa247 at hw hA
  refine lv_dup hx hb dL_law_248 rfl ?_
  refine lv_iconst (v := 2) hx hb dL_law_249 (by decide) ?_
  refine lv_iconst (v := 0) hx hb dL_law_250 (by decide) ?_
  refine zast_I (a := q238) C hw hA.2.1 hA.2.2.1 (zin_of (N := 3) (by decide) (by grind) (by grind)) dL_law_251 (fun H locs hw => ?_)
  have hA : zAr Sa225 (zsR Sa247 22 q238 (upd (zR Sa247 22 q238) (2 : Int32).toNatClampNeg 0)) q238 3 [0, 0, 0] := zAr.st (k := 2) hA kq238 (by decide) rfl
  generalize (zsR Sa247 22 q238 (upd (zR Sa247 22 q238) (2 : Int32).toNatClampNeg 0)) = Sa251 at hw hA
  obtain ⟨hG, hK9, hN9, hA⟩ := hA
  have hj0 : zR Sa251 22 q238 0 = 0 := (hA 0 0 rfl).trans rfl
  have hj1 : zR Sa251 22 q238 1 = 0 := (hA 1 0 rfl).trans rfl
  have hj2 : zR Sa251 22 q238 2 = 0 := (hA 2 0 rfl).trans rfl
  have hNw := zNew.gw hG hNw
  refine zcSW_i (As := [.ref (a 0), .int 103, .ref q238]) (rest := []) (n9 := 3) C hw (c_L_ask_g_glitch_r l hst D y base Sa251 a 0 0 0 q238 hNw.1 hNw.2.1 (by decide +kernel) hK9 hN9 hj0 hj1 hj2) gL_law_L_ask rfl (by decide +kernel) ⟨⟨rfl, rfl⟩, Nat.le_of_ble_eq_true rfl, Nat.le_of_ble_eq_true rfl⟩ rfl hl.1 rfl (Nat.le_of_ble_eq_true rfl) ⟨Nat.le_of_ble_eq_true rfl, Nat.le_of_ble_eq_true rfl⟩ dL_law_252 (fun r252 S252 H locs hp252 hw => ?_)
  have h9 : r252 = (-2000000002) ∧ S252 = Sa251 := by
    rcases hp252 with h | h
    · exact absurd h.1 (by decide +kernel)
    · exact h.2
  obtain ⟨rfl, hS9⟩ := h9
  have hS9 := hS9.symm
  subst hS9
  refine lv_ldc (own := RL) (v := (-2000000002)) hx hb hown (hts (.constant RL 71 (-2000000002)) (by decide +kernel)) dL_law_255 ?_
  refine lv_icmp_ne (tgt := 1945) hx hb dL_law_257 (by decide) (fun c257 => absurd c257 (by decide)) (fun _ => ?_)
  exact law_part_3 hst C hr hlocks hy31 hNw hDs hbase hw hl
