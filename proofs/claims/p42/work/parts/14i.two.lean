set_option maxHeartbeats 4000000 in
set_option maxRecDepth 100000 in
theorem cut_L_two_572 {p : Program} {l : Launch} {e : Env} {s : State} {m : MethodId} {args : Array Value} {below : List Frame} {meth : Method} {c : Code} {H : Heap} {locs : List Loc} {ls : Array Slot} {D : va_G} {y : Nat → ClassId} {base : Nat} {Sa551 : zS} {a : Nat → Nat} {cn : Nat} {dn : Nat} {ad : Nat} {ri : Nat} {v : Nat} {hf : Nat} {rd : Bool} {a1 : Bool} {a2 : Bool} {M : Nat → Nat → Bool} (hst : l.stackTraces = false) (C : CallFix p m c cL_two 12 s args wsL_two RL) (hr : meth.sig.returnType = (some .boolean)) (hlocks : meth.locks = false) (hDs : zDs a) (hcn : cn < 4) (hdn : dn < 4) (hcd : cn ≠ dn) (had : ad < 128) (hri : ri < 16) (hv : v < 256) (hX : zX Sa551 a) (hNts : zNts Sa551 (a 4) (a 60) (a 61) (a 62) (a 63) (a 64)) (h41 : zI Sa551 64 (a 41) = 0) (hM : zCp Sa551 (a (40 + 0)) (a (50 + 0)) 60 M) (hRg : zRg Sa551 a (zyR v a2 2 (zyW ri a2 1 (zyW (ad * 2 + (if rd = true then 1 else 0)) a1 0 false)) ((ad * 2 + (if rd = true then 1 else 0)) / 2) (ri % 16) (fun _ => 0))) (hNo : zNo Sa551 (a 4) (a 60) (a 61) (a 62) (a 63) (a 64) [((83, nI 1, nI 1, 0, 45) : zNt), (zyN (ad * 2 + (if rd = true then 1 else 0)) a1 19 3 0), (zyN ri a2 37 21 1), (zyN v a2 55 39 2), ((69, nI 58, nI 58, 0, 45) : zNt)]) (hw : zW D y base Sa551 s H locs) (hl : lv_has ls 12 [(10, .int (nI dn)), (9, .int (nI cn)), (8, .int (zb (a2 = true))), (7, .int (zb (a1 = true))), (6, .int (nI v)), (5, .int (nI ri)), (4, .int (zb (rd = true))), (3, .int (nI ad)), (2, .int (nI hf)), (1, .ref (a 0)), (0, .ref (y 98))]) : W p l e (headSpec wsL_two ({ frames := 10, cells := 73, slots := 5807, locals := 182 })).room s m args below meth c H locs 68 5791 (MQ below (va_Qi (fun (r : Int32) (S1 : zS) => r = 1) (zPost D y base) (zA base)) args s 73 5807 (zA base)) (F0 m 572 ls []) := by
  have hx := C.1
  have hb := C.2.1
  have hown := C.2.2.2.1
  have hts := C.2.2.2.2
  refine lv_iload hx hb dL_two_572 (lv_at hl 6 rfl) ?_
  have jn_25 : ∀ (rx_26 : Int32) (H : Heap) (locs : List Loc) (ls : Array Slot), zW D y base Sa551 s H locs → lv_has ls 12 [(10, .int (nI dn)), (9, .int (nI cn)), (8, .int (zb (a2 = true))), (7, .int (zb (a1 = true))), (6, .int (nI v)), (5, .int (nI ri)), (4, .int (zb (rd = true))), (3, .int (nI ad)), (2, .int (nI hf)), (1, .ref (a 0)), (0, .ref (y 98))] → (zb (rd = false ∧ a1 = true ∧ a2 = true) = rx_26) → W p l e (headSpec wsL_two ({ frames := 10, cells := 73, slots := 5807, locals := 182 })).room s m args below meth c H locs 68 5791 (MQ below (va_Qi (fun (r : Int32) (S1 : zS) => r = 1) (zPost D y base) (zA base)) args s 73 5807 (zA base)) (F0 m 592 ls [.int rx_26]) := by
    intro rx_26 H locs ls hw hl f_27
    subst f_27
    refine lv_istore (lv' := [(11, .int (zb (rd = false ∧ a1 = true ∧ a2 = true))), (10, .int (nI dn)), (9, .int (nI cn)), (8, .int (zb (a2 = true))), (7, .int (zb (a1 = true))), (6, .int (nI v)), (5, .int (nI ri)), (4, .int (zb (rd = true))), (3, .int (nI ad)), (2, .int (nI hf)), (1, .ref (a 0)), (0, .ref (y 98))]) hx hb dL_two_592 hl (by decide) rfl (fun ls hl => ?_)
    refine lv_aload_n hx hb dL_two_594 rfl (lv_at hl 10 rfl) ?_
    refine lv_bipush (v := 122) hx hb dL_two_595 (by decide) ?_
    refine lv_iconst (v := 2) hx hb dL_two_597 (by decide) ?_
    refine znewI (N := 2) C hw (by decide +kernel) (by decide) (by decide) (Nat.le_of_ble_eq_true rfl) (Nat.le_of_ble_eq_true rfl) (Nat.le_of_ble_eq_true rfl) dL_two_598 (fun q598 H kq598 hw => ?_)
    have hA : zAr Sa551 (znR Sa551 q598 22 2 (fun _ => 0)) q598 2 [] := zAr.new kq598
    generalize (znR Sa551 q598 22 2 (fun _ => 0)) = Sa598 at hw hA
    refine lv_dup hx hb dL_two_600 rfl ?_
    refine lv_iconst (v := 0) hx hb dL_two_601 (by decide) ?_
    refine lv_iload_n hx hb dL_two_602 rfl (lv_at hl 8 rfl) ?_
    refine zast_I (a := q598) C hw hA.2.1 hA.2.2.1 (zin_of (N := 2) (by decide) (by grind) (by grind)) dL_two_603 (fun H locs hw => ?_)
    have hA : zAr Sa551 (zsR Sa598 22 q598 (upd (zR Sa598 22 q598) (0 : Int32).toNatClampNeg (nI ad))) q598 2 [(nI ad)] := zAr.st (k := 0) hA kq598 (by decide) rfl
    generalize (zsR Sa598 22 q598 (upd (zR Sa598 22 q598) (0 : Int32).toNatClampNeg (nI ad))) = Sa603 at hw hA
    refine lv_dup hx hb dL_two_604 rfl ?_
    refine lv_iconst (v := 1) hx hb dL_two_605 (by decide) ?_
    refine lv_iload hx hb dL_two_606 (lv_at hl 6 rfl) ?_
    refine zast_I (a := q598) C hw hA.2.1 hA.2.2.1 (zin_of (N := 2) (by decide) (by grind) (by grind)) dL_two_608 (fun H locs hw => ?_)
    have hA : zAr Sa551 (zsR Sa603 22 q598 (upd (zR Sa603 22 q598) (1 : Int32).toNatClampNeg (nI ri))) q598 2 [(nI ad), (nI ri)] := zAr.st (k := 1) hA kq598 (by decide) rfl
    generalize (zsR Sa603 22 q598 (upd (zR Sa603 22 q598) (1 : Int32).toNatClampNeg (nI ri))) = Sa608 at hw hA
    obtain ⟨hG, hK9, hN9, hA⟩ := hA
    have hj0 : zR Sa608 22 q598 0 = (nI ad) := (hA 0 (nI ad) rfl).trans rfl
    have hj1 : zR Sa608 22 q598 1 = (nI ri) := (hA 1 (nI ri) rfl).trans rfl
    have hNo := zNo.gw hG hNts hNo
    have hM := zCp.gw hG hX (by decide) hM
    have hRg := zRg.gw hG hX hRg
    have h41 := z41.gw hG hX h41
    have hNts := zNts.gw hG hNts
    have hX := zX.gw hG hX
    refine zcSW_i (As := [.ref (a 0), .int 122, .ref q598]) (rest := []) (n9 := 3) C hw (c_L_ask_z_register_g l hst D y base Sa608 a ad ri q598 hX hDs had hri hK9 hN9 hj0 hj1) gL_two_L_ask rfl (by decide +kernel) ⟨⟨rfl, rfl⟩, Nat.le_of_ble_eq_true rfl, Nat.le_of_ble_eq_true rfl⟩ rfl hl.1 rfl (Nat.le_of_ble_eq_true rfl) ⟨Nat.le_of_ble_eq_true rfl, Nat.le_of_ble_eq_true rfl⟩ dL_two_609 (fun r609 S609 H locs hp609 hw => ?_)
    obtain ⟨hr9, hS9⟩ := hp609
    have hr9 : r609 = (if rd = false ∧ a1 = true ∧ a2 = true then nI v else 0) := (hr9.trans ((congrFun hRg _).trans (zreg rd a1 a2 hri)))
    subst hr9
    have hS9 := hS9.symm
    subst hS9
    refine lv_iload hx hb dL_two_612 (lv_at hl 0 rfl) ?_
    have jn_28 : ∀ (rx_29 : Int32) (H : Heap) (locs : List Loc) (ls : Array Slot), zW D y base Sa608 s H locs → lv_has ls 12 [(11, .int (zb (rd = false ∧ a1 = true ∧ a2 = true))), (10, .int (nI dn)), (9, .int (nI cn)), (8, .int (zb (a2 = true))), (7, .int (zb (a1 = true))), (6, .int (nI v)), (5, .int (nI ri)), (4, .int (zb (rd = true))), (3, .int (nI ad)), (2, .int (nI hf)), (1, .ref (a 0)), (0, .ref (y 98))] → ((if rd = false ∧ a1 = true ∧ a2 = true then nI v else 0) = rx_29) → W p l e (headSpec wsL_two ({ frames := 10, cells := 73, slots := 5807, locals := 182 })).room s m args below meth c H locs 71 5805 (MQ below (va_Qi (fun (r : Int32) (S1 : zS) => r = 1) (zPost D y base) (zA base)) args s 73 5807 (zA base)) (F0 m 623 ls [.int rx_29, .int (if rd = false ∧ a1 = true ∧ a2 = true then nI v else 0)]) := by
      intro rx_29 H locs ls hw hl f_30
      subst f_30
      refine lv_icmp_ne (tgt := 672) hx hb dL_two_623 (by decide) (fun c623 => (show False from c623 rfl).elim) (fun c623 => ?_)
      refine lv_aload_n hx hb dL_two_626 rfl (lv_at hl 10 rfl) ?_
      refine lv_bipush (v := 98) hx hb dL_two_627 (by decide) ?_
      refine lv_iconst (v := 1) hx hb dL_two_629 (by decide) ?_
      refine znewI (N := 1) C hw (by decide +kernel) (by decide) (by decide) (Nat.le_of_ble_eq_true rfl) (Nat.le_of_ble_eq_true rfl) (Nat.le_of_ble_eq_true rfl) dL_two_630 (fun q630 H kq630 hw => ?_)
      have hA : zAr Sa608 (znR Sa608 q630 22 1 (fun _ => 0)) q630 1 [] := zAr.new kq630
      generalize (znR Sa608 q630 22 1 (fun _ => 0)) = Sa630 at hw hA
      refine lv_dup hx hb dL_two_632 rfl ?_
      refine lv_iconst (v := 0) hx hb dL_two_633 (by decide) ?_
      refine lv_iconst (v := 0) hx hb dL_two_634 (by decide) ?_
      refine zast_I (a := q630) C hw hA.2.1 hA.2.2.1 (zin_of (N := 1) (by decide) (by grind) (by grind)) dL_two_635 (fun H locs hw => ?_)
      have hA : zAr Sa608 (zsR Sa630 22 q630 (upd (zR Sa630 22 q630) (0 : Int32).toNatClampNeg 0)) q630 1 [0] := zAr.st (k := 0) hA kq630 (by decide) rfl
      generalize (zsR Sa630 22 q630 (upd (zR Sa630 22 q630) (0 : Int32).toNatClampNeg 0)) = Sa635 at hw hA
      obtain ⟨hG, hK9, hN9, hA⟩ := hA
      have hj0 : zR Sa635 22 q630 0 = (nI 0) := (hA 0 0 rfl).trans rfl
      have hNo := zNo.gw hG hNts hNo
      have hM := zCp.gw hG hX (by decide) hM
      have hRg := zRg.gw hG hX hRg
      have h41 := z41.gw hG hX h41
      have hNts := zNts.gw hG hNts
      have hX := zX.gw hG hX
      refine zcSW_i (As := [.ref (a 0), .int 98, .ref q630]) (rest := []) (n9 := 3) C hw (c_L_ask_b_begin_g l hst D y base Sa635 a 0 _ ((83, nI 1, nI 1, 0, 45) : zNt) q630 hX hNts hDs hNo rfl hK9 hN9 hj0) gL_two_L_ask rfl (by decide +kernel) ⟨⟨rfl, rfl⟩, Nat.le_of_ble_eq_true rfl, Nat.le_of_ble_eq_true rfl⟩ rfl hl.1 rfl (Nat.le_of_ble_eq_true rfl) ⟨Nat.le_of_ble_eq_true rfl, Nat.le_of_ble_eq_true rfl⟩ dL_two_636 (fun r636 S636 H locs hp636 hw => ?_)
      obtain ⟨hr9, hS9⟩ := hp636
      have hr9 : r636 = 1 := hr9
      subst hr9
      have hS9 := hS9.symm
      subst hS9
      refine lv_iconst (v := 1) hx hb dL_two_639 (by decide) ?_
      refine lv_icmp_ne (tgt := 672) hx hb dL_two_640 (by decide) (fun c640 => absurd c640 (by decide)) (fun _ => ?_)
      refine lv_aload_n hx hb dL_two_643 rfl (lv_at hl 10 rfl) ?_
      refine lv_bipush (v := 101) hx hb dL_two_644 (by decide) ?_
      refine lv_iconst (v := 1) hx hb dL_two_646 (by decide) ?_
      refine znewI (N := 1) C hw (by decide +kernel) (by decide) (by decide) (Nat.le_of_ble_eq_true rfl) (Nat.le_of_ble_eq_true rfl) (Nat.le_of_ble_eq_true rfl) dL_two_647 (fun q647 H kq647 hw => ?_)
      have hA : zAr Sa635 (znR Sa635 q647 22 1 (fun _ => 0)) q647 1 [] := zAr.new kq647
      generalize (znR Sa635 q647 22 1 (fun _ => 0)) = Sa647 at hw hA
      refine lv_dup hx hb dL_two_649 rfl ?_
      refine lv_iconst (v := 0) hx hb dL_two_650 (by decide) ?_
      refine lv_iconst (v := 4) hx hb dL_two_651 (by decide) ?_
      refine zast_I (a := q647) C hw hA.2.1 hA.2.2.1 (zin_of (N := 1) (by decide) (by grind) (by grind)) dL_two_652 (fun H locs hw => ?_)
      have hA : zAr Sa635 (zsR Sa647 22 q647 (upd (zR Sa647 22 q647) (0 : Int32).toNatClampNeg 4)) q647 1 [4] := zAr.st (k := 0) hA kq647 (by decide) rfl
      generalize (zsR Sa647 22 q647 (upd (zR Sa647 22 q647) (0 : Int32).toNatClampNeg 4)) = Sa652 at hw hA
      obtain ⟨hG, hK9, hN9, hA⟩ := hA
      have hj0 : zR Sa652 22 q647 0 = (nI 4) := (hA 0 4 rfl).trans rfl
      have hNo := zNo.gw hG hNts hNo
      have hM := zCp.gw hG hX (by decide) hM
      have hRg := zRg.gw hG hX hRg
      have h41 := z41.gw hG hX h41
      have hNts := zNts.gw hG hNts
      have hX := zX.gw hG hX
      refine zcSW_i (As := [.ref (a 0), .int 101, .ref q647]) (rest := []) (n9 := 3) C hw (c_L_ask_e_end_g l hst D y base Sa652 a 4 _ ((69, nI 58, nI 58, 0, 45) : zNt) q647 hX hNts hDs hNo rfl hK9 hN9 hj0) gL_two_L_ask rfl (by decide +kernel) ⟨⟨rfl, rfl⟩, Nat.le_of_ble_eq_true rfl, Nat.le_of_ble_eq_true rfl⟩ rfl hl.1 rfl (Nat.le_of_ble_eq_true rfl) ⟨Nat.le_of_ble_eq_true rfl, Nat.le_of_ble_eq_true rfl⟩ dL_two_653 (fun r653 S653 H locs hp653 hw => ?_)
      obtain ⟨hr9, hS9⟩ := hp653
      have hr9 : r653 = 58 := hr9
      subst hr9
      have hS9 := hS9.symm
      subst hS9
      refine lv_bipush (v := 58) hx hb dL_two_656 (by decide) ?_
      refine lv_icmp_ne (tgt := 672) hx hb dL_two_658 (by decide) (fun c658 => absurd c658 (by decide)) (fun _ => ?_)
      refine lv_aload_n hx hb dL_two_661 rfl (lv_at hl 10 rfl) ?_
      refine zcV_i (As := []) (rest := []) (n9 := 0) (b := (a 0)) C hw (c_X7_isSound_g l D y base Sa652 a (fun i => if i = 0 then 60 else 0) (fun _ => M) _ hX hNts hDs (zsnd hM h41) hNo (zNo.be hNo (zfive_be (show nI 3 ≤ nI 19 by decide) (show nI 21 ≤ nI 37 by decide) (show nI 39 ≤ nI 55 by decide))) (zNo.bb hNo (zfive_bb (show nI 1 ≤ nI 3 by decide) (show nI 3 ≤ nI 21 by decide) (show nI 21 ≤ nI 39 by decide) (show nI 39 ≤ nI 58 by decide)))) gL_two_X7_isSound rfl (by decide +kernel) ⟨⟨rfl, rfl⟩, Nat.le_of_ble_eq_true rfl, Nat.le_of_ble_eq_true rfl⟩ hX.1 ⟨by decide, by decide⟩ rfl rfl hl.1 rfl (Nat.le_of_ble_eq_true rfl) ⟨Nat.le_of_ble_eq_true rfl, Nat.le_of_ble_eq_true rfl⟩ dL_two_662 (fun r662 S662 H locs hp662 hw => ?_)
      obtain ⟨rfl, hS9⟩ := hp662
      have hS9 := hS9.symm
      subst hS9
      refine lv_if_eq (tgt := 672) hx hb dL_two_665 (by decide) (fun c665 => absurd c665 (by decide)) (fun _ => ?_)
      refine lv_iconst (v := 1) hx hb dL_two_668 (by decide) ?_
      refine lv_goto (tgt := 673) hx hb dL_two_669 (by decide) ?_
      exact zri C hw hr hlocks (by decide) rfl ⟨Nat.le_of_ble_eq_true rfl, Nat.le_of_ble_eq_true rfl⟩ dL_two_673
    refine lv_if_eq (tgt := 622) hx hb dL_two_614 (by decide) (fun c614 => ?_) (fun c614 => ?_)
    · replace c614 := zb0.mp c614
      refine lv_iconst (v := 0) hx hb dL_two_622 (by decide) ?_
      exact jn_28 0 _ _ _ hw (lv_sub hl [0, 1, 2, 3, 4, 5, 6, 7, 8, 9, 10, 11] rfl) (by first | exact if_pos c614 | exact if_neg c614)
    · replace c614 := zb1.mp c614
      refine lv_iload hx hb dL_two_617 (lv_at hl 5 rfl) ?_
      refine lv_goto (tgt := 623) hx hb dL_two_619 (by decide) ?_
      exact jn_28 (nI v) _ _ _ hw (lv_sub hl [0, 1, 2, 3, 4, 5, 6, 7, 8, 9, 10, 11] rfl) (by first | exact if_pos c614 | exact if_neg c614)
  refine lv_if_ne (tgt := 591) hx hb dL_two_574 (by decide) (fun c574 => ?_) (fun c574 => ?_)
  · replace c574 := zb1.mp c574
    refine lv_iconst (v := 0) hx hb dL_two_591 (by decide) ?_
    exact jn_25 0 _ _ _ hw (lv_sub hl [0, 1, 2, 3, 4, 5, 6, 7, 8, 9, 10] rfl) (by first | exact (zb_t ⟨Bool.eq_false_iff.mpr c574, c579, c584⟩).symm | exact (zb_f (fun g => by rw [g.1] at c574; exact absurd c574 (by decide))).symm | exact (zb_f (fun g => c579 g.2.1)).symm | exact (zb_f (fun g => c584 g.2.2)).symm)
  · replace c574 := zb0.mp c574
    refine lv_iload hx hb dL_two_577 (lv_at hl 3 rfl) ?_
    refine lv_if_eq (tgt := 591) hx hb dL_two_579 (by decide) (fun c579 => ?_) (fun c579 => ?_)
    · replace c579 := zb0.mp c579
      refine lv_iconst (v := 0) hx hb dL_two_591 (by decide) ?_
      exact jn_25 0 _ _ _ hw (lv_sub hl [0, 1, 2, 3, 4, 5, 6, 7, 8, 9, 10] rfl) (by first | exact (zb_t ⟨Bool.eq_false_iff.mpr c574, c579, c584⟩).symm | exact (zb_f (fun g => by rw [g.1] at c574; exact absurd c574 (by decide))).symm | exact (zb_f (fun g => c579 g.2.1)).symm | exact (zb_f (fun g => c584 g.2.2)).symm)
    · replace c579 := zb1.mp c579
      refine lv_iload hx hb dL_two_582 (lv_at hl 2 rfl) ?_
      refine lv_if_eq (tgt := 591) hx hb dL_two_584 (by decide) (fun c584 => ?_) (fun c584 => ?_)
      · replace c584 := zb0.mp c584
        refine lv_iconst (v := 0) hx hb dL_two_591 (by decide) ?_
        exact jn_25 0 _ _ _ hw (lv_sub hl [0, 1, 2, 3, 4, 5, 6, 7, 8, 9, 10] rfl) (by first | exact (zb_t ⟨Bool.eq_false_iff.mpr c574, c579, c584⟩).symm | exact (zb_f (fun g => by rw [g.1] at c574; exact absurd c574 (by decide))).symm | exact (zb_f (fun g => c579 g.2.1)).symm | exact (zb_f (fun g => c584 g.2.2)).symm)
      · replace c584 := zb1.mp c584
        refine lv_iconst (v := 1) hx hb dL_two_587 (by decide) ?_
        refine lv_goto (tgt := 592) hx hb dL_two_588 (by decide) ?_
        exact jn_25 1 _ _ _ hw (lv_sub hl [0, 1, 2, 3, 4, 5, 6, 7, 8, 9, 10] rfl) (by first | exact (zb_t ⟨Bool.eq_false_iff.mpr c574, c579, c584⟩).symm | exact (zb_f (fun g => by rw [g.1] at c574; exact absurd c574 (by decide))).symm | exact (zb_f (fun g => c579 g.2.1)).symm | exact (zb_f (fun g => c584 g.2.2)).symm)

set_option maxHeartbeats 4000000 in
set_option maxRecDepth 100000 in
theorem cut_L_two_420 {p : Program} {l : Launch} {e : Env} {s : State} {m : MethodId} {args : Array Value} {below : List Frame} {meth : Method} {c : Code} {H : Heap} {locs : List Loc} {ls : Array Slot} {D : va_G} {y : Nat → ClassId} {base : Nat} {Sa409 : zS} {a : Nat → Nat} {cn : Nat} {dn : Nat} {ad : Nat} {ri : Nat} {v : Nat} {hf : Nat} {rd : Bool} {a1 : Bool} {a2 : Bool} {M : Nat → Nat → Bool} (hst : l.stackTraces = false) (C : CallFix p m c cL_two 12 s args wsL_two RL) (hr : meth.sig.returnType = (some .boolean)) (hlocks : meth.locks = false) (hDs : zDs a) (hcn : cn < 4) (hdn : dn < 4) (hcd : cn ≠ dn) (had : ad < 128) (hri : ri < 16) (hv : v < 256) (hX : zX Sa409 a) (hNts : zNts Sa409 (a 4) (a 60) (a 61) (a 62) (a 63) (a 64)) (h41 : zI Sa409 64 (a 41) = 0) (hM : zCp Sa409 (a (40 + 0)) (a (50 + 0)) 60 M) (hRg : zRg Sa409 a (zyR v a2 2 (zyW ri a2 1 (zyW (ad * 2 + (if rd = true then 1 else 0)) a1 0 false)) ((ad * 2 + (if rd = true then 1 else 0)) / 2) (ri % 16) (fun _ => 0))) (hNo : zNo Sa409 (a 4) (a 60) (a 61) (a 62) (a 63) (a 64) [((83, nI 1, nI 1, 0, 45) : zNt), (zyN (ad * 2 + (if rd = true then 1 else 0)) a1 19 3 0), (zyN ri a2 37 21 1), (zyN v a2 55 39 2), ((69, nI 58, nI 58, 0, 45) : zNt)]) (hw : zW D y base Sa409 s H locs) (hl : lv_has ls 12 [(10, .int (nI dn)), (9, .int (nI cn)), (8, .int (zb (a2 = true))), (7, .int (zb (a1 = true))), (6, .int (nI v)), (5, .int (nI ri)), (4, .int (zb (rd = true))), (3, .int (nI ad)), (2, .int (nI hf)), (1, .ref (a 0)), (0, .ref (y 98))]) : W p l e (headSpec wsL_two ({ frames := 10, cells := 73, slots := 5807, locals := 182 })).room s m args below meth c H locs 62 5785 (MQ below (va_Qi (fun (r : Int32) (S1 : zS) => r = 1) (zPost D y base) (zA base)) args s 73 5807 (zA base)) (F0 m 420 ls []) := by
  have hx := C.1
  have hb := C.2.1
  have hown := C.2.2.2.1
  have hts := C.2.2.2.2
  refine lv_aload_n hx hb dL_two_420 rfl (lv_at hl 9 rfl) ?_
  refine lv_bipush (v := 118) hx hb dL_two_421 (by decide) ?_
  refine lv_iconst (v := 1) hx hb dL_two_423 (by decide) ?_
  refine znewI (N := 1) C hw (by decide +kernel) (by decide) (by decide) (Nat.le_of_ble_eq_true rfl) (Nat.le_of_ble_eq_true rfl) (Nat.le_of_ble_eq_true rfl) dL_two_424 (fun q424 H kq424 hw => ?_)
  have hA : zAr Sa409 (znR Sa409 q424 22 1 (fun _ => 0)) q424 1 [] := zAr.new kq424
  generalize (znR Sa409 q424 22 1 (fun _ => 0)) = Sa424 at hw hA
  refine lv_dup hx hb dL_two_426 rfl ?_
  refine lv_iconst (v := 0) hx hb dL_two_427 (by decide) ?_
  refine lv_iconst (v := 1) hx hb dL_two_428 (by decide) ?_
  refine zast_I (a := q424) C hw hA.2.1 hA.2.2.1 (zin_of (N := 1) (by decide) (by grind) (by grind)) dL_two_429 (fun H locs hw => ?_)
  have hA : zAr Sa409 (zsR Sa424 22 q424 (upd (zR Sa424 22 q424) (0 : Int32).toNatClampNeg 1)) q424 1 [1] := zAr.st (k := 0) hA kq424 (by decide) rfl
  generalize (zsR Sa424 22 q424 (upd (zR Sa424 22 q424) (0 : Int32).toNatClampNeg 1)) = Sa429 at hw hA
  obtain ⟨hG, hK9, hN9, hA⟩ := hA
  have hj0 : zR Sa429 22 q424 0 = (nI 1) := (hA 0 1 rfl).trans rfl
  have hNo := zNo.gw hG hNts hNo
  have hM := zCp.gw hG hX (by decide) hM
  have hRg := zRg.gw hG hX hRg
  have h41 := z41.gw hG hX h41
  have hNts := zNts.gw hG hNts
  have hX := zX.gw hG hX
  refine zcSW_i (As := [.ref (a 0), .int 118, .ref q424]) (rest := []) (n9 := 3) C hw (c_L_ask_v_value_g l hst D y base Sa429 a 1 _ (zyN (ad * 2 + (if rd = true then 1 else 0)) a1 19 3 0) q424 hX hNts hDs hNo rfl hK9 hN9 hj0) gL_two_L_ask rfl (by decide +kernel) ⟨⟨rfl, rfl⟩, Nat.le_of_ble_eq_true rfl, Nat.le_of_ble_eq_true rfl⟩ rfl hl.1 rfl (Nat.le_of_ble_eq_true rfl) ⟨Nat.le_of_ble_eq_true rfl, Nat.le_of_ble_eq_true rfl⟩ dL_two_430 (fun r430 S430 H locs hp430 hw => ?_)
  obtain ⟨hr9, hS9⟩ := hp430
  have hr9 : r430 = (nI (ad * 2 + (if rd = true then 1 else 0))) := hr9
  subst hr9
  have hS9 := hS9.symm
  subst hS9
  refine lv_iconst (v := 2) hx hb dL_two_433 (by decide) ?_
  refine lv_iload_n hx hb dL_two_434 rfl (lv_at hl 7 rfl) ?_
  refine lv_imul hx hb dL_two_435 ?_
  refine zrd (x := (nI (2 * ad))) (pk_mul 2 _) ?_
  refine lv_iload hx hb dL_two_436 (lv_at hl 6 rfl) ?_
  have jn_13 : ∀ (rx_14 : Int32) (H : Heap) (locs : List Loc) (ls : Array Slot), zW D y base Sa429 s H locs → lv_has ls 12 [(10, .int (nI dn)), (9, .int (nI cn)), (8, .int (zb (a2 = true))), (7, .int (zb (a1 = true))), (6, .int (nI v)), (5, .int (nI ri)), (4, .int (zb (rd = true))), (3, .int (nI ad)), (2, .int (nI hf)), (1, .ref (a 0)), (0, .ref (y 98))] → (zb (rd = true) = rx_14) → W p l e (headSpec wsL_two ({ frames := 10, cells := 73, slots := 5807, locals := 182 })).room s m args below meth c H locs 63 5786 (MQ below (va_Qi (fun (r : Int32) (S1 : zS) => r = 1) (zPost D y base) (zA base)) args s 73 5807 (zA base)) (F0 m 446 ls [.int rx_14, .int (nI (2 * ad)), .int (nI (ad * 2 + (if rd = true then 1 else 0)))]) := by
    intro rx_14 H locs ls hw hl f_15
    subst f_15
    refine lv_iadd hx hb dL_two_446 ?_
    refine zrd (x := (nI (ad * 2 + (if rd = true then 1 else 0)))) (zad2 ad rd) ?_
    refine lv_icmp_ne (tgt := 570) hx hb dL_two_447 (by decide) (fun c447 => (show False from c447 rfl).elim) (fun c447 => ?_)
    refine lv_aload_n hx hb dL_two_450 rfl (lv_at hl 9 rfl) ?_
    refine lv_bipush (v := 118) hx hb dL_two_451 (by decide) ?_
    refine lv_iconst (v := 1) hx hb dL_two_453 (by decide) ?_
    refine znewI (N := 1) C hw (by decide +kernel) (by decide) (by decide) (Nat.le_of_ble_eq_true rfl) (Nat.le_of_ble_eq_true rfl) (Nat.le_of_ble_eq_true rfl) dL_two_454 (fun q454 H kq454 hw => ?_)
    have hA : zAr Sa429 (znR Sa429 q454 22 1 (fun _ => 0)) q454 1 [] := zAr.new kq454
    generalize (znR Sa429 q454 22 1 (fun _ => 0)) = Sa454 at hw hA
    refine lv_dup hx hb dL_two_456 rfl ?_
    refine lv_iconst (v := 0) hx hb dL_two_457 (by decide) ?_
    refine lv_iconst (v := 2) hx hb dL_two_458 (by decide) ?_
    refine zast_I (a := q454) C hw hA.2.1 hA.2.2.1 (zin_of (N := 1) (by decide) (by grind) (by grind)) dL_two_459 (fun H locs hw => ?_)
    have hA : zAr Sa429 (zsR Sa454 22 q454 (upd (zR Sa454 22 q454) (0 : Int32).toNatClampNeg 2)) q454 1 [2] := zAr.st (k := 0) hA kq454 (by decide) rfl
    generalize (zsR Sa454 22 q454 (upd (zR Sa454 22 q454) (0 : Int32).toNatClampNeg 2)) = Sa459 at hw hA
    obtain ⟨hG, hK9, hN9, hA⟩ := hA
    have hj0 : zR Sa459 22 q454 0 = (nI 2) := (hA 0 2 rfl).trans rfl
    have hNo := zNo.gw hG hNts hNo
    have hM := zCp.gw hG hX (by decide) hM
    have hRg := zRg.gw hG hX hRg
    have h41 := z41.gw hG hX h41
    have hNts := zNts.gw hG hNts
    have hX := zX.gw hG hX
    refine zcSW_i (As := [.ref (a 0), .int 118, .ref q454]) (rest := []) (n9 := 3) C hw (c_L_ask_v_value_g l hst D y base Sa459 a 2 _ (zyN ri a2 37 21 1) q454 hX hNts hDs hNo rfl hK9 hN9 hj0) gL_two_L_ask rfl (by decide +kernel) ⟨⟨rfl, rfl⟩, Nat.le_of_ble_eq_true rfl, Nat.le_of_ble_eq_true rfl⟩ rfl hl.1 rfl (Nat.le_of_ble_eq_true rfl) ⟨Nat.le_of_ble_eq_true rfl, Nat.le_of_ble_eq_true rfl⟩ dL_two_460 (fun r460 S460 H locs hp460 hw => ?_)
    obtain ⟨hr9, hS9⟩ := hp460
    have hr9 : r460 = (nI ri) := hr9
    subst hr9
    have hS9 := hS9.symm
    subst hS9
    refine lv_iload hx hb dL_two_463 (lv_at hl 5 rfl) ?_
    refine lv_icmp_ne (tgt := 570) hx hb dL_two_465 (by decide) (fun c465 => (show False from c465 rfl).elim) (fun c465 => ?_)
    refine lv_aload_n hx hb dL_two_468 rfl (lv_at hl 9 rfl) ?_
    refine lv_bipush (v := 118) hx hb dL_two_469 (by decide) ?_
    refine lv_iconst (v := 1) hx hb dL_two_471 (by decide) ?_
    refine znewI (N := 1) C hw (by decide +kernel) (by decide) (by decide) (Nat.le_of_ble_eq_true rfl) (Nat.le_of_ble_eq_true rfl) (Nat.le_of_ble_eq_true rfl) dL_two_472 (fun q472 H kq472 hw => ?_)
    have hA : zAr Sa459 (znR Sa459 q472 22 1 (fun _ => 0)) q472 1 [] := zAr.new kq472
    generalize (znR Sa459 q472 22 1 (fun _ => 0)) = Sa472 at hw hA
    refine lv_dup hx hb dL_two_474 rfl ?_
    refine lv_iconst (v := 0) hx hb dL_two_475 (by decide) ?_
    refine lv_iconst (v := 3) hx hb dL_two_476 (by decide) ?_
    refine zast_I (a := q472) C hw hA.2.1 hA.2.2.1 (zin_of (N := 1) (by decide) (by grind) (by grind)) dL_two_477 (fun H locs hw => ?_)
    have hA : zAr Sa459 (zsR Sa472 22 q472 (upd (zR Sa472 22 q472) (0 : Int32).toNatClampNeg 3)) q472 1 [3] := zAr.st (k := 0) hA kq472 (by decide) rfl
    generalize (zsR Sa472 22 q472 (upd (zR Sa472 22 q472) (0 : Int32).toNatClampNeg 3)) = Sa477 at hw hA
    obtain ⟨hG, hK9, hN9, hA⟩ := hA
    have hj0 : zR Sa477 22 q472 0 = (nI 3) := (hA 0 3 rfl).trans rfl
    have hNo := zNo.gw hG hNts hNo
    have hM := zCp.gw hG hX (by decide) hM
    have hRg := zRg.gw hG hX hRg
    have h41 := z41.gw hG hX h41
    have hNts := zNts.gw hG hNts
    have hX := zX.gw hG hX
    refine zcSW_i (As := [.ref (a 0), .int 118, .ref q472]) (rest := []) (n9 := 3) C hw (c_L_ask_v_value_g l hst D y base Sa477 a 3 _ (zyN v a2 55 39 2) q472 hX hNts hDs hNo rfl hK9 hN9 hj0) gL_two_L_ask rfl (by decide +kernel) ⟨⟨rfl, rfl⟩, Nat.le_of_ble_eq_true rfl, Nat.le_of_ble_eq_true rfl⟩ rfl hl.1 rfl (Nat.le_of_ble_eq_true rfl) ⟨Nat.le_of_ble_eq_true rfl, Nat.le_of_ble_eq_true rfl⟩ dL_two_478 (fun r478 S478 H locs hp478 hw => ?_)
    obtain ⟨hr9, hS9⟩ := hp478
    have hr9 : r478 = (nI v) := hr9
    subst hr9
    have hS9 := hS9.symm
    subst hS9
    refine lv_iload hx hb dL_two_481 (lv_at hl 4 rfl) ?_
    refine lv_icmp_ne (tgt := 570) hx hb dL_two_483 (by decide) (fun c483 => (show False from c483 rfl).elim) (fun c483 => ?_)
    refine lv_aload_n hx hb dL_two_486 rfl (lv_at hl 9 rfl) ?_
    refine lv_bipush (v := 120) hx hb dL_two_487 (by decide) ?_
    refine lv_iconst (v := 1) hx hb dL_two_489 (by decide) ?_
    refine znewI (N := 1) C hw (by decide +kernel) (by decide) (by decide) (Nat.le_of_ble_eq_true rfl) (Nat.le_of_ble_eq_true rfl) (Nat.le_of_ble_eq_true rfl) dL_two_490 (fun q490 H kq490 hw => ?_)
    have hA : zAr Sa477 (znR Sa477 q490 22 1 (fun _ => 0)) q490 1 [] := zAr.new kq490
    generalize (znR Sa477 q490 22 1 (fun _ => 0)) = Sa490 at hw hA
    refine lv_dup hx hb dL_two_492 rfl ?_
    refine lv_iconst (v := 0) hx hb dL_two_493 (by decide) ?_
    refine lv_iconst (v := 1) hx hb dL_two_494 (by decide) ?_
    refine zast_I (a := q490) C hw hA.2.1 hA.2.2.1 (zin_of (N := 1) (by decide) (by grind) (by grind)) dL_two_495 (fun H locs hw => ?_)
    have hA : zAr Sa477 (zsR Sa490 22 q490 (upd (zR Sa490 22 q490) (0 : Int32).toNatClampNeg 1)) q490 1 [1] := zAr.st (k := 0) hA kq490 (by decide) rfl
    generalize (zsR Sa490 22 q490 (upd (zR Sa490 22 q490) (0 : Int32).toNatClampNeg 1)) = Sa495 at hw hA
    obtain ⟨hG, hK9, hN9, hA⟩ := hA
    have hj0 : zR Sa495 22 q490 0 = (nI 1) := (hA 0 1 rfl).trans rfl
    have hNo := zNo.gw hG hNts hNo
    have hM := zCp.gw hG hX (by decide) hM
    have hRg := zRg.gw hG hX hRg
    have h41 := z41.gw hG hX h41
    have hNts := zNts.gw hG hNts
    have hX := zX.gw hG hX
    refine zcSW_i (As := [.ref (a 0), .int 120, .ref q490]) (rest := []) (n9 := 3) C hw (c_L_ask_x_fault_g l hst D y base Sa495 a 1 _ (zyN (ad * 2 + (if rd = true then 1 else 0)) a1 19 3 0) q490 hX hNts hDs hNo rfl (zfch a1) hK9 hN9 hj0) gL_two_L_ask rfl (by decide +kernel) ⟨⟨rfl, rfl⟩, Nat.le_of_ble_eq_true rfl, Nat.le_of_ble_eq_true rfl⟩ rfl hl.1 rfl (Nat.le_of_ble_eq_true rfl) ⟨Nat.le_of_ble_eq_true rfl, Nat.le_of_ble_eq_true rfl⟩ dL_two_496 (fun r496 S496 H locs hp496 hw => ?_)
    obtain ⟨hr9, hS9⟩ := hp496
    have hr9 : r496 = (if a1 = true then (45 : Int32) else 110) := hr9
    subst hr9
    have hS9 := hS9.symm
    subst hS9
    refine lv_iload hx hb dL_two_499 (lv_at hl 3 rfl) ?_
    have jn_16 : ∀ (rx_17 : Int32) (H : Heap) (locs : List Loc) (ls : Array Slot), zW D y base Sa495 s H locs → lv_has ls 12 [(10, .int (nI dn)), (9, .int (nI cn)), (8, .int (zb (a2 = true))), (7, .int (zb (a1 = true))), (6, .int (nI v)), (5, .int (nI ri)), (4, .int (zb (rd = true))), (3, .int (nI ad)), (2, .int (nI hf)), (1, .ref (a 0)), (0, .ref (y 98))] → ((if a1 = true then (45 : Int32) else 110) = rx_17) → W p l e (headSpec wsL_two ({ frames := 10, cells := 73, slots := 5807, locals := 182 })).room s m args below meth c H locs 66 5789 (MQ below (va_Qi (fun (r : Int32) (S1 : zS) => r = 1) (zPost D y base) (zA base)) args s 73 5807 (zA base)) (F0 m 511 ls [.int rx_17, .int (if a1 = true then (45 : Int32) else 110)]) := by
      intro rx_17 H locs ls hw hl f_18
      subst f_18
      refine lv_icmp_ne (tgt := 570) hx hb dL_two_511 (by decide) (fun c511 => (show False from c511 rfl).elim) (fun c511 => ?_)
      refine lv_aload_n hx hb dL_two_514 rfl (lv_at hl 9 rfl) ?_
      refine lv_bipush (v := 120) hx hb dL_two_515 (by decide) ?_
      refine lv_iconst (v := 1) hx hb dL_two_517 (by decide) ?_
      refine znewI (N := 1) C hw (by decide +kernel) (by decide) (by decide) (Nat.le_of_ble_eq_true rfl) (Nat.le_of_ble_eq_true rfl) (Nat.le_of_ble_eq_true rfl) dL_two_518 (fun q518 H kq518 hw => ?_)
      have hA : zAr Sa495 (znR Sa495 q518 22 1 (fun _ => 0)) q518 1 [] := zAr.new kq518
      generalize (znR Sa495 q518 22 1 (fun _ => 0)) = Sa518 at hw hA
      refine lv_dup hx hb dL_two_520 rfl ?_
      refine lv_iconst (v := 0) hx hb dL_two_521 (by decide) ?_
      refine lv_iconst (v := 2) hx hb dL_two_522 (by decide) ?_
      refine zast_I (a := q518) C hw hA.2.1 hA.2.2.1 (zin_of (N := 1) (by decide) (by grind) (by grind)) dL_two_523 (fun H locs hw => ?_)
      have hA : zAr Sa495 (zsR Sa518 22 q518 (upd (zR Sa518 22 q518) (0 : Int32).toNatClampNeg 2)) q518 1 [2] := zAr.st (k := 0) hA kq518 (by decide) rfl
      generalize (zsR Sa518 22 q518 (upd (zR Sa518 22 q518) (0 : Int32).toNatClampNeg 2)) = Sa523 at hw hA
      obtain ⟨hG, hK9, hN9, hA⟩ := hA
      have hj0 : zR Sa523 22 q518 0 = (nI 2) := (hA 0 2 rfl).trans rfl
      have hNo := zNo.gw hG hNts hNo
      have hM := zCp.gw hG hX (by decide) hM
      have hRg := zRg.gw hG hX hRg
      have h41 := z41.gw hG hX h41
      have hNts := zNts.gw hG hNts
      have hX := zX.gw hG hX
      refine zcSW_i (As := [.ref (a 0), .int 120, .ref q518]) (rest := []) (n9 := 3) C hw (c_L_ask_x_fault_g l hst D y base Sa523 a 2 _ (zyN ri a2 37 21 1) q518 hX hNts hDs hNo rfl (zfch a2) hK9 hN9 hj0) gL_two_L_ask rfl (by decide +kernel) ⟨⟨rfl, rfl⟩, Nat.le_of_ble_eq_true rfl, Nat.le_of_ble_eq_true rfl⟩ rfl hl.1 rfl (Nat.le_of_ble_eq_true rfl) ⟨Nat.le_of_ble_eq_true rfl, Nat.le_of_ble_eq_true rfl⟩ dL_two_524 (fun r524 S524 H locs hp524 hw => ?_)
      obtain ⟨hr9, hS9⟩ := hp524
      have hr9 : r524 = (if a2 = true then (45 : Int32) else 110) := hr9
      subst hr9
      have hS9 := hS9.symm
      subst hS9
      refine lv_iload hx hb dL_two_527 (lv_at hl 2 rfl) ?_
      have jn_19 : ∀ (rx_20 : Int32) (H : Heap) (locs : List Loc) (ls : Array Slot), zW D y base Sa523 s H locs → lv_has ls 12 [(10, .int (nI dn)), (9, .int (nI cn)), (8, .int (zb (a2 = true))), (7, .int (zb (a1 = true))), (6, .int (nI v)), (5, .int (nI ri)), (4, .int (zb (rd = true))), (3, .int (nI ad)), (2, .int (nI hf)), (1, .ref (a 0)), (0, .ref (y 98))] → ((if a2 = true then (45 : Int32) else 110) = rx_20) → W p l e (headSpec wsL_two ({ frames := 10, cells := 73, slots := 5807, locals := 182 })).room s m args below meth c H locs 67 5790 (MQ below (va_Qi (fun (r : Int32) (S1 : zS) => r = 1) (zPost D y base) (zA base)) args s 73 5807 (zA base)) (F0 m 539 ls [.int rx_20, .int (if a2 = true then (45 : Int32) else 110)]) := by
        intro rx_20 H locs ls hw hl f_21
        subst f_21
        refine lv_icmp_ne (tgt := 570) hx hb dL_two_539 (by decide) (fun c539 => (show False from c539 rfl).elim) (fun c539 => ?_)
        refine lv_aload_n hx hb dL_two_542 rfl (lv_at hl 9 rfl) ?_
        refine lv_bipush (v := 120) hx hb dL_two_543 (by decide) ?_
        refine lv_iconst (v := 1) hx hb dL_two_545 (by decide) ?_
        refine znewI (N := 1) C hw (by decide +kernel) (by decide) (by decide) (Nat.le_of_ble_eq_true rfl) (Nat.le_of_ble_eq_true rfl) (Nat.le_of_ble_eq_true rfl) dL_two_546 (fun q546 H kq546 hw => ?_)
        have hA : zAr Sa523 (znR Sa523 q546 22 1 (fun _ => 0)) q546 1 [] := zAr.new kq546
        generalize (znR Sa523 q546 22 1 (fun _ => 0)) = Sa546 at hw hA
        refine lv_dup hx hb dL_two_548 rfl ?_
        refine lv_iconst (v := 0) hx hb dL_two_549 (by decide) ?_
        refine lv_iconst (v := 3) hx hb dL_two_550 (by decide) ?_
        refine zast_I (a := q546) C hw hA.2.1 hA.2.2.1 (zin_of (N := 1) (by decide) (by grind) (by grind)) dL_two_551 (fun H locs hw => ?_)
        have hA : zAr Sa523 (zsR Sa546 22 q546 (upd (zR Sa546 22 q546) (0 : Int32).toNatClampNeg 3)) q546 1 [3] := zAr.st (k := 0) hA kq546 (by decide) rfl
        generalize (zsR Sa546 22 q546 (upd (zR Sa546 22 q546) (0 : Int32).toNatClampNeg 3)) = Sa551 at hw hA
        obtain ⟨hG, hK9, hN9, hA⟩ := hA
        have hj0 : zR Sa551 22 q546 0 = (nI 3) := (hA 0 3 rfl).trans rfl
        have hNo := zNo.gw hG hNts hNo
        have hM := zCp.gw hG hX (by decide) hM
        have hRg := zRg.gw hG hX hRg
        have h41 := z41.gw hG hX h41
        have hNts := zNts.gw hG hNts
        have hX := zX.gw hG hX
        refine zcSW_i (As := [.ref (a 0), .int 120, .ref q546]) (rest := []) (n9 := 3) C hw (c_L_ask_x_fault_g l hst D y base Sa551 a 3 _ (zyN v a2 55 39 2) q546 hX hNts hDs hNo rfl (zfch a2) hK9 hN9 hj0) gL_two_L_ask rfl (by decide +kernel) ⟨⟨rfl, rfl⟩, Nat.le_of_ble_eq_true rfl, Nat.le_of_ble_eq_true rfl⟩ rfl hl.1 rfl (Nat.le_of_ble_eq_true rfl) ⟨Nat.le_of_ble_eq_true rfl, Nat.le_of_ble_eq_true rfl⟩ dL_two_552 (fun r552 S552 H locs hp552 hw => ?_)
        obtain ⟨hr9, hS9⟩ := hp552
        have hr9 : r552 = (if a2 = true then (45 : Int32) else 110) := hr9
        subst hr9
        have hS9 := hS9.symm
        subst hS9
        refine lv_iload hx hb dL_two_555 (lv_at hl 2 rfl) ?_
        have jn_22 : ∀ (rx_23 : Int32) (H : Heap) (locs : List Loc) (ls : Array Slot), zW D y base Sa551 s H locs → lv_has ls 12 [(10, .int (nI dn)), (9, .int (nI cn)), (8, .int (zb (a2 = true))), (7, .int (zb (a1 = true))), (6, .int (nI v)), (5, .int (nI ri)), (4, .int (zb (rd = true))), (3, .int (nI ad)), (2, .int (nI hf)), (1, .ref (a 0)), (0, .ref (y 98))] → ((if a2 = true then (45 : Int32) else 110) = rx_23) → W p l e (headSpec wsL_two ({ frames := 10, cells := 73, slots := 5807, locals := 182 })).room s m args below meth c H locs 68 5791 (MQ below (va_Qi (fun (r : Int32) (S1 : zS) => r = 1) (zPost D y base) (zA base)) args s 73 5807 (zA base)) (F0 m 567 ls [.int rx_23, .int (if a2 = true then (45 : Int32) else 110)]) := by
          intro rx_23 H locs ls hw hl f_24
          subst f_24
          refine lv_icmp_eq (tgt := 572) hx hb dL_two_567 (by decide) (fun c567 => ?_) (fun c567 => (show False from c567 rfl).elim)
          exact cut_L_two_572 hst C hr hlocks hDs hcn hdn hcd had hri hv hX hNts h41 hM hRg hNo hw hl
        refine lv_if_eq (tgt := 565) hx hb dL_two_557 (by decide) (fun c557 => ?_) (fun c557 => ?_)
        · replace c557 := zb0.mp c557
          refine lv_bipush (v := 110) hx hb dL_two_565 (by decide) ?_
          exact jn_22 110 _ _ _ hw (lv_sub hl [0, 1, 2, 3, 4, 5, 6, 7, 8, 9, 10] rfl) (by first | exact if_pos c557 | exact if_neg c557)
        · replace c557 := zb1.mp c557
          refine lv_bipush (v := 45) hx hb dL_two_560 (by decide) ?_
          refine lv_goto (tgt := 567) hx hb dL_two_562 (by decide) ?_
          exact jn_22 45 _ _ _ hw (lv_sub hl [0, 1, 2, 3, 4, 5, 6, 7, 8, 9, 10] rfl) (by first | exact if_pos c557 | exact if_neg c557)
      refine lv_if_eq (tgt := 537) hx hb dL_two_529 (by decide) (fun c529 => ?_) (fun c529 => ?_)
      · replace c529 := zb0.mp c529
        refine lv_bipush (v := 110) hx hb dL_two_537 (by decide) ?_
        exact jn_19 110 _ _ _ hw (lv_sub hl [0, 1, 2, 3, 4, 5, 6, 7, 8, 9, 10] rfl) (by first | exact if_pos c529 | exact if_neg c529)
      · replace c529 := zb1.mp c529
        refine lv_bipush (v := 45) hx hb dL_two_532 (by decide) ?_
        refine lv_goto (tgt := 539) hx hb dL_two_534 (by decide) ?_
        exact jn_19 45 _ _ _ hw (lv_sub hl [0, 1, 2, 3, 4, 5, 6, 7, 8, 9, 10] rfl) (by first | exact if_pos c529 | exact if_neg c529)
    refine lv_if_eq (tgt := 509) hx hb dL_two_501 (by decide) (fun c501 => ?_) (fun c501 => ?_)
    · replace c501 := zb0.mp c501
      refine lv_bipush (v := 110) hx hb dL_two_509 (by decide) ?_
      exact jn_16 110 _ _ _ hw (lv_sub hl [0, 1, 2, 3, 4, 5, 6, 7, 8, 9, 10] rfl) (by first | exact if_pos c501 | exact if_neg c501)
    · replace c501 := zb1.mp c501
      refine lv_bipush (v := 45) hx hb dL_two_504 (by decide) ?_
      refine lv_goto (tgt := 511) hx hb dL_two_506 (by decide) ?_
      exact jn_16 45 _ _ _ hw (lv_sub hl [0, 1, 2, 3, 4, 5, 6, 7, 8, 9, 10] rfl) (by first | exact if_pos c501 | exact if_neg c501)
  refine lv_if_eq (tgt := 445) hx hb dL_two_438 (by decide) (fun c438 => ?_) (fun c438 => ?_)
  · replace c438 := zb0.mp c438
    refine lv_iconst (v := 0) hx hb dL_two_445 (by decide) ?_
    exact jn_13 0 _ _ _ hw (lv_sub hl [0, 1, 2, 3, 4, 5, 6, 7, 8, 9, 10] rfl) (by first | exact (zb_t c438).symm | exact (zb_f c438).symm)
  · replace c438 := zb1.mp c438
    refine lv_iconst (v := 1) hx hb dL_two_441 (by decide) ?_
    refine lv_goto (tgt := 446) hx hb dL_two_442 (by decide) ?_
    exact jn_13 1 _ _ _ hw (lv_sub hl [0, 1, 2, 3, 4, 5, 6, 7, 8, 9, 10] rfl) (by first | exact (zb_t c438).symm | exact (zb_f c438).symm)

set_option maxHeartbeats 4000000 in
set_option maxRecDepth 100000 in
theorem cut_L_two_301 {p : Program} {l : Launch} {e : Env} {s : State} {m : MethodId} {args : Array Value} {below : List Frame} {meth : Method} {c : Code} {H : Heap} {locs : List Loc} {ls : Array Slot} {D : va_G} {y : Nat → ClassId} {base : Nat} {S293 : zS} {a : Nat → Nat} {cn : Nat} {dn : Nat} {ad : Nat} {ri : Nat} {v : Nat} {hf : Nat} {rd : Bool} {a1 : Bool} {a2 : Bool} {M : Nat → Nat → Bool} (hst : l.stackTraces = false) (C : CallFix p m c cL_two 12 s args wsL_two RL) (hr : meth.sig.returnType = (some .boolean)) (hlocks : meth.locks = false) (hDs : zDs a) (hcn : cn < 4) (hdn : dn < 4) (hcd : cn ≠ dn) (had : ad < 128) (hri : ri < 16) (hv : v < 256) (hX : zX S293 a) (hNts : zNts S293 (a 4) (a 60) (a 61) (a 62) (a 63) (a 64)) (h41 : zI S293 64 (a 41) = 0) (hM : zCp S293 (a (40 + 0)) (a (50 + 0)) 60 M) (hRg : zRg S293 a (fun _ => 0)) (hMc : M cn = zcw) (hMd : M dn = zdw (zwg (zb (a1 = true)) (zb (a2 = true)) rd ad ri v)) (hw : zW D y base S293 s H locs) (hl : lv_has ls 12 [(10, .int (nI dn)), (9, .int (nI cn)), (8, .int (zb (a2 = true))), (7, .int (zb (a1 = true))), (6, .int (nI v)), (5, .int (nI ri)), (4, .int (zb (rd = true))), (3, .int (nI ad)), (2, .int (nI hf)), (1, .ref (a 0)), (0, .ref (y 98))]) : W p l e (headSpec wsL_two ({ frames := 10, cells := 73, slots := 5807, locals := 182 })).room s m args below meth c H locs 51 5743 (MQ below (va_Qi (fun (r : Int32) (S1 : zS) => r = 1) (zPost D y base) (zA base)) args s 73 5807 (zA base)) (F0 m 301 ls []) := by
  have hx := C.1
  have hb := C.2.1
  have hown := C.2.2.2.1
  have hts := C.2.2.2.2
  refine lv_aload_n hx hb dL_two_301 rfl (lv_at hl 9 rfl) ?_
  refine lv_bipush (v := 50) hx hb dL_two_302 (by decide) ?_
  refine lv_iconst (v := 3) hx hb dL_two_304 (by decide) ?_
  refine znewI (N := 3) C hw (by decide +kernel) (by decide) (by decide) (Nat.le_of_ble_eq_true rfl) (Nat.le_of_ble_eq_true rfl) (Nat.le_of_ble_eq_true rfl) dL_two_305 (fun q305 H kq305 hw => ?_)
  have hA : zAr S293 (znR S293 q305 22 3 (fun _ => 0)) q305 3 [] := zAr.new kq305
  generalize (znR S293 q305 22 3 (fun _ => 0)) = Sa305 at hw hA
  refine lv_dup hx hb dL_two_307 rfl ?_
  refine lv_iconst (v := 0) hx hb dL_two_308 (by decide) ?_
  refine lv_iconst (v := 0) hx hb dL_two_309 (by decide) ?_
  refine zast_I (a := q305) C hw hA.2.1 hA.2.2.1 (zin_of (N := 3) (by decide) (by grind) (by grind)) dL_two_310 (fun H locs hw => ?_)
  have hA : zAr S293 (zsR Sa305 22 q305 (upd (zR Sa305 22 q305) (0 : Int32).toNatClampNeg 0)) q305 3 [0] := zAr.st (k := 0) hA kq305 (by decide) rfl
  generalize (zsR Sa305 22 q305 (upd (zR Sa305 22 q305) (0 : Int32).toNatClampNeg 0)) = Sa310 at hw hA
  refine lv_dup hx hb dL_two_311 rfl ?_
  refine lv_iconst (v := 1) hx hb dL_two_312 (by decide) ?_
  refine lv_iload hx hb dL_two_313 (lv_at hl 1 rfl) ?_
  refine zast_I (a := q305) C hw hA.2.1 hA.2.2.1 (zin_of (N := 3) (by decide) (by grind) (by grind)) dL_two_315 (fun H locs hw => ?_)
  have hA : zAr S293 (zsR Sa310 22 q305 (upd (zR Sa310 22 q305) (1 : Int32).toNatClampNeg (nI cn))) q305 3 [0, (nI cn)] := zAr.st (k := 1) hA kq305 (by decide) rfl
  generalize (zsR Sa310 22 q305 (upd (zR Sa310 22 q305) (1 : Int32).toNatClampNeg (nI cn))) = Sa315 at hw hA
  refine lv_dup hx hb dL_two_316 rfl ?_
  refine lv_iconst (v := 2) hx hb dL_two_317 (by decide) ?_
  refine lv_iload hx hb dL_two_318 (lv_at hl 0 rfl) ?_
  refine zast_I (a := q305) C hw hA.2.1 hA.2.2.1 (zin_of (N := 3) (by decide) (by grind) (by grind)) dL_two_320 (fun H locs hw => ?_)
  have hA : zAr S293 (zsR Sa315 22 q305 (upd (zR Sa315 22 q305) (2 : Int32).toNatClampNeg (nI dn))) q305 3 [0, (nI cn), (nI dn)] := zAr.st (k := 2) hA kq305 (by decide) rfl
  generalize (zsR Sa315 22 q305 (upd (zR Sa315 22 q305) (2 : Int32).toNatClampNeg (nI dn))) = Sa320 at hw hA
  obtain ⟨hG, hK9, hN9, hA⟩ := hA
  have hj0 : zR Sa320 22 q305 0 = (nI 0) := (hA 0 0 rfl).trans rfl
  have hj1 : zR Sa320 22 q305 1 = (nI cn) := (hA 1 (nI cn) rfl).trans rfl
  have hj2 : zR Sa320 22 q305 2 = (nI dn) := (hA 2 (nI dn) rfl).trans rfl
  have hM := zCp.gw hG hX (by decide) hM
  have hRg := zRg.gw hG hX hRg
  have h41 := z41.gw hG hX h41
  have hNts := zNts.gw hG hNts
  have hX := zX.gw hG hX
  refine zcSW_i (As := [.ref (a 0), .int 50, .ref q305]) (rest := []) (n9 := 3) C hw (c_L_ask_2_decodeTwo_g l hst D y base Sa320 a 0 cn dn 60 M q305 hX hNts hDs (by decide) hcn hdn hcd hM ⟨by decide, by decide⟩ hK9 hN9 hj0 hj1 hj2) gL_two_L_ask rfl (by decide +kernel) ⟨⟨rfl, rfl⟩, Nat.le_of_ble_eq_true rfl, Nat.le_of_ble_eq_true rfl⟩ rfl hl.1 rfl (Nat.le_of_ble_eq_true rfl) ⟨Nat.le_of_ble_eq_true rfl, Nat.le_of_ble_eq_true rfl⟩ dL_two_321 (fun r321 S321 H locs hp321 hw => ?_)
  obtain ⟨hr9, hNo, hRg2, hDc⟩ := hp321
  have hRg : zR Sa320 22 (a 6) = (fun _ => 0) := hRg
  rw [hRg, hMc, hMd] at hr9 hNo hRg2
  obtain ⟨x, hx9⟩ : ∃ x : Nat → Bool, ∀ n, x n = decide (zlD (zwg (zb (a1 = true)) (zb (a2 = true)) rd ad ri v) (n + 2) = 1) := ⟨_, fun _ => rfl⟩
  obtain ⟨b1, b2, b3, b4, b5, b6⟩ := ztwo_bits a1 a2 rd had hri hv x hx9
  have e1 : (zRT zcw (zdw (zwg (zb (a1 = true)) (zb (a2 = true)) rd ad ri v)) (fun _ => 0) (60 - 1)).2.2.2.2.2.2.2.1 = _ := (zRT_two (rg := fun _ => 0) x hx9).1
  have e2 : (zRT zcw (zdw (zwg (zb (a1 = true)) (zb (a2 = true)) rd ad ri v)) (fun _ => 0) (60 - 1)).2.2.2.2.2.2.2.2 = _ := (zRT_two (rg := fun _ => 0) x hx9).2
  rw [b1, b2, b3, b4, b5, b6] at e1
  rw [b1, b2, b3, b4, b5, b6] at e2
  rw [e1] at hr9 hNo
  rw [e2] at hRg2
  have hr9 : r321 = 5 := hr9
  subst hr9
  have h41 := ((hDc.2.2 1 (by decide)).1).trans h41
  have hM := hDc.cp (by decide) hM
  have hX := hDc.1
  have hNts := hDc.2.1
  have hRg : zRg S321 a (zyR v a2 2 (zyW ri a2 1 (zyW (ad * 2 + (if rd = true then 1 else 0)) a1 0 false)) ((ad * 2 + (if rd = true then 1 else 0)) / 2) (ri % 16) (fun _ => 0)) := hRg2
  refine lv_iconst (v := 5) hx hb dL_two_324 (by decide) ?_
  refine lv_icmp_ne (tgt := 418) hx hb dL_two_325 (by decide) (fun c325 => absurd c325 (by decide)) (fun _ => ?_)
  refine lv_aload_n hx hb dL_two_328 rfl (lv_at hl 9 rfl) ?_
  refine lv_bipush (v := 107) hx hb dL_two_329 (by decide) ?_
  refine lv_iconst (v := 1) hx hb dL_two_331 (by decide) ?_
  refine znewI (N := 1) C hw (by decide +kernel) (by decide) (by decide) (Nat.le_of_ble_eq_true rfl) (Nat.le_of_ble_eq_true rfl) (Nat.le_of_ble_eq_true rfl) dL_two_332 (fun q332 H kq332 hw => ?_)
  have hA : zAr S321 (znR S321 q332 22 1 (fun _ => 0)) q332 1 [] := zAr.new kq332
  generalize (znR S321 q332 22 1 (fun _ => 0)) = Sa332 at hw hA
  refine lv_dup hx hb dL_two_334 rfl ?_
  refine lv_iconst (v := 0) hx hb dL_two_335 (by decide) ?_
  refine lv_iconst (v := 0) hx hb dL_two_336 (by decide) ?_
  refine zast_I (a := q332) C hw hA.2.1 hA.2.2.1 (zin_of (N := 1) (by decide) (by grind) (by grind)) dL_two_337 (fun H locs hw => ?_)
  have hA : zAr S321 (zsR Sa332 22 q332 (upd (zR Sa332 22 q332) (0 : Int32).toNatClampNeg 0)) q332 1 [0] := zAr.st (k := 0) hA kq332 (by decide) rfl
  generalize (zsR Sa332 22 q332 (upd (zR Sa332 22 q332) (0 : Int32).toNatClampNeg 0)) = Sa337 at hw hA
  obtain ⟨hG, hK9, hN9, hA⟩ := hA
  have hj0 : zR Sa337 22 q332 0 = (nI 0) := (hA 0 0 rfl).trans rfl
  have hNo := zNo.gw hG hNts hNo
  have hM := zCp.gw hG hX (by decide) hM
  have hRg := zRg.gw hG hX hRg
  have h41 := z41.gw hG hX h41
  have hNts := zNts.gw hG hNts
  have hX := zX.gw hG hX
  refine zcSW_i (As := [.ref (a 0), .int 107, .ref q332]) (rest := []) (n9 := 3) C hw (c_L_ask_k_kind_g l hst D y base Sa337 a 0 _ ((83, nI 1, nI 1, 0, 45) : zNt) q332 hX hNts hDs hNo rfl (show narrow .char (.int 83) = .int 83 by decide) hK9 hN9 hj0) gL_two_L_ask rfl (by decide +kernel) ⟨⟨rfl, rfl⟩, Nat.le_of_ble_eq_true rfl, Nat.le_of_ble_eq_true rfl⟩ rfl hl.1 rfl (Nat.le_of_ble_eq_true rfl) ⟨Nat.le_of_ble_eq_true rfl, Nat.le_of_ble_eq_true rfl⟩ dL_two_338 (fun r338 S338 H locs hp338 hw => ?_)
  obtain ⟨hr9, hS9⟩ := hp338
  have hr9 : r338 = 83 := hr9
  subst hr9
  have hS9 := hS9.symm
  subst hS9
  refine lv_bipush (v := 83) hx hb dL_two_341 (by decide) ?_
  refine lv_icmp_ne (tgt := 418) hx hb dL_two_343 (by decide) (fun c343 => absurd c343 (by decide)) (fun _ => ?_)
  refine lv_aload_n hx hb dL_two_346 rfl (lv_at hl 9 rfl) ?_
  refine lv_bipush (v := 107) hx hb dL_two_347 (by decide) ?_
  refine lv_iconst (v := 1) hx hb dL_two_349 (by decide) ?_
  refine znewI (N := 1) C hw (by decide +kernel) (by decide) (by decide) (Nat.le_of_ble_eq_true rfl) (Nat.le_of_ble_eq_true rfl) (Nat.le_of_ble_eq_true rfl) dL_two_350 (fun q350 H kq350 hw => ?_)
  have hA : zAr Sa337 (znR Sa337 q350 22 1 (fun _ => 0)) q350 1 [] := zAr.new kq350
  generalize (znR Sa337 q350 22 1 (fun _ => 0)) = Sa350 at hw hA
  refine lv_dup hx hb dL_two_352 rfl ?_
  refine lv_iconst (v := 0) hx hb dL_two_353 (by decide) ?_
  refine lv_iconst (v := 1) hx hb dL_two_354 (by decide) ?_
  refine zast_I (a := q350) C hw hA.2.1 hA.2.2.1 (zin_of (N := 1) (by decide) (by grind) (by grind)) dL_two_355 (fun H locs hw => ?_)
  have hA : zAr Sa337 (zsR Sa350 22 q350 (upd (zR Sa350 22 q350) (0 : Int32).toNatClampNeg 1)) q350 1 [1] := zAr.st (k := 0) hA kq350 (by decide) rfl
  generalize (zsR Sa350 22 q350 (upd (zR Sa350 22 q350) (0 : Int32).toNatClampNeg 1)) = Sa355 at hw hA
  obtain ⟨hG, hK9, hN9, hA⟩ := hA
  have hj0 : zR Sa355 22 q350 0 = (nI 1) := (hA 0 1 rfl).trans rfl
  have hNo := zNo.gw hG hNts hNo
  have hM := zCp.gw hG hX (by decide) hM
  have hRg := zRg.gw hG hX hRg
  have h41 := z41.gw hG hX h41
  have hNts := zNts.gw hG hNts
  have hX := zX.gw hG hX
  refine zcSW_i (As := [.ref (a 0), .int 107, .ref q350]) (rest := []) (n9 := 3) C hw (c_L_ask_k_kind_g l hst D y base Sa355 a 1 _ (zyN (ad * 2 + (if rd = true then 1 else 0)) a1 19 3 0) q350 hX hNts hDs hNo rfl (show narrow .char (.int 65) = .int 65 by decide) hK9 hN9 hj0) gL_two_L_ask rfl (by decide +kernel) ⟨⟨rfl, rfl⟩, Nat.le_of_ble_eq_true rfl, Nat.le_of_ble_eq_true rfl⟩ rfl hl.1 rfl (Nat.le_of_ble_eq_true rfl) ⟨Nat.le_of_ble_eq_true rfl, Nat.le_of_ble_eq_true rfl⟩ dL_two_356 (fun r356 S356 H locs hp356 hw => ?_)
  obtain ⟨hr9, hS9⟩ := hp356
  have hr9 : r356 = 65 := hr9
  subst hr9
  have hS9 := hS9.symm
  subst hS9
  refine lv_bipush (v := 65) hx hb dL_two_359 (by decide) ?_
  refine lv_icmp_ne (tgt := 418) hx hb dL_two_361 (by decide) (fun c361 => absurd c361 (by decide)) (fun _ => ?_)
  refine lv_aload_n hx hb dL_two_364 rfl (lv_at hl 9 rfl) ?_
  refine lv_bipush (v := 107) hx hb dL_two_365 (by decide) ?_
  refine lv_iconst (v := 1) hx hb dL_two_367 (by decide) ?_
  refine znewI (N := 1) C hw (by decide +kernel) (by decide) (by decide) (Nat.le_of_ble_eq_true rfl) (Nat.le_of_ble_eq_true rfl) (Nat.le_of_ble_eq_true rfl) dL_two_368 (fun q368 H kq368 hw => ?_)
  have hA : zAr Sa355 (znR Sa355 q368 22 1 (fun _ => 0)) q368 1 [] := zAr.new kq368
  generalize (znR Sa355 q368 22 1 (fun _ => 0)) = Sa368 at hw hA
  refine lv_dup hx hb dL_two_370 rfl ?_
  refine lv_iconst (v := 0) hx hb dL_two_371 (by decide) ?_
  refine lv_iconst (v := 2) hx hb dL_two_372 (by decide) ?_
  refine zast_I (a := q368) C hw hA.2.1 hA.2.2.1 (zin_of (N := 1) (by decide) (by grind) (by grind)) dL_two_373 (fun H locs hw => ?_)
  have hA : zAr Sa355 (zsR Sa368 22 q368 (upd (zR Sa368 22 q368) (0 : Int32).toNatClampNeg 2)) q368 1 [2] := zAr.st (k := 0) hA kq368 (by decide) rfl
  generalize (zsR Sa368 22 q368 (upd (zR Sa368 22 q368) (0 : Int32).toNatClampNeg 2)) = Sa373 at hw hA
  obtain ⟨hG, hK9, hN9, hA⟩ := hA
  have hj0 : zR Sa373 22 q368 0 = (nI 2) := (hA 0 2 rfl).trans rfl
  have hNo := zNo.gw hG hNts hNo
  have hM := zCp.gw hG hX (by decide) hM
  have hRg := zRg.gw hG hX hRg
  have h41 := z41.gw hG hX h41
  have hNts := zNts.gw hG hNts
  have hX := zX.gw hG hX
  refine zcSW_i (As := [.ref (a 0), .int 107, .ref q368]) (rest := []) (n9 := 3) C hw (c_L_ask_k_kind_g l hst D y base Sa373 a 2 _ (zyN ri a2 37 21 1) q368 hX hNts hDs hNo rfl (show narrow .char (.int 68) = .int 68 by decide) hK9 hN9 hj0) gL_two_L_ask rfl (by decide +kernel) ⟨⟨rfl, rfl⟩, Nat.le_of_ble_eq_true rfl, Nat.le_of_ble_eq_true rfl⟩ rfl hl.1 rfl (Nat.le_of_ble_eq_true rfl) ⟨Nat.le_of_ble_eq_true rfl, Nat.le_of_ble_eq_true rfl⟩ dL_two_374 (fun r374 S374 H locs hp374 hw => ?_)
  obtain ⟨hr9, hS9⟩ := hp374
  have hr9 : r374 = 68 := hr9
  subst hr9
  have hS9 := hS9.symm
  subst hS9
  refine lv_bipush (v := 68) hx hb dL_two_377 (by decide) ?_
  refine lv_icmp_ne (tgt := 418) hx hb dL_two_379 (by decide) (fun c379 => absurd c379 (by decide)) (fun _ => ?_)
  refine lv_aload_n hx hb dL_two_382 rfl (lv_at hl 9 rfl) ?_
  refine lv_bipush (v := 107) hx hb dL_two_383 (by decide) ?_
  refine lv_iconst (v := 1) hx hb dL_two_385 (by decide) ?_
  refine znewI (N := 1) C hw (by decide +kernel) (by decide) (by decide) (Nat.le_of_ble_eq_true rfl) (Nat.le_of_ble_eq_true rfl) (Nat.le_of_ble_eq_true rfl) dL_two_386 (fun q386 H kq386 hw => ?_)
  have hA : zAr Sa373 (znR Sa373 q386 22 1 (fun _ => 0)) q386 1 [] := zAr.new kq386
  generalize (znR Sa373 q386 22 1 (fun _ => 0)) = Sa386 at hw hA
  refine lv_dup hx hb dL_two_388 rfl ?_
  refine lv_iconst (v := 0) hx hb dL_two_389 (by decide) ?_
  refine lv_iconst (v := 3) hx hb dL_two_390 (by decide) ?_
  refine zast_I (a := q386) C hw hA.2.1 hA.2.2.1 (zin_of (N := 1) (by decide) (by grind) (by grind)) dL_two_391 (fun H locs hw => ?_)
  have hA : zAr Sa373 (zsR Sa386 22 q386 (upd (zR Sa386 22 q386) (0 : Int32).toNatClampNeg 3)) q386 1 [3] := zAr.st (k := 0) hA kq386 (by decide) rfl
  generalize (zsR Sa386 22 q386 (upd (zR Sa386 22 q386) (0 : Int32).toNatClampNeg 3)) = Sa391 at hw hA
  obtain ⟨hG, hK9, hN9, hA⟩ := hA
  have hj0 : zR Sa391 22 q386 0 = (nI 3) := (hA 0 3 rfl).trans rfl
  have hNo := zNo.gw hG hNts hNo
  have hM := zCp.gw hG hX (by decide) hM
  have hRg := zRg.gw hG hX hRg
  have h41 := z41.gw hG hX h41
  have hNts := zNts.gw hG hNts
  have hX := zX.gw hG hX
  refine zcSW_i (As := [.ref (a 0), .int 107, .ref q386]) (rest := []) (n9 := 3) C hw (c_L_ask_k_kind_g l hst D y base Sa391 a 3 _ (zyN v a2 55 39 2) q386 hX hNts hDs hNo rfl (show narrow .char (.int 68) = .int 68 by decide) hK9 hN9 hj0) gL_two_L_ask rfl (by decide +kernel) ⟨⟨rfl, rfl⟩, Nat.le_of_ble_eq_true rfl, Nat.le_of_ble_eq_true rfl⟩ rfl hl.1 rfl (Nat.le_of_ble_eq_true rfl) ⟨Nat.le_of_ble_eq_true rfl, Nat.le_of_ble_eq_true rfl⟩ dL_two_392 (fun r392 S392 H locs hp392 hw => ?_)
  obtain ⟨hr9, hS9⟩ := hp392
  have hr9 : r392 = 68 := hr9
  subst hr9
  have hS9 := hS9.symm
  subst hS9
  refine lv_bipush (v := 68) hx hb dL_two_395 (by decide) ?_
  refine lv_icmp_ne (tgt := 418) hx hb dL_two_397 (by decide) (fun c397 => absurd c397 (by decide)) (fun _ => ?_)
  refine lv_aload_n hx hb dL_two_400 rfl (lv_at hl 9 rfl) ?_
  refine lv_bipush (v := 107) hx hb dL_two_401 (by decide) ?_
  refine lv_iconst (v := 1) hx hb dL_two_403 (by decide) ?_
  refine znewI (N := 1) C hw (by decide +kernel) (by decide) (by decide) (Nat.le_of_ble_eq_true rfl) (Nat.le_of_ble_eq_true rfl) (Nat.le_of_ble_eq_true rfl) dL_two_404 (fun q404 H kq404 hw => ?_)
  have hA : zAr Sa391 (znR Sa391 q404 22 1 (fun _ => 0)) q404 1 [] := zAr.new kq404
  generalize (znR Sa391 q404 22 1 (fun _ => 0)) = Sa404 at hw hA
  refine lv_dup hx hb dL_two_406 rfl ?_
  refine lv_iconst (v := 0) hx hb dL_two_407 (by decide) ?_
  refine lv_iconst (v := 4) hx hb dL_two_408 (by decide) ?_
  refine zast_I (a := q404) C hw hA.2.1 hA.2.2.1 (zin_of (N := 1) (by decide) (by grind) (by grind)) dL_two_409 (fun H locs hw => ?_)
  have hA : zAr Sa391 (zsR Sa404 22 q404 (upd (zR Sa404 22 q404) (0 : Int32).toNatClampNeg 4)) q404 1 [4] := zAr.st (k := 0) hA kq404 (by decide) rfl
  generalize (zsR Sa404 22 q404 (upd (zR Sa404 22 q404) (0 : Int32).toNatClampNeg 4)) = Sa409 at hw hA
  obtain ⟨hG, hK9, hN9, hA⟩ := hA
  have hj0 : zR Sa409 22 q404 0 = (nI 4) := (hA 0 4 rfl).trans rfl
  have hNo := zNo.gw hG hNts hNo
  have hM := zCp.gw hG hX (by decide) hM
  have hRg := zRg.gw hG hX hRg
  have h41 := z41.gw hG hX h41
  have hNts := zNts.gw hG hNts
  have hX := zX.gw hG hX
  refine zcSW_i (As := [.ref (a 0), .int 107, .ref q404]) (rest := []) (n9 := 3) C hw (c_L_ask_k_kind_g l hst D y base Sa409 a 4 _ ((69, nI 58, nI 58, 0, 45) : zNt) q404 hX hNts hDs hNo rfl (show narrow .char (.int 69) = .int 69 by decide) hK9 hN9 hj0) gL_two_L_ask rfl (by decide +kernel) ⟨⟨rfl, rfl⟩, Nat.le_of_ble_eq_true rfl, Nat.le_of_ble_eq_true rfl⟩ rfl hl.1 rfl (Nat.le_of_ble_eq_true rfl) ⟨Nat.le_of_ble_eq_true rfl, Nat.le_of_ble_eq_true rfl⟩ dL_two_410 (fun r410 S410 H locs hp410 hw => ?_)
  obtain ⟨hr9, hS9⟩ := hp410
  have hr9 : r410 = 69 := hr9
  subst hr9
  have hS9 := hS9.symm
  subst hS9
  refine lv_bipush (v := 69) hx hb dL_two_413 (by decide) ?_
  refine lv_icmp_eq (tgt := 420) hx hb dL_two_415 (by decide) (fun _ => ?_) (fun c415 => absurd c415 (by decide))
  exact cut_L_two_420 hst C hr hlocks hDs hcn hdn hcd had hri hv hX hNts h41 hM hRg hNo hw hl

set_option maxHeartbeats 4000000 in
set_option maxRecDepth 100000 in
/-- L_two -/
theorem c_L_two (l : Launch) (hst : l.stackTraces = false) (D : va_G) (y : Nat → ClassId) (base : Nat) (S : zS)  (hy31 : y 99 < 2 ^ 31) : zMi l yL_two wsL_two ({ frames := 10, cells := 73, slots := 5807, locals := 182 }) [.ref (y 98)] D y base S (fun (r : Int32) (S1 : zS) => r = 1) 73 5807 := by
  refine zMet_of (cc := cL_two) (maxL := 12) (ret := (some .boolean)) (own := RL) (by decide +kernel) rfl rfl (Nat.le_of_ble_eq_true rfl) ?_
  intro p e s m args below meth c ls C hr hlocks hnm hw hl
  have hx := C.1
  have hb := C.2.1
  have hown := C.2.2.2.1
  have hts := C.2.2.2.2
  have hl : lv_has ls 12 [(0, .ref (y 98))] := hl
  have in_X7 : ∀ w ∈ wsX70, w ∈ wsL_two := by decide +kernel
  refine znew (k := 11) (Cn := RX7) (T := TX7) (N := 8) C hw (by decide) (by decide) rfl in_X7 tyX7 tyX7_ok (by decide +kernel) (by decide +kernel) (by decide +kernel) (zdfX7) (Nat.le_of_ble_eq_true rfl) (Nat.le_of_ble_eq_true rfl) dL_two_0 (fun q0 H kq0 hw => ?_)
  refine lv_dup hx hb dL_two_3 rfl ?_
  have kq0s : zK (znO S q0 11) q0 = 11 := zK_nOs _ _ _
  have hz9 : ∀ t, zI (znO S q0 11) t q0 = 0 := fun t => zI_nOs _ _ _ t
  refine zcI_v (As := []) (rest := [.ref q0]) (n9 := 0) (b := q0) C hw (c_X7_init_n l D y base (znO S q0 11) q0 kq0s hz9) gL_two_X7_init rfl (by decide +kernel) (by decide +kernel) (by decide +kernel) rfl (by decide +kernel) ⟨⟨rfl, rfl⟩, Nat.le_of_ble_eq_true rfl, Nat.le_of_ble_eq_true rfl⟩ rfl hl.1 rfl (Nat.le_of_ble_eq_true rfl) ⟨Nat.le_of_ble_eq_true rfl, Nat.le_of_ble_eq_true rfl⟩ dL_two_4 (fun S4 H locs hp4 hw => ?_)
  obtain ⟨a, ha0, hNw, hDs, -⟩ := hp4
  have hw4 := hw
  subst ha0
  have hw := hw4
  have hOb := zOb.new hNw
  refine lv_astore_n (lv' := [(1, .ref (a 0)), (0, .ref (y 98))]) hx hb dL_two_7 rfl hl (by decide) rfl (fun ls hl => ?_)
  refine lv_iconst (v := 1) hx hb dL_two_8 (by decide) ?_
  refine lv_aload_n hx hb dL_two_9 rfl (lv_at hl 1 rfl) ?_
  refine lv_bipush (v := 6) hx hb dL_two_10 (by decide) ?_
  refine zcS_i (As := [.ref (y 98), .int 6]) (rest := [.int 1]) (n9 := 2) C hw (c_L_at l D y base S4 6 (by decide) hy31) gL_two_L_at rfl (by decide +kernel) ⟨⟨rfl, rfl⟩, Nat.le_of_ble_eq_true rfl, Nat.le_of_ble_eq_true rfl⟩ rfl hl.1 rfl (Nat.le_of_ble_eq_true rfl) ⟨Nat.le_of_ble_eq_true rfl, Nat.le_of_ble_eq_true rfl⟩ dL_two_12 (fun r12 S12 H locs hp12 hw => ?_)
  obtain ⟨rfl, hS9⟩ := hp12
  have hS9 := hS9.symm
  subst hS9
  refine lv_bipush (v := 9) hx hb dL_two_15 (by decide) ?_
  refine zcS_i (As := [.int ((if 6 < y 99 then zxs y 6 else 0)), .int 9]) (rest := [.int 1]) (n9 := 2) C hw (c_L_some l D y base S4 ((if 6 < y 99 then zxs y 6 else 0)) 9 (by decide) (by decide)) gL_two_L_some rfl (by decide +kernel) ⟨⟨rfl, rfl⟩, Nat.le_of_ble_eq_true rfl, Nat.le_of_ble_eq_true rfl⟩ rfl hl.1 rfl (Nat.le_of_ble_eq_true rfl) ⟨Nat.le_of_ble_eq_true rfl, Nat.le_of_ble_eq_true rfl⟩ dL_two_17 (fun r17 S17 H locs hp17 hw => ?_)
  obtain ⟨rfl, hS9⟩ := hp17
  have hS9 := hS9.symm
  subst hS9
  obtain ⟨g9, hg9, eg9⟩ : ∃ k, k < 9 ∧ zsome ((if 6 < y 99 then zxs y 6 else 0)) 9 = k := ⟨_, zsome_lt (by decide), rfl⟩
  refine zrd (x := (nI g9)) (congrArg nI eg9) ?_
  refine lv_iadd hx hb dL_two_20 ?_
  obtain ⟨hf, ehf, hf1, hf9⟩ : ∃ h, 1 + g9 = h ∧ 1 ≤ h ∧ h < 10 := ⟨_, rfl, by omega, by omega⟩
  refine zrd (x := (nI hf)) ((nI_add 1 g9).trans (congrArg nI ehf)) ?_
  refine lv_istore_n (lv' := [(2, .int (nI hf)), (1, .ref (a 0)), (0, .ref (y 98))]) hx hb dL_two_21 rfl hl (by decide) rfl (fun ls hl => ?_)
  refine lv_aload_n hx hb dL_two_22 rfl (lv_at hl 2 rfl) ?_
  refine lv_bipush (v := 7) hx hb dL_two_23 (by decide) ?_
  refine zcS_i (As := [.ref (y 98), .int 7]) (rest := []) (n9 := 2) C hw (c_L_at l D y base S4 7 (by decide) hy31) gL_two_L_at rfl (by decide +kernel) ⟨⟨rfl, rfl⟩, Nat.le_of_ble_eq_true rfl, Nat.le_of_ble_eq_true rfl⟩ rfl hl.1 rfl (Nat.le_of_ble_eq_true rfl) ⟨Nat.le_of_ble_eq_true rfl, Nat.le_of_ble_eq_true rfl⟩ dL_two_25 (fun r25 S25 H locs hp25 hw => ?_)
  obtain ⟨rfl, hS9⟩ := hp25
  have hS9 := hS9.symm
  subst hS9
  refine lv_sipush (v := 128) hx hb dL_two_28 (by decide) ?_
  refine zcS_i (As := [.int ((if 7 < y 99 then zxs y 7 else 0)), .int 128]) (rest := []) (n9 := 2) C hw (c_L_some l D y base S4 ((if 7 < y 99 then zxs y 7 else 0)) 128 (by decide) (by decide)) gL_two_L_some rfl (by decide +kernel) ⟨⟨rfl, rfl⟩, Nat.le_of_ble_eq_true rfl, Nat.le_of_ble_eq_true rfl⟩ rfl hl.1 rfl (Nat.le_of_ble_eq_true rfl) ⟨Nat.le_of_ble_eq_true rfl, Nat.le_of_ble_eq_true rfl⟩ dL_two_31 (fun r31 S31 H locs hp31 hw => ?_)
  obtain ⟨rfl, hS9⟩ := hp31
  have hS9 := hS9.symm
  subst hS9
  obtain ⟨ad, had, ead⟩ : ∃ k, k < 128 ∧ zsome ((if 7 < y 99 then zxs y 7 else 0)) 128 = k := ⟨_, zsome_lt (by decide), rfl⟩
  refine zrd (x := (nI ad)) (congrArg nI ead) ?_
  refine lv_istore_n (lv' := [(3, .int (nI ad)), (2, .int (nI hf)), (1, .ref (a 0)), (0, .ref (y 98))]) hx hb dL_two_34 rfl hl (by decide) rfl (fun ls hl => ?_)
  refine lv_aload_n hx hb dL_two_35 rfl (lv_at hl 3 rfl) ?_
  refine lv_bipush (v := 8) hx hb dL_two_36 (by decide) ?_
  refine zcS_i (As := [.ref (y 98), .int 8]) (rest := []) (n9 := 2) C hw (c_L_at l D y base S4 8 (by decide) hy31) gL_two_L_at rfl (by decide +kernel) ⟨⟨rfl, rfl⟩, Nat.le_of_ble_eq_true rfl, Nat.le_of_ble_eq_true rfl⟩ rfl hl.1 rfl (Nat.le_of_ble_eq_true rfl) ⟨Nat.le_of_ble_eq_true rfl, Nat.le_of_ble_eq_true rfl⟩ dL_two_38 (fun r38 S38 H locs hp38 hw => ?_)
  obtain ⟨rfl, hS9⟩ := hp38
  have hS9 := hS9.symm
  subst hS9
  refine lv_iconst (v := 3) hx hb dL_two_41 (by decide) ?_
  refine zcS_i (As := [.int ((if 8 < y 99 then zxs y 8 else 0)), .int 3]) (rest := []) (n9 := 2) C hw (c_L_some l D y base S4 ((if 8 < y 99 then zxs y 8 else 0)) 3 (by decide) (by decide)) gL_two_L_some rfl (by decide +kernel) ⟨⟨rfl, rfl⟩, Nat.le_of_ble_eq_true rfl, Nat.le_of_ble_eq_true rfl⟩ rfl hl.1 rfl (Nat.le_of_ble_eq_true rfl) ⟨Nat.le_of_ble_eq_true rfl, Nat.le_of_ble_eq_true rfl⟩ dL_two_42 (fun r42 S42 H locs hp42 hw => ?_)
  obtain ⟨rfl, hS9⟩ := hp42
  have hS9 := hS9.symm
  subst hS9
  obtain ⟨r3, hr3, er3⟩ : ∃ k, k < 3 ∧ zsome ((if 8 < y 99 then zxs y 8 else 0)) 3 = k := ⟨_, zsome_lt (by decide), rfl⟩
  refine zrd (x := (nI r3)) (congrArg nI er3) ?_
  have jn_1 : ∀ (rx_2 : Int32) (H : Heap) (locs : List Loc) (ls : Array Slot), zW D y base S4 s H locs → lv_has ls 12 [(3, .int (nI ad)), (2, .int (nI hf)), (1, .ref (a 0)), (0, .ref (y 98))] → (zb (decide (r3 = 0) = true) = rx_2) → W p l e (headSpec wsL_two ({ frames := 10, cells := 73, slots := 5807, locals := 182 })).room s m args below meth c H locs 31 5631 (MQ below (va_Qi (fun (r : Int32) (S1 : zS) => r = 1) (zPost D y base) (zA base)) args s 73 5807 (zA base)) (F0 m 53 ls [.int rx_2]) := by
    intro rx_2 H locs ls hw hl f_3
    obtain ⟨rd, erd⟩ : ∃ b, decide (r3 = 0) = b := ⟨_, rfl⟩
    rw [erd] at f_3
    subst f_3
    refine lv_istore (lv' := [(4, .int (zb (rd = true))), (3, .int (nI ad)), (2, .int (nI hf)), (1, .ref (a 0)), (0, .ref (y 98))]) hx hb dL_two_53 hl (by decide) rfl (fun ls hl => ?_)
    refine lv_aload_n hx hb dL_two_55 rfl (lv_at hl 4 rfl) ?_
    refine lv_bipush (v := 9) hx hb dL_two_56 (by decide) ?_
    refine zcS_i (As := [.ref (y 98), .int 9]) (rest := []) (n9 := 2) C hw (c_L_at l D y base S4 9 (by decide) hy31) gL_two_L_at rfl (by decide +kernel) ⟨⟨rfl, rfl⟩, Nat.le_of_ble_eq_true rfl, Nat.le_of_ble_eq_true rfl⟩ rfl hl.1 rfl (Nat.le_of_ble_eq_true rfl) ⟨Nat.le_of_ble_eq_true rfl, Nat.le_of_ble_eq_true rfl⟩ dL_two_58 (fun r58 S58 H locs hp58 hw => ?_)
    obtain ⟨rfl, hS9⟩ := hp58
    have hS9 := hS9.symm
    subst hS9
    refine lv_bipush (v := 16) hx hb dL_two_61 (by decide) ?_
    refine zcS_i (As := [.int ((if 9 < y 99 then zxs y 9 else 0)), .int 16]) (rest := []) (n9 := 2) C hw (c_L_some l D y base S4 ((if 9 < y 99 then zxs y 9 else 0)) 16 (by decide) (by decide)) gL_two_L_some rfl (by decide +kernel) ⟨⟨rfl, rfl⟩, Nat.le_of_ble_eq_true rfl, Nat.le_of_ble_eq_true rfl⟩ rfl hl.1 rfl (Nat.le_of_ble_eq_true rfl) ⟨Nat.le_of_ble_eq_true rfl, Nat.le_of_ble_eq_true rfl⟩ dL_two_63 (fun r63 S63 H locs hp63 hw => ?_)
    obtain ⟨rfl, hS9⟩ := hp63
    have hS9 := hS9.symm
    subst hS9
    obtain ⟨ri, hri, eri⟩ : ∃ k, k < 16 ∧ zsome ((if 9 < y 99 then zxs y 9 else 0)) 16 = k := ⟨_, zsome_lt (by decide), rfl⟩
    refine zrd (x := (nI ri)) (congrArg nI eri) ?_
    refine lv_istore (lv' := [(5, .int (nI ri)), (4, .int (zb (rd = true))), (3, .int (nI ad)), (2, .int (nI hf)), (1, .ref (a 0)), (0, .ref (y 98))]) hx hb dL_two_66 hl (by decide) rfl (fun ls hl => ?_)
    refine lv_aload_n hx hb dL_two_68 rfl (lv_at hl 5 rfl) ?_
    refine lv_bipush (v := 10) hx hb dL_two_69 (by decide) ?_
    refine zcS_i (As := [.ref (y 98), .int 10]) (rest := []) (n9 := 2) C hw (c_L_at l D y base S4 10 (by decide) hy31) gL_two_L_at rfl (by decide +kernel) ⟨⟨rfl, rfl⟩, Nat.le_of_ble_eq_true rfl, Nat.le_of_ble_eq_true rfl⟩ rfl hl.1 rfl (Nat.le_of_ble_eq_true rfl) ⟨Nat.le_of_ble_eq_true rfl, Nat.le_of_ble_eq_true rfl⟩ dL_two_71 (fun r71 S71 H locs hp71 hw => ?_)
    obtain ⟨rfl, hS9⟩ := hp71
    have hS9 := hS9.symm
    subst hS9
    refine lv_sipush (v := 256) hx hb dL_two_74 (by decide) ?_
    refine zcS_i (As := [.int ((if 10 < y 99 then zxs y 10 else 0)), .int 256]) (rest := []) (n9 := 2) C hw (c_L_some l D y base S4 ((if 10 < y 99 then zxs y 10 else 0)) 256 (by decide) (by decide)) gL_two_L_some rfl (by decide +kernel) ⟨⟨rfl, rfl⟩, Nat.le_of_ble_eq_true rfl, Nat.le_of_ble_eq_true rfl⟩ rfl hl.1 rfl (Nat.le_of_ble_eq_true rfl) ⟨Nat.le_of_ble_eq_true rfl, Nat.le_of_ble_eq_true rfl⟩ dL_two_77 (fun r77 S77 H locs hp77 hw => ?_)
    obtain ⟨rfl, hS9⟩ := hp77
    have hS9 := hS9.symm
    subst hS9
    obtain ⟨v, hv, ev⟩ : ∃ k, k < 256 ∧ zsome ((if 10 < y 99 then zxs y 10 else 0)) 256 = k := ⟨_, zsome_lt (by decide), rfl⟩
    refine zrd (x := (nI v)) (congrArg nI ev) ?_
    refine lv_istore (lv' := [(6, .int (nI v)), (5, .int (nI ri)), (4, .int (zb (rd = true))), (3, .int (nI ad)), (2, .int (nI hf)), (1, .ref (a 0)), (0, .ref (y 98))]) hx hb dL_two_80 hl (by decide) rfl (fun ls hl => ?_)
    refine lv_aload_n hx hb dL_two_82 rfl (lv_at hl 6 rfl) ?_
    refine lv_bipush (v := 11) hx hb dL_two_83 (by decide) ?_
    refine zcS_i (As := [.ref (y 98), .int 11]) (rest := []) (n9 := 2) C hw (c_L_at l D y base S4 11 (by decide) hy31) gL_two_L_at rfl (by decide +kernel) ⟨⟨rfl, rfl⟩, Nat.le_of_ble_eq_true rfl, Nat.le_of_ble_eq_true rfl⟩ rfl hl.1 rfl (Nat.le_of_ble_eq_true rfl) ⟨Nat.le_of_ble_eq_true rfl, Nat.le_of_ble_eq_true rfl⟩ dL_two_85 (fun r85 S85 H locs hp85 hw => ?_)
    obtain ⟨rfl, hS9⟩ := hp85
    have hS9 := hS9.symm
    subst hS9
    refine lv_iconst (v := 4) hx hb dL_two_88 (by decide) ?_
    refine zcS_i (As := [.int ((if 11 < y 99 then zxs y 11 else 0)), .int 4]) (rest := []) (n9 := 2) C hw (c_L_some l D y base S4 ((if 11 < y 99 then zxs y 11 else 0)) 4 (by decide) (by decide)) gL_two_L_some rfl (by decide +kernel) ⟨⟨rfl, rfl⟩, Nat.le_of_ble_eq_true rfl, Nat.le_of_ble_eq_true rfl⟩ rfl hl.1 rfl (Nat.le_of_ble_eq_true rfl) ⟨Nat.le_of_ble_eq_true rfl, Nat.le_of_ble_eq_true rfl⟩ dL_two_89 (fun r89 S89 H locs hp89 hw => ?_)
    obtain ⟨rfl, hS9⟩ := hp89
    have hS9 := hS9.symm
    subst hS9
    obtain ⟨r4, hr4, er4⟩ : ∃ k, k < 4 ∧ zsome ((if 11 < y 99 then zxs y 11 else 0)) 4 = k := ⟨_, zsome_lt (by decide), rfl⟩
    refine zrd (x := (nI r4)) (congrArg nI er4) ?_
    have jn_4 : ∀ (rx_5 : Int32) (H : Heap) (locs : List Loc) (ls : Array Slot), zW D y base S4 s H locs → lv_has ls 12 [(6, .int (nI v)), (5, .int (nI ri)), (4, .int (zb (rd = true))), (3, .int (nI ad)), (2, .int (nI hf)), (1, .ref (a 0)), (0, .ref (y 98))] → (zb (decide (0 < r4) = true) = rx_5) → W p l e (headSpec wsL_two ({ frames := 10, cells := 73, slots := 5807, locals := 182 })).room s m args below meth c H locs 31 5631 (MQ below (va_Qi (fun (r : Int32) (S1 : zS) => r = 1) (zPost D y base) (zA base)) args s 73 5807 (zA base)) (F0 m 100 ls [.int rx_5]) := by
      intro rx_5 H locs ls hw hl f_6
      obtain ⟨a1, ea1⟩ : ∃ b, decide (0 < r4) = b := ⟨_, rfl⟩
      rw [ea1] at f_6
      subst f_6
      refine lv_istore (lv' := [(7, .int (zb (a1 = true))), (6, .int (nI v)), (5, .int (nI ri)), (4, .int (zb (rd = true))), (3, .int (nI ad)), (2, .int (nI hf)), (1, .ref (a 0)), (0, .ref (y 98))]) hx hb dL_two_100 hl (by decide) rfl (fun ls hl => ?_)
      refine lv_aload_n hx hb dL_two_102 rfl (lv_at hl 7 rfl) ?_
      refine lv_bipush (v := 12) hx hb dL_two_103 (by decide) ?_
      refine zcS_i (As := [.ref (y 98), .int 12]) (rest := []) (n9 := 2) C hw (c_L_at l D y base S4 12 (by decide) hy31) gL_two_L_at rfl (by decide +kernel) ⟨⟨rfl, rfl⟩, Nat.le_of_ble_eq_true rfl, Nat.le_of_ble_eq_true rfl⟩ rfl hl.1 rfl (Nat.le_of_ble_eq_true rfl) ⟨Nat.le_of_ble_eq_true rfl, Nat.le_of_ble_eq_true rfl⟩ dL_two_105 (fun r105 S105 H locs hp105 hw => ?_)
      obtain ⟨rfl, hS9⟩ := hp105
      have hS9 := hS9.symm
      subst hS9
      refine lv_iconst (v := 4) hx hb dL_two_108 (by decide) ?_
      refine zcS_i (As := [.int ((if 12 < y 99 then zxs y 12 else 0)), .int 4]) (rest := []) (n9 := 2) C hw (c_L_some l D y base S4 ((if 12 < y 99 then zxs y 12 else 0)) 4 (by decide) (by decide)) gL_two_L_some rfl (by decide +kernel) ⟨⟨rfl, rfl⟩, Nat.le_of_ble_eq_true rfl, Nat.le_of_ble_eq_true rfl⟩ rfl hl.1 rfl (Nat.le_of_ble_eq_true rfl) ⟨Nat.le_of_ble_eq_true rfl, Nat.le_of_ble_eq_true rfl⟩ dL_two_109 (fun r109 S109 H locs hp109 hw => ?_)
      obtain ⟨rfl, hS9⟩ := hp109
      have hS9 := hS9.symm
      subst hS9
      obtain ⟨r5, hr5, er5⟩ : ∃ k, k < 4 ∧ zsome ((if 12 < y 99 then zxs y 12 else 0)) 4 = k := ⟨_, zsome_lt (by decide), rfl⟩
      refine zrd (x := (nI r5)) (congrArg nI er5) ?_
      have jn_7 : ∀ (rx_8 : Int32) (H : Heap) (locs : List Loc) (ls : Array Slot), zW D y base S4 s H locs → lv_has ls 12 [(7, .int (zb (a1 = true))), (6, .int (nI v)), (5, .int (nI ri)), (4, .int (zb (rd = true))), (3, .int (nI ad)), (2, .int (nI hf)), (1, .ref (a 0)), (0, .ref (y 98))] → (zb (decide (0 < r5) = true) = rx_8) → W p l e (headSpec wsL_two ({ frames := 10, cells := 73, slots := 5807, locals := 182 })).room s m args below meth c H locs 31 5631 (MQ below (va_Qi (fun (r : Int32) (S1 : zS) => r = 1) (zPost D y base) (zA base)) args s 73 5807 (zA base)) (F0 m 120 ls [.int rx_8]) := by
        intro rx_8 H locs ls hw hl f_9
        obtain ⟨a2, ea2⟩ : ∃ b, decide (0 < r5) = b := ⟨_, rfl⟩
        rw [ea2] at f_9
        subst f_9
        refine lv_istore (lv' := [(8, .int (zb (a2 = true))), (7, .int (zb (a1 = true))), (6, .int (nI v)), (5, .int (nI ri)), (4, .int (zb (rd = true))), (3, .int (nI ad)), (2, .int (nI hf)), (1, .ref (a 0)), (0, .ref (y 98))]) hx hb dL_two_120 hl (by decide) rfl (fun ls hl => ?_)
        refine lv_aload_n hx hb dL_two_122 rfl (lv_at hl 8 rfl) ?_
        refine lv_bipush (v := 13) hx hb dL_two_123 (by decide) ?_
        refine zcS_i (As := [.ref (y 98), .int 13]) (rest := []) (n9 := 2) C hw (c_L_at l D y base S4 13 (by decide) hy31) gL_two_L_at rfl (by decide +kernel) ⟨⟨rfl, rfl⟩, Nat.le_of_ble_eq_true rfl, Nat.le_of_ble_eq_true rfl⟩ rfl hl.1 rfl (Nat.le_of_ble_eq_true rfl) ⟨Nat.le_of_ble_eq_true rfl, Nat.le_of_ble_eq_true rfl⟩ dL_two_125 (fun r125 S125 H locs hp125 hw => ?_)
        obtain ⟨rfl, hS9⟩ := hp125
        have hS9 := hS9.symm
        subst hS9
        refine lv_iconst (v := 4) hx hb dL_two_128 (by decide) ?_
        refine zcS_i (As := [.int ((if 13 < y 99 then zxs y 13 else 0)), .int 4]) (rest := []) (n9 := 2) C hw (c_L_some l D y base S4 ((if 13 < y 99 then zxs y 13 else 0)) 4 (by decide) (by decide)) gL_two_L_some rfl (by decide +kernel) ⟨⟨rfl, rfl⟩, Nat.le_of_ble_eq_true rfl, Nat.le_of_ble_eq_true rfl⟩ rfl hl.1 rfl (Nat.le_of_ble_eq_true rfl) ⟨Nat.le_of_ble_eq_true rfl, Nat.le_of_ble_eq_true rfl⟩ dL_two_129 (fun r129 S129 H locs hp129 hw => ?_)
        obtain ⟨rfl, hS9⟩ := hp129
        have hS9 := hS9.symm
        subst hS9
        obtain ⟨cn, hcn, ecn⟩ : ∃ k, k < 4 ∧ zsome ((if 13 < y 99 then zxs y 13 else 0)) 4 = k := ⟨_, zsome_lt (by decide), rfl⟩
        refine zrd (x := (nI cn)) (congrArg nI ecn) ?_
        refine lv_istore (lv' := [(9, .int (nI cn)), (8, .int (zb (a2 = true))), (7, .int (zb (a1 = true))), (6, .int (nI v)), (5, .int (nI ri)), (4, .int (zb (rd = true))), (3, .int (nI ad)), (2, .int (nI hf)), (1, .ref (a 0)), (0, .ref (y 98))]) hx hb dL_two_132 hl (by decide) rfl (fun ls hl => ?_)
        refine lv_iload hx hb dL_two_134 (lv_at hl 0 rfl) ?_
        refine lv_iconst (v := 1) hx hb dL_two_136 (by decide) ?_
        refine lv_iadd hx hb dL_two_137 ?_
        refine zrd (x := (nI (cn + 1))) (nI_1 _) ?_
        refine lv_aload_n hx hb dL_two_138 rfl (lv_at hl 9 rfl) ?_
        refine lv_bipush (v := 14) hx hb dL_two_139 (by decide) ?_
        refine zcS_i (As := [.ref (y 98), .int 14]) (rest := [.int (nI (cn + 1))]) (n9 := 2) C hw (c_L_at l D y base S4 14 (by decide) hy31) gL_two_L_at rfl (by decide +kernel) ⟨⟨rfl, rfl⟩, Nat.le_of_ble_eq_true rfl, Nat.le_of_ble_eq_true rfl⟩ rfl hl.1 rfl (Nat.le_of_ble_eq_true rfl) ⟨Nat.le_of_ble_eq_true rfl, Nat.le_of_ble_eq_true rfl⟩ dL_two_141 (fun r141 S141 H locs hp141 hw => ?_)
        obtain ⟨rfl, hS9⟩ := hp141
        have hS9 := hS9.symm
        subst hS9
        refine lv_iconst (v := 3) hx hb dL_two_144 (by decide) ?_
        refine zcS_i (As := [.int ((if 14 < y 99 then zxs y 14 else 0)), .int 3]) (rest := [.int (nI (cn + 1))]) (n9 := 2) C hw (c_L_some l D y base S4 ((if 14 < y 99 then zxs y 14 else 0)) 3 (by decide) (by decide)) gL_two_L_some rfl (by decide +kernel) ⟨⟨rfl, rfl⟩, Nat.le_of_ble_eq_true rfl, Nat.le_of_ble_eq_true rfl⟩ rfl hl.1 rfl (Nat.le_of_ble_eq_true rfl) ⟨Nat.le_of_ble_eq_true rfl, Nat.le_of_ble_eq_true rfl⟩ dL_two_145 (fun r145 S145 H locs hp145 hw => ?_)
        obtain ⟨rfl, hS9⟩ := hp145
        have hS9 := hS9.symm
        subst hS9
        obtain ⟨e3, he3, ee3⟩ : ∃ k, k < 3 ∧ zsome ((if 14 < y 99 then zxs y 14 else 0)) 3 = k := ⟨_, zsome_lt (by decide), rfl⟩
        refine zrd (x := (nI e3)) (congrArg nI ee3) ?_
        refine lv_iadd hx hb dL_two_148 ?_
        refine zrd (x := (nI (cn + 1 + e3))) (nI_add _ _) ?_
        refine lv_iconst (v := 4) hx hb dL_two_149 (by decide) ?_
        refine lv_irem hx hb dL_two_150 (by decide) ?_
        obtain ⟨dn, edn, hdn, hcd⟩ : ∃ d, (cn + 1 + e3) % 4 = d ∧ d < 4 ∧ cn ≠ d := ⟨_, rfl, by omega, by omega⟩
        refine zrd (x := (nI dn)) ((zrm4 _ (by omega)).trans (congrArg nI edn)) ?_
        refine lv_istore (lv' := [(10, .int (nI dn)), (9, .int (nI cn)), (8, .int (zb (a2 = true))), (7, .int (zb (a1 = true))), (6, .int (nI v)), (5, .int (nI ri)), (4, .int (zb (rd = true))), (3, .int (nI ad)), (2, .int (nI hf)), (1, .ref (a 0)), (0, .ref (y 98))]) hx hb dL_two_151 hl (by decide) rfl (fun ls hl => ?_)
        refine lv_aload_n hx hb dL_two_153 rfl (lv_at hl 9 rfl) ?_
        refine lv_bipush (v := 73) hx hb dL_two_154 (by decide) ?_
        refine lv_iconst (v := 2) hx hb dL_two_156 (by decide) ?_
        refine znewI (N := 2) C hw (by decide +kernel) (by decide) (by decide) (Nat.le_of_ble_eq_true rfl) (Nat.le_of_ble_eq_true rfl) (Nat.le_of_ble_eq_true rfl) dL_two_157 (fun q157 H kq157 hw => ?_)
        have hA : zAr S4 (znR S4 q157 22 2 (fun _ => 0)) q157 2 [] := zAr.new kq157
        generalize (znR S4 q157 22 2 (fun _ => 0)) = Sa157 at hw hA
        refine lv_dup hx hb dL_two_159 rfl ?_
        refine lv_iconst (v := 0) hx hb dL_two_160 (by decide) ?_
        refine lv_iload hx hb dL_two_161 (lv_at hl 1 rfl) ?_
        refine zast_I (a := q157) C hw hA.2.1 hA.2.2.1 (zin_of (N := 2) (by decide) (by grind) (by grind)) dL_two_163 (fun H locs hw => ?_)
        have hA : zAr S4 (zsR Sa157 22 q157 (upd (zR Sa157 22 q157) (0 : Int32).toNatClampNeg (nI cn))) q157 2 [(nI cn)] := zAr.st (k := 0) hA kq157 (by decide) rfl
        generalize (zsR Sa157 22 q157 (upd (zR Sa157 22 q157) (0 : Int32).toNatClampNeg (nI cn))) = Sa163 at hw hA
        refine lv_dup hx hb dL_two_164 rfl ?_
        refine lv_iconst (v := 1) hx hb dL_two_165 (by decide) ?_
        refine lv_iconst (v := 1) hx hb dL_two_166 (by decide) ?_
        refine zast_I (a := q157) C hw hA.2.1 hA.2.2.1 (zin_of (N := 2) (by decide) (by grind) (by grind)) dL_two_167 (fun H locs hw => ?_)
        have hA : zAr S4 (zsR Sa163 22 q157 (upd (zR Sa163 22 q157) (1 : Int32).toNatClampNeg 1)) q157 2 [(nI cn), 1] := zAr.st (k := 1) hA kq157 (by decide) rfl
        generalize (zsR Sa163 22 q157 (upd (zR Sa163 22 q157) (1 : Int32).toNatClampNeg 1)) = Sa167 at hw hA
        obtain ⟨hG, hK9, hN9, hA⟩ := hA
        have hj0 : zR Sa167 22 q157 0 = (nI cn) := (hA 0 (nI cn) rfl).trans rfl
        have hj1 : zR Sa167 22 q157 1 = (zb (true = true)) := (hA 1 1 rfl).trans rfl
        have hOb := zOb.gw hG hOb
        refine zcSW_i (As := [.ref (a 0), .int 73, .ref q157]) (rest := []) (n9 := 3) C hw (c_L_ask_I_idle_g l hst D y base Sa167 a cn (zb (true = true)) q157 hOb.1 hDs hcn (Or.inr rfl) (hOb.2.2.1 cn hcn).1 hK9 hN9 hj0 hj1) gL_two_L_ask rfl (by decide +kernel) ⟨⟨rfl, rfl⟩, Nat.le_of_ble_eq_true rfl, Nat.le_of_ble_eq_true rfl⟩ rfl hl.1 rfl (Nat.le_of_ble_eq_true rfl) ⟨Nat.le_of_ble_eq_true rfl, Nat.le_of_ble_eq_true rfl⟩ dL_two_168 (fun r168 S168 H locs hp168 hw => ?_)
        obtain ⟨hr9, hS9⟩ := hp168
        have hr9 : r168 = 0 := hr9.trans (zOb.i160 (b := false) hOb hcn rfl ((fun _ => rfl) 0))
        subst hr9
        have hOb := zOb.idle0 (b := true) hOb hcn (fun _ => rfl) rfl
        rw [← hS9] at hOb
        refine lv_if_ne (tgt := 299) hx hb dL_two_171 (by decide) (fun c171 => absurd c171 (by decide)) (fun _ => ?_)
        refine lv_aload_n hx hb dL_two_174 rfl (lv_at hl 9 rfl) ?_
        refine lv_bipush (v := 73) hx hb dL_two_175 (by decide) ?_
        refine lv_iconst (v := 2) hx hb dL_two_177 (by decide) ?_
        refine znewI (N := 2) C hw (by decide +kernel) (by decide) (by decide) (Nat.le_of_ble_eq_true rfl) (Nat.le_of_ble_eq_true rfl) (Nat.le_of_ble_eq_true rfl) dL_two_178 (fun q178 H kq178 hw => ?_)
        have hA : zAr S168 (znR S168 q178 22 2 (fun _ => 0)) q178 2 [] := zAr.new kq178
        generalize (znR S168 q178 22 2 (fun _ => 0)) = Sa178 at hw hA
        refine lv_dup hx hb dL_two_180 rfl ?_
        refine lv_iconst (v := 0) hx hb dL_two_181 (by decide) ?_
        refine lv_iload hx hb dL_two_182 (lv_at hl 0 rfl) ?_
        refine zast_I (a := q178) C hw hA.2.1 hA.2.2.1 (zin_of (N := 2) (by decide) (by grind) (by grind)) dL_two_184 (fun H locs hw => ?_)
        have hA : zAr S168 (zsR Sa178 22 q178 (upd (zR Sa178 22 q178) (0 : Int32).toNatClampNeg (nI dn))) q178 2 [(nI dn)] := zAr.st (k := 0) hA kq178 (by decide) rfl
        generalize (zsR Sa178 22 q178 (upd (zR Sa178 22 q178) (0 : Int32).toNatClampNeg (nI dn))) = Sa184 at hw hA
        refine lv_dup hx hb dL_two_185 rfl ?_
        refine lv_iconst (v := 1) hx hb dL_two_186 (by decide) ?_
        refine lv_iconst (v := 1) hx hb dL_two_187 (by decide) ?_
        refine zast_I (a := q178) C hw hA.2.1 hA.2.2.1 (zin_of (N := 2) (by decide) (by grind) (by grind)) dL_two_188 (fun H locs hw => ?_)
        have hA : zAr S168 (zsR Sa184 22 q178 (upd (zR Sa184 22 q178) (1 : Int32).toNatClampNeg 1)) q178 2 [(nI dn), 1] := zAr.st (k := 1) hA kq178 (by decide) rfl
        generalize (zsR Sa184 22 q178 (upd (zR Sa184 22 q178) (1 : Int32).toNatClampNeg 1)) = Sa188 at hw hA
        obtain ⟨hG, hK9, hN9, hA⟩ := hA
        have hj0 : zR Sa188 22 q178 0 = (nI dn) := (hA 0 (nI dn) rfl).trans rfl
        have hj1 : zR Sa188 22 q178 1 = (zb (true = true)) := (hA 1 1 rfl).trans rfl
        have hOb := zOb.gw hG hOb
        refine zcSW_i (As := [.ref (a 0), .int 73, .ref q178]) (rest := []) (n9 := 3) C hw (c_L_ask_I_idle_g l hst D y base Sa188 a dn (zb (true = true)) q178 hOb.1 hDs hdn (Or.inr rfl) (hOb.2.2.1 dn hdn).1 hK9 hN9 hj0 hj1) gL_two_L_ask rfl (by decide +kernel) ⟨⟨rfl, rfl⟩, Nat.le_of_ble_eq_true rfl, Nat.le_of_ble_eq_true rfl⟩ rfl hl.1 rfl (Nat.le_of_ble_eq_true rfl) ⟨Nat.le_of_ble_eq_true rfl, Nat.le_of_ble_eq_true rfl⟩ dL_two_189 (fun r189 S189 H locs hp189 hw => ?_)
        obtain ⟨hr9, hS9⟩ := hp189
        have hr9 : r189 = 0 := hr9.trans (zOb.i160 (b := false) hOb hdn rfl ((fun t => congrFun (zup_n (Ne.symm hcd)) t) 0))
        subst hr9
        have hOb := zOb.idle0 (b := true) hOb hdn (fun t => congrFun (zup_n (Ne.symm hcd)) t) rfl
        rw [← hS9] at hOb
        refine lv_if_ne (tgt := 299) hx hb dL_two_192 (by decide) (fun c192 => absurd c192 (by decide)) (fun _ => ?_)
        refine lv_aload_n hx hb dL_two_195 rfl (lv_at hl 9 rfl) ?_
        refine lv_iload hx hb dL_two_196 (lv_at hl 3 rfl) ?_
        refine lv_iload hx hb dL_two_198 (lv_at hl 2 rfl) ?_
        refine zcV_i (As := [.int (zb (a1 = true)), .int (zb (a2 = true))]) (rest := []) (n9 := 2) (b := (a 0)) C hw (c_X7_answers_g l D y base S189 a (zb (a1 = true)) (zb (a2 = true)) hOb.1 hDs (zb_01 _) (zb_01 _) hOb.2.2.2.2.1 hOb.2.2.2.2.2.1) gL_two_X7_answers rfl (by decide +kernel) ⟨⟨rfl, rfl⟩, Nat.le_of_ble_eq_true rfl, Nat.le_of_ble_eq_true rfl⟩ hOb.1.1 ⟨by decide, by decide⟩ rfl rfl hl.1 rfl (Nat.le_of_ble_eq_true rfl) ⟨Nat.le_of_ble_eq_true rfl, Nat.le_of_ble_eq_true rfl⟩ dL_two_200 (fun r200 S200 H locs hp200 hw => ?_)
        obtain ⟨rfl, hS9⟩ := hp200
        have hOb := zOb.ans (p := zb (a1 = true)) (q := zb (a2 = true)) hOb
        rw [← hS9] at hOb
        refine lv_if_eq (tgt := 299) hx hb dL_two_203 (by decide) (fun c203 => absurd c203 (by decide)) (fun _ => ?_)
        refine lv_aload_n hx hb dL_two_206 rfl (lv_at hl 9 rfl) ?_
        refine lv_bipush (v := 116) hx hb dL_two_207 (by decide) ?_
        refine lv_bipush (v := 8) hx hb dL_two_209 (by decide) ?_
        refine znewI (N := 8) C hw (by decide +kernel) (by decide) (by decide) (Nat.le_of_ble_eq_true rfl) (Nat.le_of_ble_eq_true rfl) (Nat.le_of_ble_eq_true rfl) dL_two_211 (fun q211 H kq211 hw => ?_)
        have hA : zAr S200 (znR S200 q211 22 8 (fun _ => 0)) q211 8 [] := zAr.new kq211
        generalize (znR S200 q211 22 8 (fun _ => 0)) = Sa211 at hw hA
        refine lv_dup hx hb dL_two_213 rfl ?_
        refine lv_iconst (v := 0) hx hb dL_two_214 (by decide) ?_
        refine lv_iload hx hb dL_two_215 (lv_at hl 1 rfl) ?_
        refine zast_I (a := q211) C hw hA.2.1 hA.2.2.1 (zin_of (N := 8) (by decide) (by grind) (by grind)) dL_two_217 (fun H locs hw => ?_)
        have hA : zAr S200 (zsR Sa211 22 q211 (upd (zR Sa211 22 q211) (0 : Int32).toNatClampNeg (nI cn))) q211 8 [(nI cn)] := zAr.st (k := 0) hA kq211 (by decide) rfl
        generalize (zsR Sa211 22 q211 (upd (zR Sa211 22 q211) (0 : Int32).toNatClampNeg (nI cn))) = Sa217 at hw hA
        refine lv_dup hx hb dL_two_218 rfl ?_
        refine lv_iconst (v := 1) hx hb dL_two_219 (by decide) ?_
        refine lv_iload hx hb dL_two_220 (lv_at hl 0 rfl) ?_
        refine zast_I (a := q211) C hw hA.2.1 hA.2.2.1 (zin_of (N := 8) (by decide) (by grind) (by grind)) dL_two_222 (fun H locs hw => ?_)
        have hA : zAr S200 (zsR Sa217 22 q211 (upd (zR Sa217 22 q211) (1 : Int32).toNatClampNeg (nI dn))) q211 8 [(nI cn), (nI dn)] := zAr.st (k := 1) hA kq211 (by decide) rfl
        generalize (zsR Sa217 22 q211 (upd (zR Sa217 22 q211) (1 : Int32).toNatClampNeg (nI dn))) = Sa222 at hw hA
        refine lv_dup hx hb dL_two_223 rfl ?_
        refine lv_iconst (v := 2) hx hb dL_two_224 (by decide) ?_
        refine lv_iload_n hx hb dL_two_225 rfl (lv_at hl 7 rfl) ?_
        refine zast_I (a := q211) C hw hA.2.1 hA.2.2.1 (zin_of (N := 8) (by decide) (by grind) (by grind)) dL_two_226 (fun H locs hw => ?_)
        have hA : zAr S200 (zsR Sa222 22 q211 (upd (zR Sa222 22 q211) (2 : Int32).toNatClampNeg (nI ad))) q211 8 [(nI cn), (nI dn), (nI ad)] := zAr.st (k := 2) hA kq211 (by decide) rfl
        generalize (zsR Sa222 22 q211 (upd (zR Sa222 22 q211) (2 : Int32).toNatClampNeg (nI ad))) = Sa226 at hw hA
        refine lv_dup hx hb dL_two_227 rfl ?_
        refine lv_iconst (v := 3) hx hb dL_two_228 (by decide) ?_
        refine lv_iload hx hb dL_two_229 (lv_at hl 6 rfl) ?_
        have jn_10 : ∀ (rx_11 : Int32) (H : Heap) (locs : List Loc) (ls : Array Slot), zW D y base Sa226 s H locs → lv_has ls 12 [(10, .int (nI dn)), (9, .int (nI cn)), (8, .int (zb (a2 = true))), (7, .int (zb (a1 = true))), (6, .int (nI v)), (5, .int (nI ri)), (4, .int (zb (rd = true))), (3, .int (nI ad)), (2, .int (nI hf)), (1, .ref (a 0)), (0, .ref (y 98))] → (zb (rd = true) = rx_11) → W p l e (headSpec wsL_two ({ frames := 10, cells := 73, slots := 5807, locals := 182 })).room s m args below meth c H locs 36 5655 (MQ below (va_Qi (fun (r : Int32) (S1 : zS) => r = 1) (zPost D y base) (zA base)) args s 73 5807 (zA base)) (F0 m 239 ls [.int rx_11, .int 3, .ref q211, .ref q211, .int 116, .ref (a 0)]) := by
          intro rx_11 H locs ls hw hl f_12
          subst f_12
          refine zast_I (a := q211) C hw hA.2.1 hA.2.2.1 (zin_of (N := 8) (by decide) (by grind) (by grind)) dL_two_239 (fun H locs hw => ?_)
          have hA : zAr S200 (zsR Sa226 22 q211 (upd (zR Sa226 22 q211) (3 : Int32).toNatClampNeg (zb (rd = true)))) q211 8 [(nI cn), (nI dn), (nI ad), (zb (rd = true))] := zAr.st (k := 3) hA kq211 (by decide) rfl
          generalize (zsR Sa226 22 q211 (upd (zR Sa226 22 q211) (3 : Int32).toNatClampNeg (zb (rd = true)))) = Sa239 at hw hA
          refine lv_dup hx hb dL_two_240 rfl ?_
          refine lv_iconst (v := 4) hx hb dL_two_241 (by decide) ?_
          refine lv_iload hx hb dL_two_242 (lv_at hl 5 rfl) ?_
          refine zast_I (a := q211) C hw hA.2.1 hA.2.2.1 (zin_of (N := 8) (by decide) (by grind) (by grind)) dL_two_244 (fun H locs hw => ?_)
          have hA : zAr S200 (zsR Sa239 22 q211 (upd (zR Sa239 22 q211) (4 : Int32).toNatClampNeg (nI ri))) q211 8 [(nI cn), (nI dn), (nI ad), (zb (rd = true)), (nI ri)] := zAr.st (k := 4) hA kq211 (by decide) rfl
          generalize (zsR Sa239 22 q211 (upd (zR Sa239 22 q211) (4 : Int32).toNatClampNeg (nI ri))) = Sa244 at hw hA
          refine lv_dup hx hb dL_two_245 rfl ?_
          refine lv_iconst (v := 5) hx hb dL_two_246 (by decide) ?_
          refine lv_iload hx hb dL_two_247 (lv_at hl 4 rfl) ?_
          refine zast_I (a := q211) C hw hA.2.1 hA.2.2.1 (zin_of (N := 8) (by decide) (by grind) (by grind)) dL_two_249 (fun H locs hw => ?_)
          have hA : zAr S200 (zsR Sa244 22 q211 (upd (zR Sa244 22 q211) (5 : Int32).toNatClampNeg (nI v))) q211 8 [(nI cn), (nI dn), (nI ad), (zb (rd = true)), (nI ri), (nI v)] := zAr.st (k := 5) hA kq211 (by decide) rfl
          generalize (zsR Sa244 22 q211 (upd (zR Sa244 22 q211) (5 : Int32).toNatClampNeg (nI v))) = Sa249 at hw hA
          refine lv_dup hx hb dL_two_250 rfl ?_
          refine lv_bipush (v := 6) hx hb dL_two_251 (by decide) ?_
          refine lv_iload_n hx hb dL_two_253 rfl (lv_at hl 8 rfl) ?_
          refine zast_I (a := q211) C hw hA.2.1 hA.2.2.1 (zin_of (N := 8) (by decide) (by grind) (by grind)) dL_two_254 (fun H locs hw => ?_)
          have hA : zAr S200 (zsR Sa249 22 q211 (upd (zR Sa249 22 q211) (6 : Int32).toNatClampNeg (nI hf))) q211 8 [(nI cn), (nI dn), (nI ad), (zb (rd = true)), (nI ri), (nI v), (nI hf)] := zAr.st (k := 6) hA kq211 (by decide) rfl
          generalize (zsR Sa249 22 q211 (upd (zR Sa249 22 q211) (6 : Int32).toNatClampNeg (nI hf))) = Sa254 at hw hA
          refine lv_dup hx hb dL_two_255 rfl ?_
          refine lv_bipush (v := 7) hx hb dL_two_256 (by decide) ?_
          refine lv_iload_n hx hb dL_two_258 rfl (lv_at hl 8 rfl) ?_
          refine zast_I (a := q211) C hw hA.2.1 hA.2.2.1 (zin_of (N := 8) (by decide) (by grind) (by grind)) dL_two_259 (fun H locs hw => ?_)
          have hA : zAr S200 (zsR Sa254 22 q211 (upd (zR Sa254 22 q211) (7 : Int32).toNatClampNeg (nI hf))) q211 8 [(nI cn), (nI dn), (nI ad), (zb (rd = true)), (nI ri), (nI v), (nI hf), (nI hf)] := zAr.st (k := 7) hA kq211 (by decide) rfl
          generalize (zsR Sa254 22 q211 (upd (zR Sa254 22 q211) (7 : Int32).toNatClampNeg (nI hf))) = Sa259 at hw hA
          obtain ⟨hG, hK9, hN9, hA⟩ := hA
          have hj0 : zR Sa259 22 q211 0 = (nI cn) := (hA 0 (nI cn) rfl).trans rfl
          have hj1 : zR Sa259 22 q211 1 = (nI dn) := (hA 1 (nI dn) rfl).trans rfl
          have hj2 : zR Sa259 22 q211 2 = (nI ad) := (hA 2 (nI ad) rfl).trans rfl
          have hj3 : zR Sa259 22 q211 3 = (zb (rd = true)) := (hA 3 (zb (rd = true)) rfl).trans rfl
          have hj4 : zR Sa259 22 q211 4 = (nI ri) := (hA 4 (nI ri) rfl).trans rfl
          have hj5 : zR Sa259 22 q211 5 = (nI v) := (hA 5 (nI v) rfl).trans rfl
          have hj6 : zR Sa259 22 q211 6 = (nI hf) := (hA 6 (nI hf) rfl).trans rfl
          have hj7 : zR Sa259 22 q211 7 = (nI hf) := (hA 7 (nI hf) rfl).trans rfl
          have hOb := zOb.gw hG hOb
          refine zcSW_i (As := [.ref (a 0), .int 116, .ref q211]) (rest := []) (n9 := 3) C hw (c_L_ask_t_twoWires_g l hst D y base Sa259 a cn dn ad rd ri v hf hf _ _ _ _ _ _ _ q211 hOb.1 hDs hcn hdn hcd had hri hv (by omega) ⟨hf1, by omega⟩ hOb (show 0 + 56 ≤ 300 by decide) (show 0 + 30 ≤ 300 by decide) hK9 hN9 hj0 hj1 hj2 hj3 hj4 hj5 hj6 hj7) gL_two_L_ask rfl (by decide +kernel) ⟨⟨rfl, rfl⟩, Nat.le_of_ble_eq_true rfl, Nat.le_of_ble_eq_true rfl⟩ rfl hl.1 rfl (Nat.le_of_ble_eq_true rfl) ⟨Nat.le_of_ble_eq_true rfl, Nat.le_of_ble_eq_true rfl⟩ dL_two_260 (fun r260 S260 H locs hp260 hw => ?_)
          obtain ⟨rfl, n1, n2, hn1, hn2, hOb⟩ := hp260
          refine lv_bipush (v := 58) hx hb dL_two_263 (by decide) ?_
          refine lv_iload_n hx hb dL_two_265 rfl (lv_at hl 8 rfl) ?_
          refine lv_imul hx hb dL_two_266 ?_
          refine zrd (x := (nI (58 * hf))) (pk_mul 58 _) ?_
          refine lv_icmp_ne (tgt := 299) hx hb dL_two_267 (by decide) (fun c267 => (show False from c267 (congrArg nI (by omega))).elim) (fun c267 => ?_)
          refine lv_aload_n hx hb dL_two_270 rfl (lv_at hl 9 rfl) ?_
          refine lv_bipush (v := 67) hx hb dL_two_271 (by decide) ?_
          refine lv_iconst (v := 4) hx hb dL_two_273 (by decide) ?_
          refine znewI (N := 4) C hw (by decide +kernel) (by decide) (by decide) (Nat.le_of_ble_eq_true rfl) (Nat.le_of_ble_eq_true rfl) (Nat.le_of_ble_eq_true rfl) dL_two_274 (fun q274 H kq274 hw => ?_)
          have hA : zAr S260 (znR S260 q274 22 4 (fun _ => 0)) q274 4 [] := zAr.new kq274
          generalize (znR S260 q274 22 4 (fun _ => 0)) = Sa274 at hw hA
          refine lv_dup hx hb dL_two_276 rfl ?_
          refine lv_iconst (v := 0) hx hb dL_two_277 (by decide) ?_
          refine lv_iconst (v := 0) hx hb dL_two_278 (by decide) ?_
          refine zast_I (a := q274) C hw hA.2.1 hA.2.2.1 (zin_of (N := 4) (by decide) (by grind) (by grind)) dL_two_279 (fun H locs hw => ?_)
          have hA : zAr S260 (zsR Sa274 22 q274 (upd (zR Sa274 22 q274) (0 : Int32).toNatClampNeg 0)) q274 4 [0] := zAr.st (k := 0) hA kq274 (by decide) rfl
          generalize (zsR Sa274 22 q274 (upd (zR Sa274 22 q274) (0 : Int32).toNatClampNeg 0)) = Sa279 at hw hA
          refine lv_dup hx hb dL_two_280 rfl ?_
          refine lv_iconst (v := 1) hx hb dL_two_281 (by decide) ?_
          refine lv_iconst (v := 0) hx hb dL_two_282 (by decide) ?_
          refine zast_I (a := q274) C hw hA.2.1 hA.2.2.1 (zin_of (N := 4) (by decide) (by grind) (by grind)) dL_two_283 (fun H locs hw => ?_)
          have hA : zAr S260 (zsR Sa279 22 q274 (upd (zR Sa279 22 q274) (1 : Int32).toNatClampNeg 0)) q274 4 [0, 0] := zAr.st (k := 1) hA kq274 (by decide) rfl
          generalize (zsR Sa279 22 q274 (upd (zR Sa279 22 q274) (1 : Int32).toNatClampNeg 0)) = Sa283 at hw hA
          refine lv_dup hx hb dL_two_284 rfl ?_
          refine lv_iconst (v := 2) hx hb dL_two_285 (by decide) ?_
          refine lv_iload_n hx hb dL_two_286 rfl (lv_at hl 8 rfl) ?_
          refine zast_I (a := q274) C hw hA.2.1 hA.2.2.1 (zin_of (N := 4) (by decide) (by grind) (by grind)) dL_two_287 (fun H locs hw => ?_)
          have hA : zAr S260 (zsR Sa283 22 q274 (upd (zR Sa283 22 q274) (2 : Int32).toNatClampNeg (nI hf))) q274 4 [0, 0, (nI hf)] := zAr.st (k := 2) hA kq274 (by decide) rfl
          generalize (zsR Sa283 22 q274 (upd (zR Sa283 22 q274) (2 : Int32).toNatClampNeg (nI hf))) = Sa287 at hw hA
          refine lv_dup hx hb dL_two_288 rfl ?_
          refine lv_iconst (v := 3) hx hb dL_two_289 (by decide) ?_
          refine lv_bipush (v := 60) hx hb dL_two_290 (by decide) ?_
          refine zast_I (a := q274) C hw hA.2.1 hA.2.2.1 (zin_of (N := 4) (by decide) (by grind) (by grind)) dL_two_292 (fun H locs hw => ?_)
          have hA : zAr S260 (zsR Sa287 22 q274 (upd (zR Sa287 22 q274) (3 : Int32).toNatClampNeg 60)) q274 4 [0, 0, (nI hf), 60] := zAr.st (k := 3) hA kq274 (by decide) rfl
          generalize (zsR Sa287 22 q274 (upd (zR Sa287 22 q274) (3 : Int32).toNatClampNeg 60)) = Sa292 at hw hA
          obtain ⟨hG, hK9, hN9, hA⟩ := hA
          have hj0 : zR Sa292 22 q274 0 = (nI 0) := (hA 0 0 rfl).trans rfl
          have hj1 : zR Sa292 22 q274 1 = (nI 0) := (hA 1 0 rfl).trans rfl
          have hj2 : zR Sa292 22 q274 2 = (nI hf) := (hA 2 (nI hf) rfl).trans rfl
          have hj3 : zR Sa292 22 q274 3 = (nI 60) := (hA 3 60 rfl).trans rfl
          have hOb := zOb.gw hG hOb
          refine zcSW_i (As := [.ref (a 0), .int 67, .ref q274]) (rest := []) (n9 := 3) C hw (c_L_ask_C_capture_g l hst D y base Sa292 a 0 0 hf 60 _ _ q274 hOb.1 hDs (by decide) ⟨hf1, by omega⟩ ⟨by decide, by decide⟩ (by omega) hOb.2.2.1 hK9 hN9 hj0 hj1 hj2 hj3) gL_two_L_ask rfl (by decide +kernel) ⟨⟨rfl, rfl⟩, Nat.le_of_ble_eq_true rfl, Nat.le_of_ble_eq_true rfl⟩ rfl hl.1 rfl (Nat.le_of_ble_eq_true rfl) ⟨Nat.le_of_ble_eq_true rfl, Nat.le_of_ble_eq_true rfl⟩ dL_two_293 (fun r293 S293 H locs hp293 hw => ?_)
          obtain ⟨⟨k9, rfl, hk9, -⟩, hM, hfr⟩ := hp293
          obtain ⟨hX, hNts, hRg, h41⟩ := zcap0 hDs hOb hfr
          obtain ⟨M, hM, hMc, hMd⟩ := zCp.two (w := cn) (u := dn) zcw (zdw (zwg (zb (a1 = true)) (zb (a2 = true)) rd ad ri v)) hM hcd (fun i hi => by simp only [zup_s, zup_n hcd]; rw [zx2]; exact zsamC hf1 hf9) (fun i hi => by simp only [zup_s]; rw [zx2]; exact zsamD hf1 hf9)
          refine lv_if_ge (tgt := 301) hx hb dL_two_296 (by decide) (fun c296 => ?_) (fun c296 => (show False from c296 (zrg (m := 400) hk9 (by decide) rfl).1).elim)
          exact cut_L_two_301 hst C hr hlocks hDs hcn hdn hcd had hri hv hX hNts h41 hM hRg hMc hMd hw hl
        refine lv_if_eq (tgt := 238) hx hb dL_two_231 (by decide) (fun c231 => ?_) (fun c231 => ?_)
        · replace c231 := zb0.mp c231
          refine lv_iconst (v := 0) hx hb dL_two_238 (by decide) ?_
          exact jn_10 0 _ _ _ hw (lv_sub hl [0, 1, 2, 3, 4, 5, 6, 7, 8, 9, 10] rfl) (by first | exact (zb_t c231).symm | exact (zb_f c231).symm)
        · replace c231 := zb1.mp c231
          refine lv_iconst (v := 1) hx hb dL_two_234 (by decide) ?_
          refine lv_goto (tgt := 239) hx hb dL_two_235 (by decide) ?_
          exact jn_10 1 _ _ _ hw (lv_sub hl [0, 1, 2, 3, 4, 5, 6, 7, 8, 9, 10] rfl) (by first | exact (zb_t c231).symm | exact (zb_f c231).symm)
      refine lv_if_le (tgt := 119) hx hb dL_two_112 (by decide) (fun c112 => ?_) (fun c112 => ?_)
      · refine lv_iconst (v := 0) hx hb dL_two_119 (by decide) ?_
        exact jn_7 0 _ _ _ hw (lv_sub hl [0, 1, 2, 3, 4, 5, 6, 7] rfl) (by first | exact zdp_t c112 | exact zdp_f (by omega) c112)
      · refine lv_iconst (v := 1) hx hb dL_two_115 (by decide) ?_
        refine lv_goto (tgt := 120) hx hb dL_two_116 (by decide) ?_
        exact jn_7 1 _ _ _ hw (lv_sub hl [0, 1, 2, 3, 4, 5, 6, 7] rfl) (by first | exact zdp_t c112 | exact zdp_f (by omega) c112)
    refine lv_if_le (tgt := 99) hx hb dL_two_92 (by decide) (fun c92 => ?_) (fun c92 => ?_)
    · refine lv_iconst (v := 0) hx hb dL_two_99 (by decide) ?_
      exact jn_4 0 _ _ _ hw (lv_sub hl [0, 1, 2, 3, 4, 5, 6] rfl) (by first | exact zdp_t c92 | exact zdp_f (by omega) c92)
    · refine lv_iconst (v := 1) hx hb dL_two_95 (by decide) ?_
      refine lv_goto (tgt := 100) hx hb dL_two_96 (by decide) ?_
      exact jn_4 1 _ _ _ hw (lv_sub hl [0, 1, 2, 3, 4, 5, 6] rfl) (by first | exact zdp_t c92 | exact zdp_f (by omega) c92)
  refine lv_if_ne (tgt := 52) hx hb dL_two_45 (by decide) (fun c45 => ?_) (fun c45 => ?_)
  · refine lv_iconst (v := 0) hx hb dL_two_52 (by decide) ?_
    exact jn_1 0 _ _ _ hw (lv_sub hl [0, 1, 2, 3] rfl) (by first | exact zd0_t (by omega) c45 | exact zd0_f c45)
  · refine lv_iconst (v := 1) hx hb dL_two_48 (by decide) ?_
    refine lv_goto (tgt := 53) hx hb dL_two_49 (by decide) ?_
    exact jn_1 1 _ _ _ hw (lv_sub hl [0, 1, 2, 3] rfl) (by first | exact zd0_t (by omega) c45 | exact zd0_f c45)

