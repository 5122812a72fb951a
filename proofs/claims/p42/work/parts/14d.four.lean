set_option maxHeartbeats 4000000 in
set_option maxRecDepth 100000 in
/-- L_four -/
theorem c_L_four (l : Launch) (hst : l.stackTraces = false) (D : va_G) (y : Nat → ClassId) (base : Nat) (S : zS)  (hy31 : y 99 < 2 ^ 31) : zMi l yL_four wsL_four ({ frames := 11, cells := 66, slots := 5814, locals := 207 }) [.ref (y 98)] D y base S (fun (r : Int32) (S1 : zS) => r = 1) 66 5814 := by
  refine zMet_of (cc := cL_four) (maxL := 8) (ret := (some .boolean)) (own := RL) (by decide +kernel) rfl rfl (Nat.le_of_ble_eq_true rfl) ?_
  intro p e s m args below meth c ls C hr hlocks hnm hw hl
  have hx := C.1
  have hb := C.2.1
  have hown := C.2.2.2.1
  have hts := C.2.2.2.2
  have hl : lv_has ls 8 [(0, .ref (y 98))] := hl
  have in_X7 : ∀ w ∈ wsX70, w ∈ wsL_four := by decide +kernel
  refine znew (k := 11) (Cn := RX7) (T := TX7) (N := 8) C hw (by decide) (by decide) rfl in_X7 tyX7 tyX7_ok (by decide +kernel) (by decide +kernel) (by decide +kernel) (zdfX7) (Nat.le_of_ble_eq_true rfl) (Nat.le_of_ble_eq_true rfl) dL_four_0 (fun q0 H kq0 hw => ?_)
  refine lv_dup hx hb dL_four_3 rfl ?_
  have kq0s : zK (znO S q0 11) q0 = 11 := zK_nOs _ _ _
  have hz9 : ∀ t, zI (znO S q0 11) t q0 = 0 := fun t => zI_nOs _ _ _ t
  refine zcI_v (As := []) (rest := [.ref q0]) (n9 := 0) (b := q0) C hw (c_X7_init_n l D y base (znO S q0 11) q0 kq0s hz9) gL_four_X7_init rfl (by decide +kernel) (by decide +kernel) (by decide +kernel) rfl (by decide +kernel) ⟨⟨rfl, rfl⟩, Nat.le_of_ble_eq_true rfl, Nat.le_of_ble_eq_true rfl⟩ rfl hl.1 rfl (Nat.le_of_ble_eq_true rfl) ⟨Nat.le_of_ble_eq_true rfl, Nat.le_of_ble_eq_true rfl⟩ dL_four_4 (fun S4 H locs hp4 hw => ?_)
  obtain ⟨a, ha0, hNw, hDs, -⟩ := hp4
  have hw4 := hw
  subst ha0
  have hw := hw4
  have hOb := zOb.new hNw
  refine lv_astore_n (lv' := [(1, .ref (a 0)), (0, .ref (y 98))]) hx hb dL_four_7 rfl hl (by decide) rfl (fun ls hl => ?_)
  refine lv_iconst (v := 1) hx hb dL_four_8 (by decide) ?_
  refine lv_aload_n hx hb dL_four_9 rfl (lv_at hl 1 rfl) ?_
  refine lv_bipush (v := 15) hx hb dL_four_10 (by decide) ?_
  refine zcS_i (As := [.ref (y 98), .int 15]) (rest := [.int 1]) (n9 := 2) C hw (c_L_at l D y base S4 15 (by decide) hy31) gL_four_L_at rfl (by decide +kernel) ⟨⟨rfl, rfl⟩, Nat.le_of_ble_eq_true rfl, Nat.le_of_ble_eq_true rfl⟩ rfl hl.1 rfl (Nat.le_of_ble_eq_true rfl) ⟨Nat.le_of_ble_eq_true rfl, Nat.le_of_ble_eq_true rfl⟩ dL_four_12 (fun r12 S12 H locs hp12 hw => ?_)
  obtain ⟨rfl, hS9⟩ := hp12
  have hS9 := hS9.symm
  subst hS9
  refine lv_bipush (v := 9) hx hb dL_four_15 (by decide) ?_
  refine zcS_i (As := [.int ((if 15 < y 99 then zxs y 15 else 0)), .int 9]) (rest := [.int 1]) (n9 := 2) C hw (c_L_some l D y base S4 ((if 15 < y 99 then zxs y 15 else 0)) 9 (by decide) (by decide)) gL_four_L_some rfl (by decide +kernel) ⟨⟨rfl, rfl⟩, Nat.le_of_ble_eq_true rfl, Nat.le_of_ble_eq_true rfl⟩ rfl hl.1 rfl (Nat.le_of_ble_eq_true rfl) ⟨Nat.le_of_ble_eq_true rfl, Nat.le_of_ble_eq_true rfl⟩ dL_four_17 (fun r17 S17 H locs hp17 hw => ?_)
  obtain ⟨rfl, hS9⟩ := hp17
  have hS9 := hS9.symm
  subst hS9
  obtain ⟨g9, hg9, eg9⟩ : ∃ k, k < 9 ∧ zsome ((if 15 < y 99 then zxs y 15 else 0)) 9 = k := ⟨_, zsome_lt (by decide), rfl⟩
  refine zrd (x := (nI g9)) (congrArg nI eg9) ?_
  refine lv_iadd hx hb dL_four_20 ?_
  obtain ⟨hf, ehf, hf1, hf9⟩ : ∃ h, 1 + g9 = h ∧ 1 ≤ h ∧ h < 10 := ⟨_, rfl, by omega, by omega⟩
  refine zrd (x := (nI hf)) ((nI_add 1 g9).trans (congrArg nI ehf)) ?_
  refine lv_istore_n (lv' := [(2, .int (nI hf)), (1, .ref (a 0)), (0, .ref (y 98))]) hx hb dL_four_21 rfl hl (by decide) rfl (fun ls hl => ?_)
  refine lv_aload_n hx hb dL_four_22 rfl (lv_at hl 2 rfl) ?_
  refine lv_bipush (v := 16) hx hb dL_four_23 (by decide) ?_
  refine zcS_i (As := [.ref (y 98), .int 16]) (rest := []) (n9 := 2) C hw (c_L_at l D y base S4 16 (by decide) hy31) gL_four_L_at rfl (by decide +kernel) ⟨⟨rfl, rfl⟩, Nat.le_of_ble_eq_true rfl, Nat.le_of_ble_eq_true rfl⟩ rfl hl.1 rfl (Nat.le_of_ble_eq_true rfl) ⟨Nat.le_of_ble_eq_true rfl, Nat.le_of_ble_eq_true rfl⟩ dL_four_25 (fun r25 S25 H locs hp25 hw => ?_)
  obtain ⟨rfl, hS9⟩ := hp25
  have hS9 := hS9.symm
  subst hS9
  refine lv_iconst (v := 4) hx hb dL_four_28 (by decide) ?_
  refine zcS_i (As := [.int ((if 16 < y 99 then zxs y 16 else 0)), .int 4]) (rest := []) (n9 := 2) C hw (c_L_some l D y base S4 ((if 16 < y 99 then zxs y 16 else 0)) 4 (by decide) (by decide)) gL_four_L_some rfl (by decide +kernel) ⟨⟨rfl, rfl⟩, Nat.le_of_ble_eq_true rfl, Nat.le_of_ble_eq_true rfl⟩ rfl hl.1 rfl (Nat.le_of_ble_eq_true rfl) ⟨Nat.le_of_ble_eq_true rfl, Nat.le_of_ble_eq_true rfl⟩ dL_four_29 (fun r29 S29 H locs hp29 hw => ?_)
  obtain ⟨rfl, hS9⟩ := hp29
  have hS9 := hS9.symm
  subst hS9
  obtain ⟨md, hmd, emd⟩ : ∃ k, k < 4 ∧ zsome ((if 16 < y 99 then zxs y 16 else 0)) 4 = k := ⟨_, zsome_lt (by decide), rfl⟩
  refine zrd (x := (nI md)) (congrArg nI emd) ?_
  refine lv_istore_n (lv' := [(3, .int (nI md)), (2, .int (nI hf)), (1, .ref (a 0)), (0, .ref (y 98))]) hx hb dL_four_32 rfl hl (by decide) rfl (fun ls hl => ?_)
  refine lv_aload_n hx hb dL_four_33 rfl (lv_at hl 3 rfl) ?_
  refine lv_bipush (v := 17) hx hb dL_four_34 (by decide) ?_
  refine zcS_i (As := [.ref (y 98), .int 17]) (rest := []) (n9 := 2) C hw (c_L_at l D y base S4 17 (by decide) hy31) gL_four_L_at rfl (by decide +kernel) ⟨⟨rfl, rfl⟩, Nat.le_of_ble_eq_true rfl, Nat.le_of_ble_eq_true rfl⟩ rfl hl.1 rfl (Nat.le_of_ble_eq_true rfl) ⟨Nat.le_of_ble_eq_true rfl, Nat.le_of_ble_eq_true rfl⟩ dL_four_36 (fun r36 S36 H locs hp36 hw => ?_)
  obtain ⟨rfl, hS9⟩ := hp36
  have hS9 := hS9.symm
  subst hS9
  refine lv_sipush (v := 256) hx hb dL_four_39 (by decide) ?_
  refine zcS_i (As := [.int ((if 17 < y 99 then zxs y 17 else 0)), .int 256]) (rest := []) (n9 := 2) C hw (c_L_some l D y base S4 ((if 17 < y 99 then zxs y 17 else 0)) 256 (by decide) (by decide)) gL_four_L_some rfl (by decide +kernel) ⟨⟨rfl, rfl⟩, Nat.le_of_ble_eq_true rfl, Nat.le_of_ble_eq_true rfl⟩ rfl hl.1 rfl (Nat.le_of_ble_eq_true rfl) ⟨Nat.le_of_ble_eq_true rfl, Nat.le_of_ble_eq_true rfl⟩ dL_four_42 (fun r42 S42 H locs hp42 hw => ?_)
  obtain ⟨rfl, hS9⟩ := hp42
  have hS9 := hS9.symm
  subst hS9
  obtain ⟨v, hv, ev⟩ : ∃ k, k < 256 ∧ zsome ((if 17 < y 99 then zxs y 17 else 0)) 256 = k := ⟨_, zsome_lt (by decide), rfl⟩
  refine zrd (x := (nI v)) (congrArg nI ev) ?_
  refine lv_istore (lv' := [(4, .int (nI v)), (3, .int (nI md)), (2, .int (nI hf)), (1, .ref (a 0)), (0, .ref (y 98))]) hx hb dL_four_45 hl (by decide) rfl (fun ls hl => ?_)
  refine lv_aload_n hx hb dL_four_47 rfl (lv_at hl 4 rfl) ?_
  refine lv_bipush (v := 18) hx hb dL_four_48 (by decide) ?_
  refine zcS_i (As := [.ref (y 98), .int 18]) (rest := []) (n9 := 2) C hw (c_L_at l D y base S4 18 (by decide) hy31) gL_four_L_at rfl (by decide +kernel) ⟨⟨rfl, rfl⟩, Nat.le_of_ble_eq_true rfl, Nat.le_of_ble_eq_true rfl⟩ rfl hl.1 rfl (Nat.le_of_ble_eq_true rfl) ⟨Nat.le_of_ble_eq_true rfl, Nat.le_of_ble_eq_true rfl⟩ dL_four_50 (fun r50 S50 H locs hp50 hw => ?_)
  obtain ⟨rfl, hS9⟩ := hp50
  have hS9 := hS9.symm
  subst hS9
  refine lv_iconst (v := 4) hx hb dL_four_53 (by decide) ?_
  refine zcS_i (As := [.int ((if 18 < y 99 then zxs y 18 else 0)), .int 4]) (rest := []) (n9 := 2) C hw (c_L_some l D y base S4 ((if 18 < y 99 then zxs y 18 else 0)) 4 (by decide) (by decide)) gL_four_L_some rfl (by decide +kernel) ⟨⟨rfl, rfl⟩, Nat.le_of_ble_eq_true rfl, Nat.le_of_ble_eq_true rfl⟩ rfl hl.1 rfl (Nat.le_of_ble_eq_true rfl) ⟨Nat.le_of_ble_eq_true rfl, Nat.le_of_ble_eq_true rfl⟩ dL_four_54 (fun r54 S54 H locs hp54 hw => ?_)
  obtain ⟨rfl, hS9⟩ := hp54
  have hS9 := hS9.symm
  subst hS9
  obtain ⟨zn, hzn, ezn⟩ : ∃ k, k < 4 ∧ zsome ((if 18 < y 99 then zxs y 18 else 0)) 4 = k := ⟨_, zsome_lt (by decide), rfl⟩
  refine zrd (x := (nI zn)) (congrArg nI ezn) ?_
  refine lv_istore (lv' := [(5, .int (nI zn)), (4, .int (nI v)), (3, .int (nI md)), (2, .int (nI hf)), (1, .ref (a 0)), (0, .ref (y 98))]) hx hb dL_four_57 hl (by decide) rfl (fun ls hl => ?_)
  refine lv_iload hx hb dL_four_59 (lv_at hl 0 rfl) ?_
  refine lv_iconst (v := 1) hx hb dL_four_61 (by decide) ?_
  refine lv_iadd hx hb dL_four_62 ?_
  refine zrd (x := (nI (zn + 1))) (nI_1 _) ?_
  refine lv_iconst (v := 4) hx hb dL_four_63 (by decide) ?_
  refine lv_irem hx hb dL_four_64 (by decide) ?_
  obtain ⟨cn, ecn, hcn, hzc⟩ : ∃ d, (zn + 1) % 4 = d ∧ d < 4 ∧ zn ≠ d := ⟨_, rfl, by omega, by omega⟩
  refine zrd (x := (nI cn)) ((zrm4 _ (by omega)).trans (congrArg nI ecn)) ?_
  refine lv_istore (lv' := [(6, .int (nI cn)), (5, .int (nI zn)), (4, .int (nI v)), (3, .int (nI md)), (2, .int (nI hf)), (1, .ref (a 0)), (0, .ref (y 98))]) hx hb dL_four_65 hl (by decide) rfl (fun ls hl => ?_)
  refine lv_iload hx hb dL_four_67 (lv_at hl 1 rfl) ?_
  refine lv_iconst (v := 2) hx hb dL_four_69 (by decide) ?_
  refine lv_iadd hx hb dL_four_70 ?_
  refine zrd (x := (nI (zn + 2))) (nI_add _ 2) ?_
  refine lv_iconst (v := 4) hx hb dL_four_71 (by decide) ?_
  refine lv_irem hx hb dL_four_72 (by decide) ?_
  obtain ⟨dn, edn, hdn, hzd, hcd⟩ : ∃ d, (zn + 2) % 4 = d ∧ d < 4 ∧ zn ≠ d ∧ cn ≠ d := ⟨_, rfl, by omega, by omega, by omega⟩
  refine zrd (x := (nI dn)) ((zrm4 _ (by omega)).trans (congrArg nI edn)) ?_
  refine lv_istore (lv' := [(7, .int (nI dn)), (6, .int (nI cn)), (5, .int (nI zn)), (4, .int (nI v)), (3, .int (nI md)), (2, .int (nI hf)), (1, .ref (a 0)), (0, .ref (y 98))]) hx hb dL_four_73 hl (by decide) rfl (fun ls hl => ?_)
  refine lv_aload_n hx hb dL_four_75 rfl (lv_at hl 6 rfl) ?_
  refine lv_bipush (v := 73) hx hb dL_four_76 (by decide) ?_
  refine lv_iconst (v := 2) hx hb dL_four_78 (by decide) ?_
  refine znewI (N := 2) C hw (by decide +kernel) (by decide) (by decide) (Nat.le_of_ble_eq_true rfl) (Nat.le_of_ble_eq_true rfl) (Nat.le_of_ble_eq_true rfl) dL_four_79 (fun q79 H kq79 hw => ?_)
  have hA : zAr S4 (znR S4 q79 22 2 (fun _ => 0)) q79 2 [] := zAr.new kq79
  generalize (znR S4 q79 22 2 (fun _ => 0)) = Sa79 at hw hA
  refine lv_dup hx hb dL_four_81 rfl ?_
  refine lv_iconst (v := 0) hx hb dL_four_82 (by decide) ?_
  refine lv_iload hx hb dL_four_83 (lv_at hl 2 rfl) ?_
  refine zast_I (a := q79) C hw hA.2.1 hA.2.2.1 (zin_of (N := 2) (by decide) (by grind) (by grind)) dL_four_85 (fun H locs hw => ?_)
  have hA : zAr S4 (zsR Sa79 22 q79 (upd (zR Sa79 22 q79) (0 : Int32).toNatClampNeg (nI zn))) q79 2 [(nI zn)] := zAr.st (k := 0) hA kq79 (by decide) rfl
  generalize (zsR Sa79 22 q79 (upd (zR Sa79 22 q79) (0 : Int32).toNatClampNeg (nI zn))) = Sa85 at hw hA
  refine lv_dup hx hb dL_four_86 rfl ?_
  refine lv_iconst (v := 1) hx hb dL_four_87 (by decide) ?_
  refine lv_iconst (v := 1) hx hb dL_four_88 (by decide) ?_
  refine zast_I (a := q79) C hw hA.2.1 hA.2.2.1 (zin_of (N := 2) (by decide) (by grind) (by grind)) dL_four_89 (fun H locs hw => ?_)
  have hA : zAr S4 (zsR Sa85 22 q79 (upd (zR Sa85 22 q79) (1 : Int32).toNatClampNeg 1)) q79 2 [(nI zn), 1] := zAr.st (k := 1) hA kq79 (by decide) rfl
  generalize (zsR Sa85 22 q79 (upd (zR Sa85 22 q79) (1 : Int32).toNatClampNeg 1)) = Sa89 at hw hA
  obtain ⟨hG, hK9, hN9, hA⟩ := hA
  have hj0 : zR Sa89 22 q79 0 = (nI zn) := (hA 0 (nI zn) rfl).trans rfl
  have hj1 : zR Sa89 22 q79 1 = (zb (true = true)) := (hA 1 1 rfl).trans rfl
  have hOb := zOb.gw hG hOb
  refine zcSW_i (As := [.ref (a 0), .int 73, .ref q79]) (rest := []) (n9 := 3) C hw (c_L_ask_I_idle_g l hst D y base Sa89 a zn (zb (true = true)) q79 hOb.1 hDs hzn (Or.inr rfl) (hOb.2.2.1 zn hzn).1 hK9 hN9 hj0 hj1) gL_four_L_ask rfl (by decide +kernel) ⟨⟨rfl, rfl⟩, Nat.le_of_ble_eq_true rfl, Nat.le_of_ble_eq_true rfl⟩ rfl hl.1 rfl (Nat.le_of_ble_eq_true rfl) ⟨Nat.le_of_ble_eq_true rfl, Nat.le_of_ble_eq_true rfl⟩ dL_four_90 (fun r90 S90 H locs hp90 hw => ?_)
  obtain ⟨hr9, hS9⟩ := hp90
  have hr9 : r90 = 0 := hr9.trans (zOb.i160 (b := false) hOb hzn rfl ((fun _ => rfl) 0))
  subst hr9
  have hOb := zOb.idle0 (b := true) hOb hzn (fun _ => rfl) rfl
  rw [← hS9] at hOb
  refine lv_if_ne (tgt := 205) hx hb dL_four_93 (by decide) (fun c93 => absurd c93 (by decide)) (fun _ => ?_)
  refine lv_aload_n hx hb dL_four_96 rfl (lv_at hl 6 rfl) ?_
  refine lv_bipush (v := 73) hx hb dL_four_97 (by decide) ?_
  refine lv_iconst (v := 2) hx hb dL_four_99 (by decide) ?_
  refine znewI (N := 2) C hw (by decide +kernel) (by decide) (by decide) (Nat.le_of_ble_eq_true rfl) (Nat.le_of_ble_eq_true rfl) (Nat.le_of_ble_eq_true rfl) dL_four_100 (fun q100 H kq100 hw => ?_)
  have hA : zAr S90 (znR S90 q100 22 2 (fun _ => 0)) q100 2 [] := zAr.new kq100
  generalize (znR S90 q100 22 2 (fun _ => 0)) = Sa100 at hw hA
  refine lv_dup hx hb dL_four_102 rfl ?_
  refine lv_iconst (v := 0) hx hb dL_four_103 (by decide) ?_
  refine lv_iload hx hb dL_four_104 (lv_at hl 1 rfl) ?_
  refine zast_I (a := q100) C hw hA.2.1 hA.2.2.1 (zin_of (N := 2) (by decide) (by grind) (by grind)) dL_four_106 (fun H locs hw => ?_)
  have hA : zAr S90 (zsR Sa100 22 q100 (upd (zR Sa100 22 q100) (0 : Int32).toNatClampNeg (nI cn))) q100 2 [(nI cn)] := zAr.st (k := 0) hA kq100 (by decide) rfl
  generalize (zsR Sa100 22 q100 (upd (zR Sa100 22 q100) (0 : Int32).toNatClampNeg (nI cn))) = Sa106 at hw hA
  refine lv_dup hx hb dL_four_107 rfl ?_
  refine lv_iconst (v := 1) hx hb dL_four_108 (by decide) ?_
  refine lv_iload_n hx hb dL_four_109 rfl (lv_at hl 4 rfl) ?_
  refine lv_iconst (v := 2) hx hb dL_four_110 (by decide) ?_
  have jn_1 : ∀ (rx_2 : Int32) (H : Heap) (locs : List Loc) (ls : Array Slot), zW D y base Sa106 s H locs → lv_has ls 8 [(7, .int (nI dn)), (6, .int (nI cn)), (5, .int (nI zn)), (4, .int (nI v)), (3, .int (nI md)), (2, .int (nI hf)), (1, .ref (a 0)), (0, .ref (y 98))] → ((zb (decide (2 ≤ md) = true)) = rx_2) → W p l e (headSpec wsL_four ({ frames := 11, cells := 66, slots := 5814, locals := 207 })).room s m args below meth c H locs 34 5641 (MQ below (va_Qi (fun (r : Int32) (S1 : zS) => r = 1) (zPost D y base) (zA base)) args s 66 5814 (zA base)) (F0 m 119 ls [.int rx_2, .int 1, .ref q100, .ref q100, .int 73, .ref (a 0)]) := by
    intro rx_2 H locs ls hw hl f_3
    subst f_3
    refine zast_I (a := q100) C hw hA.2.1 hA.2.2.1 (zin_of (N := 2) (by decide) (by grind) (by grind)) dL_four_119 (fun H locs hw => ?_)
    have hA : zAr S90 (zsR Sa106 22 q100 (upd (zR Sa106 22 q100) (1 : Int32).toNatClampNeg (zb (decide (2 ≤ md) = true)))) q100 2 [(nI cn), (zb (decide (2 ≤ md) = true))] := zAr.st (k := 1) hA kq100 (by decide) rfl
    generalize (zsR Sa106 22 q100 (upd (zR Sa106 22 q100) (1 : Int32).toNatClampNeg (zb (decide (2 ≤ md) = true)))) = Sa119 at hw hA
    obtain ⟨hG, hK9, hN9, hA⟩ := hA
    have hj0 : zR Sa119 22 q100 0 = (nI cn) := (hA 0 (nI cn) rfl).trans rfl
    have hj1 : zR Sa119 22 q100 1 = (zb (decide (2 ≤ md) = true)) := (hA 1 (zb (decide (2 ≤ md) = true)) rfl).trans rfl
    have hOb := zOb.gw hG hOb
    refine zcSW_i (As := [.ref (a 0), .int 73, .ref q100]) (rest := []) (n9 := 3) C hw (c_L_ask_I_idle_g l hst D y base Sa119 a cn (zb (decide (2 ≤ md) = true)) q100 hOb.1 hDs hcn (zb_01 _) (hOb.2.2.1 cn hcn).1 hK9 hN9 hj0 hj1) gL_four_L_ask rfl (by decide +kernel) ⟨⟨rfl, rfl⟩, Nat.le_of_ble_eq_true rfl, Nat.le_of_ble_eq_true rfl⟩ rfl hl.1 rfl (Nat.le_of_ble_eq_true rfl) ⟨Nat.le_of_ble_eq_true rfl, Nat.le_of_ble_eq_true rfl⟩ dL_four_120 (fun r120 S120 H locs hp120 hw => ?_)
    obtain ⟨hr9, hS9⟩ := hp120
    have hr9 : r120 = 0 := hr9.trans (zOb.i160 (b := false) hOb hcn rfl ((fun t => congrFun (zup_n (Ne.symm hzc)) t) 0))
    subst hr9
    have hOb := zOb.idle0 (b := (decide (2 ≤ md))) hOb hcn (fun t => congrFun (zup_n (Ne.symm hzc)) t) rfl
    rw [← hS9] at hOb
    refine lv_if_ne (tgt := 205) hx hb dL_four_123 (by decide) (fun c123 => absurd c123 (by decide)) (fun _ => ?_)
    refine lv_aload_n hx hb dL_four_126 rfl (lv_at hl 6 rfl) ?_
    refine lv_bipush (v := 102) hx hb dL_four_127 (by decide) ?_
    refine lv_bipush (v := 7) hx hb dL_four_129 (by decide) ?_
    refine znewI (N := 7) C hw (by decide +kernel) (by decide) (by decide) (Nat.le_of_ble_eq_true rfl) (Nat.le_of_ble_eq_true rfl) (Nat.le_of_ble_eq_true rfl) dL_four_131 (fun q131 H kq131 hw => ?_)
    have hA : zAr S120 (znR S120 q131 22 7 (fun _ => 0)) q131 7 [] := zAr.new kq131
    generalize (znR S120 q131 22 7 (fun _ => 0)) = Sa131 at hw hA
    refine lv_dup hx hb dL_four_133 rfl ?_
    refine lv_iconst (v := 0) hx hb dL_four_134 (by decide) ?_
    refine lv_iload hx hb dL_four_135 (lv_at hl 1 rfl) ?_
    refine zast_I (a := q131) C hw hA.2.1 hA.2.2.1 (zin_of (N := 7) (by decide) (by grind) (by grind)) dL_four_137 (fun H locs hw => ?_)
    have hA : zAr S120 (zsR Sa131 22 q131 (upd (zR Sa131 22 q131) (0 : Int32).toNatClampNeg (nI cn))) q131 7 [(nI cn)] := zAr.st (k := 0) hA kq131 (by decide) rfl
    generalize (zsR Sa131 22 q131 (upd (zR Sa131 22 q131) (0 : Int32).toNatClampNeg (nI cn))) = Sa137 at hw hA
    refine lv_dup hx hb dL_four_138 rfl ?_
    refine lv_iconst (v := 1) hx hb dL_four_139 (by decide) ?_
    refine lv_iload hx hb dL_four_140 (lv_at hl 0 rfl) ?_
    refine zast_I (a := q131) C hw hA.2.1 hA.2.2.1 (zin_of (N := 7) (by decide) (by grind) (by grind)) dL_four_142 (fun H locs hw => ?_)
    have hA : zAr S120 (zsR Sa137 22 q131 (upd (zR Sa137 22 q131) (1 : Int32).toNatClampNeg (nI dn))) q131 7 [(nI cn), (nI dn)] := zAr.st (k := 1) hA kq131 (by decide) rfl
    generalize (zsR Sa137 22 q131 (upd (zR Sa137 22 q131) (1 : Int32).toNatClampNeg (nI dn))) = Sa142 at hw hA
    refine lv_dup hx hb dL_four_143 rfl ?_
    refine lv_iconst (v := 2) hx hb dL_four_144 (by decide) ?_
    refine lv_iload hx hb dL_four_145 (lv_at hl 2 rfl) ?_
    refine zast_I (a := q131) C hw hA.2.1 hA.2.2.1 (zin_of (N := 7) (by decide) (by grind) (by grind)) dL_four_147 (fun H locs hw => ?_)
    have hA : zAr S120 (zsR Sa142 22 q131 (upd (zR Sa142 22 q131) (2 : Int32).toNatClampNeg (nI zn))) q131 7 [(nI cn), (nI dn), (nI zn)] := zAr.st (k := 2) hA kq131 (by decide) rfl
    generalize (zsR Sa142 22 q131 (upd (zR Sa142 22 q131) (2 : Int32).toNatClampNeg (nI zn))) = Sa147 at hw hA
    refine lv_dup hx hb dL_four_148 rfl ?_
    refine lv_iconst (v := 3) hx hb dL_four_149 (by decide) ?_
    refine lv_iload hx hb dL_four_150 (lv_at hl 3 rfl) ?_
    refine zast_I (a := q131) C hw hA.2.1 hA.2.2.1 (zin_of (N := 7) (by decide) (by grind) (by grind)) dL_four_152 (fun H locs hw => ?_)
    have hA : zAr S120 (zsR Sa147 22 q131 (upd (zR Sa147 22 q131) (3 : Int32).toNatClampNeg (nI v))) q131 7 [(nI cn), (nI dn), (nI zn), (nI v)] := zAr.st (k := 3) hA kq131 (by decide) rfl
    generalize (zsR Sa147 22 q131 (upd (zR Sa147 22 q131) (3 : Int32).toNatClampNeg (nI v))) = Sa152 at hw hA
    refine lv_dup hx hb dL_four_153 rfl ?_
    refine lv_iconst (v := 4) hx hb dL_four_154 (by decide) ?_
    refine lv_iload_n hx hb dL_four_155 rfl (lv_at hl 5 rfl) ?_
    refine zast_I (a := q131) C hw hA.2.1 hA.2.2.1 (zin_of (N := 7) (by decide) (by grind) (by grind)) dL_four_156 (fun H locs hw => ?_)
    have hA : zAr S120 (zsR Sa152 22 q131 (upd (zR Sa152 22 q131) (4 : Int32).toNatClampNeg (nI hf))) q131 7 [(nI cn), (nI dn), (nI zn), (nI v), (nI hf)] := zAr.st (k := 4) hA kq131 (by decide) rfl
    generalize (zsR Sa152 22 q131 (upd (zR Sa152 22 q131) (4 : Int32).toNatClampNeg (nI hf))) = Sa156 at hw hA
    refine lv_dup hx hb dL_four_157 rfl ?_
    refine lv_iconst (v := 5) hx hb dL_four_158 (by decide) ?_
    refine lv_iload_n hx hb dL_four_159 rfl (lv_at hl 5 rfl) ?_
    refine zast_I (a := q131) C hw hA.2.1 hA.2.2.1 (zin_of (N := 7) (by decide) (by grind) (by grind)) dL_four_160 (fun H locs hw => ?_)
    have hA : zAr S120 (zsR Sa156 22 q131 (upd (zR Sa156 22 q131) (5 : Int32).toNatClampNeg (nI hf))) q131 7 [(nI cn), (nI dn), (nI zn), (nI v), (nI hf), (nI hf)] := zAr.st (k := 5) hA kq131 (by decide) rfl
    generalize (zsR Sa156 22 q131 (upd (zR Sa156 22 q131) (5 : Int32).toNatClampNeg (nI hf))) = Sa160 at hw hA
    refine lv_dup hx hb dL_four_161 rfl ?_
    refine lv_bipush (v := 6) hx hb dL_four_162 (by decide) ?_
    refine lv_iload_n hx hb dL_four_164 rfl (lv_at hl 4 rfl) ?_
    refine zast_I (a := q131) C hw hA.2.1 hA.2.2.1 (zin_of (N := 7) (by decide) (by grind) (by grind)) dL_four_165 (fun H locs hw => ?_)
    have hA : zAr S120 (zsR Sa160 22 q131 (upd (zR Sa160 22 q131) (6 : Int32).toNatClampNeg (nI md))) q131 7 [(nI cn), (nI dn), (nI zn), (nI v), (nI hf), (nI hf), (nI md)] := zAr.st (k := 6) hA kq131 (by decide) rfl
    generalize (zsR Sa160 22 q131 (upd (zR Sa160 22 q131) (6 : Int32).toNatClampNeg (nI md))) = Sa165 at hw hA
    obtain ⟨hG, hK9, hN9, hA⟩ := hA
    have hj0 : zR Sa165 22 q131 0 = (nI cn) := (hA 0 (nI cn) rfl).trans rfl
    have hj1 : zR Sa165 22 q131 1 = (nI dn) := (hA 1 (nI dn) rfl).trans rfl
    have hj2 : zR Sa165 22 q131 2 = (nI zn) := (hA 2 (nI zn) rfl).trans rfl
    have hj3 : zR Sa165 22 q131 3 = (nI v) := (hA 3 (nI v) rfl).trans rfl
    have hj4 : zR Sa165 22 q131 4 = (nI hf) := (hA 4 (nI hf) rfl).trans rfl
    have hj5 : zR Sa165 22 q131 5 = (nI hf) := (hA 5 (nI hf) rfl).trans rfl
    have hj6 : zR Sa165 22 q131 6 = (nI md) := (hA 6 (nI md) rfl).trans rfl
    have hOb := zOb.gw hG hOb
    refine zcSW_i (As := [.ref (a 0), .int 102, .ref q131]) (rest := []) (n9 := 3) C hw (c_L_ask_f_fourWires_g l hst D y base Sa165 a cn dn zn v hf hf md _ _ _ _ _ _ _ q131 hOb.1 hDs hcn hdn hzn ⟨hcd, Ne.symm hzc, Ne.symm hzd⟩ hv (by omega) ⟨hf1, by omega⟩ hmd hOb (show 0 + 16 ≤ 300 by decide) (show 0 + 9 ≤ 300 by decide) (show 0 + 2 ≤ 300 by decide) hK9 hN9 hj0 hj1 hj2 hj3 hj4 hj5 hj6) gL_four_L_ask rfl (by decide +kernel) ⟨⟨rfl, rfl⟩, Nat.le_of_ble_eq_true rfl, Nat.le_of_ble_eq_true rfl⟩ rfl hl.1 rfl (Nat.le_of_ble_eq_true rfl) ⟨Nat.le_of_ble_eq_true rfl, Nat.le_of_ble_eq_true rfl⟩ dL_four_166 (fun r166 S166 H locs hp166 hw => ?_)
    obtain ⟨rfl, n1, n2, n3, hn1, hn2, hn3, hOb⟩ := hp166
    refine lv_bipush (v := 18) hx hb dL_four_169 (by decide) ?_
    refine lv_iload_n hx hb dL_four_171 rfl (lv_at hl 5 rfl) ?_
    refine lv_imul hx hb dL_four_172 ?_
    refine zrd (x := (nI (18 * hf))) (pk_mul 18 _) ?_
    refine lv_icmp_ne (tgt := 205) hx hb dL_four_173 (by decide) (fun c173 => (show False from c173 (congrArg nI (by omega))).elim) (fun c173 => ?_)
    refine lv_aload_n hx hb dL_four_176 rfl (lv_at hl 6 rfl) ?_
    refine lv_bipush (v := 67) hx hb dL_four_177 (by decide) ?_
    refine lv_iconst (v := 4) hx hb dL_four_179 (by decide) ?_
    refine znewI (N := 4) C hw (by decide +kernel) (by decide) (by decide) (Nat.le_of_ble_eq_true rfl) (Nat.le_of_ble_eq_true rfl) (Nat.le_of_ble_eq_true rfl) dL_four_180 (fun q180 H kq180 hw => ?_)
    have hA : zAr S166 (znR S166 q180 22 4 (fun _ => 0)) q180 4 [] := zAr.new kq180
    generalize (znR S166 q180 22 4 (fun _ => 0)) = Sa180 at hw hA
    refine lv_dup hx hb dL_four_182 rfl ?_
    refine lv_iconst (v := 0) hx hb dL_four_183 (by decide) ?_
    refine lv_iconst (v := 0) hx hb dL_four_184 (by decide) ?_
    refine zast_I (a := q180) C hw hA.2.1 hA.2.2.1 (zin_of (N := 4) (by decide) (by grind) (by grind)) dL_four_185 (fun H locs hw => ?_)
    have hA : zAr S166 (zsR Sa180 22 q180 (upd (zR Sa180 22 q180) (0 : Int32).toNatClampNeg 0)) q180 4 [0] := zAr.st (k := 0) hA kq180 (by decide) rfl
    generalize (zsR Sa180 22 q180 (upd (zR Sa180 22 q180) (0 : Int32).toNatClampNeg 0)) = Sa185 at hw hA
    refine lv_dup hx hb dL_four_186 rfl ?_
    refine lv_iconst (v := 1) hx hb dL_four_187 (by decide) ?_
    refine lv_iconst (v := 0) hx hb dL_four_188 (by decide) ?_
    refine zast_I (a := q180) C hw hA.2.1 hA.2.2.1 (zin_of (N := 4) (by decide) (by grind) (by grind)) dL_four_189 (fun H locs hw => ?_)
    have hA : zAr S166 (zsR Sa185 22 q180 (upd (zR Sa185 22 q180) (1 : Int32).toNatClampNeg 0)) q180 4 [0, 0] := zAr.st (k := 1) hA kq180 (by decide) rfl
    generalize (zsR Sa185 22 q180 (upd (zR Sa185 22 q180) (1 : Int32).toNatClampNeg 0)) = Sa189 at hw hA
    refine lv_dup hx hb dL_four_190 rfl ?_
    refine lv_iconst (v := 2) hx hb dL_four_191 (by decide) ?_
    refine lv_iload_n hx hb dL_four_192 rfl (lv_at hl 5 rfl) ?_
    refine zast_I (a := q180) C hw hA.2.1 hA.2.2.1 (zin_of (N := 4) (by decide) (by grind) (by grind)) dL_four_193 (fun H locs hw => ?_)
    have hA : zAr S166 (zsR Sa189 22 q180 (upd (zR Sa189 22 q180) (2 : Int32).toNatClampNeg (nI hf))) q180 4 [0, 0, (nI hf)] := zAr.st (k := 2) hA kq180 (by decide) rfl
    generalize (zsR Sa189 22 q180 (upd (zR Sa189 22 q180) (2 : Int32).toNatClampNeg (nI hf))) = Sa193 at hw hA
    refine lv_dup hx hb dL_four_194 rfl ?_
    refine lv_iconst (v := 3) hx hb dL_four_195 (by decide) ?_
    refine lv_bipush (v := 20) hx hb dL_four_196 (by decide) ?_
    refine zast_I (a := q180) C hw hA.2.1 hA.2.2.1 (zin_of (N := 4) (by decide) (by grind) (by grind)) dL_four_198 (fun H locs hw => ?_)
    have hA : zAr S166 (zsR Sa193 22 q180 (upd (zR Sa193 22 q180) (3 : Int32).toNatClampNeg 20)) q180 4 [0, 0, (nI hf), 20] := zAr.st (k := 3) hA kq180 (by decide) rfl
    generalize (zsR Sa193 22 q180 (upd (zR Sa193 22 q180) (3 : Int32).toNatClampNeg 20)) = Sa198 at hw hA
    obtain ⟨hG, hK9, hN9, hA⟩ := hA
    have hj0 : zR Sa198 22 q180 0 = (nI 0) := (hA 0 0 rfl).trans rfl
    have hj1 : zR Sa198 22 q180 1 = (nI 0) := (hA 1 0 rfl).trans rfl
    have hj2 : zR Sa198 22 q180 2 = (nI hf) := (hA 2 (nI hf) rfl).trans rfl
    have hj3 : zR Sa198 22 q180 3 = (nI 20) := (hA 3 20 rfl).trans rfl
    have hOb := zOb.gw hG hOb
    refine zcSW_i (As := [.ref (a 0), .int 67, .ref q180]) (rest := []) (n9 := 3) C hw (c_L_ask_C_capture_g l hst D y base Sa198 a 0 0 hf 20 _ _ q180 hOb.1 hDs (by decide) ⟨hf1, by omega⟩ ⟨by decide, by decide⟩ (by omega) hOb.2.2.1 hK9 hN9 hj0 hj1 hj2 hj3) gL_four_L_ask rfl (by decide +kernel) ⟨⟨rfl, rfl⟩, Nat.le_of_ble_eq_true rfl, Nat.le_of_ble_eq_true rfl⟩ rfl hl.1 rfl (Nat.le_of_ble_eq_true rfl) ⟨Nat.le_of_ble_eq_true rfl, Nat.le_of_ble_eq_true rfl⟩ dL_four_199 (fun r199 S199 H locs hp199 hw => ?_)
    obtain ⟨⟨k9, rfl, hk9, -⟩, hM, hfr⟩ := hp199
    obtain ⟨hX, hNts, -, h41⟩ := zcap0 hDs hOb hfr
    obtain ⟨M, hM, hMz, hMc, hMd⟩ := zCp.three (w := zn) (u := cn) (x := dn) zsw4 (zcw4 md) (zdw4 md v) hM hzc hzd hcd (fun i hi => by simp only [zup_s, zup_n hzc, zup_n hzd]; rw [zx2]; exact zsamL hf1 hf9) (fun i hi => by simp only [zup_s, zup_n (Ne.symm hzc), zup_n hcd]; rw [zge2_d md hmd, zx2b]; exact zsamF hf1 hf9) (fun i hi => by simp only [zup_s, zup_n (Ne.symm hzd), zup_n (Ne.symm hcd)]; rw [zx2f]; exact zsamG hf1 hf9)
    refine lv_if_ge (tgt := 207) hx hb dL_four_202 (by decide) (fun c202 => ?_) (fun c202 => (show False from c202 (zrg (m := 400) hk9 (by decide) rfl).1).elim)
    refine lv_aload_n hx hb dL_four_207 rfl (lv_at hl 6 rfl) ?_
    refine lv_bipush (v := 52) hx hb dL_four_208 (by decide) ?_
    refine lv_iconst (v := 5) hx hb dL_four_210 (by decide) ?_
    refine znewI (N := 5) C hw (by decide +kernel) (by decide) (by decide) (Nat.le_of_ble_eq_true rfl) (Nat.le_of_ble_eq_true rfl) (Nat.le_of_ble_eq_true rfl) dL_four_211 (fun q211 H kq211 hw => ?_)
    have hA : zAr S199 (znR S199 q211 22 5 (fun _ => 0)) q211 5 [] := zAr.new kq211
    generalize (znR S199 q211 22 5 (fun _ => 0)) = Sa211 at hw hA
    refine lv_dup hx hb dL_four_213 rfl ?_
    refine lv_iconst (v := 0) hx hb dL_four_214 (by decide) ?_
    refine lv_iconst (v := 0) hx hb dL_four_215 (by decide) ?_
    refine zast_I (a := q211) C hw hA.2.1 hA.2.2.1 (zin_of (N := 5) (by decide) (by grind) (by grind)) dL_four_216 (fun H locs hw => ?_)
    have hA : zAr S199 (zsR Sa211 22 q211 (upd (zR Sa211 22 q211) (0 : Int32).toNatClampNeg 0)) q211 5 [0] := zAr.st (k := 0) hA kq211 (by decide) rfl
    generalize (zsR Sa211 22 q211 (upd (zR Sa211 22 q211) (0 : Int32).toNatClampNeg 0)) = Sa216 at hw hA
    refine lv_dup hx hb dL_four_217 rfl ?_
    refine lv_iconst (v := 1) hx hb dL_four_218 (by decide) ?_
    refine lv_iload hx hb dL_four_219 (lv_at hl 1 rfl) ?_
    refine zast_I (a := q211) C hw hA.2.1 hA.2.2.1 (zin_of (N := 5) (by decide) (by grind) (by grind)) dL_four_221 (fun H locs hw => ?_)
    have hA : zAr S199 (zsR Sa216 22 q211 (upd (zR Sa216 22 q211) (1 : Int32).toNatClampNeg (nI cn))) q211 5 [0, (nI cn)] := zAr.st (k := 1) hA kq211 (by decide) rfl
    generalize (zsR Sa216 22 q211 (upd (zR Sa216 22 q211) (1 : Int32).toNatClampNeg (nI cn))) = Sa221 at hw hA
    refine lv_dup hx hb dL_four_222 rfl ?_
    refine lv_iconst (v := 2) hx hb dL_four_223 (by decide) ?_
    refine lv_iload hx hb dL_four_224 (lv_at hl 0 rfl) ?_
    refine zast_I (a := q211) C hw hA.2.1 hA.2.2.1 (zin_of (N := 5) (by decide) (by grind) (by grind)) dL_four_226 (fun H locs hw => ?_)
    have hA : zAr S199 (zsR Sa221 22 q211 (upd (zR Sa221 22 q211) (2 : Int32).toNatClampNeg (nI dn))) q211 5 [0, (nI cn), (nI dn)] := zAr.st (k := 2) hA kq211 (by decide) rfl
    generalize (zsR Sa221 22 q211 (upd (zR Sa221 22 q211) (2 : Int32).toNatClampNeg (nI dn))) = Sa226 at hw hA
    refine lv_dup hx hb dL_four_227 rfl ?_
    refine lv_iconst (v := 3) hx hb dL_four_228 (by decide) ?_
    refine lv_iload hx hb dL_four_229 (lv_at hl 2 rfl) ?_
    refine zast_I (a := q211) C hw hA.2.1 hA.2.2.1 (zin_of (N := 5) (by decide) (by grind) (by grind)) dL_four_231 (fun H locs hw => ?_)
    have hA : zAr S199 (zsR Sa226 22 q211 (upd (zR Sa226 22 q211) (3 : Int32).toNatClampNeg (nI zn))) q211 5 [0, (nI cn), (nI dn), (nI zn)] := zAr.st (k := 3) hA kq211 (by decide) rfl
    generalize (zsR Sa226 22 q211 (upd (zR Sa226 22 q211) (3 : Int32).toNatClampNeg (nI zn))) = Sa231 at hw hA
    refine lv_dup hx hb dL_four_232 rfl ?_
    refine lv_iconst (v := 4) hx hb dL_four_233 (by decide) ?_
    refine lv_iload_n hx hb dL_four_234 rfl (lv_at hl 4 rfl) ?_
    refine zast_I (a := q211) C hw hA.2.1 hA.2.2.1 (zin_of (N := 5) (by decide) (by grind) (by grind)) dL_four_235 (fun H locs hw => ?_)
    have hA : zAr S199 (zsR Sa231 22 q211 (upd (zR Sa231 22 q211) (4 : Int32).toNatClampNeg (nI md))) q211 5 [0, (nI cn), (nI dn), (nI zn), (nI md)] := zAr.st (k := 4) hA kq211 (by decide) rfl
    generalize (zsR Sa231 22 q211 (upd (zR Sa231 22 q211) (4 : Int32).toNatClampNeg (nI md))) = Sa235 at hw hA
    obtain ⟨hG, hK9, hN9, hA⟩ := hA
    have hj0 : zR Sa235 22 q211 0 = (nI 0) := (hA 0 0 rfl).trans rfl
    have hj1 : zR Sa235 22 q211 1 = (nI cn) := (hA 1 (nI cn) rfl).trans rfl
    have hj2 : zR Sa235 22 q211 2 = (nI dn) := (hA 2 (nI dn) rfl).trans rfl
    have hj3 : zR Sa235 22 q211 3 = (nI zn) := (hA 3 (nI zn) rfl).trans rfl
    have hj4 : zR Sa235 22 q211 4 = (nI md) := (hA 4 (nI md) rfl).trans rfl
    have hM := zCp.gw hG hX (by decide) hM
    have h41 := z41.gw hG hX h41
    have hNts := zNts.gw hG hNts
    have hX := zX.gw hG hX
    refine zcSW_i (As := [.ref (a 0), .int 52, .ref q211]) (rest := []) (n9 := 3) C hw (c_L_ask_4_decodeFour_g l hst D y base Sa235 a 0 cn dn zn md 20 M q211 hX hNts hDs (by decide) hcn hdn hzn hmd ⟨hcd, Ne.symm hzc, Ne.symm hzd⟩ hM ⟨by decide, by decide⟩ hK9 hN9 hj0 hj1 hj2 hj3 hj4) gL_four_L_ask rfl (by decide +kernel) ⟨⟨rfl, rfl⟩, Nat.le_of_ble_eq_true rfl, Nat.le_of_ble_eq_true rfl⟩ rfl hl.1 rfl (Nat.le_of_ble_eq_true rfl) ⟨Nat.le_of_ble_eq_true rfl, Nat.le_of_ble_eq_true rfl⟩ dL_four_236 (fun r236 S236 H locs hp236 hw => ?_)
    obtain ⟨hr9, hNo, hDc⟩ := hp236
    rw [hMz, hMc, hMd] at hr9 hNo
    have e1 : (zFR zsw4 (zcw4 md) (zdw4 md v) (decide (md = 0 ∨ md = 3)) (20 - 1)).2.2 = _ := zfour md hmd v hv
    rw [e1] at hr9 hNo
    have hr9 : r236 = 1 := hr9
    subst hr9
    have h41 := ((hDc.2.2 1 (by decide)).1).trans h41
    have hM := hDc.cp (by decide) hM
    have hX := hDc.1
    have hNts := hDc.2.1
    refine lv_iconst (v := 1) hx hb dL_four_239 (by decide) ?_
    refine lv_icmp_ne (tgt := 308) hx hb dL_four_240 (by decide) (fun c240 => absurd c240 (by decide)) (fun _ => ?_)
    refine lv_aload_n hx hb dL_four_243 rfl (lv_at hl 6 rfl) ?_
    refine lv_bipush (v := 107) hx hb dL_four_244 (by decide) ?_
    refine lv_iconst (v := 1) hx hb dL_four_246 (by decide) ?_
    refine znewI (N := 1) C hw (by decide +kernel) (by decide) (by decide) (Nat.le_of_ble_eq_true rfl) (Nat.le_of_ble_eq_true rfl) (Nat.le_of_ble_eq_true rfl) dL_four_247 (fun q247 H kq247 hw => ?_)
    have hA : zAr S236 (znR S236 q247 22 1 (fun _ => 0)) q247 1 [] := zAr.new kq247
    generalize (znR S236 q247 22 1 (fun _ => 0)) = Sa247 at hw hA
    refine lv_dup hx hb dL_four_249 rfl ?_
    refine lv_iconst (v := 0) hx hb dL_four_250 (by decide) ?_
    refine lv_iconst (v := 0) hx hb dL_four_251 (by decide) ?_
    refine zast_I (a := q247) C hw hA.2.1 hA.2.2.1 (zin_of (N := 1) (by decide) (by grind) (by grind)) dL_four_252 (fun H locs hw => ?_)
    have hA : zAr S236 (zsR Sa247 22 q247 (upd (zR Sa247 22 q247) (0 : Int32).toNatClampNeg 0)) q247 1 [0] := zAr.st (k := 0) hA kq247 (by decide) rfl
    generalize (zsR Sa247 22 q247 (upd (zR Sa247 22 q247) (0 : Int32).toNatClampNeg 0)) = Sa252 at hw hA
    obtain ⟨hG, hK9, hN9, hA⟩ := hA
    have hj0 : zR Sa252 22 q247 0 = (nI 0) := (hA 0 0 rfl).trans rfl
    have hNo := zNo.gw hG hNts hNo
    have hM := zCp.gw hG hX (by decide) hM
    have h41 := z41.gw hG hX h41
    have hNts := zNts.gw hG hNts
    have hX := zX.gw hG hX
    refine zcSW_i (As := [.ref (a 0), .int 107, .ref q247]) (rest := []) (n9 := 3) C hw (c_L_ask_k_kind_g l hst D y base Sa252 a 0 _ ((66, nI (zfb md), nI (zfb md + 14), nI v, 45) : zNt) q247 hX hNts hDs hNo rfl (show narrow .char (.int 66) = .int 66 by decide) hK9 hN9 hj0) gL_four_L_ask rfl (by decide +kernel) ⟨⟨rfl, rfl⟩, Nat.le_of_ble_eq_true rfl, Nat.le_of_ble_eq_true rfl⟩ rfl hl.1 rfl (Nat.le_of_ble_eq_true rfl) ⟨Nat.le_of_ble_eq_true rfl, Nat.le_of_ble_eq_true rfl⟩ dL_four_253 (fun r253 S253 H locs hp253 hw => ?_)
    obtain ⟨hr9, hS9⟩ := hp253
    have hr9 : r253 = 66 := hr9
    subst hr9
    have hS9 := hS9.symm
    subst hS9
    refine lv_bipush (v := 66) hx hb dL_four_256 (by decide) ?_
    refine lv_icmp_ne (tgt := 308) hx hb dL_four_258 (by decide) (fun c258 => absurd c258 (by decide)) (fun _ => ?_)
    refine lv_aload_n hx hb dL_four_261 rfl (lv_at hl 6 rfl) ?_
    refine lv_bipush (v := 118) hx hb dL_four_262 (by decide) ?_
    refine lv_iconst (v := 1) hx hb dL_four_264 (by decide) ?_
    refine znewI (N := 1) C hw (by decide +kernel) (by decide) (by decide) (Nat.le_of_ble_eq_true rfl) (Nat.le_of_ble_eq_true rfl) (Nat.le_of_ble_eq_true rfl) dL_four_265 (fun q265 H kq265 hw => ?_)
    have hA : zAr Sa252 (znR Sa252 q265 22 1 (fun _ => 0)) q265 1 [] := zAr.new kq265
    generalize (znR Sa252 q265 22 1 (fun _ => 0)) = Sa265 at hw hA
    refine lv_dup hx hb dL_four_267 rfl ?_
    refine lv_iconst (v := 0) hx hb dL_four_268 (by decide) ?_
    refine lv_iconst (v := 0) hx hb dL_four_269 (by decide) ?_
    refine zast_I (a := q265) C hw hA.2.1 hA.2.2.1 (zin_of (N := 1) (by decide) (by grind) (by grind)) dL_four_270 (fun H locs hw => ?_)
    have hA : zAr Sa252 (zsR Sa265 22 q265 (upd (zR Sa265 22 q265) (0 : Int32).toNatClampNeg 0)) q265 1 [0] := zAr.st (k := 0) hA kq265 (by decide) rfl
    generalize (zsR Sa265 22 q265 (upd (zR Sa265 22 q265) (0 : Int32).toNatClampNeg 0)) = Sa270 at hw hA
    obtain ⟨hG, hK9, hN9, hA⟩ := hA
    have hj0 : zR Sa270 22 q265 0 = (nI 0) := (hA 0 0 rfl).trans rfl
    have hNo := zNo.gw hG hNts hNo
    have hM := zCp.gw hG hX (by decide) hM
    have h41 := z41.gw hG hX h41
    have hNts := zNts.gw hG hNts
    have hX := zX.gw hG hX
    refine zcSW_i (As := [.ref (a 0), .int 118, .ref q265]) (rest := []) (n9 := 3) C hw (c_L_ask_v_value_g l hst D y base Sa270 a 0 _ ((66, nI (zfb md), nI (zfb md + 14), nI v, 45) : zNt) q265 hX hNts hDs hNo rfl hK9 hN9 hj0) gL_four_L_ask rfl (by decide +kernel) ⟨⟨rfl, rfl⟩, Nat.le_of_ble_eq_true rfl, Nat.le_of_ble_eq_true rfl⟩ rfl hl.1 rfl (Nat.le_of_ble_eq_true rfl) ⟨Nat.le_of_ble_eq_true rfl, Nat.le_of_ble_eq_true rfl⟩ dL_four_271 (fun r271 S271 H locs hp271 hw => ?_)
    obtain ⟨hr9, hS9⟩ := hp271
    have hr9 : r271 = (nI v) := hr9
    subst hr9
    have hS9 := hS9.symm
    subst hS9
    refine lv_iload hx hb dL_four_274 (lv_at hl 3 rfl) ?_
    refine lv_icmp_ne (tgt := 308) hx hb dL_four_276 (by decide) (fun c276 => (show False from c276 rfl).elim) (fun c276 => ?_)
    refine lv_aload_n hx hb dL_four_279 rfl (lv_at hl 6 rfl) ?_
    refine lv_bipush (v := 120) hx hb dL_four_280 (by decide) ?_
    refine lv_iconst (v := 1) hx hb dL_four_282 (by decide) ?_
    refine znewI (N := 1) C hw (by decide +kernel) (by decide) (by decide) (Nat.le_of_ble_eq_true rfl) (Nat.le_of_ble_eq_true rfl) (Nat.le_of_ble_eq_true rfl) dL_four_283 (fun q283 H kq283 hw => ?_)
    have hA : zAr Sa270 (znR Sa270 q283 22 1 (fun _ => 0)) q283 1 [] := zAr.new kq283
    generalize (znR Sa270 q283 22 1 (fun _ => 0)) = Sa283 at hw hA
    refine lv_dup hx hb dL_four_285 rfl ?_
    refine lv_iconst (v := 0) hx hb dL_four_286 (by decide) ?_
    refine lv_iconst (v := 0) hx hb dL_four_287 (by decide) ?_
    refine zast_I (a := q283) C hw hA.2.1 hA.2.2.1 (zin_of (N := 1) (by decide) (by grind) (by grind)) dL_four_288 (fun H locs hw => ?_)
    have hA : zAr Sa270 (zsR Sa283 22 q283 (upd (zR Sa283 22 q283) (0 : Int32).toNatClampNeg 0)) q283 1 [0] := zAr.st (k := 0) hA kq283 (by decide) rfl
    generalize (zsR Sa283 22 q283 (upd (zR Sa283 22 q283) (0 : Int32).toNatClampNeg 0)) = Sa288 at hw hA
    obtain ⟨hG, hK9, hN9, hA⟩ := hA
    have hj0 : zR Sa288 22 q283 0 = (nI 0) := (hA 0 0 rfl).trans rfl
    have hNo := zNo.gw hG hNts hNo
    have hM := zCp.gw hG hX (by decide) hM
    have h41 := z41.gw hG hX h41
    have hNts := zNts.gw hG hNts
    have hX := zX.gw hG hX
    refine zcSW_i (As := [.ref (a 0), .int 120, .ref q283]) (rest := []) (n9 := 3) C hw (c_L_ask_x_fault_g l hst D y base Sa288 a 0 _ ((66, nI (zfb md), nI (zfb md + 14), nI v, 45) : zNt) q283 hX hNts hDs hNo rfl (show narrow .char (.int 45) = .int 45 by decide) hK9 hN9 hj0) gL_four_L_ask rfl (by decide +kernel) ⟨⟨rfl, rfl⟩, Nat.le_of_ble_eq_true rfl, Nat.le_of_ble_eq_true rfl⟩ rfl hl.1 rfl (Nat.le_of_ble_eq_true rfl) ⟨Nat.le_of_ble_eq_true rfl, Nat.le_of_ble_eq_true rfl⟩ dL_four_289 (fun r289 S289 H locs hp289 hw => ?_)
    obtain ⟨hr9, hS9⟩ := hp289
    have hr9 : r289 = 45 := hr9
    subst hr9
    have hS9 := hS9.symm
    subst hS9
    refine lv_bipush (v := 45) hx hb dL_four_292 (by decide) ?_
    refine lv_icmp_ne (tgt := 308) hx hb dL_four_294 (by decide) (fun c294 => absurd c294 (by decide)) (fun _ => ?_)
    refine lv_aload_n hx hb dL_four_297 rfl (lv_at hl 6 rfl) ?_
    refine zcV_i (As := []) (rest := []) (n9 := 0) (b := (a 0)) C hw (c_X7_isSound_g l D y base Sa288 a (fun i => if i = 0 then 20 else 0) (fun _ => M) _ hX hNts hDs (zsnd hM h41) hNo (zNo.be hNo (zone_be (zfb_le md hmd))) (zNo.bb hNo zone_bb)) gL_four_X7_isSound rfl (by decide +kernel) ⟨⟨rfl, rfl⟩, Nat.le_of_ble_eq_true rfl, Nat.le_of_ble_eq_true rfl⟩ hX.1 ⟨by decide, by decide⟩ rfl rfl hl.1 rfl (Nat.le_of_ble_eq_true rfl) ⟨Nat.le_of_ble_eq_true rfl, Nat.le_of_ble_eq_true rfl⟩ dL_four_298 (fun r298 S298 H locs hp298 hw => ?_)
    obtain ⟨rfl, hS9⟩ := hp298
    have hS9 := hS9.symm
    subst hS9
    refine lv_if_eq (tgt := 308) hx hb dL_four_301 (by decide) (fun c301 => absurd c301 (by decide)) (fun _ => ?_)
    refine lv_iconst (v := 1) hx hb dL_four_304 (by decide) ?_
    refine lv_goto (tgt := 309) hx hb dL_four_305 (by decide) ?_
    exact zri C hw hr hlocks (by decide) rfl ⟨Nat.le_of_ble_eq_true rfl, Nat.le_of_ble_eq_true rfl⟩ dL_four_309
  refine lv_icmp_lt (tgt := 118) hx hb dL_four_111 (by decide) (fun c111 => ?_) (fun c111 => ?_)
  · refine lv_iconst (v := 0) hx hb dL_four_118 (by decide) ?_
    exact jn_1 0 _ _ _ hw (lv_sub hl [0, 1, 2, 3, 4, 5, 6, 7] rfl) (by first | exact zmd_t hmd c111 | exact zmd_f hmd c111)
  · refine lv_iconst (v := 1) hx hb dL_four_114 (by decide) ?_
    refine lv_goto (tgt := 119) hx hb dL_four_115 (by decide) ?_
    exact jn_1 1 _ _ _ hw (lv_sub hl [0, 1, 2, 3, 4, 5, 6, 7] rfl) (by first | exact zmd_t hmd c111 | exact zmd_f hmd c111)

