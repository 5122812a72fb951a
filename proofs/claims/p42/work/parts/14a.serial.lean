set_option maxHeartbeats 4000000 in
set_option maxRecDepth 100000 in
/-- L_serial -/
theorem c_L_serial (l : Launch) (hst : l.stackTraces = false) (D : va_G) (y : Nat → ClassId) (base : Nat) (S : zS)  (hy31 : y 99 < 2 ^ 31) : zMi l yL_serial wsL_serial ({ frames := 10, cells := 72, slots := 5831, locals := 184 }) [.ref (y 98)] D y base S (fun (r : Int32) (S1 : zS) => r = 1) 72 5831 := by
  refine zMet_of (cc := cL_serial) (maxL := 13) (ret := (some .boolean)) (own := RL) (by decide +kernel) rfl rfl (Nat.le_of_ble_eq_true rfl) ?_
  intro p e s m args below meth c ls C hr hlocks hnm hw hl
  have hx := C.1
  have hb := C.2.1
  have hown := C.2.2.2.1
  have hts := C.2.2.2.2
  have hl : lv_has ls 13 [(0, .ref (y 98))] := hl
  have in_X7 : ∀ w ∈ wsX70, w ∈ wsL_serial := by decide +kernel
  refine znew (k := 11) (Cn := RX7) (T := TX7) (N := 8) C hw (by decide) (by decide) rfl in_X7 tyX7 tyX7_ok (by decide +kernel) (by decide +kernel) (by decide +kernel) (zdfX7) (Nat.le_of_ble_eq_true rfl) (Nat.le_of_ble_eq_true rfl) dL_serial_0 (fun q0 H kq0 hw => ?_)
  refine lv_dup hx hb dL_serial_3 rfl ?_
  have kq0s : zK (znO S q0 11) q0 = 11 := zK_nOs _ _ _
  have hz9 : ∀ t, zI (znO S q0 11) t q0 = 0 := fun t => zI_nOs _ _ _ t
  refine zcI_v (As := []) (rest := [.ref q0]) (n9 := 0) (b := q0) C hw (c_X7_init_n l D y base (znO S q0 11) q0 kq0s hz9) gL_serial_X7_init rfl (by decide +kernel) (by decide +kernel) (by decide +kernel) rfl (by decide +kernel) ⟨⟨rfl, rfl⟩, Nat.le_of_ble_eq_true rfl, Nat.le_of_ble_eq_true rfl⟩ rfl hl.1 rfl (Nat.le_of_ble_eq_true rfl) ⟨Nat.le_of_ble_eq_true rfl, Nat.le_of_ble_eq_true rfl⟩ dL_serial_4 (fun S4 H locs hp4 hw => ?_)
  obtain ⟨a, ha0, hNw, hDs, -⟩ := hp4
  have hw4 := hw
  subst ha0
  have hw := hw4
  have hOb := zOb.new hNw
  refine lv_astore_n (lv' := [(1, .ref (a 0)), (0, .ref (y 98))]) hx hb dL_serial_7 rfl hl (by decide) rfl (fun ls hl => ?_)
  refine lv_aload_n hx hb dL_serial_8 rfl (lv_at hl 1 rfl) ?_
  refine lv_iconst (v := 0) hx hb dL_serial_9 (by decide) ?_
  refine zcS_i (As := [.ref (y 98), .int 0]) (rest := []) (n9 := 2) C hw (c_L_at l D y base S4 0 (by decide) hy31) gL_serial_L_at rfl (by decide +kernel) ⟨⟨rfl, rfl⟩, Nat.le_of_ble_eq_true rfl, Nat.le_of_ble_eq_true rfl⟩ rfl hl.1 rfl (Nat.le_of_ble_eq_true rfl) ⟨Nat.le_of_ble_eq_true rfl, Nat.le_of_ble_eq_true rfl⟩ dL_serial_10 (fun r10 S10 H locs hp10 hw => ?_)
  obtain ⟨rfl, hS9⟩ := hp10
  have hS9 := hS9.symm
  subst hS9
  refine lv_iconst (v := 4) hx hb dL_serial_13 (by decide) ?_
  refine zcS_i (As := [.int ((if 0 < y 99 then zxs y 0 else 0)), .int 4]) (rest := []) (n9 := 2) C hw (c_L_some l D y base S4 ((if 0 < y 99 then zxs y 0 else 0)) 4 (by decide) (by decide)) gL_serial_L_some rfl (by decide +kernel) ⟨⟨rfl, rfl⟩, Nat.le_of_ble_eq_true rfl, Nat.le_of_ble_eq_true rfl⟩ rfl hl.1 rfl (Nat.le_of_ble_eq_true rfl) ⟨Nat.le_of_ble_eq_true rfl, Nat.le_of_ble_eq_true rfl⟩ dL_serial_14 (fun r14 S14 H locs hp14 hw => ?_)
  obtain ⟨rfl, hS9⟩ := hp14
  have hS9 := hS9.symm
  subst hS9
  obtain ⟨wn, hwn, ewn⟩ : ∃ k, k < 4 ∧ zsome ((if 0 < y 99 then zxs y 0 else 0)) 4 = k := ⟨_, zsome_lt (by decide), rfl⟩
  refine zrd (x := (nI wn)) (congrArg nI ewn) ?_
  refine lv_istore_n (lv' := [(2, .int (nI wn)), (1, .ref (a 0)), (0, .ref (y 98))]) hx hb dL_serial_17 rfl hl (by decide) rfl (fun ls hl => ?_)
  refine lv_iconst (v := 2) hx hb dL_serial_18 (by decide) ?_
  refine lv_iconst (v := 1) hx hb dL_serial_19 (by decide) ?_
  refine lv_aload_n hx hb dL_serial_20 rfl (lv_at hl 2 rfl) ?_
  refine lv_iconst (v := 1) hx hb dL_serial_21 (by decide) ?_
  refine zcS_i (As := [.ref (y 98), .int 1]) (rest := [.int 1, .int 2]) (n9 := 2) C hw (c_L_at l D y base S4 1 (by decide) hy31) gL_serial_L_at rfl (by decide +kernel) ⟨⟨rfl, rfl⟩, Nat.le_of_ble_eq_true rfl, Nat.le_of_ble_eq_true rfl⟩ rfl hl.1 rfl (Nat.le_of_ble_eq_true rfl) ⟨Nat.le_of_ble_eq_true rfl, Nat.le_of_ble_eq_true rfl⟩ dL_serial_22 (fun r22 S22 H locs hp22 hw => ?_)
  obtain ⟨rfl, hS9⟩ := hp22
  have hS9 := hS9.symm
  subst hS9
  refine lv_bipush (v := 9) hx hb dL_serial_25 (by decide) ?_
  refine zcS_i (As := [.int ((if 1 < y 99 then zxs y 1 else 0)), .int 9]) (rest := [.int 1, .int 2]) (n9 := 2) C hw (c_L_some l D y base S4 ((if 1 < y 99 then zxs y 1 else 0)) 9 (by decide) (by decide)) gL_serial_L_some rfl (by decide +kernel) ⟨⟨rfl, rfl⟩, Nat.le_of_ble_eq_true rfl, Nat.le_of_ble_eq_true rfl⟩ rfl hl.1 rfl (Nat.le_of_ble_eq_true rfl) ⟨Nat.le_of_ble_eq_true rfl, Nat.le_of_ble_eq_true rfl⟩ dL_serial_27 (fun r27 S27 H locs hp27 hw => ?_)
  obtain ⟨rfl, hS9⟩ := hp27
  have hS9 := hS9.symm
  subst hS9
  obtain ⟨g9, hg9, eg9⟩ : ∃ k, k < 9 ∧ zsome ((if 1 < y 99 then zxs y 1 else 0)) 9 = k := ⟨_, zsome_lt (by decide), rfl⟩
  refine zrd (x := (nI g9)) (congrArg nI eg9) ?_
  refine lv_iadd hx hb dL_serial_30 ?_
  refine zrd (x := (nI (1 + g9))) (nI_add 1 g9) ?_
  refine lv_imul hx hb dL_serial_31 ?_
  obtain ⟨h, eh, hh1, hh9⟩ : ∃ h, 1 + g9 = h ∧ 1 ≤ h ∧ h < 10 := ⟨_, rfl, by omega, by omega⟩
  refine zrd (x := (nI (2 * h))) (by rw [eh]; exact pk_mul 2 h) ?_
  refine lv_istore_n (lv' := [(3, .int (nI (2 * h))), (2, .int (nI wn)), (1, .ref (a 0)), (0, .ref (y 98))]) hx hb dL_serial_32 rfl hl (by decide) rfl (fun ls hl => ?_)
  refine zldcS C hw rfl dL_serial_33 ?_
  refine lv_aload_n hx hb dL_serial_35 rfl (lv_at hl 3 rfl) ?_
  refine lv_iconst (v := 2) hx hb dL_serial_36 (by decide) ?_
  refine zcS_i (As := [.ref (y 98), .int 2]) (rest := [.ref (y 90)]) (n9 := 2) C hw (c_L_at l D y base S4 2 (by decide) hy31) gL_serial_L_at rfl (by decide +kernel) ⟨⟨rfl, rfl⟩, Nat.le_of_ble_eq_true rfl, Nat.le_of_ble_eq_true rfl⟩ rfl hl.1 rfl (Nat.le_of_ble_eq_true rfl) ⟨Nat.le_of_ble_eq_true rfl, Nat.le_of_ble_eq_true rfl⟩ dL_serial_37 (fun r37 S37 H locs hp37 hw => ?_)
  obtain ⟨rfl, hS9⟩ := hp37
  have hS9 := hS9.symm
  subst hS9
  refine lv_iconst (v := 3) hx hb dL_serial_40 (by decide) ?_
  refine zcS_i (As := [.int ((if 2 < y 99 then zxs y 2 else 0)), .int 3]) (rest := [.ref (y 90)]) (n9 := 2) C hw (c_L_some l D y base S4 ((if 2 < y 99 then zxs y 2 else 0)) 3 (by decide) (by decide)) gL_serial_L_some rfl (by decide +kernel) ⟨⟨rfl, rfl⟩, Nat.le_of_ble_eq_true rfl, Nat.le_of_ble_eq_true rfl⟩ rfl hl.1 rfl (Nat.le_of_ble_eq_true rfl) ⟨Nat.le_of_ble_eq_true rfl, Nat.le_of_ble_eq_true rfl⟩ dL_serial_41 (fun r41 S41 H locs hp41 hw => ?_)
  obtain ⟨rfl, hS9⟩ := hp41
  have hS9 := hS9.symm
  subst hS9
  obtain ⟨k3, hk3, ek3⟩ : ∃ k, k < 3 ∧ zsome ((if 2 < y 99 then zxs y 2 else 0)) 3 = k := ⟨_, zsome_lt (by decide), rfl⟩
  refine zrd (x := (nI k3)) (congrArg nI ek3) ?_
  refine zcVS_i (As := [.int (nI k3)]) (rest := []) (n9 := 1) C hw (c_J0_charAt_5068e l D y base S4 k3 hk3) gL_serial_J0_charAt_5068e rfl (by decide +kernel) ⟨⟨rfl, rfl⟩, Nat.le_of_ble_eq_true rfl, Nat.le_of_ble_eq_true rfl⟩ rfl hl.1 rfl (Nat.le_of_ble_eq_true rfl) ⟨Nat.le_of_ble_eq_true rfl, Nat.le_of_ble_eq_true rfl⟩ dL_serial_44 (fun r44 S44 H locs hp44 hw => ?_)
  obtain ⟨rfl, hS9⟩ := hp44
  have hS9 := hS9.symm
  subst hS9
  obtain ⟨pr, epr, hpr⟩ : ∃ pr, zneo k3 = pr ∧ (pr = 110 ∨ pr = 101 ∨ pr = 111) := ⟨_, rfl, zneo_3 k3 hk3⟩
  refine zrd (x := pr) epr ?_
  refine lv_istore (lv' := [(4, .int pr), (3, .int (nI (2 * h))), (2, .int (nI wn)), (1, .ref (a 0)), (0, .ref (y 98))]) hx hb dL_serial_47 hl (by decide) rfl (fun ls hl => ?_)
  refine lv_aload_n hx hb dL_serial_49 rfl (lv_at hl 4 rfl) ?_
  refine lv_iconst (v := 3) hx hb dL_serial_50 (by decide) ?_
  refine zcS_i (As := [.ref (y 98), .int 3]) (rest := []) (n9 := 2) C hw (c_L_at l D y base S4 3 (by decide) hy31) gL_serial_L_at rfl (by decide +kernel) ⟨⟨rfl, rfl⟩, Nat.le_of_ble_eq_true rfl, Nat.le_of_ble_eq_true rfl⟩ rfl hl.1 rfl (Nat.le_of_ble_eq_true rfl) ⟨Nat.le_of_ble_eq_true rfl, Nat.le_of_ble_eq_true rfl⟩ dL_serial_51 (fun r51 S51 H locs hp51 hw => ?_)
  obtain ⟨rfl, hS9⟩ := hp51
  have hS9 := hS9.symm
  subst hS9
  refine lv_sipush (v := 256) hx hb dL_serial_54 (by decide) ?_
  refine zcS_i (As := [.int ((if 3 < y 99 then zxs y 3 else 0)), .int 256]) (rest := []) (n9 := 2) C hw (c_L_some l D y base S4 ((if 3 < y 99 then zxs y 3 else 0)) 256 (by decide) (by decide)) gL_serial_L_some rfl (by decide +kernel) ⟨⟨rfl, rfl⟩, Nat.le_of_ble_eq_true rfl, Nat.le_of_ble_eq_true rfl⟩ rfl hl.1 rfl (Nat.le_of_ble_eq_true rfl) ⟨Nat.le_of_ble_eq_true rfl, Nat.le_of_ble_eq_true rfl⟩ dL_serial_57 (fun r57 S57 H locs hp57 hw => ?_)
  obtain ⟨rfl, hS9⟩ := hp57
  have hS9 := hS9.symm
  subst hS9
  obtain ⟨v1, hv1, ev1⟩ : ∃ k, k < 256 ∧ zsome ((if 3 < y 99 then zxs y 3 else 0)) 256 = k := ⟨_, zsome_lt (by decide), rfl⟩
  refine zrd (x := (nI v1)) (congrArg nI ev1) ?_
  refine lv_istore (lv' := [(5, .int (nI v1)), (4, .int pr), (3, .int (nI (2 * h))), (2, .int (nI wn)), (1, .ref (a 0)), (0, .ref (y 98))]) hx hb dL_serial_60 hl (by decide) rfl (fun ls hl => ?_)
  refine lv_aload_n hx hb dL_serial_62 rfl (lv_at hl 5 rfl) ?_
  refine lv_iconst (v := 4) hx hb dL_serial_63 (by decide) ?_
  refine zcS_i (As := [.ref (y 98), .int 4]) (rest := []) (n9 := 2) C hw (c_L_at l D y base S4 4 (by decide) hy31) gL_serial_L_at rfl (by decide +kernel) ⟨⟨rfl, rfl⟩, Nat.le_of_ble_eq_true rfl, Nat.le_of_ble_eq_true rfl⟩ rfl hl.1 rfl (Nat.le_of_ble_eq_true rfl) ⟨Nat.le_of_ble_eq_true rfl, Nat.le_of_ble_eq_true rfl⟩ dL_serial_64 (fun r64 S64 H locs hp64 hw => ?_)
  obtain ⟨rfl, hS9⟩ := hp64
  have hS9 := hS9.symm
  subst hS9
  refine lv_sipush (v := 256) hx hb dL_serial_67 (by decide) ?_
  refine zcS_i (As := [.int ((if 4 < y 99 then zxs y 4 else 0)), .int 256]) (rest := []) (n9 := 2) C hw (c_L_some l D y base S4 ((if 4 < y 99 then zxs y 4 else 0)) 256 (by decide) (by decide)) gL_serial_L_some rfl (by decide +kernel) ⟨⟨rfl, rfl⟩, Nat.le_of_ble_eq_true rfl, Nat.le_of_ble_eq_true rfl⟩ rfl hl.1 rfl (Nat.le_of_ble_eq_true rfl) ⟨Nat.le_of_ble_eq_true rfl, Nat.le_of_ble_eq_true rfl⟩ dL_serial_70 (fun r70 S70 H locs hp70 hw => ?_)
  obtain ⟨rfl, hS9⟩ := hp70
  have hS9 := hS9.symm
  subst hS9
  obtain ⟨v2, hv2, ev2⟩ : ∃ k, k < 256 ∧ zsome ((if 4 < y 99 then zxs y 4 else 0)) 256 = k := ⟨_, zsome_lt (by decide), rfl⟩
  refine zrd (x := (nI v2)) (congrArg nI ev2) ?_
  refine lv_istore (lv' := [(6, .int (nI v2)), (5, .int (nI v1)), (4, .int pr), (3, .int (nI (2 * h))), (2, .int (nI wn)), (1, .ref (a 0)), (0, .ref (y 98))]) hx hb dL_serial_73 hl (by decide) rfl (fun ls hl => ?_)
  refine lv_iload hx hb dL_serial_75 (lv_at hl 2 rfl) ?_
  refine lv_bipush (v := 110) hx hb dL_serial_77 (by decide) ?_
  have jn_1 : ∀ (rx_2 : Int32) (H : Heap) (locs : List Loc) (ls : Array Slot), zW D y base S4 s H locs → lv_has ls 13 [(6, .int (nI v2)), (5, .int (nI v1)), (4, .int pr), (3, .int (nI (2 * h))), (2, .int (nI wn)), (1, .ref (a 0)), (0, .ref (y 98))] → (nI (zsbN pr) = rx_2) → W p l e (headSpec wsL_serial ({ frames := 10, cells := 72, slots := 5831, locals := 184 })).room s m args below meth c H locs 31 5631 (MQ below (va_Qi (fun (r : Int32) (S1 : zS) => r = 1) (zPost D y base) (zA base)) args s 72 5831 (zA base)) (F0 m 89 ls [.int rx_2]) := by
    intro rx_2 H locs ls hw hl f_3
    subst f_3
    refine lv_istore (lv' := [(7, .int (nI (zsbN pr))), (6, .int (nI v2)), (5, .int (nI v1)), (4, .int pr), (3, .int (nI (2 * h))), (2, .int (nI wn)), (1, .ref (a 0)), (0, .ref (y 98))]) hx hb dL_serial_89 hl (by decide) rfl (fun ls hl => ?_)
    refine lv_aload_n hx hb dL_serial_91 rfl (lv_at hl 7 rfl) ?_
    refine lv_iconst (v := 5) hx hb dL_serial_92 (by decide) ?_
    refine zcS_i (As := [.ref (y 98), .int 5]) (rest := []) (n9 := 2) C hw (c_L_at l D y base S4 5 (by decide) hy31) gL_serial_L_at rfl (by decide +kernel) ⟨⟨rfl, rfl⟩, Nat.le_of_ble_eq_true rfl, Nat.le_of_ble_eq_true rfl⟩ rfl hl.1 rfl (Nat.le_of_ble_eq_true rfl) ⟨Nat.le_of_ble_eq_true rfl, Nat.le_of_ble_eq_true rfl⟩ dL_serial_93 (fun r93 S93 H locs hp93 hw => ?_)
    obtain ⟨rfl, hS9⟩ := hp93
    have hS9 := hS9.symm
    subst hS9
    refine lv_bipush (v := 20) hx hb dL_serial_96 (by decide) ?_
    refine zcS_i (As := [.int ((if 5 < y 99 then zxs y 5 else 0)), .int 20]) (rest := []) (n9 := 2) C hw (c_L_some l D y base S4 ((if 5 < y 99 then zxs y 5 else 0)) 20 (by decide) (by decide)) gL_serial_L_some rfl (by decide +kernel) ⟨⟨rfl, rfl⟩, Nat.le_of_ble_eq_true rfl, Nat.le_of_ble_eq_true rfl⟩ rfl hl.1 rfl (Nat.le_of_ble_eq_true rfl) ⟨Nat.le_of_ble_eq_true rfl, Nat.le_of_ble_eq_true rfl⟩ dL_serial_98 (fun r98 S98 H locs hp98 hw => ?_)
    obtain ⟨rfl, hS9⟩ := hp98
    have hS9 := hS9.symm
    subst hS9
    obtain ⟨gp, hgp, egp⟩ : ∃ k, k < 20 ∧ zsome ((if 5 < y 99 then zxs y 5 else 0)) 20 = k := ⟨_, zsome_lt (by decide), rfl⟩
    refine zrd (x := (nI gp)) (congrArg nI egp) ?_
    refine lv_istore (lv' := [(8, .int (nI gp)), (7, .int (nI (zsbN pr))), (6, .int (nI v2)), (5, .int (nI v1)), (4, .int pr), (3, .int (nI (2 * h))), (2, .int (nI wn)), (1, .ref (a 0)), (0, .ref (y 98))]) hx hb dL_serial_101 hl (by decide) rfl (fun ls hl => ?_)
    have hb10 := zsbN_ge pr
    have hb11 := zsbN_le pr
    have hbm : zsbN pr * (2 * h) ≤ 11 * (2 * h) := Nat.mul_le_mul_right _ hb11
    refine lv_iconst (v := 5) hx hb dL_serial_103 (by decide) ?_
    refine lv_iload hx hb dL_serial_104 (lv_at hl 1 rfl) ?_
    refine lv_iload_n hx hb dL_serial_106 rfl (lv_at hl 5 rfl) ?_
    refine lv_imul hx hb dL_serial_107 ?_
    refine zrd (x := (nI (zsbN pr * (2 * h)))) (pk_mul _ _) ?_
    refine lv_iadd hx hb dL_serial_108 ?_
    refine zrd (x := (nI (5 + zsbN pr * (2 * h)))) (nI_add 5 _) ?_
    refine lv_iload hx hb dL_serial_109 (lv_at hl 0 rfl) ?_
    refine lv_iadd hx hb dL_serial_111 ?_
    refine zrd (x := (nI (5 + zsbN pr * (2 * h) + gp))) (nI_add _ _) ?_
    refine lv_istore (lv' := [(9, .int (nI (5 + zsbN pr * (2 * h) + gp))), (8, .int (nI gp)), (7, .int (nI (zsbN pr))), (6, .int (nI v2)), (5, .int (nI v1)), (4, .int pr), (3, .int (nI (2 * h))), (2, .int (nI wn)), (1, .ref (a 0)), (0, .ref (y 98))]) hx hb dL_serial_112 hl (by decide) rfl (fun ls hl => ?_)
    refine lv_aload_n hx hb dL_serial_114 rfl (lv_at hl 8 rfl) ?_
    refine lv_bipush (v := 73) hx hb dL_serial_115 (by decide) ?_
    refine lv_iconst (v := 2) hx hb dL_serial_117 (by decide) ?_
    refine znewI (N := 2) C hw (by decide +kernel) (by decide) (by decide) (Nat.le_of_ble_eq_true rfl) (Nat.le_of_ble_eq_true rfl) (Nat.le_of_ble_eq_true rfl) dL_serial_118 (fun q118 H kq118 hw => ?_)
    have hA : zAr S4 (znR S4 q118 22 2 (fun _ => 0)) q118 2 [] := zAr.new kq118
    generalize (znR S4 q118 22 2 (fun _ => 0)) = Sa118 at hw hA
    refine lv_dup hx hb dL_serial_120 rfl ?_
    refine lv_iconst (v := 0) hx hb dL_serial_121 (by decide) ?_
    refine lv_iload_n hx hb dL_serial_122 rfl (lv_at hl 7 rfl) ?_
    refine zast_I (a := q118) C hw hA.2.1 hA.2.2.1 (zin_of (N := 2) (by decide) (by grind) (by grind)) dL_serial_123 (fun H locs hw => ?_)
    have hA : zAr S4 (zsR Sa118 22 q118 (upd (zR Sa118 22 q118) (0 : Int32).toNatClampNeg (nI wn))) q118 2 [(nI wn)] := zAr.st (k := 0) hA kq118 (by decide) rfl
    generalize (zsR Sa118 22 q118 (upd (zR Sa118 22 q118) (0 : Int32).toNatClampNeg (nI wn))) = Sa123 at hw hA
    refine lv_dup hx hb dL_serial_124 rfl ?_
    refine lv_iconst (v := 1) hx hb dL_serial_125 (by decide) ?_
    refine lv_iconst (v := 1) hx hb dL_serial_126 (by decide) ?_
    refine zast_I (a := q118) C hw hA.2.1 hA.2.2.1 (zin_of (N := 2) (by decide) (by grind) (by grind)) dL_serial_127 (fun H locs hw => ?_)
    have hA : zAr S4 (zsR Sa123 22 q118 (upd (zR Sa123 22 q118) (1 : Int32).toNatClampNeg 1)) q118 2 [(nI wn), 1] := zAr.st (k := 1) hA kq118 (by decide) rfl
    generalize (zsR Sa123 22 q118 (upd (zR Sa123 22 q118) (1 : Int32).toNatClampNeg 1)) = Sa127 at hw hA
    obtain ⟨hG, hK9, hN9, hA⟩ := hA
    have hj0 : zR Sa127 22 q118 0 = (nI wn) := (hA 0 (nI wn) rfl).trans rfl
    have hj1 : zR Sa127 22 q118 1 = (zb (true = true)) := (hA 1 1 rfl).trans rfl
    have hOb := zOb.gw hG hOb
    refine zcSW_i (As := [.ref (a 0), .int 73, .ref q118]) (rest := []) (n9 := 3) C hw (c_L_ask_I_idle_g l hst D y base Sa127 a wn (zb (true = true)) q118 hOb.1 hDs hwn (Or.inr rfl) (hOb.2.2.1 wn hwn).1 hK9 hN9 hj0 hj1) gL_serial_L_ask rfl (by decide +kernel) ⟨⟨rfl, rfl⟩, Nat.le_of_ble_eq_true rfl, Nat.le_of_ble_eq_true rfl⟩ rfl hl.1 rfl (Nat.le_of_ble_eq_true rfl) ⟨Nat.le_of_ble_eq_true rfl, Nat.le_of_ble_eq_true rfl⟩ dL_serial_128 (fun r128 S128 H locs hp128 hw => ?_)
    obtain ⟨hr9, hS9⟩ := hp128
    have hr9 : r128 = 0 := hr9.trans (zOb.i160 (b := false) hOb hwn rfl rfl)
    subst hr9
    have hOb := zOb.idle0 (b := true) hOb hwn (fun _ => rfl) rfl
    rw [← hS9] at hOb
    refine lv_if_ne (tgt := 216) hx hb dL_serial_131 (by decide) (fun c131 => absurd c131 (by decide)) (fun _ => ?_)
    refine lv_aload_n hx hb dL_serial_134 rfl (lv_at hl 8 rfl) ?_
    refine lv_bipush (v := 115) hx hb dL_serial_135 (by decide) ?_
    refine lv_iconst (v := 5) hx hb dL_serial_137 (by decide) ?_
    refine znewI (N := 5) C hw (by decide +kernel) (by decide) (by decide) (Nat.le_of_ble_eq_true rfl) (Nat.le_of_ble_eq_true rfl) (Nat.le_of_ble_eq_true rfl) dL_serial_138 (fun q138 H kq138 hw => ?_)
    have hA : zAr S128 (znR S128 q138 22 5 (fun _ => 0)) q138 5 [] := zAr.new kq138
    generalize (znR S128 q138 22 5 (fun _ => 0)) = Sa138 at hw hA
    refine lv_dup hx hb dL_serial_140 rfl ?_
    refine lv_iconst (v := 0) hx hb dL_serial_141 (by decide) ?_
    refine lv_iload_n hx hb dL_serial_142 rfl (lv_at hl 7 rfl) ?_
    refine zast_I (a := q138) C hw hA.2.1 hA.2.2.1 (zin_of (N := 5) (by decide) (by grind) (by grind)) dL_serial_143 (fun H locs hw => ?_)
    have hA : zAr S128 (zsR Sa138 22 q138 (upd (zR Sa138 22 q138) (0 : Int32).toNatClampNeg (nI wn))) q138 5 [(nI wn)] := zAr.st (k := 0) hA kq138 (by decide) rfl
    generalize (zsR Sa138 22 q138 (upd (zR Sa138 22 q138) (0 : Int32).toNatClampNeg (nI wn))) = Sa143 at hw hA
    refine lv_dup hx hb dL_serial_144 rfl ?_
    refine lv_iconst (v := 1) hx hb dL_serial_145 (by decide) ?_
    refine lv_iload hx hb dL_serial_146 (lv_at hl 4 rfl) ?_
    refine zast_I (a := q138) C hw hA.2.1 hA.2.2.1 (zin_of (N := 5) (by decide) (by grind) (by grind)) dL_serial_148 (fun H locs hw => ?_)
    have hA : zAr S128 (zsR Sa143 22 q138 (upd (zR Sa143 22 q138) (1 : Int32).toNatClampNeg (nI v1))) q138 5 [(nI wn), (nI v1)] := zAr.st (k := 1) hA kq138 (by decide) rfl
    generalize (zsR Sa143 22 q138 (upd (zR Sa143 22 q138) (1 : Int32).toNatClampNeg (nI v1))) = Sa148 at hw hA
    refine lv_dup hx hb dL_serial_149 rfl ?_
    refine lv_iconst (v := 2) hx hb dL_serial_150 (by decide) ?_
    refine lv_iconst (v := 5) hx hb dL_serial_151 (by decide) ?_
    refine zast_I (a := q138) C hw hA.2.1 hA.2.2.1 (zin_of (N := 5) (by decide) (by grind) (by grind)) dL_serial_152 (fun H locs hw => ?_)
    have hA : zAr S128 (zsR Sa148 22 q138 (upd (zR Sa148 22 q138) (2 : Int32).toNatClampNeg 5)) q138 5 [(nI wn), (nI v1), 5] := zAr.st (k := 2) hA kq138 (by decide) rfl
    generalize (zsR Sa148 22 q138 (upd (zR Sa148 22 q138) (2 : Int32).toNatClampNeg 5)) = Sa152 at hw hA
    refine lv_dup hx hb dL_serial_153 rfl ?_
    refine lv_iconst (v := 3) hx hb dL_serial_154 (by decide) ?_
    refine lv_iload_n hx hb dL_serial_155 rfl (lv_at hl 6 rfl) ?_
    refine zast_I (a := q138) C hw hA.2.1 hA.2.2.1 (zin_of (N := 5) (by decide) (by grind) (by grind)) dL_serial_156 (fun H locs hw => ?_)
    have hA : zAr S128 (zsR Sa152 22 q138 (upd (zR Sa152 22 q138) (3 : Int32).toNatClampNeg (nI (2 * h)))) q138 5 [(nI wn), (nI v1), 5, (nI (2 * h))] := zAr.st (k := 3) hA kq138 (by decide) rfl
    generalize (zsR Sa152 22 q138 (upd (zR Sa152 22 q138) (3 : Int32).toNatClampNeg (nI (2 * h)))) = Sa156 at hw hA
    refine lv_dup hx hb dL_serial_157 rfl ?_
    refine lv_iconst (v := 4) hx hb dL_serial_158 (by decide) ?_
    refine lv_iload hx hb dL_serial_159 (lv_at hl 5 rfl) ?_
    refine zast_I (a := q138) C hw hA.2.1 hA.2.2.1 (zin_of (N := 5) (by decide) (by grind) (by grind)) dL_serial_161 (fun H locs hw => ?_)
    have hA : zAr S128 (zsR Sa156 22 q138 (upd (zR Sa156 22 q138) (4 : Int32).toNatClampNeg pr)) q138 5 [(nI wn), (nI v1), 5, (nI (2 * h)), pr] := zAr.st (k := 4) hA kq138 (by decide) rfl
    generalize (zsR Sa156 22 q138 (upd (zR Sa156 22 q138) (4 : Int32).toNatClampNeg pr)) = Sa161 at hw hA
    obtain ⟨hG, hK9, hN9, hA⟩ := hA
    have hj0 : zR Sa161 22 q138 0 = (nI wn) := (hA 0 (nI wn) rfl).trans rfl
    have hj1 : zR Sa161 22 q138 1 = (nI v1) := (hA 1 (nI v1) rfl).trans rfl
    have hj2 : zR Sa161 22 q138 2 = (nI 5) := (hA 2 5 rfl).trans rfl
    have hj3 : zR Sa161 22 q138 3 = (nI (2 * h)) := (hA 3 (nI (2 * h)) rfl).trans rfl
    have hj4 : zR Sa161 22 q138 4 = pr := (hA 4 pr rfl).trans rfl
    have hOb := zOb.gw hG hOb
    refine zcSW_i (As := [.ref (a 0), .int 115, .ref q138]) (rest := []) (n9 := 3) C hw (c_L_ask_s_serial_g l hst D y base Sa161 a wn v1 5 (2 * h) pr _ _ _ _ _ _ _ q138 hOb.1 hDs hwn hv1 (by omega) ⟨by omega, by omega⟩ hpr hOb (show 0 + 11 ≤ 300 by decide) hK9 hN9 hj0 hj1 hj2 hj3 hj4 (by rcases hpr with rfl | rfl | rfl <;> decide)) gL_serial_L_ask rfl (by decide +kernel) ⟨⟨rfl, rfl⟩, Nat.le_of_ble_eq_true rfl, Nat.le_of_ble_eq_true rfl⟩ rfl hl.1 rfl (Nat.le_of_ble_eq_true rfl) ⟨Nat.le_of_ble_eq_true rfl, Nat.le_of_ble_eq_true rfl⟩ dL_serial_162 (fun r162 S162 H locs hp162 hw => ?_)
    obtain ⟨rfl, n9, hn9, hOb⟩ := hp162
    refine lv_iconst (v := 5) hx hb dL_serial_165 (by decide) ?_
    refine lv_iload hx hb dL_serial_166 (lv_at hl 2 rfl) ?_
    refine lv_iload_n hx hb dL_serial_168 rfl (lv_at hl 6 rfl) ?_
    refine lv_imul hx hb dL_serial_169 ?_
    refine zrd (x := (nI (zsbN pr * (2 * h)))) (pk_mul _ _) ?_
    refine lv_iadd hx hb dL_serial_170 ?_
    refine zrd (x := (nI (5 + zsbN pr * (2 * h)))) (nI_add 5 _) ?_
    refine lv_icmp_ne (tgt := 216) hx hb dL_serial_171 (by decide) (fun c171 => (show False from c171 rfl).elim) (fun c171 => ?_)
    refine lv_aload_n hx hb dL_serial_174 rfl (lv_at hl 8 rfl) ?_
    refine lv_bipush (v := 115) hx hb dL_serial_175 (by decide) ?_
    refine lv_iconst (v := 5) hx hb dL_serial_177 (by decide) ?_
    refine znewI (N := 5) C hw (by decide +kernel) (by decide) (by decide) (Nat.le_of_ble_eq_true rfl) (Nat.le_of_ble_eq_true rfl) (Nat.le_of_ble_eq_true rfl) dL_serial_178 (fun q178 H kq178 hw => ?_)
    have hA : zAr S162 (znR S162 q178 22 5 (fun _ => 0)) q178 5 [] := zAr.new kq178
    generalize (znR S162 q178 22 5 (fun _ => 0)) = Sa178 at hw hA
    refine lv_dup hx hb dL_serial_180 rfl ?_
    refine lv_iconst (v := 0) hx hb dL_serial_181 (by decide) ?_
    refine lv_iload_n hx hb dL_serial_182 rfl (lv_at hl 7 rfl) ?_
    refine zast_I (a := q178) C hw hA.2.1 hA.2.2.1 (zin_of (N := 5) (by decide) (by grind) (by grind)) dL_serial_183 (fun H locs hw => ?_)
    have hA : zAr S162 (zsR Sa178 22 q178 (upd (zR Sa178 22 q178) (0 : Int32).toNatClampNeg (nI wn))) q178 5 [(nI wn)] := zAr.st (k := 0) hA kq178 (by decide) rfl
    generalize (zsR Sa178 22 q178 (upd (zR Sa178 22 q178) (0 : Int32).toNatClampNeg (nI wn))) = Sa183 at hw hA
    refine lv_dup hx hb dL_serial_184 rfl ?_
    refine lv_iconst (v := 1) hx hb dL_serial_185 (by decide) ?_
    refine lv_iload hx hb dL_serial_186 (lv_at hl 3 rfl) ?_
    refine zast_I (a := q178) C hw hA.2.1 hA.2.2.1 (zin_of (N := 5) (by decide) (by grind) (by grind)) dL_serial_188 (fun H locs hw => ?_)
    have hA : zAr S162 (zsR Sa183 22 q178 (upd (zR Sa183 22 q178) (1 : Int32).toNatClampNeg (nI v2))) q178 5 [(nI wn), (nI v2)] := zAr.st (k := 1) hA kq178 (by decide) rfl
    generalize (zsR Sa183 22 q178 (upd (zR Sa183 22 q178) (1 : Int32).toNatClampNeg (nI v2))) = Sa188 at hw hA
    refine lv_dup hx hb dL_serial_189 rfl ?_
    refine lv_iconst (v := 2) hx hb dL_serial_190 (by decide) ?_
    refine lv_iload hx hb dL_serial_191 (lv_at hl 0 rfl) ?_
    refine zast_I (a := q178) C hw hA.2.1 hA.2.2.1 (zin_of (N := 5) (by decide) (by grind) (by grind)) dL_serial_193 (fun H locs hw => ?_)
    have hA : zAr S162 (zsR Sa188 22 q178 (upd (zR Sa188 22 q178) (2 : Int32).toNatClampNeg (nI (5 + zsbN pr * (2 * h) + gp)))) q178 5 [(nI wn), (nI v2), (nI (5 + zsbN pr * (2 * h) + gp))] := zAr.st (k := 2) hA kq178 (by decide) rfl
    generalize (zsR Sa188 22 q178 (upd (zR Sa188 22 q178) (2 : Int32).toNatClampNeg (nI (5 + zsbN pr * (2 * h) + gp)))) = Sa193 at hw hA
    refine lv_dup hx hb dL_serial_194 rfl ?_
    refine lv_iconst (v := 3) hx hb dL_serial_195 (by decide) ?_
    refine lv_iload_n hx hb dL_serial_196 rfl (lv_at hl 6 rfl) ?_
    refine zast_I (a := q178) C hw hA.2.1 hA.2.2.1 (zin_of (N := 5) (by decide) (by grind) (by grind)) dL_serial_197 (fun H locs hw => ?_)
    have hA : zAr S162 (zsR Sa193 22 q178 (upd (zR Sa193 22 q178) (3 : Int32).toNatClampNeg (nI (2 * h)))) q178 5 [(nI wn), (nI v2), (nI (5 + zsbN pr * (2 * h) + gp)), (nI (2 * h))] := zAr.st (k := 3) hA kq178 (by decide) rfl
    generalize (zsR Sa193 22 q178 (upd (zR Sa193 22 q178) (3 : Int32).toNatClampNeg (nI (2 * h)))) = Sa197 at hw hA
    refine lv_dup hx hb dL_serial_198 rfl ?_
    refine lv_iconst (v := 4) hx hb dL_serial_199 (by decide) ?_
    refine lv_iload hx hb dL_serial_200 (lv_at hl 5 rfl) ?_
    refine zast_I (a := q178) C hw hA.2.1 hA.2.2.1 (zin_of (N := 5) (by decide) (by grind) (by grind)) dL_serial_202 (fun H locs hw => ?_)
    have hA : zAr S162 (zsR Sa197 22 q178 (upd (zR Sa197 22 q178) (4 : Int32).toNatClampNeg pr)) q178 5 [(nI wn), (nI v2), (nI (5 + zsbN pr * (2 * h) + gp)), (nI (2 * h)), pr] := zAr.st (k := 4) hA kq178 (by decide) rfl
    generalize (zsR Sa197 22 q178 (upd (zR Sa197 22 q178) (4 : Int32).toNatClampNeg pr)) = Sa202 at hw hA
    obtain ⟨hG, hK9, hN9, hA⟩ := hA
    have hj0 : zR Sa202 22 q178 0 = (nI wn) := (hA 0 (nI wn) rfl).trans rfl
    have hj1 : zR Sa202 22 q178 1 = (nI v2) := (hA 1 (nI v2) rfl).trans rfl
    have hj2 : zR Sa202 22 q178 2 = (nI (5 + zsbN pr * (2 * h) + gp)) := (hA 2 (nI (5 + zsbN pr * (2 * h) + gp)) rfl).trans rfl
    have hj3 : zR Sa202 22 q178 3 = (nI (2 * h)) := (hA 3 (nI (2 * h)) rfl).trans rfl
    have hj4 : zR Sa202 22 q178 4 = pr := (hA 4 pr rfl).trans rfl
    have hOb := zOb.gw hG hOb
    refine zcSW_i (As := [.ref (a 0), .int 115, .ref q178]) (rest := []) (n9 := 3) C hw (c_L_ask_s_serial_g l hst D y base Sa202 a wn v2 (5 + zsbN pr * (2 * h) + gp) (2 * h) pr _ _ _ _ _ _ _ q178 hOb.1 hDs hwn hv2 (by omega) ⟨by omega, by omega⟩ hpr hOb (by rw [zup_s]; have : n9 ≤ 0 + zsbN pr := hn9; omega) hK9 hN9 hj0 hj1 hj2 hj3 hj4 (by rcases hpr with rfl | rfl | rfl <;> decide)) gL_serial_L_ask rfl (by decide +kernel) ⟨⟨rfl, rfl⟩, Nat.le_of_ble_eq_true rfl, Nat.le_of_ble_eq_true rfl⟩ rfl hl.1 rfl (Nat.le_of_ble_eq_true rfl) ⟨Nat.le_of_ble_eq_true rfl, Nat.le_of_ble_eq_true rfl⟩ dL_serial_203 (fun r203 S203 H locs hp203 hw => ?_)
    obtain ⟨rfl, n8, hn8, hOb⟩ := hp203
    refine lv_iload hx hb dL_serial_206 (lv_at hl 0 rfl) ?_
    refine lv_iload hx hb dL_serial_208 (lv_at hl 2 rfl) ?_
    refine lv_iload_n hx hb dL_serial_210 rfl (lv_at hl 6 rfl) ?_
    refine lv_imul hx hb dL_serial_211 ?_
    refine zrd (x := (nI (zsbN pr * (2 * h)))) (pk_mul _ _) ?_
    refine lv_iadd hx hb dL_serial_212 ?_
    refine zrd (x := (nI ((5 + zsbN pr * (2 * h) + gp) + zsbN pr * (2 * h)))) (nI_add _ _) ?_
    refine lv_icmp_eq (tgt := 218) hx hb dL_serial_213 (by decide) (fun c213 => ?_) (fun c213 => (show False from c213 rfl).elim)
    refine lv_iload hx hb dL_serial_218 (lv_at hl 0 rfl) ?_
    refine lv_iload hx hb dL_serial_220 (lv_at hl 2 rfl) ?_
    refine lv_iload_n hx hb dL_serial_222 rfl (lv_at hl 6 rfl) ?_
    refine lv_imul hx hb dL_serial_223 ?_
    refine zrd (x := (nI (zsbN pr * (2 * h)))) (pk_mul _ _) ?_
    refine lv_iadd hx hb dL_serial_224 ?_
    refine zrd (x := (nI ((5 + zsbN pr * (2 * h) + gp) + zsbN pr * (2 * h)))) (nI_add _ _) ?_
    refine lv_iconst (v := 2) hx hb dL_serial_225 (by decide) ?_
    refine lv_imul hx hb dL_serial_226 ?_
    refine lv_iload_n hx hb dL_serial_227 rfl (lv_at hl 6 rfl) ?_
    refine lv_idiv hx hb dL_serial_228 (znz (by omega) (by omega)) ?_
    refine lv_iconst (v := 1) hx hb dL_serial_229 (by decide) ?_
    refine lv_iadd hx hb dL_serial_230 ?_
    refine lv_topi (fun x231 ex231 => ?_)
    refine lv_istore (lv' := [(10, .int x231), (9, .int (nI (5 + zsbN pr * (2 * h) + gp))), (8, .int (nI gp)), (7, .int (nI (zsbN pr))), (6, .int (nI v2)), (5, .int (nI v1)), (4, .int pr), (3, .int (nI (2 * h))), (2, .int (nI wn)), (1, .ref (a 0)), (0, .ref (y 98))]) hx hb dL_serial_231 hl (by decide) rfl (fun ls hl => ?_)
    refine lv_iload hx hb dL_serial_233 (lv_at hl 0 rfl) ?_
    refine lv_sipush (v := 400) hx hb dL_serial_235 (by decide) ?_
    refine lv_icmp_le (tgt := 243) hx hb dL_serial_238 (by decide) (fun c238 => ?_) (fun c238 => ?_)
    · refine lv_iconst (v := 0) hx hb dL_serial_243 (by decide) ?_
      refine lv_iconst (v := 5) hx hb dL_serial_244 (by decide) ?_
      refine lv_iload_n hx hb dL_serial_245 rfl (lv_at hl 7 rfl) ?_
      refine lv_iconst (v := 2) hx hb dL_serial_246 (by decide) ?_
      refine lv_idiv hx hb dL_serial_247 (by decide) ?_
      refine zrd (x := (nI h)) (zdvh h hh9) ?_
      refine lv_isub hx hb dL_serial_248 ?_
      refine va_mmax hx hb (C.2.2.1.trans hl.1.symm) hown (hts (.methodLink RL 203 Lib.Math.max.name) (by decide +kernel)) (hts (.static Lib.Math.max.name) (by decide +kernel)) (hts (.initialized "java/lang/Math") (by decide +kernel)) (hts (.code Lib.Math.max.name Lib.Math.max.code 2 (some .int)) (by decide +kernel)) (Nat.le_of_ble_eq_true rfl) (Nat.le_of_ble_eq_true rfl) (Nat.le_of_ble_eq_true rfl) (Nat.le_of_ble_eq_true rfl) dL_serial_249 ?_
      refine zrd (x := (nI (5 - h))) (zmx5 h hh9) ?_
      refine lv_istore (lv' := [(11, .int (nI (5 - h))), (10, .int x231), (9, .int (nI (5 + zsbN pr * (2 * h) + gp))), (8, .int (nI gp)), (7, .int (nI (zsbN pr))), (6, .int (nI v2)), (5, .int (nI v1)), (4, .int pr), (3, .int (nI (2 * h))), (2, .int (nI wn)), (1, .ref (a 0)), (0, .ref (y 98))]) hx hb dL_serial_252 hl (by decide) rfl (fun ls hl => ?_)
      refine lv_iload hx hb dL_serial_254 (lv_at hl 3 rfl) ?_
      refine lv_iload_n hx hb dL_serial_256 rfl (lv_at hl 8 rfl) ?_
      refine lv_iconst (v := 2) hx hb dL_serial_257 (by decide) ?_
      refine lv_idiv hx hb dL_serial_258 (by decide) ?_
      refine zrd (x := (nI h)) (zdvh h hh9) ?_
      refine lv_irem hx hb dL_serial_259 (znz hh1 (by omega)) ?_
      refine lv_if_ne (tgt := 331) hx hb dL_serial_260 (by decide) (fun c260 => ?_) (fun c260 => ?_)
      · refine lv_iconst (v := 1) hx hb dL_serial_331 (by decide) ?_
        exact zri C hw hr hlocks (by decide) rfl ⟨Nat.le_of_ble_eq_true rfl, Nat.le_of_ble_eq_true rfl⟩ dL_serial_332
      · have hgq := zgph h hh9 hh1 gp hgp (by assumption)
        obtain ⟨g, eg⟩ : ∃ g, gp / h = g := ⟨_, rfl⟩
        rw [eg] at hgq
        have hgp20 := hgp
        have hgp := hgq
        have hgl : g ≤ 19 := by have := Nat.div_le_self gp h; omega
        refine lv_iconst (v := 5) hx hb dL_serial_263 (by decide) ?_
        refine lv_iload hx hb dL_serial_264 (lv_at hl 0 rfl) ?_
        refine lv_isub hx hb dL_serial_266 ?_
        refine zrd (x := (nI (5 - (5 - h)))) (zsu5 h hh9) ?_
        refine lv_iload_n hx hb dL_serial_267 rfl (lv_at hl 8 rfl) ?_
        refine lv_iconst (v := 2) hx hb dL_serial_268 (by decide) ?_
        refine lv_idiv hx hb dL_serial_269 (by decide) ?_
        refine zrd (x := (nI h)) (zdvh h hh9) ?_
        refine lv_irem hx hb dL_serial_270 (znz hh1 (by omega)) ?_
        refine lv_if_ne (tgt := 331) hx hb dL_serial_271 (by decide) (fun c271 => ?_) (fun c271 => ?_)
        · refine lv_iconst (v := 1) hx hb dL_serial_331 (by decide) ?_
          exact zri C hw hr hlocks (by decide) rfl ⟨Nat.le_of_ble_eq_true rfl, Nat.le_of_ble_eq_true rfl⟩ dL_serial_332
        · have hh5 := zrm5 h hh9 hh1 (by assumption)
          refine lv_iload hx hb dL_serial_274 (lv_at hl 0 rfl) ?_
          refine lv_iconst (v := 5) hx hb dL_serial_276 (by decide) ?_
          refine lv_icmp_eq (tgt := 331) hx hb dL_serial_277 (by decide) (fun c277 => ?_) (fun c277 => ?_)
          · refine lv_iconst (v := 1) hx hb dL_serial_331 (by decide) ?_
            exact zri C hw hr hlocks (by decide) rfl ⟨Nat.le_of_ble_eq_true rfl, Nat.le_of_ble_eq_true rfl⟩ dL_serial_332
          · refine lv_aload_n hx hb dL_serial_280 rfl (lv_at hl 10 rfl) ?_
            refine lv_bipush (v := 67) hx hb dL_serial_281 (by decide) ?_
            refine lv_iconst (v := 4) hx hb dL_serial_283 (by decide) ?_
            refine znewI (N := 4) C hw (by decide +kernel) (by decide) (by decide) (Nat.le_of_ble_eq_true rfl) (Nat.le_of_ble_eq_true rfl) (Nat.le_of_ble_eq_true rfl) dL_serial_284 (fun q284 H kq284 hw => ?_)
            have hA : zAr S203 (znR S203 q284 22 4 (fun _ => 0)) q284 4 [] := zAr.new kq284
            generalize (znR S203 q284 22 4 (fun _ => 0)) = Sa284 at hw hA
            refine lv_dup hx hb dL_serial_286 rfl ?_
            refine lv_iconst (v := 0) hx hb dL_serial_287 (by decide) ?_
            refine lv_iconst (v := 0) hx hb dL_serial_288 (by decide) ?_
            refine zast_I (a := q284) C hw hA.2.1 hA.2.2.1 (zin_of (N := 4) (by decide) (by grind) (by grind)) dL_serial_289 (fun H locs hw => ?_)
            have hA : zAr S203 (zsR Sa284 22 q284 (upd (zR Sa284 22 q284) (0 : Int32).toNatClampNeg 0)) q284 4 [0] := zAr.st (k := 0) hA kq284 (by decide) rfl
            generalize (zsR Sa284 22 q284 (upd (zR Sa284 22 q284) (0 : Int32).toNatClampNeg 0)) = Sa289 at hw hA
            refine lv_dup hx hb dL_serial_290 rfl ?_
            refine lv_iconst (v := 1) hx hb dL_serial_291 (by decide) ?_
            refine lv_iload hx hb dL_serial_292 (lv_at hl 0 rfl) ?_
            refine zast_I (a := q284) C hw hA.2.1 hA.2.2.1 (zin_of (N := 4) (by decide) (by grind) (by grind)) dL_serial_294 (fun H locs hw => ?_)
            have hA : zAr S203 (zsR Sa289 22 q284 (upd (zR Sa289 22 q284) (1 : Int32).toNatClampNeg (nI (5 - h)))) q284 4 [0, (nI (5 - h))] := zAr.st (k := 1) hA kq284 (by decide) rfl
            generalize (zsR Sa289 22 q284 (upd (zR Sa289 22 q284) (1 : Int32).toNatClampNeg (nI (5 - h)))) = Sa294 at hw hA
            refine lv_dup hx hb dL_serial_295 rfl ?_
            refine lv_iconst (v := 2) hx hb dL_serial_296 (by decide) ?_
            refine lv_iload_n hx hb dL_serial_297 rfl (lv_at hl 8 rfl) ?_
            refine lv_iconst (v := 2) hx hb dL_serial_298 (by decide) ?_
            refine lv_idiv hx hb dL_serial_299 (by decide) ?_
            refine zrd (x := (nI h)) (zdvh h hh9) ?_
            refine zast_I (a := q284) C hw hA.2.1 hA.2.2.1 (zin_of (N := 4) (by decide) (by grind) (by grind)) dL_serial_300 (fun H locs hw => ?_)
            have hA : zAr S203 (zsR Sa294 22 q284 (upd (zR Sa294 22 q284) (2 : Int32).toNatClampNeg (nI h))) q284 4 [0, (nI (5 - h)), (nI h)] := zAr.st (k := 2) hA kq284 (by decide) rfl
            generalize (zsR Sa294 22 q284 (upd (zR Sa294 22 q284) (2 : Int32).toNatClampNeg (nI h))) = Sa300 at hw hA
            refine lv_dup hx hb dL_serial_301 rfl ?_
            refine lv_iconst (v := 3) hx hb dL_serial_302 (by decide) ?_
            refine lv_sipush (v := 400) hx hb dL_serial_303 (by decide) ?_
            refine lv_iconst (v := 2) hx hb dL_serial_306 (by decide) ?_
            refine lv_iload hx hb dL_serial_307 (lv_at hl 4 rfl) ?_
            refine lv_imul hx hb dL_serial_309 ?_
            refine zrd (x := (nI (2 * zsbN pr))) (pk_mul 2 _) ?_
            refine lv_iconst (v := 2) hx hb dL_serial_310 (by decide) ?_
            refine lv_imul hx hb dL_serial_311 ?_
            refine zrd (x := (nI (2 * zsbN pr * 2))) (pk_mul _ 2) ?_
            refine lv_iload hx hb dL_serial_312 (lv_at hl 3 rfl) ?_
            refine lv_iload_n hx hb dL_serial_314 rfl (lv_at hl 8 rfl) ?_
            refine lv_iconst (v := 2) hx hb dL_serial_315 (by decide) ?_
            refine lv_idiv hx hb dL_serial_316 (by decide) ?_
            refine zrd (x := (nI h)) (zdvh h hh9) ?_
            refine lv_idiv hx hb dL_serial_317 (znz hh1 (by omega)) ?_
            refine zrd (x := (nI g)) ((zgdh h hh9 hh1 gp hgp20).trans (congrArg nI eg)) ?_
            refine lv_iadd hx hb dL_serial_318 ?_
            refine zrd (x := (nI (2 * zsbN pr * 2 + g))) (nI_add _ _) ?_
            refine lv_iconst (v := 2) hx hb dL_serial_319 (by decide) ?_
            refine lv_iadd hx hb dL_serial_320 ?_
            refine zrd (x := (nI (2 * zsbN pr * 2 + g + 2))) (nI_add _ 2) ?_
            refine va_mmin hx hb (C.2.2.1.trans hl.1.symm) hown (hts (.methodLink RL 208 Lib.Math.min.name) (by decide +kernel)) (hts (.static Lib.Math.min.name) (by decide +kernel)) (hts (.initialized "java/lang/Math") (by decide +kernel)) (hts (.code Lib.Math.min.name Lib.Math.min.code 2 (some .int)) (by decide +kernel)) (Nat.le_of_ble_eq_true rfl) (Nat.le_of_ble_eq_true rfl) (Nat.le_of_ble_eq_true rfl) (Nat.le_of_ble_eq_true rfl) dL_serial_321 ?_
            refine zrd (x := (nI (4 * zsbN pr + g + 2))) (by rw [if_pos (show nI (2 * zsbN pr * 2 + g + 2) < 400 from nI_lt (b := 400) (by omega) (by decide))]; exact congrArg nI (by omega)) ?_
            refine zast_I (a := q284) C hw hA.2.1 hA.2.2.1 (zin_of (N := 4) (by decide) (by grind) (by grind)) dL_serial_324 (fun H locs hw => ?_)
            have hA : zAr S203 (zsR Sa300 22 q284 (upd (zR Sa300 22 q284) (3 : Int32).toNatClampNeg (nI (4 * zsbN pr + g + 2)))) q284 4 [0, (nI (5 - h)), (nI h), (nI (4 * zsbN pr + g + 2))] := zAr.st (k := 3) hA kq284 (by decide) rfl
            generalize (zsR Sa300 22 q284 (upd (zR Sa300 22 q284) (3 : Int32).toNatClampNeg (nI (4 * zsbN pr + g + 2)))) = Sa324 at hw hA
            obtain ⟨hG, hK9, hN9, hA⟩ := hA
            have hj0 : zR Sa324 22 q284 0 = (nI 0) := (hA 0 0 rfl).trans rfl
            have hj1 : zR Sa324 22 q284 1 = (nI (5 - h)) := (hA 1 (nI (5 - h)) rfl).trans rfl
            have hj2 : zR Sa324 22 q284 2 = (nI h) := (hA 2 (nI h) rfl).trans rfl
            have hj3 : zR Sa324 22 q284 3 = (nI (4 * zsbN pr + g + 2)) := (hA 3 (nI (4 * zsbN pr + g + 2)) rfl).trans rfl
            have hOb := zOb.gw hG hOb
            refine zcSW_i (As := [.ref (a 0), .int 67, .ref q284]) (rest := []) (n9 := 3) C hw (c_L_ask_C_capture_g l hst D y base Sa324 a 0 (5 - h) h (4 * zsbN pr + g + 2) _ _ q284 hOb.1 hDs (by decide) ⟨hh1, by omega⟩ ⟨by omega, by omega⟩ (zcend hh5 hb11 hgl) hOb.2.2.1 hK9 hN9 hj0 hj1 hj2 hj3) gL_serial_L_ask rfl (by decide +kernel) ⟨⟨rfl, rfl⟩, Nat.le_of_ble_eq_true rfl, Nat.le_of_ble_eq_true rfl⟩ rfl hl.1 rfl (Nat.le_of_ble_eq_true rfl) ⟨Nat.le_of_ble_eq_true rfl, Nat.le_of_ble_eq_true rfl⟩ dL_serial_325 (fun r325 S325 H locs hp325 hw => ?_)
            obtain ⟨⟨k9, rfl, hk9, -⟩, hM, hfr⟩ := hp325
            obtain ⟨hX, hNts, -, -⟩ := zcap0 hDs hOb hfr
            obtain ⟨M, hM, hMw⟩ := zCp.one (w := wn) (zwave v1 v2 pr g) hM (fun i hi => by simp only [zup_s]; rw [zxx, hgp]; exact zser_wave hv1 hpr ⟨hh1, hh5⟩ (by omega) (by omega))
            refine lv_if_ge (tgt := 333) hx hb dL_serial_328 (by decide) (fun c328 => ?_) (fun c328 => ?_)
            · refine lv_aload_n hx hb dL_serial_333 rfl (lv_at hl 10 rfl) ?_
              refine lv_bipush (v := 49) hx hb dL_serial_334 (by decide) ?_
              refine lv_iconst (v := 4) hx hb dL_serial_336 (by decide) ?_
              refine znewI (N := 4) C hw (by decide +kernel) (by decide) (by decide) (Nat.le_of_ble_eq_true rfl) (Nat.le_of_ble_eq_true rfl) (Nat.le_of_ble_eq_true rfl) dL_serial_337 (fun q337 H kq337 hw => ?_)
              have hA : zAr S325 (znR S325 q337 22 4 (fun _ => 0)) q337 4 [] := zAr.new kq337
              generalize (znR S325 q337 22 4 (fun _ => 0)) = Sa337 at hw hA
              refine lv_dup hx hb dL_serial_339 rfl ?_
              refine lv_iconst (v := 0) hx hb dL_serial_340 (by decide) ?_
              refine lv_iconst (v := 0) hx hb dL_serial_341 (by decide) ?_
              refine zast_I (a := q337) C hw hA.2.1 hA.2.2.1 (zin_of (N := 4) (by decide) (by grind) (by grind)) dL_serial_342 (fun H locs hw => ?_)
              have hA : zAr S325 (zsR Sa337 22 q337 (upd (zR Sa337 22 q337) (0 : Int32).toNatClampNeg 0)) q337 4 [0] := zAr.st (k := 0) hA kq337 (by decide) rfl
              generalize (zsR Sa337 22 q337 (upd (zR Sa337 22 q337) (0 : Int32).toNatClampNeg 0)) = Sa342 at hw hA
              refine lv_dup hx hb dL_serial_343 rfl ?_
              refine lv_iconst (v := 1) hx hb dL_serial_344 (by decide) ?_
              refine lv_iload_n hx hb dL_serial_345 rfl (lv_at hl 9 rfl) ?_
              refine zast_I (a := q337) C hw hA.2.1 hA.2.2.1 (zin_of (N := 4) (by decide) (by grind) (by grind)) dL_serial_346 (fun H locs hw => ?_)
              have hA : zAr S325 (zsR Sa342 22 q337 (upd (zR Sa342 22 q337) (1 : Int32).toNatClampNeg (nI wn))) q337 4 [0, (nI wn)] := zAr.st (k := 1) hA kq337 (by decide) rfl
              generalize (zsR Sa342 22 q337 (upd (zR Sa342 22 q337) (1 : Int32).toNatClampNeg (nI wn))) = Sa346 at hw hA
              refine lv_dup hx hb dL_serial_347 rfl ?_
              refine lv_iconst (v := 2) hx hb dL_serial_348 (by decide) ?_
              refine lv_bipush (v := 20) hx hb dL_serial_349 (by decide) ?_
              refine zast_I (a := q337) C hw hA.2.1 hA.2.2.1 (zin_of (N := 4) (by decide) (by grind) (by grind)) dL_serial_351 (fun H locs hw => ?_)
              have hA : zAr S325 (zsR Sa346 22 q337 (upd (zR Sa346 22 q337) (2 : Int32).toNatClampNeg 20)) q337 4 [0, (nI wn), 20] := zAr.st (k := 2) hA kq337 (by decide) rfl
              generalize (zsR Sa346 22 q337 (upd (zR Sa346 22 q337) (2 : Int32).toNatClampNeg 20)) = Sa351 at hw hA
              refine lv_dup hx hb dL_serial_352 rfl ?_
              refine lv_iconst (v := 3) hx hb dL_serial_353 (by decide) ?_
              refine lv_iload hx hb dL_serial_354 (lv_at hl 7 rfl) ?_
              refine zast_I (a := q337) C hw hA.2.1 hA.2.2.1 (zin_of (N := 4) (by decide) (by grind) (by grind)) dL_serial_356 (fun H locs hw => ?_)
              have hA : zAr S325 (zsR Sa351 22 q337 (upd (zR Sa351 22 q337) (3 : Int32).toNatClampNeg pr)) q337 4 [0, (nI wn), 20, pr] := zAr.st (k := 3) hA kq337 (by decide) rfl
              generalize (zsR Sa351 22 q337 (upd (zR Sa351 22 q337) (3 : Int32).toNatClampNeg pr)) = Sa356 at hw hA
              obtain ⟨hG, hK9, hN9, hA⟩ := hA
              have hj0 : zR Sa356 22 q337 0 = (nI 0) := (hA 0 0 rfl).trans rfl
              have hj1 : zR Sa356 22 q337 1 = (nI wn) := (hA 1 (nI wn) rfl).trans rfl
              have hj2 : zR Sa356 22 q337 2 = (20 : Int32) := (hA 2 20 rfl).trans rfl
              have hj3 : zR Sa356 22 q337 3 = pr := (hA 3 pr rfl).trans rfl
              have hM := zCp.gw hG hX (by decide) hM
              have hNts := zNts.gw hG hNts
              have hX := zX.gw hG hX
              refine zcSW_i (As := [.ref (a 0), .int 49, .ref q337]) (rest := []) (n9 := 3) C hw (c_L_ask_1_decodeSerial_g l hst D y base Sa356 a 0 wn pr (4 * zsbN pr + g + 2) M q337 hX hNts hDs (by decide) hwn hpr hM ⟨by omega, by omega⟩ hK9 hN9 hj0 hj1 hj2 hj3 (by rcases hpr with rfl | rfl | rfl <;> decide)) gL_serial_L_ask rfl (by decide +kernel) ⟨⟨rfl, rfl⟩, Nat.le_of_ble_eq_true rfl, Nat.le_of_ble_eq_true rfl⟩ rfl hl.1 rfl (Nat.le_of_ble_eq_true rfl) ⟨Nat.le_of_ble_eq_true rfl, Nat.le_of_ble_eq_true rfl⟩ dL_serial_357 (fun r357 S357 H locs hp357 hw => ?_)
              obtain ⟨hr9, hNo, hDc, -⟩ := hp357
              have hrun : (zDS (M wn) (4 * zsbN pr + g + 2) pr (4 * zsbN pr + g + 2 - 1)).2 = [((66, nI 1, nI (2 * zsbN pr), nI v1, zflt pr pr) : zNt), (66, nI (2 * zsbN pr + g + 1), nI (4 * zsbN pr + g), nI v2, zflt pr pr)] := by rw [hMw]; exact zser_run hv1 hv2 hpr (Or.inl rfl)
              rw [hrun] at hr9 hNo
              have hr9 : r357 = 2 := hr9
              subst hr9
              have hX := hDc.1
              have hNts := hDc.2.1
              have hM := hDc.cp (by decide) hM
              refine lv_iconst (v := 2) hx hb dL_serial_360 (by decide) ?_
              refine lv_icmp_ne (tgt := 459) hx hb dL_serial_361 (by decide) (fun c361 => absurd c361 (by decide)) (fun _ => ?_)
              refine lv_aload_n hx hb dL_serial_364 rfl (lv_at hl 10 rfl) ?_
              refine lv_bipush (v := 118) hx hb dL_serial_365 (by decide) ?_
              refine lv_iconst (v := 1) hx hb dL_serial_367 (by decide) ?_
              refine znewI (N := 1) C hw (by decide +kernel) (by decide) (by decide) (Nat.le_of_ble_eq_true rfl) (Nat.le_of_ble_eq_true rfl) (Nat.le_of_ble_eq_true rfl) dL_serial_368 (fun q368 H kq368 hw => ?_)
              have hA : zAr S357 (znR S357 q368 22 1 (fun _ => 0)) q368 1 [] := zAr.new kq368
              generalize (znR S357 q368 22 1 (fun _ => 0)) = Sa368 at hw hA
              refine lv_dup hx hb dL_serial_370 rfl ?_
              refine lv_iconst (v := 0) hx hb dL_serial_371 (by decide) ?_
              refine lv_iconst (v := 0) hx hb dL_serial_372 (by decide) ?_
              refine zast_I (a := q368) C hw hA.2.1 hA.2.2.1 (zin_of (N := 1) (by decide) (by grind) (by grind)) dL_serial_373 (fun H locs hw => ?_)
              have hA : zAr S357 (zsR Sa368 22 q368 (upd (zR Sa368 22 q368) (0 : Int32).toNatClampNeg 0)) q368 1 [0] := zAr.st (k := 0) hA kq368 (by decide) rfl
              generalize (zsR Sa368 22 q368 (upd (zR Sa368 22 q368) (0 : Int32).toNatClampNeg 0)) = Sa373 at hw hA
              obtain ⟨hG, hK9, hN9, hA⟩ := hA
              have hj0 : zR Sa373 22 q368 0 = (nI 0) := (hA 0 0 rfl).trans rfl
              have hNo := zNo.gw hG hNts hNo
              have hM := zCp.gw hG hX (by decide) hM
              have hNts := zNts.gw hG hNts
              have hX := zX.gw hG hX
              refine zcSW_i (As := [.ref (a 0), .int 118, .ref q368]) (rest := []) (n9 := 3) C hw (c_L_ask_v_value_g l hst D y base Sa373 a 0 _ ((66, nI 1, nI (2 * zsbN pr), nI v1, zflt pr pr) : zNt) q368 hX hNts hDs hNo rfl hK9 hN9 hj0) gL_serial_L_ask rfl (by decide +kernel) ⟨⟨rfl, rfl⟩, Nat.le_of_ble_eq_true rfl, Nat.le_of_ble_eq_true rfl⟩ rfl hl.1 rfl (Nat.le_of_ble_eq_true rfl) ⟨Nat.le_of_ble_eq_true rfl, Nat.le_of_ble_eq_true rfl⟩ dL_serial_374 (fun r374 S374 H locs hp374 hw => ?_)
              obtain ⟨hr9, hS9⟩ := hp374
              have hr9 : r374 = (nI v1) := hr9
              subst hr9
              have hS9 := hS9.symm
              subst hS9
              refine lv_iload hx hb dL_serial_377 (lv_at hl 6 rfl) ?_
              refine lv_icmp_ne (tgt := 459) hx hb dL_serial_379 (by decide) (fun c379 => (show False from c379 rfl).elim) (fun c379 => ?_)
              refine lv_aload_n hx hb dL_serial_382 rfl (lv_at hl 10 rfl) ?_
              refine lv_bipush (v := 118) hx hb dL_serial_383 (by decide) ?_
              refine lv_iconst (v := 1) hx hb dL_serial_385 (by decide) ?_
              refine znewI (N := 1) C hw (by decide +kernel) (by decide) (by decide) (Nat.le_of_ble_eq_true rfl) (Nat.le_of_ble_eq_true rfl) (Nat.le_of_ble_eq_true rfl) dL_serial_386 (fun q386 H kq386 hw => ?_)
              have hA : zAr Sa373 (znR Sa373 q386 22 1 (fun _ => 0)) q386 1 [] := zAr.new kq386
              generalize (znR Sa373 q386 22 1 (fun _ => 0)) = Sa386 at hw hA
              refine lv_dup hx hb dL_serial_388 rfl ?_
              refine lv_iconst (v := 0) hx hb dL_serial_389 (by decide) ?_
              refine lv_iconst (v := 1) hx hb dL_serial_390 (by decide) ?_
              refine zast_I (a := q386) C hw hA.2.1 hA.2.2.1 (zin_of (N := 1) (by decide) (by grind) (by grind)) dL_serial_391 (fun H locs hw => ?_)
              have hA : zAr Sa373 (zsR Sa386 22 q386 (upd (zR Sa386 22 q386) (0 : Int32).toNatClampNeg 1)) q386 1 [1] := zAr.st (k := 0) hA kq386 (by decide) rfl
              generalize (zsR Sa386 22 q386 (upd (zR Sa386 22 q386) (0 : Int32).toNatClampNeg 1)) = Sa391 at hw hA
              obtain ⟨hG, hK9, hN9, hA⟩ := hA
              have hj0 : zR Sa391 22 q386 0 = (nI 1) := (hA 0 1 rfl).trans rfl
              have hNo := zNo.gw hG hNts hNo
              have hM := zCp.gw hG hX (by decide) hM
              have hNts := zNts.gw hG hNts
              have hX := zX.gw hG hX
              refine zcSW_i (As := [.ref (a 0), .int 118, .ref q386]) (rest := []) (n9 := 3) C hw (c_L_ask_v_value_g l hst D y base Sa391 a 1 _ ((66, nI (2 * zsbN pr + g + 1), nI (4 * zsbN pr + g), nI v2, zflt pr pr) : zNt) q386 hX hNts hDs hNo rfl hK9 hN9 hj0) gL_serial_L_ask rfl (by decide +kernel) ⟨⟨rfl, rfl⟩, Nat.le_of_ble_eq_true rfl, Nat.le_of_ble_eq_true rfl⟩ rfl hl.1 rfl (Nat.le_of_ble_eq_true rfl) ⟨Nat.le_of_ble_eq_true rfl, Nat.le_of_ble_eq_true rfl⟩ dL_serial_392 (fun r392 S392 H locs hp392 hw => ?_)
              obtain ⟨hr9, hS9⟩ := hp392
              have hr9 : r392 = (nI v2) := hr9
              subst hr9
              have hS9 := hS9.symm
              subst hS9
              refine lv_iload hx hb dL_serial_395 (lv_at hl 5 rfl) ?_
              refine lv_icmp_ne (tgt := 459) hx hb dL_serial_397 (by decide) (fun c397 => (show False from c397 rfl).elim) (fun c397 => ?_)
              refine lv_aload_n hx hb dL_serial_400 rfl (lv_at hl 10 rfl) ?_
              refine lv_bipush (v := 120) hx hb dL_serial_401 (by decide) ?_
              refine lv_iconst (v := 1) hx hb dL_serial_403 (by decide) ?_
              refine znewI (N := 1) C hw (by decide +kernel) (by decide) (by decide) (Nat.le_of_ble_eq_true rfl) (Nat.le_of_ble_eq_true rfl) (Nat.le_of_ble_eq_true rfl) dL_serial_404 (fun q404 H kq404 hw => ?_)
              have hA : zAr Sa391 (znR Sa391 q404 22 1 (fun _ => 0)) q404 1 [] := zAr.new kq404
              generalize (znR Sa391 q404 22 1 (fun _ => 0)) = Sa404 at hw hA
              refine lv_dup hx hb dL_serial_406 rfl ?_
              refine lv_iconst (v := 0) hx hb dL_serial_407 (by decide) ?_
              refine lv_iconst (v := 0) hx hb dL_serial_408 (by decide) ?_
              refine zast_I (a := q404) C hw hA.2.1 hA.2.2.1 (zin_of (N := 1) (by decide) (by grind) (by grind)) dL_serial_409 (fun H locs hw => ?_)
              have hA : zAr Sa391 (zsR Sa404 22 q404 (upd (zR Sa404 22 q404) (0 : Int32).toNatClampNeg 0)) q404 1 [0] := zAr.st (k := 0) hA kq404 (by decide) rfl
              generalize (zsR Sa404 22 q404 (upd (zR Sa404 22 q404) (0 : Int32).toNatClampNeg 0)) = Sa409 at hw hA
              obtain ⟨hG, hK9, hN9, hA⟩ := hA
              have hj0 : zR Sa409 22 q404 0 = (nI 0) := (hA 0 0 rfl).trans rfl
              have hNo := zNo.gw hG hNts hNo
              have hM := zCp.gw hG hX (by decide) hM
              have hNts := zNts.gw hG hNts
              have hX := zX.gw hG hX
              refine zcSW_i (As := [.ref (a 0), .int 120, .ref q404]) (rest := []) (n9 := 3) C hw (c_L_ask_x_fault_g l hst D y base Sa409 a 0 _ ((66, nI 1, nI (2 * zsbN pr), nI v1, zflt pr pr) : zNt) q404 hX hNts hDs hNo rfl (show narrow .char (.int (zflt pr pr)) = .int (zflt pr pr) by rw [zflt_s]; decide) hK9 hN9 hj0) gL_serial_L_ask rfl (by decide +kernel) ⟨⟨rfl, rfl⟩, Nat.le_of_ble_eq_true rfl, Nat.le_of_ble_eq_true rfl⟩ rfl hl.1 rfl (Nat.le_of_ble_eq_true rfl) ⟨Nat.le_of_ble_eq_true rfl, Nat.le_of_ble_eq_true rfl⟩ dL_serial_410 (fun r410 S410 H locs hp410 hw => ?_)
              obtain ⟨hr9, hS9⟩ := hp410
              have hr9 : r410 = 45 := (hr9.trans (zflt_s pr))
              subst hr9
              have hS9 := hS9.symm
              subst hS9
              refine lv_bipush (v := 45) hx hb dL_serial_413 (by decide) ?_
              refine lv_icmp_ne (tgt := 459) hx hb dL_serial_415 (by decide) (fun c415 => absurd c415 (by decide)) (fun _ => ?_)
              refine lv_aload_n hx hb dL_serial_418 rfl (lv_at hl 10 rfl) ?_
              refine lv_bipush (v := 120) hx hb dL_serial_419 (by decide) ?_
              refine lv_iconst (v := 1) hx hb dL_serial_421 (by decide) ?_
              refine znewI (N := 1) C hw (by decide +kernel) (by decide) (by decide) (Nat.le_of_ble_eq_true rfl) (Nat.le_of_ble_eq_true rfl) (Nat.le_of_ble_eq_true rfl) dL_serial_422 (fun q422 H kq422 hw => ?_)
              have hA : zAr Sa409 (znR Sa409 q422 22 1 (fun _ => 0)) q422 1 [] := zAr.new kq422
              generalize (znR Sa409 q422 22 1 (fun _ => 0)) = Sa422 at hw hA
              refine lv_dup hx hb dL_serial_424 rfl ?_
              refine lv_iconst (v := 0) hx hb dL_serial_425 (by decide) ?_
              refine lv_iconst (v := 1) hx hb dL_serial_426 (by decide) ?_
              refine zast_I (a := q422) C hw hA.2.1 hA.2.2.1 (zin_of (N := 1) (by decide) (by grind) (by grind)) dL_serial_427 (fun H locs hw => ?_)
              have hA : zAr Sa409 (zsR Sa422 22 q422 (upd (zR Sa422 22 q422) (0 : Int32).toNatClampNeg 1)) q422 1 [1] := zAr.st (k := 0) hA kq422 (by decide) rfl
              generalize (zsR Sa422 22 q422 (upd (zR Sa422 22 q422) (0 : Int32).toNatClampNeg 1)) = Sa427 at hw hA
              obtain ⟨hG, hK9, hN9, hA⟩ := hA
              have hj0 : zR Sa427 22 q422 0 = (nI 1) := (hA 0 1 rfl).trans rfl
              have hNo := zNo.gw hG hNts hNo
              have hM := zCp.gw hG hX (by decide) hM
              have hNts := zNts.gw hG hNts
              have hX := zX.gw hG hX
              refine zcSW_i (As := [.ref (a 0), .int 120, .ref q422]) (rest := []) (n9 := 3) C hw (c_L_ask_x_fault_g l hst D y base Sa427 a 1 _ ((66, nI (2 * zsbN pr + g + 1), nI (4 * zsbN pr + g), nI v2, zflt pr pr) : zNt) q422 hX hNts hDs hNo rfl (show narrow .char (.int (zflt pr pr)) = .int (zflt pr pr) by rw [zflt_s]; decide) hK9 hN9 hj0) gL_serial_L_ask rfl (by decide +kernel) ⟨⟨rfl, rfl⟩, Nat.le_of_ble_eq_true rfl, Nat.le_of_ble_eq_true rfl⟩ rfl hl.1 rfl (Nat.le_of_ble_eq_true rfl) ⟨Nat.le_of_ble_eq_true rfl, Nat.le_of_ble_eq_true rfl⟩ dL_serial_428 (fun r428 S428 H locs hp428 hw => ?_)
              obtain ⟨hr9, hS9⟩ := hp428
              have hr9 : r428 = 45 := (hr9.trans (zflt_s pr))
              subst hr9
              have hS9 := hS9.symm
              subst hS9
              refine lv_bipush (v := 45) hx hb dL_serial_431 (by decide) ?_
              refine lv_icmp_ne (tgt := 459) hx hb dL_serial_433 (by decide) (fun c433 => absurd c433 (by decide)) (fun _ => ?_)
              refine lv_aload_n hx hb dL_serial_436 rfl (lv_at hl 10 rfl) ?_
              refine lv_bipush (v := 119) hx hb dL_serial_437 (by decide) ?_
              refine lv_iconst (v := 2) hx hb dL_serial_439 (by decide) ?_
              refine znewI (N := 2) C hw (by decide +kernel) (by decide) (by decide) (Nat.le_of_ble_eq_true rfl) (Nat.le_of_ble_eq_true rfl) (Nat.le_of_ble_eq_true rfl) dL_serial_440 (fun q440 H kq440 hw => ?_)
              have hA : zAr Sa427 (znR Sa427 q440 22 2 (fun _ => 0)) q440 2 [] := zAr.new kq440
              generalize (znR Sa427 q440 22 2 (fun _ => 0)) = Sa440 at hw hA
              refine lv_dup hx hb dL_serial_442 rfl ?_
              refine lv_iconst (v := 0) hx hb dL_serial_443 (by decide) ?_
              refine lv_iload hx hb dL_serial_444 (lv_at hl 6 rfl) ?_
              refine zast_I (a := q440) C hw hA.2.1 hA.2.2.1 (zin_of (N := 2) (by decide) (by grind) (by grind)) dL_serial_446 (fun H locs hw => ?_)
              have hA : zAr Sa427 (zsR Sa440 22 q440 (upd (zR Sa440 22 q440) (0 : Int32).toNatClampNeg (nI v1))) q440 2 [(nI v1)] := zAr.st (k := 0) hA kq440 (by decide) rfl
              generalize (zsR Sa440 22 q440 (upd (zR Sa440 22 q440) (0 : Int32).toNatClampNeg (nI v1))) = Sa446 at hw hA
              refine lv_dup hx hb dL_serial_447 rfl ?_
              refine lv_iconst (v := 1) hx hb dL_serial_448 (by decide) ?_
              refine lv_iload hx hb dL_serial_449 (lv_at hl 5 rfl) ?_
              refine zast_I (a := q440) C hw hA.2.1 hA.2.2.1 (zin_of (N := 2) (by decide) (by grind) (by grind)) dL_serial_451 (fun H locs hw => ?_)
              have hA : zAr Sa427 (zsR Sa446 22 q440 (upd (zR Sa446 22 q440) (1 : Int32).toNatClampNeg (nI v2))) q440 2 [(nI v1), (nI v2)] := zAr.st (k := 1) hA kq440 (by decide) rfl
              generalize (zsR Sa446 22 q440 (upd (zR Sa446 22 q440) (1 : Int32).toNatClampNeg (nI v2))) = Sa451 at hw hA
              obtain ⟨hG, hK9, hN9, hA⟩ := hA
              have hj0 : zR Sa451 22 q440 0 = (nI v1) := (hA 0 (nI v1) rfl).trans rfl
              have hj1 : zR Sa451 22 q440 1 = (nI v2) := (hA 1 (nI v2) rfl).trans rfl
              have hNo := zNo.gw hG hNts hNo
              have hM := zCp.gw hG hX (by decide) hM
              have hNts := zNts.gw hG hNts
              have hX := zX.gw hG hX
              refine zcSW_i (As := [.ref (a 0), .int 119, .ref q440]) (rest := []) (n9 := 3) C hw (c_L_ask_w_follows_g l hst D y base Sa451 a (nI v1) (nI v2) ((66, nI 1, nI (2 * zsbN pr), nI v1, zflt pr pr) : zNt) ((66, nI (2 * zsbN pr + g + 1), nI (4 * zsbN pr + g), nI v2, zflt pr pr) : zNt) q440 hX hNts hDs hNo ⟨rfl, rfl⟩ ⟨rfl, rfl⟩ (zrg (m := 255) (by omega) (by decide) rfl) (zrg (m := 255) (by omega) (by decide) rfl) hK9 hN9 hj0 hj1) gL_serial_L_ask rfl (by decide +kernel) ⟨⟨rfl, rfl⟩, Nat.le_of_ble_eq_true rfl, Nat.le_of_ble_eq_true rfl⟩ rfl hl.1 rfl (Nat.le_of_ble_eq_true rfl) ⟨Nat.le_of_ble_eq_true rfl, Nat.le_of_ble_eq_true rfl⟩ dL_serial_452 (fun r452 S452 H locs hp452 hw => ?_)
              obtain ⟨hr9, hS9⟩ := hp452
              have hr9 : r452 = 1 := hr9
              subst hr9
              have hS9 := hS9.symm
              subst hS9
              refine lv_iconst (v := 1) hx hb dL_serial_455 (by decide) ?_
              refine lv_icmp_eq (tgt := 461) hx hb dL_serial_456 (by decide) (fun _ => ?_) (fun c456 => absurd c456 (by decide))
              refine lv_iload hx hb dL_serial_461 (lv_at hl 7 rfl) ?_
              refine lv_bipush (v := 101) hx hb dL_serial_463 (by decide) ?_
              have jn_4 : ∀ (rx_5 : Int32) (H : Heap) (locs : List Loc) (ls : Array Slot), zW D y base Sa451 s H locs → lv_has ls 13 [(11, .int (nI (5 - h))), (10, .int x231), (9, .int (nI (5 + zsbN pr * (2 * h) + gp))), (8, .int (nI gp)), (7, .int (nI (zsbN pr))), (6, .int (nI v2)), (5, .int (nI v1)), (4, .int pr), (3, .int (nI (2 * h))), (2, .int (nI wn)), (1, .ref (a 0)), (0, .ref (y 98))] → ((if pr = 101 then 111 else 101) = rx_5) → W p l e (headSpec wsL_serial ({ frames := 10, cells := 72, slots := 5831, locals := 184 })).room s m args below meth c H locs 65 5801 (MQ below (va_Qi (fun (r : Int32) (S1 : zS) => r = 1) (zPost D y base) (zA base)) args s 72 5831 (zA base)) (F0 m 475 ls [.int rx_5]) := by
                intro rx_5 H locs ls hw hl f_6
                refine lv_istore (lv' := [(12, .int rx_5), (11, .int (nI (5 - h))), (10, .int x231), (9, .int (nI (5 + zsbN pr * (2 * h) + gp))), (8, .int (nI gp)), (7, .int (nI (zsbN pr))), (6, .int (nI v2)), (5, .int (nI v1)), (4, .int pr), (3, .int (nI (2 * h))), (2, .int (nI wn)), (1, .ref (a 0)), (0, .ref (y 98))]) hx hb dL_serial_475 hl (by decide) rfl (fun ls hl => ?_)
                refine lv_iload hx hb dL_serial_477 (lv_at hl 8 rfl) ?_
                refine lv_bipush (v := 110) hx hb dL_serial_479 (by decide) ?_
                refine lv_icmp_eq (tgt := 551) hx hb dL_serial_481 (by decide) (fun c481 => ?_) (fun c481 => ?_)
                · refine lv_iconst (v := 1) hx hb dL_serial_551 (by decide) ?_
                  refine lv_goto (tgt := 556) hx hb dL_serial_552 (by decide) ?_
                  exact zri C hw hr hlocks (by decide) rfl ⟨Nat.le_of_ble_eq_true rfl, Nat.le_of_ble_eq_true rfl⟩ dL_serial_556
                · refine lv_aload_n hx hb dL_serial_484 rfl (lv_at hl 11 rfl) ?_
                  refine lv_bipush (v := 49) hx hb dL_serial_485 (by decide) ?_
                  refine lv_iconst (v := 4) hx hb dL_serial_487 (by decide) ?_
                  refine znewI (N := 4) C hw (by decide +kernel) (by decide) (by decide) (Nat.le_of_ble_eq_true rfl) (Nat.le_of_ble_eq_true rfl) (Nat.le_of_ble_eq_true rfl) dL_serial_488 (fun q488 H kq488 hw => ?_)
                  have hA : zAr Sa451 (znR Sa451 q488 22 4 (fun _ => 0)) q488 4 [] := zAr.new kq488
                  generalize (znR Sa451 q488 22 4 (fun _ => 0)) = Sa488 at hw hA
                  refine lv_dup hx hb dL_serial_490 rfl ?_
                  refine lv_iconst (v := 0) hx hb dL_serial_491 (by decide) ?_
                  refine lv_iconst (v := 0) hx hb dL_serial_492 (by decide) ?_
                  refine zast_I (a := q488) C hw hA.2.1 hA.2.2.1 (zin_of (N := 4) (by decide) (by grind) (by grind)) dL_serial_493 (fun H locs hw => ?_)
                  have hA : zAr Sa451 (zsR Sa488 22 q488 (upd (zR Sa488 22 q488) (0 : Int32).toNatClampNeg 0)) q488 4 [0] := zAr.st (k := 0) hA kq488 (by decide) rfl
                  generalize (zsR Sa488 22 q488 (upd (zR Sa488 22 q488) (0 : Int32).toNatClampNeg 0)) = Sa493 at hw hA
                  refine lv_dup hx hb dL_serial_494 rfl ?_
                  refine lv_iconst (v := 1) hx hb dL_serial_495 (by decide) ?_
                  refine lv_iload_n hx hb dL_serial_496 rfl (lv_at hl 10 rfl) ?_
                  refine zast_I (a := q488) C hw hA.2.1 hA.2.2.1 (zin_of (N := 4) (by decide) (by grind) (by grind)) dL_serial_497 (fun H locs hw => ?_)
                  have hA : zAr Sa451 (zsR Sa493 22 q488 (upd (zR Sa493 22 q488) (1 : Int32).toNatClampNeg (nI wn))) q488 4 [0, (nI wn)] := zAr.st (k := 1) hA kq488 (by decide) rfl
                  generalize (zsR Sa493 22 q488 (upd (zR Sa493 22 q488) (1 : Int32).toNatClampNeg (nI wn))) = Sa497 at hw hA
                  refine lv_dup hx hb dL_serial_498 rfl ?_
                  refine lv_iconst (v := 2) hx hb dL_serial_499 (by decide) ?_
                  refine lv_bipush (v := 20) hx hb dL_serial_500 (by decide) ?_
                  refine zast_I (a := q488) C hw hA.2.1 hA.2.2.1 (zin_of (N := 4) (by decide) (by grind) (by grind)) dL_serial_502 (fun H locs hw => ?_)
                  have hA : zAr Sa451 (zsR Sa497 22 q488 (upd (zR Sa497 22 q488) (2 : Int32).toNatClampNeg 20)) q488 4 [0, (nI wn), 20] := zAr.st (k := 2) hA kq488 (by decide) rfl
                  generalize (zsR Sa497 22 q488 (upd (zR Sa497 22 q488) (2 : Int32).toNatClampNeg 20)) = Sa502 at hw hA
                  refine lv_dup hx hb dL_serial_503 rfl ?_
                  refine lv_iconst (v := 3) hx hb dL_serial_504 (by decide) ?_
                  refine lv_iload hx hb dL_serial_505 (lv_at hl 0 rfl) ?_
                  refine zast_I (a := q488) C hw hA.2.1 hA.2.2.1 (zin_of (N := 4) (by decide) (by grind) (by grind)) dL_serial_507 (fun H locs hw => ?_)
                  have hA : zAr Sa451 (zsR Sa502 22 q488 (upd (zR Sa502 22 q488) (3 : Int32).toNatClampNeg rx_5)) q488 4 [0, (nI wn), 20, rx_5] := zAr.st (k := 3) hA kq488 (by decide) rfl
                  generalize (zsR Sa502 22 q488 (upd (zR Sa502 22 q488) (3 : Int32).toNatClampNeg rx_5)) = Sa507 at hw hA
                  obtain ⟨hG, hK9, hN9, hA⟩ := hA
                  have hj0 : zR Sa507 22 q488 0 = (nI 0) := (hA 0 0 rfl).trans rfl
                  have hj1 : zR Sa507 22 q488 1 = (nI wn) := (hA 1 (nI wn) rfl).trans rfl
                  have hj2 : zR Sa507 22 q488 2 = (20 : Int32) := (hA 2 20 rfl).trans rfl
                  have hj3 : zR Sa507 22 q488 3 = rx_5 := (hA 3 rx_5 rfl).trans rfl
                  have hNo := zNo.gw hG hNts hNo
                  have hM := zCp.gw hG hX (by decide) hM
                  have hNts := zNts.gw hG hNts
                  have hX := zX.gw hG hX
                  refine zcSW_i (As := [.ref (a 0), .int 49, .ref q488]) (rest := []) (n9 := 3) C hw (c_L_ask_1_decodeSerial_g l hst D y base Sa507 a 0 wn rx_5 (4 * zsbN pr + g + 2) M q488 hX hNts hDs (by decide) hwn (zwr_3 f_6) hM ⟨by omega, by omega⟩ hK9 hN9 hj0 hj1 hj2 hj3 (zwr_c f_6)) gL_serial_L_ask rfl (by decide +kernel) ⟨⟨rfl, rfl⟩, Nat.le_of_ble_eq_true rfl, Nat.le_of_ble_eq_true rfl⟩ rfl hl.1 rfl (Nat.le_of_ble_eq_true rfl) ⟨Nat.le_of_ble_eq_true rfl, Nat.le_of_ble_eq_true rfl⟩ dL_serial_508 (fun r508 S508 H locs hp508 hw => ?_)
                  obtain ⟨hr9, hNo, hDc, -⟩ := hp508
                  have hrun : (zDS (M wn) (4 * zsbN pr + g + 2) rx_5 (4 * zsbN pr + g + 2 - 1)).2 = [((66, nI 1, nI (2 * zsbN pr), nI v1, 112) : zNt), (66, nI (2 * zsbN pr + g + 1), nI (4 * zsbN pr + g), nI v2, 112)] := by rw [hMw]; exact zser_run2 hv1 hv2 hpr (zwr_p hpr c481 f_6)
                  rw [hrun] at hr9 hNo
                  have hr9 : r508 = 2 := hr9
                  subst hr9
                  have hX := hDc.1
                  have hNts := hDc.2.1
                  have hM := hDc.cp (by decide) hM
                  refine lv_iconst (v := 2) hx hb dL_serial_511 (by decide) ?_
                  refine lv_icmp_ne (tgt := 555) hx hb dL_serial_512 (by decide) (fun c512 => absurd c512 (by decide)) (fun _ => ?_)
                  refine lv_aload_n hx hb dL_serial_515 rfl (lv_at hl 11 rfl) ?_
                  refine lv_bipush (v := 120) hx hb dL_serial_516 (by decide) ?_
                  refine lv_iconst (v := 1) hx hb dL_serial_518 (by decide) ?_
                  refine znewI (N := 1) C hw (by decide +kernel) (by decide) (by decide) (Nat.le_of_ble_eq_true rfl) (Nat.le_of_ble_eq_true rfl) (Nat.le_of_ble_eq_true rfl) dL_serial_519 (fun q519 H kq519 hw => ?_)
                  have hA : zAr S508 (znR S508 q519 22 1 (fun _ => 0)) q519 1 [] := zAr.new kq519
                  generalize (znR S508 q519 22 1 (fun _ => 0)) = Sa519 at hw hA
                  refine lv_dup hx hb dL_serial_521 rfl ?_
                  refine lv_iconst (v := 0) hx hb dL_serial_522 (by decide) ?_
                  refine lv_iconst (v := 0) hx hb dL_serial_523 (by decide) ?_
                  refine zast_I (a := q519) C hw hA.2.1 hA.2.2.1 (zin_of (N := 1) (by decide) (by grind) (by grind)) dL_serial_524 (fun H locs hw => ?_)
                  have hA : zAr S508 (zsR Sa519 22 q519 (upd (zR Sa519 22 q519) (0 : Int32).toNatClampNeg 0)) q519 1 [0] := zAr.st (k := 0) hA kq519 (by decide) rfl
                  generalize (zsR Sa519 22 q519 (upd (zR Sa519 22 q519) (0 : Int32).toNatClampNeg 0)) = Sa524 at hw hA
                  obtain ⟨hG, hK9, hN9, hA⟩ := hA
                  have hj0 : zR Sa524 22 q519 0 = (nI 0) := (hA 0 0 rfl).trans rfl
                  have hNo := zNo.gw hG hNts hNo
                  have hM := zCp.gw hG hX (by decide) hM
                  have hNts := zNts.gw hG hNts
                  have hX := zX.gw hG hX
                  refine zcSW_i (As := [.ref (a 0), .int 120, .ref q519]) (rest := []) (n9 := 3) C hw (c_L_ask_x_fault_g l hst D y base Sa524 a 0 _ ((66, nI 1, nI (2 * zsbN pr), nI v1, 112) : zNt) q519 hX hNts hDs hNo rfl (show narrow .char (.int 112) = .int 112 by decide) hK9 hN9 hj0) gL_serial_L_ask rfl (by decide +kernel) ⟨⟨rfl, rfl⟩, Nat.le_of_ble_eq_true rfl, Nat.le_of_ble_eq_true rfl⟩ rfl hl.1 rfl (Nat.le_of_ble_eq_true rfl) ⟨Nat.le_of_ble_eq_true rfl, Nat.le_of_ble_eq_true rfl⟩ dL_serial_525 (fun r525 S525 H locs hp525 hw => ?_)
                  obtain ⟨hr9, hS9⟩ := hp525
                  have hr9 : r525 = 112 := hr9
                  subst hr9
                  have hS9 := hS9.symm
                  subst hS9
                  refine lv_bipush (v := 112) hx hb dL_serial_528 (by decide) ?_
                  refine lv_icmp_ne (tgt := 555) hx hb dL_serial_530 (by decide) (fun c530 => absurd c530 (by decide)) (fun _ => ?_)
                  refine lv_aload_n hx hb dL_serial_533 rfl (lv_at hl 11 rfl) ?_
                  refine lv_bipush (v := 120) hx hb dL_serial_534 (by decide) ?_
                  refine lv_iconst (v := 1) hx hb dL_serial_536 (by decide) ?_
                  refine znewI (N := 1) C hw (by decide +kernel) (by decide) (by decide) (Nat.le_of_ble_eq_true rfl) (Nat.le_of_ble_eq_true rfl) (Nat.le_of_ble_eq_true rfl) dL_serial_537 (fun q537 H kq537 hw => ?_)
                  have hA : zAr Sa524 (znR Sa524 q537 22 1 (fun _ => 0)) q537 1 [] := zAr.new kq537
                  generalize (znR Sa524 q537 22 1 (fun _ => 0)) = Sa537 at hw hA
                  refine lv_dup hx hb dL_serial_539 rfl ?_
                  refine lv_iconst (v := 0) hx hb dL_serial_540 (by decide) ?_
                  refine lv_iconst (v := 1) hx hb dL_serial_541 (by decide) ?_
                  refine zast_I (a := q537) C hw hA.2.1 hA.2.2.1 (zin_of (N := 1) (by decide) (by grind) (by grind)) dL_serial_542 (fun H locs hw => ?_)
                  have hA : zAr Sa524 (zsR Sa537 22 q537 (upd (zR Sa537 22 q537) (0 : Int32).toNatClampNeg 1)) q537 1 [1] := zAr.st (k := 0) hA kq537 (by decide) rfl
                  generalize (zsR Sa537 22 q537 (upd (zR Sa537 22 q537) (0 : Int32).toNatClampNeg 1)) = Sa542 at hw hA
                  obtain ⟨hG, hK9, hN9, hA⟩ := hA
                  have hj0 : zR Sa542 22 q537 0 = (nI 1) := (hA 0 1 rfl).trans rfl
                  have hNo := zNo.gw hG hNts hNo
                  have hM := zCp.gw hG hX (by decide) hM
                  have hNts := zNts.gw hG hNts
                  have hX := zX.gw hG hX
                  refine zcSW_i (As := [.ref (a 0), .int 120, .ref q537]) (rest := []) (n9 := 3) C hw (c_L_ask_x_fault_g l hst D y base Sa542 a 1 _ ((66, nI (2 * zsbN pr + g + 1), nI (4 * zsbN pr + g), nI v2, 112) : zNt) q537 hX hNts hDs hNo rfl (show narrow .char (.int 112) = .int 112 by decide) hK9 hN9 hj0) gL_serial_L_ask rfl (by decide +kernel) ⟨⟨rfl, rfl⟩, Nat.le_of_ble_eq_true rfl, Nat.le_of_ble_eq_true rfl⟩ rfl hl.1 rfl (Nat.le_of_ble_eq_true rfl) ⟨Nat.le_of_ble_eq_true rfl, Nat.le_of_ble_eq_true rfl⟩ dL_serial_543 (fun r543 S543 H locs hp543 hw => ?_)
                  obtain ⟨hr9, hS9⟩ := hp543
                  have hr9 : r543 = 112 := hr9
                  subst hr9
                  have hS9 := hS9.symm
                  subst hS9
                  refine lv_bipush (v := 112) hx hb dL_serial_546 (by decide) ?_
                  refine lv_icmp_ne (tgt := 555) hx hb dL_serial_548 (by decide) (fun c548 => absurd c548 (by decide)) (fun _ => ?_)
                  refine lv_iconst (v := 1) hx hb dL_serial_551 (by decide) ?_
                  refine lv_goto (tgt := 556) hx hb dL_serial_552 (by decide) ?_
                  exact zri C hw hr hlocks (by decide) rfl ⟨Nat.le_of_ble_eq_true rfl, Nat.le_of_ble_eq_true rfl⟩ dL_serial_556
              refine lv_icmp_ne (tgt := 473) hx hb dL_serial_465 (by decide) (fun c465 => ?_) (fun c465 => ?_)
              · refine lv_bipush (v := 101) hx hb dL_serial_473 (by decide) ?_
                exact jn_4 101 _ _ _ hw (lv_sub hl [0, 1, 2, 3, 4, 5, 6, 7, 8, 9, 10, 11] rfl) (by first | rw [if_pos c465] | rw [if_neg c465])
              · refine lv_bipush (v := 111) hx hb dL_serial_468 (by decide) ?_
                refine lv_goto (tgt := 475) hx hb dL_serial_470 (by decide) ?_
                exact jn_4 111 _ _ _ hw (lv_sub hl [0, 1, 2, 3, 4, 5, 6, 7, 8, 9, 10, 11] rfl) (by first | rw [if_pos c465] | rw [if_neg c465])
            · refine lv_iconst (v := 1) hx hb dL_serial_331 (by decide) ?_
              exact zri C hw hr hlocks (by decide) rfl ⟨Nat.le_of_ble_eq_true rfl, Nat.le_of_ble_eq_true rfl⟩ dL_serial_332
    · refine lv_iconst (v := 1) hx hb dL_serial_241 (by decide) ?_
      exact zri C hw hr hlocks (by decide) rfl ⟨Nat.le_of_ble_eq_true rfl, Nat.le_of_ble_eq_true rfl⟩ dL_serial_242
  refine lv_icmp_ne (tgt := 87) hx hb dL_serial_79 (by decide) (fun c79 => ?_) (fun c79 => ?_)
  · refine lv_bipush (v := 11) hx hb dL_serial_87 (by decide) ?_
    exact jn_1 11 _ _ _ hw (lv_sub hl [0, 1, 2, 3, 4, 5, 6] rfl) (by first | exact zbn_t c79 | exact zbn_f c79)
  · refine lv_bipush (v := 10) hx hb dL_serial_82 (by decide) ?_
    refine lv_goto (tgt := 89) hx hb dL_serial_84 (by decide) ?_
    exact jn_1 10 _ _ _ hw (lv_sub hl [0, 1, 2, 3, 4, 5, 6] rfl) (by first | exact zbn_t c79 | exact zbn_f c79)

