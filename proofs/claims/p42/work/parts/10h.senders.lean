set_option maxHeartbeats 4000000 in
set_option maxRecDepth 100000 in
/-- X7_twoWires -/
theorem c_X7_twoWires (l : Launch) (hst : l.stackTraces = false) (D : va_G) (y : Nat → ClassId) (base : Nat) (S : zS) (a : Nat → Nat) (p0 : Int32) (p1 : Int32) (p2 : Int32) (p3 : Int32) (p4 : Int32) (p5 : Int32) (p6 : Int32) (p7 : Int32) (hX : zX S a) (h0 : zX0 S a) (hz3 : p3 = 0 ∨ p3 = 1) : zXi l yX7_twoWires wsX7_twoWires ({ frames := 7, cells := 9, slots := 54, locals := 112 }) [.ref (a 0), .int p0, .int p1, .int p2, .int p3, .int p4, .int p5, .int p6, .int p7] D y base S (fun (r : Int32) (S1 : zS) => r = p6 + 57 * p7 ∧ kd_two p0 p1 p2 p3 p4 p5 p6 p7 = 0 ∧ zCls S S1) (fun (E : String) (S1 : zS) => ((E = "java/lang/IndexOutOfBoundsException" ∧ kd_two p0 p1 p2 p3 p4 p5 p6 p7 = 1) ∨ (E = "java/lang/IllegalArgumentException" ∧ kd_two p0 p1 p2 p3 p4 p5 p6 p7 = 2) ∨ (E = "java/lang/IllegalStateException" ∧ kd_two p0 p1 p2 p3 p4 p5 p6 p7 = 3)) ∧ zCls S S1) 9 54 := by
  refine zXet_of (cc := cX7_twoWires) (maxL := 10) (ret := (some .int)) (own := RX7) (by decide +kernel) rfl rfl (Nat.le_of_ble_eq_true rfl) ?_
  intro p e s m args below meth c ls C hr hlocks hx0 hw hl
  have hx := C.1
  have hb := C.2.1
  have hown := C.2.2.2.1
  have hts := C.2.2.2.2
  have hl : lv_has ls 10 [(0, .ref (a 0)), (1, .int p0), (2, .int p1), (3, .int p2), (4, .int p3), (5, .int p4), (6, .int p5), (7, .int p6), (8, .int p7)] := hl
  have in_X7 : ∀ w ∈ wsX70, w ∈ wsX7_twoWires := by decide +kernel
  refine lv_iload_n hx hb dX7_twoWires_0 rfl (lv_at hl 1 rfl) ?_
  refine zcS_xv (As := [.int p0]) (rest := []) (n9 := 1) C hw (c_X7_checkWire l hst D y base S p0 ) gX7_twoWires_X7_checkWire rfl (by decide +kernel) ⟨⟨rfl, rfl⟩, Nat.le_of_ble_eq_true rfl, Nat.le_of_ble_eq_true rfl⟩ rfl hl.1 rfl (Nat.le_of_ble_eq_true rfl) ⟨Nat.le_of_ble_eq_true rfl, Nat.le_of_ble_eq_true rfl⟩ dX7_twoWires_1 (fun E ce q9 S1 H locs hx1 hw h1 h2 h3 => zxout hw hx0 hlocks h1 h2 h3 (by obtain ⟨rfl, hc9, rfl⟩ := hx1; refine ⟨?_, zCls.rf⟩; first | exact (Or.inl ⟨rfl, (by unfold kd_two; grind)⟩) | exact (Or.inr (Or.inl ⟨rfl, (by unfold kd_two; grind)⟩)) | exact (Or.inr (Or.inr ⟨rfl, (by unfold kd_two; grind)⟩))) ⟨Nat.le_of_ble_eq_true rfl, Nat.le_of_ble_eq_true rfl⟩) (fun S1 H locs hp1 hw => ?_)
  obtain ⟨hp1, hS9⟩ := hp1
  have hS9 := hS9.symm
  subst hS9
  refine lv_iload_n hx hb dX7_twoWires_4 rfl (lv_at hl 2 rfl) ?_
  refine zcS_xv (As := [.int p1]) (rest := []) (n9 := 1) C hw (c_X7_checkWire l hst D y base S p1 ) gX7_twoWires_X7_checkWire rfl (by decide +kernel) ⟨⟨rfl, rfl⟩, Nat.le_of_ble_eq_true rfl, Nat.le_of_ble_eq_true rfl⟩ rfl hl.1 rfl (Nat.le_of_ble_eq_true rfl) ⟨Nat.le_of_ble_eq_true rfl, Nat.le_of_ble_eq_true rfl⟩ dX7_twoWires_5 (fun E ce q9 S5 H locs hx5 hw h1 h2 h3 => zxout hw hx0 hlocks h1 h2 h3 (by obtain ⟨rfl, hc9, rfl⟩ := hx5; refine ⟨?_, zCls.rf⟩; first | exact (Or.inl ⟨rfl, (by unfold kd_two; grind)⟩) | exact (Or.inr (Or.inl ⟨rfl, (by unfold kd_two; grind)⟩)) | exact (Or.inr (Or.inr ⟨rfl, (by unfold kd_two; grind)⟩))) ⟨Nat.le_of_ble_eq_true rfl, Nat.le_of_ble_eq_true rfl⟩) (fun S5 H locs hp5 hw => ?_)
  obtain ⟨hp5, hS9⟩ := hp5
  have hS9 := hS9.symm
  subst hS9
  refine lv_iload_n hx hb dX7_twoWires_8 rfl (lv_at hl 3 rfl) ?_
  refine lv_iconst (v := 0) hx hb dX7_twoWires_9 (by decide) ?_
  refine lv_bipush (v := 127) hx hb dX7_twoWires_10 (by decide) ?_
  refine zcS_xv (As := [.int p2, .int 0, .int 127]) (rest := []) (n9 := 3) C hw (c_X7_checkRange l hst D y base S p2 0 127 ) gX7_twoWires_X7_checkRange rfl (by decide +kernel) ⟨⟨rfl, rfl⟩, Nat.le_of_ble_eq_true rfl, Nat.le_of_ble_eq_true rfl⟩ rfl hl.1 rfl (Nat.le_of_ble_eq_true rfl) ⟨Nat.le_of_ble_eq_true rfl, Nat.le_of_ble_eq_true rfl⟩ dX7_twoWires_12 (fun E ce q9 S12 H locs hx12 hw h1 h2 h3 => zxout hw hx0 hlocks h1 h2 h3 (by obtain ⟨rfl, hc9, rfl⟩ := hx12; refine ⟨?_, zCls.rf⟩; first | exact (Or.inl ⟨rfl, (by unfold kd_two; grind)⟩) | exact (Or.inr (Or.inl ⟨rfl, (by unfold kd_two; grind)⟩)) | exact (Or.inr (Or.inr ⟨rfl, (by unfold kd_two; grind)⟩))) ⟨Nat.le_of_ble_eq_true rfl, Nat.le_of_ble_eq_true rfl⟩) (fun S12 H locs hp12 hw => ?_)
  obtain ⟨hp12, hS9⟩ := hp12
  have hS9 := hS9.symm
  subst hS9
  refine lv_iload hx hb dX7_twoWires_15 (lv_at hl 5 rfl) ?_
  refine lv_iconst (v := 0) hx hb dX7_twoWires_17 (by decide) ?_
  refine lv_bipush (v := 15) hx hb dX7_twoWires_18 (by decide) ?_
  refine zcS_xv (As := [.int p4, .int 0, .int 15]) (rest := []) (n9 := 3) C hw (c_X7_checkRange l hst D y base S p4 0 15 ) gX7_twoWires_X7_checkRange rfl (by decide +kernel) ⟨⟨rfl, rfl⟩, Nat.le_of_ble_eq_true rfl, Nat.le_of_ble_eq_true rfl⟩ rfl hl.1 rfl (Nat.le_of_ble_eq_true rfl) ⟨Nat.le_of_ble_eq_true rfl, Nat.le_of_ble_eq_true rfl⟩ dX7_twoWires_20 (fun E ce q9 S20 H locs hx20 hw h1 h2 h3 => zxout hw hx0 hlocks h1 h2 h3 (by obtain ⟨rfl, hc9, rfl⟩ := hx20; refine ⟨?_, zCls.rf⟩; first | exact (Or.inl ⟨rfl, (by unfold kd_two; grind)⟩) | exact (Or.inr (Or.inl ⟨rfl, (by unfold kd_two; grind)⟩)) | exact (Or.inr (Or.inr ⟨rfl, (by unfold kd_two; grind)⟩))) ⟨Nat.le_of_ble_eq_true rfl, Nat.le_of_ble_eq_true rfl⟩) (fun S20 H locs hp20 hw => ?_)
  obtain ⟨hp20, hS9⟩ := hp20
  have hS9 := hS9.symm
  subst hS9
  refine lv_iload hx hb dX7_twoWires_23 (lv_at hl 6 rfl) ?_
  refine lv_iconst (v := 0) hx hb dX7_twoWires_25 (by decide) ?_
  refine lv_sipush (v := 255) hx hb dX7_twoWires_26 (by decide) ?_
  refine zcS_xv (As := [.int p5, .int 0, .int 255]) (rest := []) (n9 := 3) C hw (c_X7_checkRange l hst D y base S p5 0 255 ) gX7_twoWires_X7_checkRange rfl (by decide +kernel) ⟨⟨rfl, rfl⟩, Nat.le_of_ble_eq_true rfl, Nat.le_of_ble_eq_true rfl⟩ rfl hl.1 rfl (Nat.le_of_ble_eq_true rfl) ⟨Nat.le_of_ble_eq_true rfl, Nat.le_of_ble_eq_true rfl⟩ dX7_twoWires_29 (fun E ce q9 S29 H locs hx29 hw h1 h2 h3 => zxout hw hx0 hlocks h1 h2 h3 (by obtain ⟨rfl, hc9, rfl⟩ := hx29; refine ⟨?_, zCls.rf⟩; first | exact (Or.inl ⟨rfl, (by unfold kd_two; grind)⟩) | exact (Or.inr (Or.inl ⟨rfl, (by unfold kd_two; grind)⟩)) | exact (Or.inr (Or.inr ⟨rfl, (by unfold kd_two; grind)⟩))) ⟨Nat.le_of_ble_eq_true rfl, Nat.le_of_ble_eq_true rfl⟩) (fun S29 H locs hp29 hw => ?_)
  obtain ⟨hp29, hS9⟩ := hp29
  have hS9 := hS9.symm
  subst hS9
  refine lv_iload hx hb dX7_twoWires_32 (lv_at hl 7 rfl) ?_
  refine lv_iconst (v := 0) hx hb dX7_twoWires_34 (by decide) ?_
  refine lv_sipush (v := 9999) hx hb dX7_twoWires_35 (by decide) ?_
  refine zcS_xv (As := [.int p6, .int 0, .int 9999]) (rest := []) (n9 := 3) C hw (c_X7_checkRange l hst D y base S p6 0 9999 ) gX7_twoWires_X7_checkRange rfl (by decide +kernel) ⟨⟨rfl, rfl⟩, Nat.le_of_ble_eq_true rfl, Nat.le_of_ble_eq_true rfl⟩ rfl hl.1 rfl (Nat.le_of_ble_eq_true rfl) ⟨Nat.le_of_ble_eq_true rfl, Nat.le_of_ble_eq_true rfl⟩ dX7_twoWires_38 (fun E ce q9 S38 H locs hx38 hw h1 h2 h3 => zxout hw hx0 hlocks h1 h2 h3 (by obtain ⟨rfl, hc9, rfl⟩ := hx38; refine ⟨?_, zCls.rf⟩; first | exact (Or.inl ⟨rfl, (by unfold kd_two; grind)⟩) | exact (Or.inr (Or.inl ⟨rfl, (by unfold kd_two; grind)⟩)) | exact (Or.inr (Or.inr ⟨rfl, (by unfold kd_two; grind)⟩))) ⟨Nat.le_of_ble_eq_true rfl, Nat.le_of_ble_eq_true rfl⟩) (fun S38 H locs hp38 hw => ?_)
  obtain ⟨hp38, hS9⟩ := hp38
  have hS9 := hS9.symm
  subst hS9
  refine lv_iload hx hb dX7_twoWires_41 (lv_at hl 8 rfl) ?_
  refine lv_iconst (v := 1) hx hb dX7_twoWires_43 (by decide) ?_
  refine lv_bipush (v := 50) hx hb dX7_twoWires_44 (by decide) ?_
  refine zcS_xv (As := [.int p7, .int 1, .int 50]) (rest := []) (n9 := 3) C hw (c_X7_checkRange l hst D y base S p7 1 50 ) gX7_twoWires_X7_checkRange rfl (by decide +kernel) ⟨⟨rfl, rfl⟩, Nat.le_of_ble_eq_true rfl, Nat.le_of_ble_eq_true rfl⟩ rfl hl.1 rfl (Nat.le_of_ble_eq_true rfl) ⟨Nat.le_of_ble_eq_true rfl, Nat.le_of_ble_eq_true rfl⟩ dX7_twoWires_46 (fun E ce q9 S46 H locs hx46 hw h1 h2 h3 => zxout hw hx0 hlocks h1 h2 h3 (by obtain ⟨rfl, hc9, rfl⟩ := hx46; refine ⟨?_, zCls.rf⟩; first | exact (Or.inl ⟨rfl, (by unfold kd_two; grind)⟩) | exact (Or.inr (Or.inl ⟨rfl, (by unfold kd_two; grind)⟩)) | exact (Or.inr (Or.inr ⟨rfl, (by unfold kd_two; grind)⟩))) ⟨Nat.le_of_ble_eq_true rfl, Nat.le_of_ble_eq_true rfl⟩) (fun S46 H locs hp46 hw => ?_)
  obtain ⟨hp46, hS9⟩ := hp46
  have hS9 := hS9.symm
  subst hS9
  refine lv_iload_n hx hb dX7_twoWires_49 rfl (lv_at hl 1 rfl) ?_
  refine lv_iload_n hx hb dX7_twoWires_50 rfl (lv_at hl 2 rfl) ?_
  refine zcS_xv (As := [.int p0, .int p1]) (rest := []) (n9 := 2) C hw (c_X7_checkApart l hst D y base S p0 p1 ) gX7_twoWires_X7_checkApart rfl (by decide +kernel) ⟨⟨rfl, rfl⟩, Nat.le_of_ble_eq_true rfl, Nat.le_of_ble_eq_true rfl⟩ rfl hl.1 rfl (Nat.le_of_ble_eq_true rfl) ⟨Nat.le_of_ble_eq_true rfl, Nat.le_of_ble_eq_true rfl⟩ dX7_twoWires_51 (fun E ce q9 S51 H locs hx51 hw h1 h2 h3 => zxout hw hx0 hlocks h1 h2 h3 (by obtain ⟨rfl, hc9, rfl⟩ := hx51; refine ⟨?_, zCls.rf⟩; first | exact (Or.inl ⟨rfl, (by unfold kd_two; grind)⟩) | exact (Or.inr (Or.inl ⟨rfl, (by unfold kd_two; grind)⟩)) | exact (Or.inr (Or.inr ⟨rfl, (by unfold kd_two; grind)⟩))) ⟨Nat.le_of_ble_eq_true rfl, Nat.le_of_ble_eq_true rfl⟩) (fun S51 H locs hp51 hw => ?_)
  obtain ⟨hp51, hS9⟩ := hp51
  have hS9 := hS9.symm
  subst hS9
  refine lv_iload_n hx hb dX7_twoWires_54 rfl (lv_at hl 3 rfl) ?_
  refine lv_iconst (v := 2) hx hb dX7_twoWires_55 (by decide) ?_
  refine lv_imul hx hb dX7_twoWires_56 ?_
  refine lv_iload hx hb dX7_twoWires_57 (lv_at hl 4 rfl) ?_
  refine lv_if_eq (tgt := 66) hx hb dX7_twoWires_59 (by decide) (fun c59 => ?_) (fun c59 => ?_)
  · refine lv_iconst (v := 0) hx hb dX7_twoWires_66 (by decide) ?_
    refine zrd (x := p3) c59.symm ?_
    refine lv_iadd hx hb dX7_twoWires_67 ?_
    refine lv_aload_n hx hb dX7_twoWires_68 rfl (lv_at hl 0 rfl) ?_
    refine g_Ph_isAddressAnswered (a := (a 0)) (v := 1) C hw hX.1 in_X7 (by decide +kernel) h0.2.2.2.2.2.1 dX7_twoWires_69 ?_
    refine zcS_i (As := [.int ((p2 * 2) + p3), .int 1]) (rest := []) (n9 := 2) C hw (c_X7_answeredByte l D y base S ((p2 * 2) + p3) 1 ) gX7_twoWires_X7_answeredByte rfl (by decide +kernel) ⟨⟨rfl, rfl⟩, Nat.le_of_ble_eq_true rfl, Nat.le_of_ble_eq_true rfl⟩ rfl hl.1 rfl (Nat.le_of_ble_eq_true rfl) ⟨Nat.le_of_ble_eq_true rfl, Nat.le_of_ble_eq_true rfl⟩ dX7_twoWires_72 (fun r72 S72 H locs hp72 hw => ?_)
    obtain ⟨rfl, hS9⟩ := hp72
    have hS9 := hS9.symm
    subst hS9
    refine lv_istore (lv' := [(9, .int (zan ((p2 * 2) + p3) 1)), (0, .ref (a 0)), (1, .int p0), (2, .int p1), (3, .int p2), (4, .int p3), (5, .int p4), (6, .int p5), (7, .int p6), (8, .int p7)]) hx hb dX7_twoWires_75 hl (by decide) rfl (fun ls hl => ?_)
    refine lv_iload hx hb dX7_twoWires_77 (lv_at hl 0 rfl) ?_
    refine lv_bipush (v := 9) hx hb dX7_twoWires_79 (by decide) ?_
    refine lv_ishl hx hb dX7_twoWires_81 ?_
    refine lv_iload hx hb dX7_twoWires_82 (lv_at hl 6 rfl) ?_
    refine lv_aload_n hx hb dX7_twoWires_84 rfl (lv_at hl 1 rfl) ?_
    refine g_Ph_areOthersAnswered (a := (a 0)) (v := 1) C hw hX.1 in_X7 (by decide +kernel) h0.2.2.2.2.2.2.1 dX7_twoWires_85 ?_
    refine zcS_i (As := [.int p4, .int 1]) (rest := [.int ((zan ((p2 * 2) + p3) 1) <<< (9 &&& 31))]) (n9 := 2) C hw (c_X7_answeredByte l D y base S p4 1 ) gX7_twoWires_X7_answeredByte rfl (by decide +kernel) ⟨⟨rfl, rfl⟩, Nat.le_of_ble_eq_true rfl, Nat.le_of_ble_eq_true rfl⟩ rfl hl.1 rfl (Nat.le_of_ble_eq_true rfl) ⟨Nat.le_of_ble_eq_true rfl, Nat.le_of_ble_eq_true rfl⟩ dX7_twoWires_88 (fun r88 S88 H locs hp88 hw => ?_)
    obtain ⟨rfl, hS9⟩ := hp88
    have hS9 := hS9.symm
    subst hS9
    refine lv_ior hx hb dX7_twoWires_91 ?_
    refine lv_istore (lv' := [(9, .int (((zan ((p2 * 2) + p3) 1) <<< (9 &&& 31)) ||| (zan p4 1))), (0, .ref (a 0)), (1, .int p0), (2, .int p1), (3, .int p2), (4, .int p3), (5, .int p4), (6, .int p5), (7, .int p6), (8, .int p7)]) hx hb dX7_twoWires_92 hl (by decide) rfl (fun ls hl => ?_)
    refine lv_iload hx hb dX7_twoWires_94 (lv_at hl 0 rfl) ?_
    refine lv_bipush (v := 9) hx hb dX7_twoWires_96 (by decide) ?_
    refine lv_ishl hx hb dX7_twoWires_98 ?_
    refine lv_iload hx hb dX7_twoWires_99 (lv_at hl 7 rfl) ?_
    refine lv_aload_n hx hb dX7_twoWires_101 rfl (lv_at hl 1 rfl) ?_
    refine g_Ph_areOthersAnswered (a := (a 0)) (v := 1) C hw hX.1 in_X7 (by decide +kernel) h0.2.2.2.2.2.2.1 dX7_twoWires_102 ?_
    refine zcS_i (As := [.int p5, .int 1]) (rest := [.int ((((zan ((p2 * 2) + p3) 1) <<< (9 &&& 31)) ||| (zan p4 1)) <<< (9 &&& 31))]) (n9 := 2) C hw (c_X7_answeredByte l D y base S p5 1 ) gX7_twoWires_X7_answeredByte rfl (by decide +kernel) ⟨⟨rfl, rfl⟩, Nat.le_of_ble_eq_true rfl, Nat.le_of_ble_eq_true rfl⟩ rfl hl.1 rfl (Nat.le_of_ble_eq_true rfl) ⟨Nat.le_of_ble_eq_true rfl, Nat.le_of_ble_eq_true rfl⟩ dX7_twoWires_105 (fun r105 S105 H locs hp105 hw => ?_)
    obtain ⟨rfl, hS9⟩ := hp105
    have hS9 := hS9.symm
    subst hS9
    refine lv_ior hx hb dX7_twoWires_108 ?_
    refine zrd (x := (zwd2 p2 p3 p4 p5)) rfl ?_
    refine lv_istore (lv' := [(9, .int (zwd2 p2 p3 p4 p5)), (0, .ref (a 0)), (1, .int p0), (2, .int p1), (3, .int p2), (4, .int p3), (5, .int p4), (6, .int p5), (7, .int p6), (8, .int p7)]) hx hb dX7_twoWires_109 hl (by decide) rfl (fun ls hl => ?_)
    refine lv_aload_n hx hb dX7_twoWires_111 rfl (lv_at hl 1 rfl) ?_
    refine lv_aload_n hx hb dX7_twoWires_112 rfl (lv_at hl 1 rfl) ?_
    refine g_Ph_wires (a := (a 0)) (v := (a 1)) C hw hX.1 in_X7 (by decide +kernel) hX.2.1 dX7_twoWires_113 ?_
    refine lv_iload_n hx hb dX7_twoWires_116 rfl (lv_at hl 2 rfl) ?_
    obtain ⟨w1, t1, n1, eP1, hW1, eI1, eJ1, eA1, eB1⟩ := zX_w hX h0 (p := p0) hp1
    refine zald_P (a := (a 1)) (v := w1) C hw hX.2.2.2.2.2.2.1 (by decide) (t0 := 3) rfl rfl hX.2.2.2.2.2.2.2.1 (zin_of (N := 4) (by decide) (by grind) (by grind)) eP1 dX7_twoWires_117 ?_
    refine lv_aload_n hx hb dX7_twoWires_118 rfl (lv_at hl 1 rfl) ?_
    refine g_Ph_wires (a := (a 0)) (v := (a 1)) C hw hX.1 in_X7 (by decide +kernel) hX.2.1 dX7_twoWires_119 ?_
    refine lv_iload_n hx hb dX7_twoWires_122 rfl (lv_at hl 3 rfl) ?_
    obtain ⟨w2, t2, n2, eP2, hW2, eI2, eJ2, eA2, eB2⟩ := zX_w hX h0 (p := p1) hp5
    refine zald_P (a := (a 1)) (v := w2) C hw hX.2.2.2.2.2.2.1 (by decide) (t0 := 3) rfl rfl hX.2.2.2.2.2.2.2.1 (zin_of (N := 4) (by decide) (by grind) (by grind)) eP2 dX7_twoWires_123 ?_
    refine lv_iload hx hb dX7_twoWires_124 (lv_at hl 0 rfl) ?_
    refine lv_iload hx hb dX7_twoWires_126 (lv_at hl 8 rfl) ?_
    refine lv_iload hx hb dX7_twoWires_128 (lv_at hl 9 rfl) ?_
    refine zcV_v (As := [.ref w1, .ref w2, .int (zwd2 p2 p3 p4 p5), .int p6, .int p7]) (rest := []) (n9 := 5) (b := (a 0)) C hw (c_X7_planTwoWires l D y base S (a 0) w1 t1 n1 w2 t2 n2 (zwd2 p2 p3 p4 p5) p6 p7 hW1 hW2 hX.1 h0.2.2.2.2.1 (by have hn := zX_ne hX hp1 hp5 hp51; rw [← eA1, ← eA2, ← eB1, ← eB2] at hn; exact hn) hp38 hp46) gX7_twoWires_X7_planTwoWires rfl (by decide +kernel) ⟨⟨rfl, rfl⟩, Nat.le_of_ble_eq_true rfl, Nat.le_of_ble_eq_true rfl⟩ hX.1 ⟨by decide, by decide⟩ rfl rfl hl.1 rfl (Nat.le_of_ble_eq_true rfl) ⟨Nat.le_of_ble_eq_true rfl, Nat.le_of_ble_eq_true rfl⟩ dX7_twoWires_130 (fun S130 H locs hp130 hw => ?_)
    have hX130 := zX.fix hp130.1.1 hX
    have hW130_a := zWire.fix hp130.1.1 hW1
    have hW130_b := zWire.fix hp130.1.1 hW2
    have eP1b := (congrFun (congrFun hp130.1.1.2.2.2 (a 1)) p0.toNatClampNeg).trans eP1
    have eP2b := (congrFun (congrFun hp130.1.1.2.2.2 (a 1)) p1.toNatClampNeg).trans eP2
    have h181b := (hp130.1.2.1 181 (a 0) (by decide)).trans h0.2.2.2.2.1
    have hJ1b := (hp130.1.2.1 161 w1 (by decide)).trans eJ1
    have hJ2b := (hp130.1.2.1 161 w2 (by decide)).trans eJ2
    refine lv_aload_n hx hb dX7_twoWires_133 rfl (lv_at hl 1 rfl) ?_
    refine g_Ph_wires (a := (a 0)) (v := (a 1)) C hw hX130.1 in_X7 (by decide +kernel) hX130.2.1 dX7_twoWires_134 ?_
    refine lv_iload_n hx hb dX7_twoWires_137 rfl (lv_at hl 2 rfl) ?_
    refine zald_P (a := (a 1)) (v := w1) C hw hX130.2.2.2.2.2.2.1 (by decide) (t0 := 3) rfl rfl hX130.2.2.2.2.2.2.2.1 (zin_of (N := 4) (by decide) (by grind) (by grind)) eP1b dX7_twoWires_138 ?_
    refine zcV_i (As := []) (rest := []) (n9 := 0) (b := w1) C hw (c_X6_takesSent l D y base S130 w1 t1 n1 S130 _ _ _ _ hW130_a hp130.2.1 (by decide) hJ1b) gX7_twoWires_X6_takesSent rfl (by decide +kernel) ⟨⟨rfl, rfl⟩, Nat.le_of_ble_eq_true rfl, Nat.le_of_ble_eq_true rfl⟩ hW130_a.1 ⟨by decide, by decide⟩ rfl rfl hl.1 rfl (Nat.le_of_ble_eq_true rfl) ⟨Nat.le_of_ble_eq_true rfl, Nat.le_of_ble_eq_true rfl⟩ dX7_twoWires_139 (fun r139 S139 H locs hp139 hw => ?_)
    obtain ⟨⟨hg139, hz139⟩, hS9⟩ := hp139
    have hS9 := hS9.symm
    subst hS9
    refine lv_if_eq (tgt := 161) hx hb dX7_twoWires_142 (by decide) (fun c142 => ?_) (fun c142 => ?_)
    · refine lv_iconst (v := 0) hx hb dX7_twoWires_161 (by decide) ?_
      refine zcS_xv (As := [.int 0]) (rest := []) (n9 := 1) C hw (c_X7_checkFlips l hst D y base S130 0 ) gX7_twoWires_X7_checkFlips rfl (by decide +kernel) ⟨⟨rfl, rfl⟩, Nat.le_of_ble_eq_true rfl, Nat.le_of_ble_eq_true rfl⟩ rfl hl.1 rfl (Nat.le_of_ble_eq_true rfl) ⟨Nat.le_of_ble_eq_true rfl, Nat.le_of_ble_eq_true rfl⟩ dX7_twoWires_162 (fun E ce q9 S162 H locs hx162 hw h1 h2 h3 => zxout hw hx0 hlocks h1 h2 h3 (by obtain ⟨rfl, hc9, rfl⟩ := hx162; first | exact absurd (by decide) hc9 | exact ⟨Or.inr (Or.inr ⟨rfl, (by have hng := mt hg139.mpr (fun q => q c142); unfold kd_two; grind)⟩), hp130.1.2.2⟩ | exact ⟨Or.inr (Or.inr ⟨rfl, (by have hng := mt hg151.mpr (fun q => q c154); unfold kd_two; grind)⟩), hp130.1.2.2⟩) ⟨Nat.le_of_ble_eq_true rfl, Nat.le_of_ble_eq_true rfl⟩) (fun S162 H locs hp162 hw => ?_)
      obtain ⟨hp162, hS9⟩ := hp162
      have hS9 := hS9.symm
      subst hS9
      exact (show False from (hp162 rfl)).elim
    · refine lv_aload_n hx hb dX7_twoWires_145 rfl (lv_at hl 1 rfl) ?_
      refine g_Ph_wires (a := (a 0)) (v := (a 1)) C hw hX130.1 in_X7 (by decide +kernel) hX130.2.1 dX7_twoWires_146 ?_
      refine lv_iload_n hx hb dX7_twoWires_149 rfl (lv_at hl 3 rfl) ?_
      refine zald_P (a := (a 1)) (v := w2) C hw hX130.2.2.2.2.2.2.1 (by decide) (t0 := 3) rfl rfl hX130.2.2.2.2.2.2.2.1 (zin_of (N := 4) (by decide) (by grind) (by grind)) eP2b dX7_twoWires_150 ?_
      refine zcV_i (As := []) (rest := []) (n9 := 0) (b := w2) C hw (c_X6_takesSent l D y base S130 w2 t2 n2 S130 _ _ _ _ hW130_b hp130.2.2 (by decide) hJ2b) gX7_twoWires_X6_takesSent rfl (by decide +kernel) ⟨⟨rfl, rfl⟩, Nat.le_of_ble_eq_true rfl, Nat.le_of_ble_eq_true rfl⟩ hW130_b.1 ⟨by decide, by decide⟩ rfl rfl hl.1 rfl (Nat.le_of_ble_eq_true rfl) ⟨Nat.le_of_ble_eq_true rfl, Nat.le_of_ble_eq_true rfl⟩ dX7_twoWires_151 (fun r151 S151 H locs hp151 hw => ?_)
      obtain ⟨⟨hg151, hz151⟩, hS9⟩ := hp151
      have hS9 := hS9.symm
      subst hS9
      refine lv_if_eq (tgt := 161) hx hb dX7_twoWires_154 (by decide) (fun c154 => ?_) (fun c154 => ?_)
      · refine lv_iconst (v := 0) hx hb dX7_twoWires_161 (by decide) ?_
        refine zcS_xv (As := [.int 0]) (rest := []) (n9 := 1) C hw (c_X7_checkFlips l hst D y base S130 0 ) gX7_twoWires_X7_checkFlips rfl (by decide +kernel) ⟨⟨rfl, rfl⟩, Nat.le_of_ble_eq_true rfl, Nat.le_of_ble_eq_true rfl⟩ rfl hl.1 rfl (Nat.le_of_ble_eq_true rfl) ⟨Nat.le_of_ble_eq_true rfl, Nat.le_of_ble_eq_true rfl⟩ dX7_twoWires_162 (fun E ce q9 S162 H locs hx162 hw h1 h2 h3 => zxout hw hx0 hlocks h1 h2 h3 (by obtain ⟨rfl, hc9, rfl⟩ := hx162; first | exact absurd (by decide) hc9 | exact ⟨Or.inr (Or.inr ⟨rfl, (by have hng := mt hg139.mpr (fun q => q c142); unfold kd_two; grind)⟩), hp130.1.2.2⟩ | exact ⟨Or.inr (Or.inr ⟨rfl, (by have hng := mt hg151.mpr (fun q => q c154); unfold kd_two; grind)⟩), hp130.1.2.2⟩) ⟨Nat.le_of_ble_eq_true rfl, Nat.le_of_ble_eq_true rfl⟩) (fun S162 H locs hp162 hw => ?_)
        obtain ⟨hp162, hS9⟩ := hp162
        have hS9 := hS9.symm
        subst hS9
        exact (show False from (hp162 rfl)).elim
      · refine lv_iconst (v := 1) hx hb dX7_twoWires_157 (by decide) ?_
        refine lv_goto (tgt := 162) hx hb dX7_twoWires_158 (by decide) ?_
        refine zcS_xv (As := [.int 1]) (rest := []) (n9 := 1) C hw (c_X7_checkFlips l hst D y base S130 1 ) gX7_twoWires_X7_checkFlips rfl (by decide +kernel) ⟨⟨rfl, rfl⟩, Nat.le_of_ble_eq_true rfl, Nat.le_of_ble_eq_true rfl⟩ rfl hl.1 rfl (Nat.le_of_ble_eq_true rfl) ⟨Nat.le_of_ble_eq_true rfl, Nat.le_of_ble_eq_true rfl⟩ dX7_twoWires_162 (fun E ce q9 S162 H locs hx162 hw h1 h2 h3 => zxout hw hx0 hlocks h1 h2 h3 (by obtain ⟨rfl, hc9, rfl⟩ := hx162; first | exact absurd (by decide) hc9 | exact ⟨Or.inr (Or.inr ⟨rfl, (by have hng := mt hg139.mpr (fun q => q c142); unfold kd_two; grind)⟩), hp130.1.2.2⟩ | exact ⟨Or.inr (Or.inr ⟨rfl, (by have hng := mt hg151.mpr (fun q => q c154); unfold kd_two; grind)⟩), hp130.1.2.2⟩) ⟨Nat.le_of_ble_eq_true rfl, Nat.le_of_ble_eq_true rfl⟩) (fun S162 H locs hp162 hw => ?_)
        obtain ⟨hp162, hS9⟩ := hp162
        have hS9 := hS9.symm
        subst hS9
        refine lv_aload_n hx hb dX7_twoWires_165 rfl (lv_at hl 1 rfl) ?_
        refine g_Ph_wires (a := (a 0)) (v := (a 1)) C hw hX130.1 in_X7 (by decide +kernel) hX130.2.1 dX7_twoWires_166 ?_
        refine lv_iload_n hx hb dX7_twoWires_169 rfl (lv_at hl 2 rfl) ?_
        refine zald_P (a := (a 1)) (v := w1) C hw hX130.2.2.2.2.2.2.1 (by decide) (t0 := 3) rfl rfl hX130.2.2.2.2.2.2.2.1 (zin_of (N := 4) (by decide) (by grind) (by grind)) eP1b dX7_twoWires_170 ?_
        refine zcV_v (As := []) (rest := []) (n9 := 0) (b := w1) C hw (c_X6_flipSent l D y base S130 w1 t1 n1 hW130_a) gX7_twoWires_X6_flipSent rfl (by decide +kernel) ⟨⟨rfl, rfl⟩, Nat.le_of_ble_eq_true rfl, Nat.le_of_ble_eq_true rfl⟩ hW130_a.1 ⟨by decide, by decide⟩ rfl rfl hl.1 rfl (Nat.le_of_ble_eq_true rfl) ⟨Nat.le_of_ble_eq_true rfl, Nat.le_of_ble_eq_true rfl⟩ dX7_twoWires_171 (fun S171 H locs hp171 hw => ?_)
        have hX171 := zX.fix hp171.1 hX130
        have h181_171 := (hp171.2.1 181 (a 0) (Or.inr (by decide))).trans h181b
        have hW171_b := zWire.fix hp171.1 hW130_b
        have ePb_171 := (congrFun (congrFun hp171.1.2.2.2 (a 1)) p1.toNatClampNeg).trans eP2b
        refine lv_aload_n hx hb dX7_twoWires_174 rfl (lv_at hl 1 rfl) ?_
        refine g_Ph_wires (a := (a 0)) (v := (a 1)) C hw hX171.1 in_X7 (by decide +kernel) hX171.2.1 dX7_twoWires_175 ?_
        refine lv_iload_n hx hb dX7_twoWires_178 rfl (lv_at hl 3 rfl) ?_
        refine zald_P (a := (a 1)) (v := w2) C hw hX171.2.2.2.2.2.2.1 (by decide) (t0 := 3) rfl rfl hX171.2.2.2.2.2.2.2.1 (zin_of (N := 4) (by decide) (by grind) (by grind)) ePb_171 dX7_twoWires_179 ?_
        refine zcV_v (As := []) (rest := []) (n9 := 0) (b := w2) C hw (c_X6_flipSent l D y base S171 w2 t2 n2 hW171_b) gX7_twoWires_X6_flipSent rfl (by decide +kernel) ⟨⟨rfl, rfl⟩, Nat.le_of_ble_eq_true rfl, Nat.le_of_ble_eq_true rfl⟩ hW171_b.1 ⟨by decide, by decide⟩ rfl rfl hl.1 rfl (Nat.le_of_ble_eq_true rfl) ⟨Nat.le_of_ble_eq_true rfl, Nat.le_of_ble_eq_true rfl⟩ dX7_twoWires_180 (fun S180 H locs hp180 hw => ?_)
        have hX180 := zX.fix hp180.1 hX171
        have h181_180 := (hp180.2.1 181 (a 0) (Or.inr (by decide))).trans h181_171
        refine lv_aload_n hx hb dX7_twoWires_183 rfl (lv_at hl 1 rfl) ?_
        refine lv_iload hx hb dX7_twoWires_184 (lv_at hl 8 rfl) ?_
        refine lv_bipush (v := 57) hx hb dX7_twoWires_186 (by decide) ?_
        refine lv_iload hx hb dX7_twoWires_188 (lv_at hl 9 rfl) ?_
        refine lv_imul hx hb dX7_twoWires_190 ?_
        refine zcV_i (As := [.int p6, .int (57 * p7)]) (rest := []) (n9 := 2) (b := (a 0)) C hw (c_X7_tickBehind l D y base S180 (a 0) p6 (57 * p7) hX180.1 h181_180) gX7_twoWires_X7_tickBehind rfl (by decide +kernel) ⟨⟨rfl, rfl⟩, Nat.le_of_ble_eq_true rfl, Nat.le_of_ble_eq_true rfl⟩ hX180.1 ⟨by decide, by decide⟩ rfl rfl hl.1 rfl (Nat.le_of_ble_eq_true rfl) ⟨Nat.le_of_ble_eq_true rfl, Nat.le_of_ble_eq_true rfl⟩ dX7_twoWires_191 (fun r191 S191 H locs hp191 hw => ?_)
        obtain ⟨rfl, hS9⟩ := hp191
        have hS9 := hS9.symm
        subst hS9
        exact vx_ret (zri C hw hr hlocks rfl ⟨rfl, (by have hg1 := hg139.mp c142; have hg2 := hg151.mp c154; unfold kd_two; grind), hp130.1.2.2.tr ((zCls.flp hp171).tr (zCls.flp hp180))⟩ ⟨Nat.le_of_ble_eq_true rfl, Nat.le_of_ble_eq_true rfl⟩ dX7_twoWires_194)
  · refine lv_iconst (v := 1) hx hb dX7_twoWires_62 (by decide) ?_
    refine zrd (x := p3) (by grind) ?_
    refine lv_goto (tgt := 67) hx hb dX7_twoWires_63 (by decide) ?_
    refine lv_iadd hx hb dX7_twoWires_67 ?_
    refine lv_aload_n hx hb dX7_twoWires_68 rfl (lv_at hl 0 rfl) ?_
    refine g_Ph_isAddressAnswered (a := (a 0)) (v := 1) C hw hX.1 in_X7 (by decide +kernel) h0.2.2.2.2.2.1 dX7_twoWires_69 ?_
    refine zcS_i (As := [.int ((p2 * 2) + p3), .int 1]) (rest := []) (n9 := 2) C hw (c_X7_answeredByte l D y base S ((p2 * 2) + p3) 1 ) gX7_twoWires_X7_answeredByte rfl (by decide +kernel) ⟨⟨rfl, rfl⟩, Nat.le_of_ble_eq_true rfl, Nat.le_of_ble_eq_true rfl⟩ rfl hl.1 rfl (Nat.le_of_ble_eq_true rfl) ⟨Nat.le_of_ble_eq_true rfl, Nat.le_of_ble_eq_true rfl⟩ dX7_twoWires_72 (fun r72 S72 H locs hp72 hw => ?_)
    obtain ⟨rfl, hS9⟩ := hp72
    have hS9 := hS9.symm
    subst hS9
    refine lv_istore (lv' := [(9, .int (zan ((p2 * 2) + p3) 1)), (0, .ref (a 0)), (1, .int p0), (2, .int p1), (3, .int p2), (4, .int p3), (5, .int p4), (6, .int p5), (7, .int p6), (8, .int p7)]) hx hb dX7_twoWires_75 hl (by decide) rfl (fun ls hl => ?_)
    refine lv_iload hx hb dX7_twoWires_77 (lv_at hl 0 rfl) ?_
    refine lv_bipush (v := 9) hx hb dX7_twoWires_79 (by decide) ?_
    refine lv_ishl hx hb dX7_twoWires_81 ?_
    refine lv_iload hx hb dX7_twoWires_82 (lv_at hl 6 rfl) ?_
    refine lv_aload_n hx hb dX7_twoWires_84 rfl (lv_at hl 1 rfl) ?_
    refine g_Ph_areOthersAnswered (a := (a 0)) (v := 1) C hw hX.1 in_X7 (by decide +kernel) h0.2.2.2.2.2.2.1 dX7_twoWires_85 ?_
    refine zcS_i (As := [.int p4, .int 1]) (rest := [.int ((zan ((p2 * 2) + p3) 1) <<< (9 &&& 31))]) (n9 := 2) C hw (c_X7_answeredByte l D y base S p4 1 ) gX7_twoWires_X7_answeredByte rfl (by decide +kernel) ⟨⟨rfl, rfl⟩, Nat.le_of_ble_eq_true rfl, Nat.le_of_ble_eq_true rfl⟩ rfl hl.1 rfl (Nat.le_of_ble_eq_true rfl) ⟨Nat.le_of_ble_eq_true rfl, Nat.le_of_ble_eq_true rfl⟩ dX7_twoWires_88 (fun r88 S88 H locs hp88 hw => ?_)
    obtain ⟨rfl, hS9⟩ := hp88
    have hS9 := hS9.symm
    subst hS9
    refine lv_ior hx hb dX7_twoWires_91 ?_
    refine lv_istore (lv' := [(9, .int (((zan ((p2 * 2) + p3) 1) <<< (9 &&& 31)) ||| (zan p4 1))), (0, .ref (a 0)), (1, .int p0), (2, .int p1), (3, .int p2), (4, .int p3), (5, .int p4), (6, .int p5), (7, .int p6), (8, .int p7)]) hx hb dX7_twoWires_92 hl (by decide) rfl (fun ls hl => ?_)
    refine lv_iload hx hb dX7_twoWires_94 (lv_at hl 0 rfl) ?_
    refine lv_bipush (v := 9) hx hb dX7_twoWires_96 (by decide) ?_
    refine lv_ishl hx hb dX7_twoWires_98 ?_
    refine lv_iload hx hb dX7_twoWires_99 (lv_at hl 7 rfl) ?_
    refine lv_aload_n hx hb dX7_twoWires_101 rfl (lv_at hl 1 rfl) ?_
    refine g_Ph_areOthersAnswered (a := (a 0)) (v := 1) C hw hX.1 in_X7 (by decide +kernel) h0.2.2.2.2.2.2.1 dX7_twoWires_102 ?_
    refine zcS_i (As := [.int p5, .int 1]) (rest := [.int ((((zan ((p2 * 2) + p3) 1) <<< (9 &&& 31)) ||| (zan p4 1)) <<< (9 &&& 31))]) (n9 := 2) C hw (c_X7_answeredByte l D y base S p5 1 ) gX7_twoWires_X7_answeredByte rfl (by decide +kernel) ⟨⟨rfl, rfl⟩, Nat.le_of_ble_eq_true rfl, Nat.le_of_ble_eq_true rfl⟩ rfl hl.1 rfl (Nat.le_of_ble_eq_true rfl) ⟨Nat.le_of_ble_eq_true rfl, Nat.le_of_ble_eq_true rfl⟩ dX7_twoWires_105 (fun r105 S105 H locs hp105 hw => ?_)
    obtain ⟨rfl, hS9⟩ := hp105
    have hS9 := hS9.symm
    subst hS9
    refine lv_ior hx hb dX7_twoWires_108 ?_
    refine zrd (x := (zwd2 p2 p3 p4 p5)) rfl ?_
    refine lv_istore (lv' := [(9, .int (zwd2 p2 p3 p4 p5)), (0, .ref (a 0)), (1, .int p0), (2, .int p1), (3, .int p2), (4, .int p3), (5, .int p4), (6, .int p5), (7, .int p6), (8, .int p7)]) hx hb dX7_twoWires_109 hl (by decide) rfl (fun ls hl => ?_)
    refine lv_aload_n hx hb dX7_twoWires_111 rfl (lv_at hl 1 rfl) ?_
    refine lv_aload_n hx hb dX7_twoWires_112 rfl (lv_at hl 1 rfl) ?_
    refine g_Ph_wires (a := (a 0)) (v := (a 1)) C hw hX.1 in_X7 (by decide +kernel) hX.2.1 dX7_twoWires_113 ?_
    refine lv_iload_n hx hb dX7_twoWires_116 rfl (lv_at hl 2 rfl) ?_
    obtain ⟨w1, t1, n1, eP1, hW1, eI1, eJ1, eA1, eB1⟩ := zX_w hX h0 (p := p0) hp1
    refine zald_P (a := (a 1)) (v := w1) C hw hX.2.2.2.2.2.2.1 (by decide) (t0 := 3) rfl rfl hX.2.2.2.2.2.2.2.1 (zin_of (N := 4) (by decide) (by grind) (by grind)) eP1 dX7_twoWires_117 ?_
    refine lv_aload_n hx hb dX7_twoWires_118 rfl (lv_at hl 1 rfl) ?_
    refine g_Ph_wires (a := (a 0)) (v := (a 1)) C hw hX.1 in_X7 (by decide +kernel) hX.2.1 dX7_twoWires_119 ?_
    refine lv_iload_n hx hb dX7_twoWires_122 rfl (lv_at hl 3 rfl) ?_
    obtain ⟨w2, t2, n2, eP2, hW2, eI2, eJ2, eA2, eB2⟩ := zX_w hX h0 (p := p1) hp5
    refine zald_P (a := (a 1)) (v := w2) C hw hX.2.2.2.2.2.2.1 (by decide) (t0 := 3) rfl rfl hX.2.2.2.2.2.2.2.1 (zin_of (N := 4) (by decide) (by grind) (by grind)) eP2 dX7_twoWires_123 ?_
    refine lv_iload hx hb dX7_twoWires_124 (lv_at hl 0 rfl) ?_
    refine lv_iload hx hb dX7_twoWires_126 (lv_at hl 8 rfl) ?_
    refine lv_iload hx hb dX7_twoWires_128 (lv_at hl 9 rfl) ?_
    refine zcV_v (As := [.ref w1, .ref w2, .int (zwd2 p2 p3 p4 p5), .int p6, .int p7]) (rest := []) (n9 := 5) (b := (a 0)) C hw (c_X7_planTwoWires l D y base S (a 0) w1 t1 n1 w2 t2 n2 (zwd2 p2 p3 p4 p5) p6 p7 hW1 hW2 hX.1 h0.2.2.2.2.1 (by have hn := zX_ne hX hp1 hp5 hp51; rw [← eA1, ← eA2, ← eB1, ← eB2] at hn; exact hn) hp38 hp46) gX7_twoWires_X7_planTwoWires rfl (by decide +kernel) ⟨⟨rfl, rfl⟩, Nat.le_of_ble_eq_true rfl, Nat.le_of_ble_eq_true rfl⟩ hX.1 ⟨by decide, by decide⟩ rfl rfl hl.1 rfl (Nat.le_of_ble_eq_true rfl) ⟨Nat.le_of_ble_eq_true rfl, Nat.le_of_ble_eq_true rfl⟩ dX7_twoWires_130 (fun S130 H locs hp130 hw => ?_)
    have hX130 := zX.fix hp130.1.1 hX
    have hW130_a := zWire.fix hp130.1.1 hW1
    have hW130_b := zWire.fix hp130.1.1 hW2
    have eP1b := (congrFun (congrFun hp130.1.1.2.2.2 (a 1)) p0.toNatClampNeg).trans eP1
    have eP2b := (congrFun (congrFun hp130.1.1.2.2.2 (a 1)) p1.toNatClampNeg).trans eP2
    have h181b := (hp130.1.2.1 181 (a 0) (by decide)).trans h0.2.2.2.2.1
    have hJ1b := (hp130.1.2.1 161 w1 (by decide)).trans eJ1
    have hJ2b := (hp130.1.2.1 161 w2 (by decide)).trans eJ2
    refine lv_aload_n hx hb dX7_twoWires_133 rfl (lv_at hl 1 rfl) ?_
    refine g_Ph_wires (a := (a 0)) (v := (a 1)) C hw hX130.1 in_X7 (by decide +kernel) hX130.2.1 dX7_twoWires_134 ?_
    refine lv_iload_n hx hb dX7_twoWires_137 rfl (lv_at hl 2 rfl) ?_
    refine zald_P (a := (a 1)) (v := w1) C hw hX130.2.2.2.2.2.2.1 (by decide) (t0 := 3) rfl rfl hX130.2.2.2.2.2.2.2.1 (zin_of (N := 4) (by decide) (by grind) (by grind)) eP1b dX7_twoWires_138 ?_
    refine zcV_i (As := []) (rest := []) (n9 := 0) (b := w1) C hw (c_X6_takesSent l D y base S130 w1 t1 n1 S130 _ _ _ _ hW130_a hp130.2.1 (by decide) hJ1b) gX7_twoWires_X6_takesSent rfl (by decide +kernel) ⟨⟨rfl, rfl⟩, Nat.le_of_ble_eq_true rfl, Nat.le_of_ble_eq_true rfl⟩ hW130_a.1 ⟨by decide, by decide⟩ rfl rfl hl.1 rfl (Nat.le_of_ble_eq_true rfl) ⟨Nat.le_of_ble_eq_true rfl, Nat.le_of_ble_eq_true rfl⟩ dX7_twoWires_139 (fun r139 S139 H locs hp139 hw => ?_)
    obtain ⟨⟨hg139, hz139⟩, hS9⟩ := hp139
    have hS9 := hS9.symm
    subst hS9
    refine lv_if_eq (tgt := 161) hx hb dX7_twoWires_142 (by decide) (fun c142 => ?_) (fun c142 => ?_)
    · refine lv_iconst (v := 0) hx hb dX7_twoWires_161 (by decide) ?_
      refine zcS_xv (As := [.int 0]) (rest := []) (n9 := 1) C hw (c_X7_checkFlips l hst D y base S130 0 ) gX7_twoWires_X7_checkFlips rfl (by decide +kernel) ⟨⟨rfl, rfl⟩, Nat.le_of_ble_eq_true rfl, Nat.le_of_ble_eq_true rfl⟩ rfl hl.1 rfl (Nat.le_of_ble_eq_true rfl) ⟨Nat.le_of_ble_eq_true rfl, Nat.le_of_ble_eq_true rfl⟩ dX7_twoWires_162 (fun E ce q9 S162 H locs hx162 hw h1 h2 h3 => zxout hw hx0 hlocks h1 h2 h3 (by obtain ⟨rfl, hc9, rfl⟩ := hx162; first | exact absurd (by decide) hc9 | exact ⟨Or.inr (Or.inr ⟨rfl, (by have hng := mt hg139.mpr (fun q => q c142); unfold kd_two; grind)⟩), hp130.1.2.2⟩ | exact ⟨Or.inr (Or.inr ⟨rfl, (by have hng := mt hg151.mpr (fun q => q c154); unfold kd_two; grind)⟩), hp130.1.2.2⟩) ⟨Nat.le_of_ble_eq_true rfl, Nat.le_of_ble_eq_true rfl⟩) (fun S162 H locs hp162 hw => ?_)
      obtain ⟨hp162, hS9⟩ := hp162
      have hS9 := hS9.symm
      subst hS9
      exact (show False from (hp162 rfl)).elim
    · refine lv_aload_n hx hb dX7_twoWires_145 rfl (lv_at hl 1 rfl) ?_
      refine g_Ph_wires (a := (a 0)) (v := (a 1)) C hw hX130.1 in_X7 (by decide +kernel) hX130.2.1 dX7_twoWires_146 ?_
      refine lv_iload_n hx hb dX7_twoWires_149 rfl (lv_at hl 3 rfl) ?_
      refine zald_P (a := (a 1)) (v := w2) C hw hX130.2.2.2.2.2.2.1 (by decide) (t0 := 3) rfl rfl hX130.2.2.2.2.2.2.2.1 (zin_of (N := 4) (by decide) (by grind) (by grind)) eP2b dX7_twoWires_150 ?_
      refine zcV_i (As := []) (rest := []) (n9 := 0) (b := w2) C hw (c_X6_takesSent l D y base S130 w2 t2 n2 S130 _ _ _ _ hW130_b hp130.2.2 (by decide) hJ2b) gX7_twoWires_X6_takesSent rfl (by decide +kernel) ⟨⟨rfl, rfl⟩, Nat.le_of_ble_eq_true rfl, Nat.le_of_ble_eq_true rfl⟩ hW130_b.1 ⟨by decide, by decide⟩ rfl rfl hl.1 rfl (Nat.le_of_ble_eq_true rfl) ⟨Nat.le_of_ble_eq_true rfl, Nat.le_of_ble_eq_true rfl⟩ dX7_twoWires_151 (fun r151 S151 H locs hp151 hw => ?_)
      obtain ⟨⟨hg151, hz151⟩, hS9⟩ := hp151
      have hS9 := hS9.symm
      subst hS9
      refine lv_if_eq (tgt := 161) hx hb dX7_twoWires_154 (by decide) (fun c154 => ?_) (fun c154 => ?_)
      · refine lv_iconst (v := 0) hx hb dX7_twoWires_161 (by decide) ?_
        refine zcS_xv (As := [.int 0]) (rest := []) (n9 := 1) C hw (c_X7_checkFlips l hst D y base S130 0 ) gX7_twoWires_X7_checkFlips rfl (by decide +kernel) ⟨⟨rfl, rfl⟩, Nat.le_of_ble_eq_true rfl, Nat.le_of_ble_eq_true rfl⟩ rfl hl.1 rfl (Nat.le_of_ble_eq_true rfl) ⟨Nat.le_of_ble_eq_true rfl, Nat.le_of_ble_eq_true rfl⟩ dX7_twoWires_162 (fun E ce q9 S162 H locs hx162 hw h1 h2 h3 => zxout hw hx0 hlocks h1 h2 h3 (by obtain ⟨rfl, hc9, rfl⟩ := hx162; first | exact absurd (by decide) hc9 | exact ⟨Or.inr (Or.inr ⟨rfl, (by have hng := mt hg139.mpr (fun q => q c142); unfold kd_two; grind)⟩), hp130.1.2.2⟩ | exact ⟨Or.inr (Or.inr ⟨rfl, (by have hng := mt hg151.mpr (fun q => q c154); unfold kd_two; grind)⟩), hp130.1.2.2⟩) ⟨Nat.le_of_ble_eq_true rfl, Nat.le_of_ble_eq_true rfl⟩) (fun S162 H locs hp162 hw => ?_)
        obtain ⟨hp162, hS9⟩ := hp162
        have hS9 := hS9.symm
        subst hS9
        exact (show False from (hp162 rfl)).elim
      · refine lv_iconst (v := 1) hx hb dX7_twoWires_157 (by decide) ?_
        refine lv_goto (tgt := 162) hx hb dX7_twoWires_158 (by decide) ?_
        refine zcS_xv (As := [.int 1]) (rest := []) (n9 := 1) C hw (c_X7_checkFlips l hst D y base S130 1 ) gX7_twoWires_X7_checkFlips rfl (by decide +kernel) ⟨⟨rfl, rfl⟩, Nat.le_of_ble_eq_true rfl, Nat.le_of_ble_eq_true rfl⟩ rfl hl.1 rfl (Nat.le_of_ble_eq_true rfl) ⟨Nat.le_of_ble_eq_true rfl, Nat.le_of_ble_eq_true rfl⟩ dX7_twoWires_162 (fun E ce q9 S162 H locs hx162 hw h1 h2 h3 => zxout hw hx0 hlocks h1 h2 h3 (by obtain ⟨rfl, hc9, rfl⟩ := hx162; first | exact absurd (by decide) hc9 | exact ⟨Or.inr (Or.inr ⟨rfl, (by have hng := mt hg139.mpr (fun q => q c142); unfold kd_two; grind)⟩), hp130.1.2.2⟩ | exact ⟨Or.inr (Or.inr ⟨rfl, (by have hng := mt hg151.mpr (fun q => q c154); unfold kd_two; grind)⟩), hp130.1.2.2⟩) ⟨Nat.le_of_ble_eq_true rfl, Nat.le_of_ble_eq_true rfl⟩) (fun S162 H locs hp162 hw => ?_)
        obtain ⟨hp162, hS9⟩ := hp162
        have hS9 := hS9.symm
        subst hS9
        refine lv_aload_n hx hb dX7_twoWires_165 rfl (lv_at hl 1 rfl) ?_
        refine g_Ph_wires (a := (a 0)) (v := (a 1)) C hw hX130.1 in_X7 (by decide +kernel) hX130.2.1 dX7_twoWires_166 ?_
        refine lv_iload_n hx hb dX7_twoWires_169 rfl (lv_at hl 2 rfl) ?_
        refine zald_P (a := (a 1)) (v := w1) C hw hX130.2.2.2.2.2.2.1 (by decide) (t0 := 3) rfl rfl hX130.2.2.2.2.2.2.2.1 (zin_of (N := 4) (by decide) (by grind) (by grind)) eP1b dX7_twoWires_170 ?_
        refine zcV_v (As := []) (rest := []) (n9 := 0) (b := w1) C hw (c_X6_flipSent l D y base S130 w1 t1 n1 hW130_a) gX7_twoWires_X6_flipSent rfl (by decide +kernel) ⟨⟨rfl, rfl⟩, Nat.le_of_ble_eq_true rfl, Nat.le_of_ble_eq_true rfl⟩ hW130_a.1 ⟨by decide, by decide⟩ rfl rfl hl.1 rfl (Nat.le_of_ble_eq_true rfl) ⟨Nat.le_of_ble_eq_true rfl, Nat.le_of_ble_eq_true rfl⟩ dX7_twoWires_171 (fun S171 H locs hp171 hw => ?_)
        have hX171 := zX.fix hp171.1 hX130
        have h181_171 := (hp171.2.1 181 (a 0) (Or.inr (by decide))).trans h181b
        have hW171_b := zWire.fix hp171.1 hW130_b
        have ePb_171 := (congrFun (congrFun hp171.1.2.2.2 (a 1)) p1.toNatClampNeg).trans eP2b
        refine lv_aload_n hx hb dX7_twoWires_174 rfl (lv_at hl 1 rfl) ?_
        refine g_Ph_wires (a := (a 0)) (v := (a 1)) C hw hX171.1 in_X7 (by decide +kernel) hX171.2.1 dX7_twoWires_175 ?_
        refine lv_iload_n hx hb dX7_twoWires_178 rfl (lv_at hl 3 rfl) ?_
        refine zald_P (a := (a 1)) (v := w2) C hw hX171.2.2.2.2.2.2.1 (by decide) (t0 := 3) rfl rfl hX171.2.2.2.2.2.2.2.1 (zin_of (N := 4) (by decide) (by grind) (by grind)) ePb_171 dX7_twoWires_179 ?_
        refine zcV_v (As := []) (rest := []) (n9 := 0) (b := w2) C hw (c_X6_flipSent l D y base S171 w2 t2 n2 hW171_b) gX7_twoWires_X6_flipSent rfl (by decide +kernel) ⟨⟨rfl, rfl⟩, Nat.le_of_ble_eq_true rfl, Nat.le_of_ble_eq_true rfl⟩ hW171_b.1 ⟨by decide, by decide⟩ rfl rfl hl.1 rfl (Nat.le_of_ble_eq_true rfl) ⟨Nat.le_of_ble_eq_true rfl, Nat.le_of_ble_eq_true rfl⟩ dX7_twoWires_180 (fun S180 H locs hp180 hw => ?_)
        have hX180 := zX.fix hp180.1 hX171
        have h181_180 := (hp180.2.1 181 (a 0) (Or.inr (by decide))).trans h181_171
        refine lv_aload_n hx hb dX7_twoWires_183 rfl (lv_at hl 1 rfl) ?_
        refine lv_iload hx hb dX7_twoWires_184 (lv_at hl 8 rfl) ?_
        refine lv_bipush (v := 57) hx hb dX7_twoWires_186 (by decide) ?_
        refine lv_iload hx hb dX7_twoWires_188 (lv_at hl 9 rfl) ?_
        refine lv_imul hx hb dX7_twoWires_190 ?_
        refine zcV_i (As := [.int p6, .int (57 * p7)]) (rest := []) (n9 := 2) (b := (a 0)) C hw (c_X7_tickBehind l D y base S180 (a 0) p6 (57 * p7) hX180.1 h181_180) gX7_twoWires_X7_tickBehind rfl (by decide +kernel) ⟨⟨rfl, rfl⟩, Nat.le_of_ble_eq_true rfl, Nat.le_of_ble_eq_true rfl⟩ hX180.1 ⟨by decide, by decide⟩ rfl rfl hl.1 rfl (Nat.le_of_ble_eq_true rfl) ⟨Nat.le_of_ble_eq_true rfl, Nat.le_of_ble_eq_true rfl⟩ dX7_twoWires_191 (fun r191 S191 H locs hp191 hw => ?_)
        obtain ⟨rfl, hS9⟩ := hp191
        have hS9 := hS9.symm
        subst hS9
        exact vx_ret (zri C hw hr hlocks rfl ⟨rfl, (by have hg1 := hg139.mp c142; have hg2 := hg151.mp c154; unfold kd_two; grind), hp130.1.2.2.tr ((zCls.flp hp171).tr (zCls.flp hp180))⟩ ⟨Nat.le_of_ble_eq_true rfl, Nat.le_of_ble_eq_true rfl⟩ dX7_twoWires_194)

set_option maxHeartbeats 4000000 in
set_option maxRecDepth 100000 in
/-- X7_fourWires -/
theorem c_X7_fourWires (l : Launch) (hst : l.stackTraces = false) (D : va_G) (y : Nat → ClassId) (base : Nat) (S : zS) (a : Nat → Nat) (p0 : Int32) (p1 : Int32) (p2 : Int32) (p3 : Int32) (p4 : Int32) (p5 : Int32) (p6 : Int32) (hX : zX S a) (h0 : zX0 S a) : zXi l yX7_fourWires wsX7_fourWires ({ frames := 8, cells := 11, slots := 66, locals := 133 }) [.ref (a 0), .int p0, .int p1, .int p2, .int p3, .int p4, .int p5, .int p6] D y base S (fun (r : Int32) (S1 : zS) => r = p4 + 17 * p5 ∧ kd_four p0 p1 p2 p3 p4 p5 p6 = 0 ∧ zCls S S1) (fun (E : String) (S1 : zS) => ((E = "java/lang/IndexOutOfBoundsException" ∧ kd_four p0 p1 p2 p3 p4 p5 p6 = 1) ∨ (E = "java/lang/IllegalArgumentException" ∧ kd_four p0 p1 p2 p3 p4 p5 p6 = 2) ∨ (E = "java/lang/IllegalStateException" ∧ kd_four p0 p1 p2 p3 p4 p5 p6 = 3)) ∧ zCls S S1) 11 66 := by
  refine zXet_of (cc := cX7_fourWires) (maxL := 9) (ret := (some .int)) (own := RX7) (by decide +kernel) rfl rfl (Nat.le_of_ble_eq_true rfl) ?_
  intro p e s m args below meth c ls C hr hlocks hx0 hw hl
  have hx := C.1
  have hb := C.2.1
  have hown := C.2.2.2.1
  have hts := C.2.2.2.2
  have hl : lv_has ls 9 [(0, .ref (a 0)), (1, .int p0), (2, .int p1), (3, .int p2), (4, .int p3), (5, .int p4), (6, .int p5), (7, .int p6)] := hl
  have in_X7 : ∀ w ∈ wsX70, w ∈ wsX7_fourWires := by decide +kernel
  refine lv_iload_n hx hb dX7_fourWires_0 rfl (lv_at hl 1 rfl) ?_
  refine zcS_xv (As := [.int p0]) (rest := []) (n9 := 1) C hw (c_X7_checkWire l hst D y base S p0 ) gX7_fourWires_X7_checkWire rfl (by decide +kernel) ⟨⟨rfl, rfl⟩, Nat.le_of_ble_eq_true rfl, Nat.le_of_ble_eq_true rfl⟩ rfl hl.1 rfl (Nat.le_of_ble_eq_true rfl) ⟨Nat.le_of_ble_eq_true rfl, Nat.le_of_ble_eq_true rfl⟩ dX7_fourWires_1 (fun E ce q9 S1 H locs hx1 hw h1 h2 h3 => zxout hw hx0 hlocks h1 h2 h3 (by obtain ⟨rfl, hc9, rfl⟩ := hx1; refine ⟨?_, zCls.rf⟩; first | exact (Or.inl ⟨rfl, (by unfold kd_four; grind)⟩) | exact (Or.inr (Or.inl ⟨rfl, (by unfold kd_four; grind)⟩)) | exact (Or.inr (Or.inr ⟨rfl, (by unfold kd_four; grind)⟩))) ⟨Nat.le_of_ble_eq_true rfl, Nat.le_of_ble_eq_true rfl⟩) (fun S1 H locs hp1 hw => ?_)
  obtain ⟨hp1, hS9⟩ := hp1
  have hS9 := hS9.symm
  subst hS9
  refine lv_iload_n hx hb dX7_fourWires_4 rfl (lv_at hl 2 rfl) ?_
  refine zcS_xv (As := [.int p1]) (rest := []) (n9 := 1) C hw (c_X7_checkWire l hst D y base S p1 ) gX7_fourWires_X7_checkWire rfl (by decide +kernel) ⟨⟨rfl, rfl⟩, Nat.le_of_ble_eq_true rfl, Nat.le_of_ble_eq_true rfl⟩ rfl hl.1 rfl (Nat.le_of_ble_eq_true rfl) ⟨Nat.le_of_ble_eq_true rfl, Nat.le_of_ble_eq_true rfl⟩ dX7_fourWires_5 (fun E ce q9 S5 H locs hx5 hw h1 h2 h3 => zxout hw hx0 hlocks h1 h2 h3 (by obtain ⟨rfl, hc9, rfl⟩ := hx5; refine ⟨?_, zCls.rf⟩; first | exact (Or.inl ⟨rfl, (by unfold kd_four; grind)⟩) | exact (Or.inr (Or.inl ⟨rfl, (by unfold kd_four; grind)⟩)) | exact (Or.inr (Or.inr ⟨rfl, (by unfold kd_four; grind)⟩))) ⟨Nat.le_of_ble_eq_true rfl, Nat.le_of_ble_eq_true rfl⟩) (fun S5 H locs hp5 hw => ?_)
  obtain ⟨hp5, hS9⟩ := hp5
  have hS9 := hS9.symm
  subst hS9
  refine lv_iload_n hx hb dX7_fourWires_8 rfl (lv_at hl 3 rfl) ?_
  refine zcS_xv (As := [.int p2]) (rest := []) (n9 := 1) C hw (c_X7_checkWire l hst D y base S p2 ) gX7_fourWires_X7_checkWire rfl (by decide +kernel) ⟨⟨rfl, rfl⟩, Nat.le_of_ble_eq_true rfl, Nat.le_of_ble_eq_true rfl⟩ rfl hl.1 rfl (Nat.le_of_ble_eq_true rfl) ⟨Nat.le_of_ble_eq_true rfl, Nat.le_of_ble_eq_true rfl⟩ dX7_fourWires_9 (fun E ce q9 S9 H locs hx9 hw h1 h2 h3 => zxout hw hx0 hlocks h1 h2 h3 (by obtain ⟨rfl, hc9, rfl⟩ := hx9; refine ⟨?_, zCls.rf⟩; first | exact (Or.inl ⟨rfl, (by unfold kd_four; grind)⟩) | exact (Or.inr (Or.inl ⟨rfl, (by unfold kd_four; grind)⟩)) | exact (Or.inr (Or.inr ⟨rfl, (by unfold kd_four; grind)⟩))) ⟨Nat.le_of_ble_eq_true rfl, Nat.le_of_ble_eq_true rfl⟩) (fun S9 H locs hp9 hw => ?_)
  obtain ⟨hp9, hS9⟩ := hp9
  have hS9 := hS9.symm
  subst hS9
  refine lv_iload hx hb dX7_fourWires_12 (lv_at hl 4 rfl) ?_
  refine lv_iconst (v := 0) hx hb dX7_fourWires_14 (by decide) ?_
  refine lv_sipush (v := 255) hx hb dX7_fourWires_15 (by decide) ?_
  refine zcS_xv (As := [.int p3, .int 0, .int 255]) (rest := []) (n9 := 3) C hw (c_X7_checkRange l hst D y base S p3 0 255 ) gX7_fourWires_X7_checkRange rfl (by decide +kernel) ⟨⟨rfl, rfl⟩, Nat.le_of_ble_eq_true rfl, Nat.le_of_ble_eq_true rfl⟩ rfl hl.1 rfl (Nat.le_of_ble_eq_true rfl) ⟨Nat.le_of_ble_eq_true rfl, Nat.le_of_ble_eq_true rfl⟩ dX7_fourWires_18 (fun E ce q9 S18 H locs hx18 hw h1 h2 h3 => zxout hw hx0 hlocks h1 h2 h3 (by obtain ⟨rfl, hc9, rfl⟩ := hx18; refine ⟨?_, zCls.rf⟩; first | exact (Or.inl ⟨rfl, (by unfold kd_four; grind)⟩) | exact (Or.inr (Or.inl ⟨rfl, (by unfold kd_four; grind)⟩)) | exact (Or.inr (Or.inr ⟨rfl, (by unfold kd_four; grind)⟩))) ⟨Nat.le_of_ble_eq_true rfl, Nat.le_of_ble_eq_true rfl⟩) (fun S18 H locs hp18 hw => ?_)
  obtain ⟨hp18, hS9⟩ := hp18
  have hS9 := hS9.symm
  subst hS9
  refine lv_iload hx hb dX7_fourWires_21 (lv_at hl 5 rfl) ?_
  refine lv_iconst (v := 0) hx hb dX7_fourWires_23 (by decide) ?_
  refine lv_sipush (v := 9999) hx hb dX7_fourWires_24 (by decide) ?_
  refine zcS_xv (As := [.int p4, .int 0, .int 9999]) (rest := []) (n9 := 3) C hw (c_X7_checkRange l hst D y base S p4 0 9999 ) gX7_fourWires_X7_checkRange rfl (by decide +kernel) ⟨⟨rfl, rfl⟩, Nat.le_of_ble_eq_true rfl, Nat.le_of_ble_eq_true rfl⟩ rfl hl.1 rfl (Nat.le_of_ble_eq_true rfl) ⟨Nat.le_of_ble_eq_true rfl, Nat.le_of_ble_eq_true rfl⟩ dX7_fourWires_27 (fun E ce q9 S27 H locs hx27 hw h1 h2 h3 => zxout hw hx0 hlocks h1 h2 h3 (by obtain ⟨rfl, hc9, rfl⟩ := hx27; refine ⟨?_, zCls.rf⟩; first | exact (Or.inl ⟨rfl, (by unfold kd_four; grind)⟩) | exact (Or.inr (Or.inl ⟨rfl, (by unfold kd_four; grind)⟩)) | exact (Or.inr (Or.inr ⟨rfl, (by unfold kd_four; grind)⟩))) ⟨Nat.le_of_ble_eq_true rfl, Nat.le_of_ble_eq_true rfl⟩) (fun S27 H locs hp27 hw => ?_)
  obtain ⟨hp27, hS9⟩ := hp27
  have hS9 := hS9.symm
  subst hS9
  refine lv_iload hx hb dX7_fourWires_30 (lv_at hl 6 rfl) ?_
  refine lv_iconst (v := 1) hx hb dX7_fourWires_32 (by decide) ?_
  refine lv_bipush (v := 50) hx hb dX7_fourWires_33 (by decide) ?_
  refine zcS_xv (As := [.int p5, .int 1, .int 50]) (rest := []) (n9 := 3) C hw (c_X7_checkRange l hst D y base S p5 1 50 ) gX7_fourWires_X7_checkRange rfl (by decide +kernel) ⟨⟨rfl, rfl⟩, Nat.le_of_ble_eq_true rfl, Nat.le_of_ble_eq_true rfl⟩ rfl hl.1 rfl (Nat.le_of_ble_eq_true rfl) ⟨Nat.le_of_ble_eq_true rfl, Nat.le_of_ble_eq_true rfl⟩ dX7_fourWires_35 (fun E ce q9 S35 H locs hx35 hw h1 h2 h3 => zxout hw hx0 hlocks h1 h2 h3 (by obtain ⟨rfl, hc9, rfl⟩ := hx35; refine ⟨?_, zCls.rf⟩; first | exact (Or.inl ⟨rfl, (by unfold kd_four; grind)⟩) | exact (Or.inr (Or.inl ⟨rfl, (by unfold kd_four; grind)⟩)) | exact (Or.inr (Or.inr ⟨rfl, (by unfold kd_four; grind)⟩))) ⟨Nat.le_of_ble_eq_true rfl, Nat.le_of_ble_eq_true rfl⟩) (fun S35 H locs hp35 hw => ?_)
  obtain ⟨hp35, hS9⟩ := hp35
  have hS9 := hS9.symm
  subst hS9
  refine lv_iload hx hb dX7_fourWires_38 (lv_at hl 7 rfl) ?_
  refine lv_iconst (v := 0) hx hb dX7_fourWires_40 (by decide) ?_
  refine lv_iconst (v := 3) hx hb dX7_fourWires_41 (by decide) ?_
  refine zcS_xv (As := [.int p6, .int 0, .int 3]) (rest := []) (n9 := 3) C hw (c_X7_checkRange l hst D y base S p6 0 3 ) gX7_fourWires_X7_checkRange rfl (by decide +kernel) ⟨⟨rfl, rfl⟩, Nat.le_of_ble_eq_true rfl, Nat.le_of_ble_eq_true rfl⟩ rfl hl.1 rfl (Nat.le_of_ble_eq_true rfl) ⟨Nat.le_of_ble_eq_true rfl, Nat.le_of_ble_eq_true rfl⟩ dX7_fourWires_42 (fun E ce q9 S42 H locs hx42 hw h1 h2 h3 => zxout hw hx0 hlocks h1 h2 h3 (by obtain ⟨rfl, hc9, rfl⟩ := hx42; refine ⟨?_, zCls.rf⟩; first | exact (Or.inl ⟨rfl, (by unfold kd_four; grind)⟩) | exact (Or.inr (Or.inl ⟨rfl, (by unfold kd_four; grind)⟩)) | exact (Or.inr (Or.inr ⟨rfl, (by unfold kd_four; grind)⟩))) ⟨Nat.le_of_ble_eq_true rfl, Nat.le_of_ble_eq_true rfl⟩) (fun S42 H locs hp42 hw => ?_)
  obtain ⟨hp42, hS9⟩ := hp42
  have hS9 := hS9.symm
  subst hS9
  refine lv_iload_n hx hb dX7_fourWires_45 rfl (lv_at hl 1 rfl) ?_
  refine lv_iload_n hx hb dX7_fourWires_46 rfl (lv_at hl 2 rfl) ?_
  refine lv_iload_n hx hb dX7_fourWires_47 rfl (lv_at hl 3 rfl) ?_
  refine zcS_xv (As := [.int p0, .int p1, .int p2]) (rest := []) (n9 := 3) C hw (c_X7_checkThreeApart l hst D y base S p0 p1 p2 ) gX7_fourWires_X7_checkThreeApart rfl (by decide +kernel) ⟨⟨rfl, rfl⟩, Nat.le_of_ble_eq_true rfl, Nat.le_of_ble_eq_true rfl⟩ rfl hl.1 rfl (Nat.le_of_ble_eq_true rfl) ⟨Nat.le_of_ble_eq_true rfl, Nat.le_of_ble_eq_true rfl⟩ dX7_fourWires_48 (fun E ce q9 S48 H locs hx48 hw h1 h2 h3 => zxout hw hx0 hlocks h1 h2 h3 (by obtain ⟨rfl, hc9, rfl⟩ := hx48; refine ⟨?_, zCls.rf⟩; first | exact (Or.inl ⟨rfl, (by unfold kd_four; grind)⟩) | exact (Or.inr (Or.inl ⟨rfl, (by unfold kd_four; grind)⟩)) | exact (Or.inr (Or.inr ⟨rfl, (by unfold kd_four; grind)⟩))) ⟨Nat.le_of_ble_eq_true rfl, Nat.le_of_ble_eq_true rfl⟩) (fun S48 H locs hp48 hw => ?_)
  obtain ⟨hp48, hS9⟩ := hp48
  have hS9 := hS9.symm
  subst hS9
  refine lv_aload_n hx hb dX7_fourWires_51 rfl (lv_at hl 0 rfl) ?_
  refine lv_iload hx hb dX7_fourWires_52 (lv_at hl 5 rfl) ?_
  refine lv_bipush (v := 17) hx hb dX7_fourWires_54 (by decide) ?_
  refine lv_iload hx hb dX7_fourWires_56 (lv_at hl 6 rfl) ?_
  refine lv_imul hx hb dX7_fourWires_58 ?_
  refine zcV_i (As := [.int p4, .int (17 * p5)]) (rest := []) (n9 := 2) (b := (a 0)) C hw (c_X7_tickBehind l D y base S (a 0) p4 (17 * p5) hX.1 h0.2.2.2.2.1) gX7_fourWires_X7_tickBehind rfl (by decide +kernel) ⟨⟨rfl, rfl⟩, Nat.le_of_ble_eq_true rfl, Nat.le_of_ble_eq_true rfl⟩ hX.1 ⟨by decide, by decide⟩ rfl rfl hl.1 rfl (Nat.le_of_ble_eq_true rfl) ⟨Nat.le_of_ble_eq_true rfl, Nat.le_of_ble_eq_true rfl⟩ dX7_fourWires_59 (fun r59 S59 H locs hp59 hw => ?_)
  obtain ⟨rfl, hS9⟩ := hp59
  have hS9 := hS9.symm
  subst hS9
  refine zrd (x := (ztk p4 p5 17)) rfl ?_
  refine lv_istore (lv' := [(8, .int (ztk p4 p5 17)), (0, .ref (a 0)), (1, .int p0), (2, .int p1), (3, .int p2), (4, .int p3), (5, .int p4), (6, .int p5), (7, .int p6)]) hx hb dX7_fourWires_62 hl (by decide) rfl (fun ls hl => ?_)
  refine lv_aload_n hx hb dX7_fourWires_64 rfl (lv_at hl 1 rfl) ?_
  refine g_Ph_wires (a := (a 0)) (v := (a 1)) C hw hX.1 in_X7 (by decide +kernel) hX.2.1 dX7_fourWires_65 ?_
  refine lv_iload_n hx hb dX7_fourWires_68 rfl (lv_at hl 4 rfl) ?_
  obtain ⟨w1, t1, n1, eP1, hW1, eI1, eJ1, eA1, eB1⟩ := zX_w hX h0 (p := p0) hp1
  obtain ⟨w2, t2, n2, eP2, hW2, eI2, eJ2, eA2, eB2⟩ := zX_w hX h0 (p := p1) hp5
  obtain ⟨w3, t3, n3, eP3, hW3, eI3, eJ3, eA3, eB3⟩ := zX_w hX h0 (p := p2) hp9
  have hd12 : w1 ≠ w2 ∧ n1 ≠ n2 := (by have hn := zX_ne hX hp1 hp5 hp48.1; rw [← eA1, ← eA2, ← eB1, ← eB2] at hn; exact hn)
  have hd13 : w1 ≠ w3 ∧ n1 ≠ n3 := (by have hn := zX_ne hX hp1 hp9 hp48.2.1; rw [← eA1, ← eA3, ← eB1, ← eB3] at hn; exact hn)
  have hd23 : w2 ≠ w3 ∧ n2 ≠ n3 := (by have hn := zX_ne hX hp5 hp9 hp48.2.2; rw [← eA2, ← eA3, ← eB2, ← eB3] at hn; exact hn)
  refine zald_P (a := (a 1)) (v := w3) C hw hX.2.2.2.2.2.2.1 (by decide) (t0 := 3) rfl rfl hX.2.2.2.2.2.2.2.1 (zin_of (N := 4) (by decide) (by grind) (by grind)) eP3 dX7_fourWires_69 ?_
  refine lv_iload hx hb dX7_fourWires_70 (lv_at hl 6 rfl) ?_
  refine lv_iload hx hb dX7_fourWires_72 (lv_at hl 0 rfl) ?_
  refine zcS_v (As := [.ref w3, .int p4, .int (ztk p4 p5 17)]) (rest := []) (n9 := 3) C hw (c_X7_planSelect l D y base S w3 t3 n3 p4 (ztk p4 p5 17) p5 hW3 hp27 hp35 rfl) gX7_fourWires_X7_planSelect rfl (by decide +kernel) ⟨⟨rfl, rfl⟩, Nat.le_of_ble_eq_true rfl, Nat.le_of_ble_eq_true rfl⟩ rfl hl.1 rfl (Nat.le_of_ble_eq_true rfl) ⟨Nat.le_of_ble_eq_true rfl, Nat.le_of_ble_eq_true rfl⟩ dX7_fourWires_74 (fun S74 H locs hp74 hw => ?_)
  have hX74 := zX.fix hp74.1.1 hX
  have h74 := (hp74.1.2.1 181 (a 0) (Or.inr (by decide))).trans h0.2.2.2.2.1
  have hW74_1 := zWire.fix hp74.1.1 hW1
  have eQ1 := (congrFun (congrFun hp74.1.1.2.2.2 (a 1)) p0.toNatClampNeg).trans eP1
  have hW74_2 := zWire.fix hp74.1.1 hW2
  have eQ2 := (congrFun (congrFun hp74.1.1.2.2.2 (a 1)) p1.toNatClampNeg).trans eP2
  refine lv_aload_n hx hb dX7_fourWires_77 rfl (lv_at hl 1 rfl) ?_
  refine lv_aload_n hx hb dX7_fourWires_78 rfl (lv_at hl 1 rfl) ?_
  refine g_Ph_wires (a := (a 0)) (v := (a 1)) C hw hX74.1 in_X7 (by decide +kernel) hX74.2.1 dX7_fourWires_79 ?_
  refine lv_iload_n hx hb dX7_fourWires_82 rfl (lv_at hl 2 rfl) ?_
  refine zald_P (a := (a 1)) (v := w1) C hw hX74.2.2.2.2.2.2.1 (by decide) (t0 := 3) rfl rfl hX74.2.2.2.2.2.2.2.1 (zin_of (N := 4) (by decide) (by grind) (by grind)) eQ1 dX7_fourWires_83 ?_
  refine lv_iload hx hb dX7_fourWires_84 (lv_at hl 6 rfl) ?_
  refine lv_iload hx hb dX7_fourWires_86 (lv_at hl 7 rfl) ?_
  refine lv_iload hx hb dX7_fourWires_88 (lv_at hl 8 rfl) ?_
  refine lv_iconst (v := 2) hx hb dX7_fourWires_90 (by decide) ?_
  refine lv_icmp_lt (tgt := 98) hx hb dX7_fourWires_91 (by decide) (fun c91 => ?_) (fun c91 => ?_)
  · refine lv_iconst (v := 0) hx hb dX7_fourWires_98 (by decide) ?_
    refine zrd (x := (zge2 p6)) (by unfold zge2; rw [if_pos c91]) ?_
    refine zcV_v (As := [.ref w1, .int p4, .int p5, .int (zge2 p6)]) (rest := []) (n9 := 4) (b := (a 0)) C hw (c_X7_planFourClock l D y base S74 (a 0) w1 t1 n1 p4 p5 (zge2 p6) hW74_1 hX74.1 h74 (zge2_01 p6) hp27 hp35) gX7_fourWires_X7_planFourClock rfl (by decide +kernel) ⟨⟨rfl, rfl⟩, Nat.le_of_ble_eq_true rfl, Nat.le_of_ble_eq_true rfl⟩ hX74.1 ⟨by decide, by decide⟩ rfl rfl hl.1 rfl (Nat.le_of_ble_eq_true rfl) ⟨Nat.le_of_ble_eq_true rfl, Nat.le_of_ble_eq_true rfl⟩ dX7_fourWires_99 (fun S99 H locs hp99 hw => ?_)
    have hX99 := zX.fix hp99.1.1 hX74
    have h99 := (hp99.1.2.1 181 (a 0) (Or.inr (by decide))).trans h74
    have hW99_2 := zWire.fix hp99.1.1 hW74_2
    have eR2 := (congrFun (congrFun hp99.1.1.2.2.2 (a 1)) p1.toNatClampNeg).trans eQ2
    refine lv_aload_n hx hb dX7_fourWires_102 rfl (lv_at hl 1 rfl) ?_
    refine lv_aload_n hx hb dX7_fourWires_103 rfl (lv_at hl 1 rfl) ?_
    refine g_Ph_wires (a := (a 0)) (v := (a 1)) C hw hX99.1 in_X7 (by decide +kernel) hX99.2.1 dX7_fourWires_104 ?_
    refine lv_iload_n hx hb dX7_fourWires_107 rfl (lv_at hl 3 rfl) ?_
    refine zald_P (a := (a 1)) (v := w2) C hw hX99.2.2.2.2.2.2.1 (by decide) (t0 := 3) rfl rfl hX99.2.2.2.2.2.2.2.1 (zin_of (N := 4) (by decide) (by grind) (by grind)) eR2 dX7_fourWires_108 ?_
    refine lv_iload hx hb dX7_fourWires_109 (lv_at hl 5 rfl) ?_
    refine lv_iload hx hb dX7_fourWires_111 (lv_at hl 6 rfl) ?_
    refine lv_iload hx hb dX7_fourWires_113 (lv_at hl 7 rfl) ?_
    refine lv_iload hx hb dX7_fourWires_115 (lv_at hl 8 rfl) ?_
    refine lv_iconst (v := 2) hx hb dX7_fourWires_117 (by decide) ?_
    refine lv_irem hx hb dX7_fourWires_118 (by decide) ?_
    refine lv_iconst (v := 1) hx hb dX7_fourWires_119 (by decide) ?_
    refine lv_icmp_ne (tgt := 127) hx hb dX7_fourWires_120 (by decide) (fun c120 => ?_) (fun c120 => ?_)
    · refine lv_iconst (v := 0) hx hb dX7_fourWires_127 (by decide) ?_
      refine zrd (x := (zlt2 p6)) (by unfold zlt2; rw [if_neg c120]) ?_
      refine zcV_v (As := [.ref w2, .int p3, .int p4, .int p5, .int (zlt2 p6)]) (rest := []) (n9 := 5) (b := (a 0)) C hw (c_X7_planFourData l D y base S99 (a 0) w2 t2 n2 p3 p4 p5 (zlt2 p6) hW99_2 hX99.1 h99 hp27 hp35) gX7_fourWires_X7_planFourData rfl (by decide +kernel) ⟨⟨rfl, rfl⟩, Nat.le_of_ble_eq_true rfl, Nat.le_of_ble_eq_true rfl⟩ hX99.1 ⟨by decide, by decide⟩ rfl rfl hl.1 rfl (Nat.le_of_ble_eq_true rfl) ⟨Nat.le_of_ble_eq_true rfl, Nat.le_of_ble_eq_true rfl⟩ dX7_fourWires_128 (fun S128 H locs hp128 hw => ?_)
      have hPl : zPl S S128 := (zPl.chg hp74.1).tr ((zPl.chg hp99.1).tr (zPl.chg hp128.1))
      have hT1 := hp99.self.frame hp128.1 hd12.1 hd12.2
      have hT2 := hp128.self
      have hT3 := (hp74.self.frame hp99.1 (Ne.symm hd13.1) (Ne.symm hd13.2)).frame hp128.1 (Ne.symm hd23.1) (Ne.symm hd23.2)
      have hX128 := zX.fix hPl.1 hX
      have h128 := (hPl.2.1 181 (a 0) (by decide)).trans h0.2.2.2.2.1
      have hW128_1 := zWire.fix hPl.1 hW1
      have eF1 := (congrFun (congrFun hPl.1.2.2.2 (a 1)) p0.toNatClampNeg).trans eP1
      have hJ1 := (hPl.2.1 161 w1 (by decide)).trans eJ1
      have hW128_2 := zWire.fix hPl.1 hW2
      have eF2 := (congrFun (congrFun hPl.1.2.2.2 (a 1)) p1.toNatClampNeg).trans eP2
      have hJ2 := (hPl.2.1 161 w2 (by decide)).trans eJ2
      have hW128_3 := zWire.fix hPl.1 hW3
      have eF3 := (congrFun (congrFun hPl.1.2.2.2 (a 1)) p2.toNatClampNeg).trans eP3
      have hJ3 := (hPl.2.1 161 w3 (by decide)).trans eJ3
      refine lv_aload_n hx hb dX7_fourWires_131 rfl (lv_at hl 1 rfl) ?_
      refine g_Ph_wires (a := (a 0)) (v := (a 1)) C hw hX128.1 in_X7 (by decide +kernel) hX128.2.1 dX7_fourWires_132 ?_
      refine lv_iload_n hx hb dX7_fourWires_135 rfl (lv_at hl 2 rfl) ?_
      refine zald_P (a := (a 1)) (v := w1) C hw hX128.2.2.2.2.2.2.1 (by decide) (t0 := 3) rfl rfl hX128.2.2.2.2.2.2.2.1 (zin_of (N := 4) (by decide) (by grind) (by grind)) eF1 dX7_fourWires_136 ?_
      refine zcV_i (As := []) (rest := []) (n9 := 0) (b := w1) C hw (c_X6_takesSent l D y base S128 w1 t1 n1 S128 _ _ _ _ hW128_1 hT1 (by decide) hJ1) gX7_fourWires_X6_takesSent rfl (by decide +kernel) ⟨⟨rfl, rfl⟩, Nat.le_of_ble_eq_true rfl, Nat.le_of_ble_eq_true rfl⟩ hW128_1.1 ⟨by decide, by decide⟩ rfl rfl hl.1 rfl (Nat.le_of_ble_eq_true rfl) ⟨Nat.le_of_ble_eq_true rfl, Nat.le_of_ble_eq_true rfl⟩ dX7_fourWires_137 (fun r137 S137 H locs hp137 hw => ?_)
      obtain ⟨⟨hg137, hz137⟩, hS9⟩ := hp137
      have hS9 := hS9.symm
      subst hS9
      refine lv_if_eq (tgt := 171) hx hb dX7_fourWires_140 (by decide) (fun c140 => ?_) (fun c140 => ?_)
      · refine lv_iconst (v := 0) hx hb dX7_fourWires_171 (by decide) ?_
        refine zcS_xv (As := [.int 0]) (rest := []) (n9 := 1) C hw (c_X7_checkFlips l hst D y base S128 0 ) gX7_fourWires_X7_checkFlips rfl (by decide +kernel) ⟨⟨rfl, rfl⟩, Nat.le_of_ble_eq_true rfl, Nat.le_of_ble_eq_true rfl⟩ rfl hl.1 rfl (Nat.le_of_ble_eq_true rfl) ⟨Nat.le_of_ble_eq_true rfl, Nat.le_of_ble_eq_true rfl⟩ dX7_fourWires_172 (fun E ce q9 S172 H locs hx172 hw h1 h2 h3 => zxout hw hx0 hlocks h1 h2 h3 (by obtain ⟨rfl, hc9, rfl⟩ := hx172; first | exact absurd (by decide) hc9 | exact ⟨Or.inr (Or.inr ⟨rfl, (by have hng := mt hg137.mpr (fun q => q c140); unfold kd_four; grind)⟩), hPl.2.2⟩ | exact ⟨Or.inr (Or.inr ⟨rfl, (by have hng := mt hg149.mpr (fun q => q c152); unfold kd_four; grind)⟩), hPl.2.2⟩ | exact ⟨Or.inr (Or.inr ⟨rfl, (by have hng := mt hg161.mpr (fun q => q c164); unfold kd_four; grind)⟩), hPl.2.2⟩) ⟨Nat.le_of_ble_eq_true rfl, Nat.le_of_ble_eq_true rfl⟩) (fun S172 H locs hp172 hw => ?_)
        obtain ⟨hp172, hS9⟩ := hp172
        have hS9 := hS9.symm
        subst hS9
        exact (show False from (hp172 rfl)).elim
      · refine lv_aload_n hx hb dX7_fourWires_143 rfl (lv_at hl 1 rfl) ?_
        refine g_Ph_wires (a := (a 0)) (v := (a 1)) C hw hX128.1 in_X7 (by decide +kernel) hX128.2.1 dX7_fourWires_144 ?_
        refine lv_iload_n hx hb dX7_fourWires_147 rfl (lv_at hl 3 rfl) ?_
        refine zald_P (a := (a 1)) (v := w2) C hw hX128.2.2.2.2.2.2.1 (by decide) (t0 := 3) rfl rfl hX128.2.2.2.2.2.2.2.1 (zin_of (N := 4) (by decide) (by grind) (by grind)) eF2 dX7_fourWires_148 ?_
        refine zcV_i (As := []) (rest := []) (n9 := 0) (b := w2) C hw (c_X6_takesSent l D y base S128 w2 t2 n2 S128 _ _ _ _ hW128_2 hT2 (by decide) hJ2) gX7_fourWires_X6_takesSent rfl (by decide +kernel) ⟨⟨rfl, rfl⟩, Nat.le_of_ble_eq_true rfl, Nat.le_of_ble_eq_true rfl⟩ hW128_2.1 ⟨by decide, by decide⟩ rfl rfl hl.1 rfl (Nat.le_of_ble_eq_true rfl) ⟨Nat.le_of_ble_eq_true rfl, Nat.le_of_ble_eq_true rfl⟩ dX7_fourWires_149 (fun r149 S149 H locs hp149 hw => ?_)
        obtain ⟨⟨hg149, hz149⟩, hS9⟩ := hp149
        have hS9 := hS9.symm
        subst hS9
        refine lv_if_eq (tgt := 171) hx hb dX7_fourWires_152 (by decide) (fun c152 => ?_) (fun c152 => ?_)
        · refine lv_iconst (v := 0) hx hb dX7_fourWires_171 (by decide) ?_
          refine zcS_xv (As := [.int 0]) (rest := []) (n9 := 1) C hw (c_X7_checkFlips l hst D y base S128 0 ) gX7_fourWires_X7_checkFlips rfl (by decide +kernel) ⟨⟨rfl, rfl⟩, Nat.le_of_ble_eq_true rfl, Nat.le_of_ble_eq_true rfl⟩ rfl hl.1 rfl (Nat.le_of_ble_eq_true rfl) ⟨Nat.le_of_ble_eq_true rfl, Nat.le_of_ble_eq_true rfl⟩ dX7_fourWires_172 (fun E ce q9 S172 H locs hx172 hw h1 h2 h3 => zxout hw hx0 hlocks h1 h2 h3 (by obtain ⟨rfl, hc9, rfl⟩ := hx172; first | exact absurd (by decide) hc9 | exact ⟨Or.inr (Or.inr ⟨rfl, (by have hng := mt hg137.mpr (fun q => q c140); unfold kd_four; grind)⟩), hPl.2.2⟩ | exact ⟨Or.inr (Or.inr ⟨rfl, (by have hng := mt hg149.mpr (fun q => q c152); unfold kd_four; grind)⟩), hPl.2.2⟩ | exact ⟨Or.inr (Or.inr ⟨rfl, (by have hng := mt hg161.mpr (fun q => q c164); unfold kd_four; grind)⟩), hPl.2.2⟩) ⟨Nat.le_of_ble_eq_true rfl, Nat.le_of_ble_eq_true rfl⟩) (fun S172 H locs hp172 hw => ?_)
          obtain ⟨hp172, hS9⟩ := hp172
          have hS9 := hS9.symm
          subst hS9
          exact (show False from (hp172 rfl)).elim
        · refine lv_aload_n hx hb dX7_fourWires_155 rfl (lv_at hl 1 rfl) ?_
          refine g_Ph_wires (a := (a 0)) (v := (a 1)) C hw hX128.1 in_X7 (by decide +kernel) hX128.2.1 dX7_fourWires_156 ?_
          refine lv_iload_n hx hb dX7_fourWires_159 rfl (lv_at hl 4 rfl) ?_
          refine zald_P (a := (a 1)) (v := w3) C hw hX128.2.2.2.2.2.2.1 (by decide) (t0 := 3) rfl rfl hX128.2.2.2.2.2.2.2.1 (zin_of (N := 4) (by decide) (by grind) (by grind)) eF3 dX7_fourWires_160 ?_
          refine zcV_i (As := []) (rest := []) (n9 := 0) (b := w3) C hw (c_X6_takesSent l D y base S128 w3 t3 n3 S128 _ _ _ _ hW128_3 hT3 (by decide) hJ3) gX7_fourWires_X6_takesSent rfl (by decide +kernel) ⟨⟨rfl, rfl⟩, Nat.le_of_ble_eq_true rfl, Nat.le_of_ble_eq_true rfl⟩ hW128_3.1 ⟨by decide, by decide⟩ rfl rfl hl.1 rfl (Nat.le_of_ble_eq_true rfl) ⟨Nat.le_of_ble_eq_true rfl, Nat.le_of_ble_eq_true rfl⟩ dX7_fourWires_161 (fun r161 S161 H locs hp161 hw => ?_)
          obtain ⟨⟨hg161, hz161⟩, hS9⟩ := hp161
          have hS9 := hS9.symm
          subst hS9
          refine lv_if_eq (tgt := 171) hx hb dX7_fourWires_164 (by decide) (fun c164 => ?_) (fun c164 => ?_)
          · refine lv_iconst (v := 0) hx hb dX7_fourWires_171 (by decide) ?_
            refine zcS_xv (As := [.int 0]) (rest := []) (n9 := 1) C hw (c_X7_checkFlips l hst D y base S128 0 ) gX7_fourWires_X7_checkFlips rfl (by decide +kernel) ⟨⟨rfl, rfl⟩, Nat.le_of_ble_eq_true rfl, Nat.le_of_ble_eq_true rfl⟩ rfl hl.1 rfl (Nat.le_of_ble_eq_true rfl) ⟨Nat.le_of_ble_eq_true rfl, Nat.le_of_ble_eq_true rfl⟩ dX7_fourWires_172 (fun E ce q9 S172 H locs hx172 hw h1 h2 h3 => zxout hw hx0 hlocks h1 h2 h3 (by obtain ⟨rfl, hc9, rfl⟩ := hx172; first | exact absurd (by decide) hc9 | exact ⟨Or.inr (Or.inr ⟨rfl, (by have hng := mt hg137.mpr (fun q => q c140); unfold kd_four; grind)⟩), hPl.2.2⟩ | exact ⟨Or.inr (Or.inr ⟨rfl, (by have hng := mt hg149.mpr (fun q => q c152); unfold kd_four; grind)⟩), hPl.2.2⟩ | exact ⟨Or.inr (Or.inr ⟨rfl, (by have hng := mt hg161.mpr (fun q => q c164); unfold kd_four; grind)⟩), hPl.2.2⟩) ⟨Nat.le_of_ble_eq_true rfl, Nat.le_of_ble_eq_true rfl⟩) (fun S172 H locs hp172 hw => ?_)
            obtain ⟨hp172, hS9⟩ := hp172
            have hS9 := hS9.symm
            subst hS9
            exact (show False from (hp172 rfl)).elim
          · refine lv_iconst (v := 1) hx hb dX7_fourWires_167 (by decide) ?_
            refine lv_goto (tgt := 172) hx hb dX7_fourWires_168 (by decide) ?_
            refine zcS_xv (As := [.int 1]) (rest := []) (n9 := 1) C hw (c_X7_checkFlips l hst D y base S128 1 ) gX7_fourWires_X7_checkFlips rfl (by decide +kernel) ⟨⟨rfl, rfl⟩, Nat.le_of_ble_eq_true rfl, Nat.le_of_ble_eq_true rfl⟩ rfl hl.1 rfl (Nat.le_of_ble_eq_true rfl) ⟨Nat.le_of_ble_eq_true rfl, Nat.le_of_ble_eq_true rfl⟩ dX7_fourWires_172 (fun E ce q9 S172 H locs hx172 hw h1 h2 h3 => zxout hw hx0 hlocks h1 h2 h3 (by obtain ⟨rfl, hc9, rfl⟩ := hx172; first | exact absurd (by decide) hc9 | exact ⟨Or.inr (Or.inr ⟨rfl, (by have hng := mt hg137.mpr (fun q => q c140); unfold kd_four; grind)⟩), hPl.2.2⟩ | exact ⟨Or.inr (Or.inr ⟨rfl, (by have hng := mt hg149.mpr (fun q => q c152); unfold kd_four; grind)⟩), hPl.2.2⟩ | exact ⟨Or.inr (Or.inr ⟨rfl, (by have hng := mt hg161.mpr (fun q => q c164); unfold kd_four; grind)⟩), hPl.2.2⟩) ⟨Nat.le_of_ble_eq_true rfl, Nat.le_of_ble_eq_true rfl⟩) (fun S172 H locs hp172 hw => ?_)
            obtain ⟨hp172, hS9⟩ := hp172
            have hS9 := hS9.symm
            subst hS9
            refine lv_aload_n hx hb dX7_fourWires_175 rfl (lv_at hl 1 rfl) ?_
            refine g_Ph_wires (a := (a 0)) (v := (a 1)) C hw hX128.1 in_X7 (by decide +kernel) hX128.2.1 dX7_fourWires_176 ?_
            refine lv_iload_n hx hb dX7_fourWires_179 rfl (lv_at hl 2 rfl) ?_
            refine zald_P (a := (a 1)) (v := w1) C hw hX128.2.2.2.2.2.2.1 (by decide) (t0 := 3) rfl rfl hX128.2.2.2.2.2.2.2.1 (zin_of (N := 4) (by decide) (by grind) (by grind)) eF1 dX7_fourWires_180 ?_
            refine zcV_v (As := []) (rest := []) (n9 := 0) (b := w1) C hw (c_X6_flipSent l D y base S128 w1 t1 n1 hW128_1) gX7_fourWires_X6_flipSent rfl (by decide +kernel) ⟨⟨rfl, rfl⟩, Nat.le_of_ble_eq_true rfl, Nat.le_of_ble_eq_true rfl⟩ hW128_1.1 ⟨by decide, by decide⟩ rfl rfl hl.1 rfl (Nat.le_of_ble_eq_true rfl) ⟨Nat.le_of_ble_eq_true rfl, Nat.le_of_ble_eq_true rfl⟩ dX7_fourWires_181 (fun S181 H locs hp181 hw => ?_)
            have hX181 := zX.fix hp181.1 hX128
            have h181_181 := (hp181.2.1 181 (a 0) (Or.inr (by decide))).trans h128
            have hW181_b := zWire.fix hp181.1 hW128_2
            have ePb_181 := (congrFun (congrFun hp181.1.2.2.2 (a 1)) p1.toNatClampNeg).trans eF2
            have hW181_c := zWire.fix hp181.1 hW128_3
            have ePc_181 := (congrFun (congrFun hp181.1.2.2.2 (a 1)) p2.toNatClampNeg).trans eF3
            refine lv_aload_n hx hb dX7_fourWires_184 rfl (lv_at hl 1 rfl) ?_
            refine g_Ph_wires (a := (a 0)) (v := (a 1)) C hw hX181.1 in_X7 (by decide +kernel) hX181.2.1 dX7_fourWires_185 ?_
            refine lv_iload_n hx hb dX7_fourWires_188 rfl (lv_at hl 3 rfl) ?_
            refine zald_P (a := (a 1)) (v := w2) C hw hX181.2.2.2.2.2.2.1 (by decide) (t0 := 3) rfl rfl hX181.2.2.2.2.2.2.2.1 (zin_of (N := 4) (by decide) (by grind) (by grind)) ePb_181 dX7_fourWires_189 ?_
            refine zcV_v (As := []) (rest := []) (n9 := 0) (b := w2) C hw (c_X6_flipSent l D y base S181 w2 t2 n2 hW181_b) gX7_fourWires_X6_flipSent rfl (by decide +kernel) ⟨⟨rfl, rfl⟩, Nat.le_of_ble_eq_true rfl, Nat.le_of_ble_eq_true rfl⟩ hW181_b.1 ⟨by decide, by decide⟩ rfl rfl hl.1 rfl (Nat.le_of_ble_eq_true rfl) ⟨Nat.le_of_ble_eq_true rfl, Nat.le_of_ble_eq_true rfl⟩ dX7_fourWires_190 (fun S190 H locs hp190 hw => ?_)
            have hX190 := zX.fix hp190.1 hX181
            have h181_190 := (hp190.2.1 181 (a 0) (Or.inr (by decide))).trans h181_181
            have hW190_c := zWire.fix hp190.1 hW181_c
            have ePc_190 := (congrFun (congrFun hp190.1.2.2.2 (a 1)) p2.toNatClampNeg).trans ePc_181
            refine lv_aload_n hx hb dX7_fourWires_193 rfl (lv_at hl 1 rfl) ?_
            refine g_Ph_wires (a := (a 0)) (v := (a 1)) C hw hX190.1 in_X7 (by decide +kernel) hX190.2.1 dX7_fourWires_194 ?_
            refine lv_iload_n hx hb dX7_fourWires_197 rfl (lv_at hl 4 rfl) ?_
            refine zald_P (a := (a 1)) (v := w3) C hw hX190.2.2.2.2.2.2.1 (by decide) (t0 := 3) rfl rfl hX190.2.2.2.2.2.2.2.1 (zin_of (N := 4) (by decide) (by grind) (by grind)) ePc_190 dX7_fourWires_198 ?_
            refine zcV_v (As := []) (rest := []) (n9 := 0) (b := w3) C hw (c_X6_flipSent l D y base S190 w3 t3 n3 hW190_c) gX7_fourWires_X6_flipSent rfl (by decide +kernel) ⟨⟨rfl, rfl⟩, Nat.le_of_ble_eq_true rfl, Nat.le_of_ble_eq_true rfl⟩ hW190_c.1 ⟨by decide, by decide⟩ rfl rfl hl.1 rfl (Nat.le_of_ble_eq_true rfl) ⟨Nat.le_of_ble_eq_true rfl, Nat.le_of_ble_eq_true rfl⟩ dX7_fourWires_199 (fun S199 H locs hp199 hw => ?_)
            have hX199 := zX.fix hp199.1 hX190
            have h181_199 := (hp199.2.1 181 (a 0) (Or.inr (by decide))).trans h181_190
            refine lv_iload hx hb dX7_fourWires_202 (lv_at hl 0 rfl) ?_
            exact vx_ret (zri C hw hr hlocks rfl ⟨rfl, (by have hg1 := hg137.mp c140; have hg2 := hg149.mp c152; have hg3 := hg161.mp c164; unfold kd_four; grind), hPl.2.2.tr ((zCls.flp hp181).tr ((zCls.flp hp190).tr (zCls.flp hp199)))⟩ ⟨Nat.le_of_ble_eq_true rfl, Nat.le_of_ble_eq_true rfl⟩ dX7_fourWires_204)
    · refine lv_iconst (v := 1) hx hb dX7_fourWires_123 (by decide) ?_
      refine zrd (x := (zlt2 p6)) (by unfold zlt2; rw [if_pos c120]) ?_
      refine lv_goto (tgt := 128) hx hb dX7_fourWires_124 (by decide) ?_
      refine zcV_v (As := [.ref w2, .int p3, .int p4, .int p5, .int (zlt2 p6)]) (rest := []) (n9 := 5) (b := (a 0)) C hw (c_X7_planFourData l D y base S99 (a 0) w2 t2 n2 p3 p4 p5 (zlt2 p6) hW99_2 hX99.1 h99 hp27 hp35) gX7_fourWires_X7_planFourData rfl (by decide +kernel) ⟨⟨rfl, rfl⟩, Nat.le_of_ble_eq_true rfl, Nat.le_of_ble_eq_true rfl⟩ hX99.1 ⟨by decide, by decide⟩ rfl rfl hl.1 rfl (Nat.le_of_ble_eq_true rfl) ⟨Nat.le_of_ble_eq_true rfl, Nat.le_of_ble_eq_true rfl⟩ dX7_fourWires_128 (fun S128 H locs hp128 hw => ?_)
      have hPl : zPl S S128 := (zPl.chg hp74.1).tr ((zPl.chg hp99.1).tr (zPl.chg hp128.1))
      have hT1 := hp99.self.frame hp128.1 hd12.1 hd12.2
      have hT2 := hp128.self
      have hT3 := (hp74.self.frame hp99.1 (Ne.symm hd13.1) (Ne.symm hd13.2)).frame hp128.1 (Ne.symm hd23.1) (Ne.symm hd23.2)
      have hX128 := zX.fix hPl.1 hX
      have h128 := (hPl.2.1 181 (a 0) (by decide)).trans h0.2.2.2.2.1
      have hW128_1 := zWire.fix hPl.1 hW1
      have eF1 := (congrFun (congrFun hPl.1.2.2.2 (a 1)) p0.toNatClampNeg).trans eP1
      have hJ1 := (hPl.2.1 161 w1 (by decide)).trans eJ1
      have hW128_2 := zWire.fix hPl.1 hW2
      have eF2 := (congrFun (congrFun hPl.1.2.2.2 (a 1)) p1.toNatClampNeg).trans eP2
      have hJ2 := (hPl.2.1 161 w2 (by decide)).trans eJ2
      have hW128_3 := zWire.fix hPl.1 hW3
      have eF3 := (congrFun (congrFun hPl.1.2.2.2 (a 1)) p2.toNatClampNeg).trans eP3
      have hJ3 := (hPl.2.1 161 w3 (by decide)).trans eJ3
      refine lv_aload_n hx hb dX7_fourWires_131 rfl (lv_at hl 1 rfl) ?_
      refine g_Ph_wires (a := (a 0)) (v := (a 1)) C hw hX128.1 in_X7 (by decide +kernel) hX128.2.1 dX7_fourWires_132 ?_
      refine lv_iload_n hx hb dX7_fourWires_135 rfl (lv_at hl 2 rfl) ?_
      refine zald_P (a := (a 1)) (v := w1) C hw hX128.2.2.2.2.2.2.1 (by decide) (t0 := 3) rfl rfl hX128.2.2.2.2.2.2.2.1 (zin_of (N := 4) (by decide) (by grind) (by grind)) eF1 dX7_fourWires_136 ?_
      refine zcV_i (As := []) (rest := []) (n9 := 0) (b := w1) C hw (c_X6_takesSent l D y base S128 w1 t1 n1 S128 _ _ _ _ hW128_1 hT1 (by decide) hJ1) gX7_fourWires_X6_takesSent rfl (by decide +kernel) ⟨⟨rfl, rfl⟩, Nat.le_of_ble_eq_true rfl, Nat.le_of_ble_eq_true rfl⟩ hW128_1.1 ⟨by decide, by decide⟩ rfl rfl hl.1 rfl (Nat.le_of_ble_eq_true rfl) ⟨Nat.le_of_ble_eq_true rfl, Nat.le_of_ble_eq_true rfl⟩ dX7_fourWires_137 (fun r137 S137 H locs hp137 hw => ?_)
      obtain ⟨⟨hg137, hz137⟩, hS9⟩ := hp137
      have hS9 := hS9.symm
      subst hS9
      refine lv_if_eq (tgt := 171) hx hb dX7_fourWires_140 (by decide) (fun c140 => ?_) (fun c140 => ?_)
      · refine lv_iconst (v := 0) hx hb dX7_fourWires_171 (by decide) ?_
        refine zcS_xv (As := [.int 0]) (rest := []) (n9 := 1) C hw (c_X7_checkFlips l hst D y base S128 0 ) gX7_fourWires_X7_checkFlips rfl (by decide +kernel) ⟨⟨rfl, rfl⟩, Nat.le_of_ble_eq_true rfl, Nat.le_of_ble_eq_true rfl⟩ rfl hl.1 rfl (Nat.le_of_ble_eq_true rfl) ⟨Nat.le_of_ble_eq_true rfl, Nat.le_of_ble_eq_true rfl⟩ dX7_fourWires_172 (fun E ce q9 S172 H locs hx172 hw h1 h2 h3 => zxout hw hx0 hlocks h1 h2 h3 (by obtain ⟨rfl, hc9, rfl⟩ := hx172; first | exact absurd (by decide) hc9 | exact ⟨Or.inr (Or.inr ⟨rfl, (by have hng := mt hg137.mpr (fun q => q c140); unfold kd_four; grind)⟩), hPl.2.2⟩ | exact ⟨Or.inr (Or.inr ⟨rfl, (by have hng := mt hg149.mpr (fun q => q c152); unfold kd_four; grind)⟩), hPl.2.2⟩ | exact ⟨Or.inr (Or.inr ⟨rfl, (by have hng := mt hg161.mpr (fun q => q c164); unfold kd_four; grind)⟩), hPl.2.2⟩) ⟨Nat.le_of_ble_eq_true rfl, Nat.le_of_ble_eq_true rfl⟩) (fun S172 H locs hp172 hw => ?_)
        obtain ⟨hp172, hS9⟩ := hp172
        have hS9 := hS9.symm
        subst hS9
        exact (show False from (hp172 rfl)).elim
      · refine lv_aload_n hx hb dX7_fourWires_143 rfl (lv_at hl 1 rfl) ?_
        refine g_Ph_wires (a := (a 0)) (v := (a 1)) C hw hX128.1 in_X7 (by decide +kernel) hX128.2.1 dX7_fourWires_144 ?_
        refine lv_iload_n hx hb dX7_fourWires_147 rfl (lv_at hl 3 rfl) ?_
        refine zald_P (a := (a 1)) (v := w2) C hw hX128.2.2.2.2.2.2.1 (by decide) (t0 := 3) rfl rfl hX128.2.2.2.2.2.2.2.1 (zin_of (N := 4) (by decide) (by grind) (by grind)) eF2 dX7_fourWires_148 ?_
        refine zcV_i (As := []) (rest := []) (n9 := 0) (b := w2) C hw (c_X6_takesSent l D y base S128 w2 t2 n2 S128 _ _ _ _ hW128_2 hT2 (by decide) hJ2) gX7_fourWires_X6_takesSent rfl (by decide +kernel) ⟨⟨rfl, rfl⟩, Nat.le_of_ble_eq_true rfl, Nat.le_of_ble_eq_true rfl⟩ hW128_2.1 ⟨by decide, by decide⟩ rfl rfl hl.1 rfl (Nat.le_of_ble_eq_true rfl) ⟨Nat.le_of_ble_eq_true rfl, Nat.le_of_ble_eq_true rfl⟩ dX7_fourWires_149 (fun r149 S149 H locs hp149 hw => ?_)
        obtain ⟨⟨hg149, hz149⟩, hS9⟩ := hp149
        have hS9 := hS9.symm
        subst hS9
        refine lv_if_eq (tgt := 171) hx hb dX7_fourWires_152 (by decide) (fun c152 => ?_) (fun c152 => ?_)
        · refine lv_iconst (v := 0) hx hb dX7_fourWires_171 (by decide) ?_
          refine zcS_xv (As := [.int 0]) (rest := []) (n9 := 1) C hw (c_X7_checkFlips l hst D y base S128 0 ) gX7_fourWires_X7_checkFlips rfl (by decide +kernel) ⟨⟨rfl, rfl⟩, Nat.le_of_ble_eq_true rfl, Nat.le_of_ble_eq_true rfl⟩ rfl hl.1 rfl (Nat.le_of_ble_eq_true rfl) ⟨Nat.le_of_ble_eq_true rfl, Nat.le_of_ble_eq_true rfl⟩ dX7_fourWires_172 (fun E ce q9 S172 H locs hx172 hw h1 h2 h3 => zxout hw hx0 hlocks h1 h2 h3 (by obtain ⟨rfl, hc9, rfl⟩ := hx172; first | exact absurd (by decide) hc9 | exact ⟨Or.inr (Or.inr ⟨rfl, (by have hng := mt hg137.mpr (fun q => q c140); unfold kd_four; grind)⟩), hPl.2.2⟩ | exact ⟨Or.inr (Or.inr ⟨rfl, (by have hng := mt hg149.mpr (fun q => q c152); unfold kd_four; grind)⟩), hPl.2.2⟩ | exact ⟨Or.inr (Or.inr ⟨rfl, (by have hng := mt hg161.mpr (fun q => q c164); unfold kd_four; grind)⟩), hPl.2.2⟩) ⟨Nat.le_of_ble_eq_true rfl, Nat.le_of_ble_eq_true rfl⟩) (fun S172 H locs hp172 hw => ?_)
          obtain ⟨hp172, hS9⟩ := hp172
          have hS9 := hS9.symm
          subst hS9
          exact (show False from (hp172 rfl)).elim
        · refine lv_aload_n hx hb dX7_fourWires_155 rfl (lv_at hl 1 rfl) ?_
          refine g_Ph_wires (a := (a 0)) (v := (a 1)) C hw hX128.1 in_X7 (by decide +kernel) hX128.2.1 dX7_fourWires_156 ?_
          refine lv_iload_n hx hb dX7_fourWires_159 rfl (lv_at hl 4 rfl) ?_
          refine zald_P (a := (a 1)) (v := w3) C hw hX128.2.2.2.2.2.2.1 (by decide) (t0 := 3) rfl rfl hX128.2.2.2.2.2.2.2.1 (zin_of (N := 4) (by decide) (by grind) (by grind)) eF3 dX7_fourWires_160 ?_
          refine zcV_i (As := []) (rest := []) (n9 := 0) (b := w3) C hw (c_X6_takesSent l D y base S128 w3 t3 n3 S128 _ _ _ _ hW128_3 hT3 (by decide) hJ3) gX7_fourWires_X6_takesSent rfl (by decide +kernel) ⟨⟨rfl, rfl⟩, Nat.le_of_ble_eq_true rfl, Nat.le_of_ble_eq_true rfl⟩ hW128_3.1 ⟨by decide, by decide⟩ rfl rfl hl.1 rfl (Nat.le_of_ble_eq_true rfl) ⟨Nat.le_of_ble_eq_true rfl, Nat.le_of_ble_eq_true rfl⟩ dX7_fourWires_161 (fun r161 S161 H locs hp161 hw => ?_)
          obtain ⟨⟨hg161, hz161⟩, hS9⟩ := hp161
          have hS9 := hS9.symm
          subst hS9
          refine lv_if_eq (tgt := 171) hx hb dX7_fourWires_164 (by decide) (fun c164 => ?_) (fun c164 => ?_)
          · refine lv_iconst (v := 0) hx hb dX7_fourWires_171 (by decide) ?_
            refine zcS_xv (As := [.int 0]) (rest := []) (n9 := 1) C hw (c_X7_checkFlips l hst D y base S128 0 ) gX7_fourWires_X7_checkFlips rfl (by decide +kernel) ⟨⟨rfl, rfl⟩, Nat.le_of_ble_eq_true rfl, Nat.le_of_ble_eq_true rfl⟩ rfl hl.1 rfl (Nat.le_of_ble_eq_true rfl) ⟨Nat.le_of_ble_eq_true rfl, Nat.le_of_ble_eq_true rfl⟩ dX7_fourWires_172 (fun E ce q9 S172 H locs hx172 hw h1 h2 h3 => zxout hw hx0 hlocks h1 h2 h3 (by obtain ⟨rfl, hc9, rfl⟩ := hx172; first | exact absurd (by decide) hc9 | exact ⟨Or.inr (Or.inr ⟨rfl, (by have hng := mt hg137.mpr (fun q => q c140); unfold kd_four; grind)⟩), hPl.2.2⟩ | exact ⟨Or.inr (Or.inr ⟨rfl, (by have hng := mt hg149.mpr (fun q => q c152); unfold kd_four; grind)⟩), hPl.2.2⟩ | exact ⟨Or.inr (Or.inr ⟨rfl, (by have hng := mt hg161.mpr (fun q => q c164); unfold kd_four; grind)⟩), hPl.2.2⟩) ⟨Nat.le_of_ble_eq_true rfl, Nat.le_of_ble_eq_true rfl⟩) (fun S172 H locs hp172 hw => ?_)
            obtain ⟨hp172, hS9⟩ := hp172
            have hS9 := hS9.symm
            subst hS9
            exact (show False from (hp172 rfl)).elim
          · refine lv_iconst (v := 1) hx hb dX7_fourWires_167 (by decide) ?_
            refine lv_goto (tgt := 172) hx hb dX7_fourWires_168 (by decide) ?_
            refine zcS_xv (As := [.int 1]) (rest := []) (n9 := 1) C hw (c_X7_checkFlips l hst D y base S128 1 ) gX7_fourWires_X7_checkFlips rfl (by decide +kernel) ⟨⟨rfl, rfl⟩, Nat.le_of_ble_eq_true rfl, Nat.le_of_ble_eq_true rfl⟩ rfl hl.1 rfl (Nat.le_of_ble_eq_true rfl) ⟨Nat.le_of_ble_eq_true rfl, Nat.le_of_ble_eq_true rfl⟩ dX7_fourWires_172 (fun E ce q9 S172 H locs hx172 hw h1 h2 h3 => zxout hw hx0 hlocks h1 h2 h3 (by obtain ⟨rfl, hc9, rfl⟩ := hx172; first | exact absurd (by decide) hc9 | exact ⟨Or.inr (Or.inr ⟨rfl, (by have hng := mt hg137.mpr (fun q => q c140); unfold kd_four; grind)⟩), hPl.2.2⟩ | exact ⟨Or.inr (Or.inr ⟨rfl, (by have hng := mt hg149.mpr (fun q => q c152); unfold kd_four; grind)⟩), hPl.2.2⟩ | exact ⟨Or.inr (Or.inr ⟨rfl, (by have hng := mt hg161.mpr (fun q => q c164); unfold kd_four; grind)⟩), hPl.2.2⟩) ⟨Nat.le_of_ble_eq_true rfl, Nat.le_of_ble_eq_true rfl⟩) (fun S172 H locs hp172 hw => ?_)
            obtain ⟨hp172, hS9⟩ := hp172
            have hS9 := hS9.symm
            subst hS9
            refine lv_aload_n hx hb dX7_fourWires_175 rfl (lv_at hl 1 rfl) ?_
            refine g_Ph_wires (a := (a 0)) (v := (a 1)) C hw hX128.1 in_X7 (by decide +kernel) hX128.2.1 dX7_fourWires_176 ?_
            refine lv_iload_n hx hb dX7_fourWires_179 rfl (lv_at hl 2 rfl) ?_
            refine zald_P (a := (a 1)) (v := w1) C hw hX128.2.2.2.2.2.2.1 (by decide) (t0 := 3) rfl rfl hX128.2.2.2.2.2.2.2.1 (zin_of (N := 4) (by decide) (by grind) (by grind)) eF1 dX7_fourWires_180 ?_
            refine zcV_v (As := []) (rest := []) (n9 := 0) (b := w1) C hw (c_X6_flipSent l D y base S128 w1 t1 n1 hW128_1) gX7_fourWires_X6_flipSent rfl (by decide +kernel) ⟨⟨rfl, rfl⟩, Nat.le_of_ble_eq_true rfl, Nat.le_of_ble_eq_true rfl⟩ hW128_1.1 ⟨by decide, by decide⟩ rfl rfl hl.1 rfl (Nat.le_of_ble_eq_true rfl) ⟨Nat.le_of_ble_eq_true rfl, Nat.le_of_ble_eq_true rfl⟩ dX7_fourWires_181 (fun S181 H locs hp181 hw => ?_)
            have hX181 := zX.fix hp181.1 hX128
            have h181_181 := (hp181.2.1 181 (a 0) (Or.inr (by decide))).trans h128
            have hW181_b := zWire.fix hp181.1 hW128_2
            have ePb_181 := (congrFun (congrFun hp181.1.2.2.2 (a 1)) p1.toNatClampNeg).trans eF2
            have hW181_c := zWire.fix hp181.1 hW128_3
            have ePc_181 := (congrFun (congrFun hp181.1.2.2.2 (a 1)) p2.toNatClampNeg).trans eF3
            refine lv_aload_n hx hb dX7_fourWires_184 rfl (lv_at hl 1 rfl) ?_
            refine g_Ph_wires (a := (a 0)) (v := (a 1)) C hw hX181.1 in_X7 (by decide +kernel) hX181.2.1 dX7_fourWires_185 ?_
            refine lv_iload_n hx hb dX7_fourWires_188 rfl (lv_at hl 3 rfl) ?_
            refine zald_P (a := (a 1)) (v := w2) C hw hX181.2.2.2.2.2.2.1 (by decide) (t0 := 3) rfl rfl hX181.2.2.2.2.2.2.2.1 (zin_of (N := 4) (by decide) (by grind) (by grind)) ePb_181 dX7_fourWires_189 ?_
            refine zcV_v (As := []) (rest := []) (n9 := 0) (b := w2) C hw (c_X6_flipSent l D y base S181 w2 t2 n2 hW181_b) gX7_fourWires_X6_flipSent rfl (by decide +kernel) ⟨⟨rfl, rfl⟩, Nat.le_of_ble_eq_true rfl, Nat.le_of_ble_eq_true rfl⟩ hW181_b.1 ⟨by decide, by decide⟩ rfl rfl hl.1 rfl (Nat.le_of_ble_eq_true rfl) ⟨Nat.le_of_ble_eq_true rfl, Nat.le_of_ble_eq_true rfl⟩ dX7_fourWires_190 (fun S190 H locs hp190 hw => ?_)
            have hX190 := zX.fix hp190.1 hX181
            have h181_190 := (hp190.2.1 181 (a 0) (Or.inr (by decide))).trans h181_181
            have hW190_c := zWire.fix hp190.1 hW181_c
            have ePc_190 := (congrFun (congrFun hp190.1.2.2.2 (a 1)) p2.toNatClampNeg).trans ePc_181
            refine lv_aload_n hx hb dX7_fourWires_193 rfl (lv_at hl 1 rfl) ?_
            refine g_Ph_wires (a := (a 0)) (v := (a 1)) C hw hX190.1 in_X7 (by decide +kernel) hX190.2.1 dX7_fourWires_194 ?_
            refine lv_iload_n hx hb dX7_fourWires_197 rfl (lv_at hl 4 rfl) ?_
            refine zald_P (a := (a 1)) (v := w3) C hw hX190.2.2.2.2.2.2.1 (by decide) (t0 := 3) rfl rfl hX190.2.2.2.2.2.2.2.1 (zin_of (N := 4) (by decide) (by grind) (by grind)) ePc_190 dX7_fourWires_198 ?_
            refine zcV_v (As := []) (rest := []) (n9 := 0) (b := w3) C hw (c_X6_flipSent l D y base S190 w3 t3 n3 hW190_c) gX7_fourWires_X6_flipSent rfl (by decide +kernel) ⟨⟨rfl, rfl⟩, Nat.le_of_ble_eq_true rfl, Nat.le_of_ble_eq_true rfl⟩ hW190_c.1 ⟨by decide, by decide⟩ rfl rfl hl.1 rfl (Nat.le_of_ble_eq_true rfl) ⟨Nat.le_of_ble_eq_true rfl, Nat.le_of_ble_eq_true rfl⟩ dX7_fourWires_199 (fun S199 H locs hp199 hw => ?_)
            have hX199 := zX.fix hp199.1 hX190
            have h181_199 := (hp199.2.1 181 (a 0) (Or.inr (by decide))).trans h181_190
            refine lv_iload hx hb dX7_fourWires_202 (lv_at hl 0 rfl) ?_
            exact vx_ret (zri C hw hr hlocks rfl ⟨rfl, (by have hg1 := hg137.mp c140; have hg2 := hg149.mp c152; have hg3 := hg161.mp c164; unfold kd_four; grind), hPl.2.2.tr ((zCls.flp hp181).tr ((zCls.flp hp190).tr (zCls.flp hp199)))⟩ ⟨Nat.le_of_ble_eq_true rfl, Nat.le_of_ble_eq_true rfl⟩ dX7_fourWires_204)
  · refine lv_iconst (v := 1) hx hb dX7_fourWires_94 (by decide) ?_
    refine zrd (x := (zge2 p6)) (by unfold zge2; rw [if_neg c91]) ?_
    refine lv_goto (tgt := 99) hx hb dX7_fourWires_95 (by decide) ?_
    refine zcV_v (As := [.ref w1, .int p4, .int p5, .int (zge2 p6)]) (rest := []) (n9 := 4) (b := (a 0)) C hw (c_X7_planFourClock l D y base S74 (a 0) w1 t1 n1 p4 p5 (zge2 p6) hW74_1 hX74.1 h74 (zge2_01 p6) hp27 hp35) gX7_fourWires_X7_planFourClock rfl (by decide +kernel) ⟨⟨rfl, rfl⟩, Nat.le_of_ble_eq_true rfl, Nat.le_of_ble_eq_true rfl⟩ hX74.1 ⟨by decide, by decide⟩ rfl rfl hl.1 rfl (Nat.le_of_ble_eq_true rfl) ⟨Nat.le_of_ble_eq_true rfl, Nat.le_of_ble_eq_true rfl⟩ dX7_fourWires_99 (fun S99 H locs hp99 hw => ?_)
    have hX99 := zX.fix hp99.1.1 hX74
    have h99 := (hp99.1.2.1 181 (a 0) (Or.inr (by decide))).trans h74
    have hW99_2 := zWire.fix hp99.1.1 hW74_2
    have eR2 := (congrFun (congrFun hp99.1.1.2.2.2 (a 1)) p1.toNatClampNeg).trans eQ2
    refine lv_aload_n hx hb dX7_fourWires_102 rfl (lv_at hl 1 rfl) ?_
    refine lv_aload_n hx hb dX7_fourWires_103 rfl (lv_at hl 1 rfl) ?_
    refine g_Ph_wires (a := (a 0)) (v := (a 1)) C hw hX99.1 in_X7 (by decide +kernel) hX99.2.1 dX7_fourWires_104 ?_
    refine lv_iload_n hx hb dX7_fourWires_107 rfl (lv_at hl 3 rfl) ?_
    refine zald_P (a := (a 1)) (v := w2) C hw hX99.2.2.2.2.2.2.1 (by decide) (t0 := 3) rfl rfl hX99.2.2.2.2.2.2.2.1 (zin_of (N := 4) (by decide) (by grind) (by grind)) eR2 dX7_fourWires_108 ?_
    refine lv_iload hx hb dX7_fourWires_109 (lv_at hl 5 rfl) ?_
    refine lv_iload hx hb dX7_fourWires_111 (lv_at hl 6 rfl) ?_
    refine lv_iload hx hb dX7_fourWires_113 (lv_at hl 7 rfl) ?_
    refine lv_iload hx hb dX7_fourWires_115 (lv_at hl 8 rfl) ?_
    refine lv_iconst (v := 2) hx hb dX7_fourWires_117 (by decide) ?_
    refine lv_irem hx hb dX7_fourWires_118 (by decide) ?_
    refine lv_iconst (v := 1) hx hb dX7_fourWires_119 (by decide) ?_
    refine lv_icmp_ne (tgt := 127) hx hb dX7_fourWires_120 (by decide) (fun c120 => ?_) (fun c120 => ?_)
    · refine lv_iconst (v := 0) hx hb dX7_fourWires_127 (by decide) ?_
      refine zrd (x := (zlt2 p6)) (by unfold zlt2; rw [if_neg c120]) ?_
      refine zcV_v (As := [.ref w2, .int p3, .int p4, .int p5, .int (zlt2 p6)]) (rest := []) (n9 := 5) (b := (a 0)) C hw (c_X7_planFourData l D y base S99 (a 0) w2 t2 n2 p3 p4 p5 (zlt2 p6) hW99_2 hX99.1 h99 hp27 hp35) gX7_fourWires_X7_planFourData rfl (by decide +kernel) ⟨⟨rfl, rfl⟩, Nat.le_of_ble_eq_true rfl, Nat.le_of_ble_eq_true rfl⟩ hX99.1 ⟨by decide, by decide⟩ rfl rfl hl.1 rfl (Nat.le_of_ble_eq_true rfl) ⟨Nat.le_of_ble_eq_true rfl, Nat.le_of_ble_eq_true rfl⟩ dX7_fourWires_128 (fun S128 H locs hp128 hw => ?_)
      have hPl : zPl S S128 := (zPl.chg hp74.1).tr ((zPl.chg hp99.1).tr (zPl.chg hp128.1))
      have hT1 := hp99.self.frame hp128.1 hd12.1 hd12.2
      have hT2 := hp128.self
      have hT3 := (hp74.self.frame hp99.1 (Ne.symm hd13.1) (Ne.symm hd13.2)).frame hp128.1 (Ne.symm hd23.1) (Ne.symm hd23.2)
      have hX128 := zX.fix hPl.1 hX
      have h128 := (hPl.2.1 181 (a 0) (by decide)).trans h0.2.2.2.2.1
      have hW128_1 := zWire.fix hPl.1 hW1
      have eF1 := (congrFun (congrFun hPl.1.2.2.2 (a 1)) p0.toNatClampNeg).trans eP1
      have hJ1 := (hPl.2.1 161 w1 (by decide)).trans eJ1
      have hW128_2 := zWire.fix hPl.1 hW2
      have eF2 := (congrFun (congrFun hPl.1.2.2.2 (a 1)) p1.toNatClampNeg).trans eP2
      have hJ2 := (hPl.2.1 161 w2 (by decide)).trans eJ2
      have hW128_3 := zWire.fix hPl.1 hW3
      have eF3 := (congrFun (congrFun hPl.1.2.2.2 (a 1)) p2.toNatClampNeg).trans eP3
      have hJ3 := (hPl.2.1 161 w3 (by decide)).trans eJ3
      refine lv_aload_n hx hb dX7_fourWires_131 rfl (lv_at hl 1 rfl) ?_
      refine g_Ph_wires (a := (a 0)) (v := (a 1)) C hw hX128.1 in_X7 (by decide +kernel) hX128.2.1 dX7_fourWires_132 ?_
      refine lv_iload_n hx hb dX7_fourWires_135 rfl (lv_at hl 2 rfl) ?_
      refine zald_P (a := (a 1)) (v := w1) C hw hX128.2.2.2.2.2.2.1 (by decide) (t0 := 3) rfl rfl hX128.2.2.2.2.2.2.2.1 (zin_of (N := 4) (by decide) (by grind) (by grind)) eF1 dX7_fourWires_136 ?_
      refine zcV_i (As := []) (rest := []) (n9 := 0) (b := w1) C hw (c_X6_takesSent l D y base S128 w1 t1 n1 S128 _ _ _ _ hW128_1 hT1 (by decide) hJ1) gX7_fourWires_X6_takesSent rfl (by decide +kernel) ⟨⟨rfl, rfl⟩, Nat.le_of_ble_eq_true rfl, Nat.le_of_ble_eq_true rfl⟩ hW128_1.1 ⟨by decide, by decide⟩ rfl rfl hl.1 rfl (Nat.le_of_ble_eq_true rfl) ⟨Nat.le_of_ble_eq_true rfl, Nat.le_of_ble_eq_true rfl⟩ dX7_fourWires_137 (fun r137 S137 H locs hp137 hw => ?_)
      obtain ⟨⟨hg137, hz137⟩, hS9⟩ := hp137
      have hS9 := hS9.symm
      subst hS9
      refine lv_if_eq (tgt := 171) hx hb dX7_fourWires_140 (by decide) (fun c140 => ?_) (fun c140 => ?_)
      · refine lv_iconst (v := 0) hx hb dX7_fourWires_171 (by decide) ?_
        refine zcS_xv (As := [.int 0]) (rest := []) (n9 := 1) C hw (c_X7_checkFlips l hst D y base S128 0 ) gX7_fourWires_X7_checkFlips rfl (by decide +kernel) ⟨⟨rfl, rfl⟩, Nat.le_of_ble_eq_true rfl, Nat.le_of_ble_eq_true rfl⟩ rfl hl.1 rfl (Nat.le_of_ble_eq_true rfl) ⟨Nat.le_of_ble_eq_true rfl, Nat.le_of_ble_eq_true rfl⟩ dX7_fourWires_172 (fun E ce q9 S172 H locs hx172 hw h1 h2 h3 => zxout hw hx0 hlocks h1 h2 h3 (by obtain ⟨rfl, hc9, rfl⟩ := hx172; first | exact absurd (by decide) hc9 | exact ⟨Or.inr (Or.inr ⟨rfl, (by have hng := mt hg137.mpr (fun q => q c140); unfold kd_four; grind)⟩), hPl.2.2⟩ | exact ⟨Or.inr (Or.inr ⟨rfl, (by have hng := mt hg149.mpr (fun q => q c152); unfold kd_four; grind)⟩), hPl.2.2⟩ | exact ⟨Or.inr (Or.inr ⟨rfl, (by have hng := mt hg161.mpr (fun q => q c164); unfold kd_four; grind)⟩), hPl.2.2⟩) ⟨Nat.le_of_ble_eq_true rfl, Nat.le_of_ble_eq_true rfl⟩) (fun S172 H locs hp172 hw => ?_)
        obtain ⟨hp172, hS9⟩ := hp172
        have hS9 := hS9.symm
        subst hS9
        exact (show False from (hp172 rfl)).elim
      · refine lv_aload_n hx hb dX7_fourWires_143 rfl (lv_at hl 1 rfl) ?_
        refine g_Ph_wires (a := (a 0)) (v := (a 1)) C hw hX128.1 in_X7 (by decide +kernel) hX128.2.1 dX7_fourWires_144 ?_
        refine lv_iload_n hx hb dX7_fourWires_147 rfl (lv_at hl 3 rfl) ?_
        refine zald_P (a := (a 1)) (v := w2) C hw hX128.2.2.2.2.2.2.1 (by decide) (t0 := 3) rfl rfl hX128.2.2.2.2.2.2.2.1 (zin_of (N := 4) (by decide) (by grind) (by grind)) eF2 dX7_fourWires_148 ?_
        refine zcV_i (As := []) (rest := []) (n9 := 0) (b := w2) C hw (c_X6_takesSent l D y base S128 w2 t2 n2 S128 _ _ _ _ hW128_2 hT2 (by decide) hJ2) gX7_fourWires_X6_takesSent rfl (by decide +kernel) ⟨⟨rfl, rfl⟩, Nat.le_of_ble_eq_true rfl, Nat.le_of_ble_eq_true rfl⟩ hW128_2.1 ⟨by decide, by decide⟩ rfl rfl hl.1 rfl (Nat.le_of_ble_eq_true rfl) ⟨Nat.le_of_ble_eq_true rfl, Nat.le_of_ble_eq_true rfl⟩ dX7_fourWires_149 (fun r149 S149 H locs hp149 hw => ?_)
        obtain ⟨⟨hg149, hz149⟩, hS9⟩ := hp149
        have hS9 := hS9.symm
        subst hS9
        refine lv_if_eq (tgt := 171) hx hb dX7_fourWires_152 (by decide) (fun c152 => ?_) (fun c152 => ?_)
        · refine lv_iconst (v := 0) hx hb dX7_fourWires_171 (by decide) ?_
          refine zcS_xv (As := [.int 0]) (rest := []) (n9 := 1) C hw (c_X7_checkFlips l hst D y base S128 0 ) gX7_fourWires_X7_checkFlips rfl (by decide +kernel) ⟨⟨rfl, rfl⟩, Nat.le_of_ble_eq_true rfl, Nat.le_of_ble_eq_true rfl⟩ rfl hl.1 rfl (Nat.le_of_ble_eq_true rfl) ⟨Nat.le_of_ble_eq_true rfl, Nat.le_of_ble_eq_true rfl⟩ dX7_fourWires_172 (fun E ce q9 S172 H locs hx172 hw h1 h2 h3 => zxout hw hx0 hlocks h1 h2 h3 (by obtain ⟨rfl, hc9, rfl⟩ := hx172; first | exact absurd (by decide) hc9 | exact ⟨Or.inr (Or.inr ⟨rfl, (by have hng := mt hg137.mpr (fun q => q c140); unfold kd_four; grind)⟩), hPl.2.2⟩ | exact ⟨Or.inr (Or.inr ⟨rfl, (by have hng := mt hg149.mpr (fun q => q c152); unfold kd_four; grind)⟩), hPl.2.2⟩ | exact ⟨Or.inr (Or.inr ⟨rfl, (by have hng := mt hg161.mpr (fun q => q c164); unfold kd_four; grind)⟩), hPl.2.2⟩) ⟨Nat.le_of_ble_eq_true rfl, Nat.le_of_ble_eq_true rfl⟩) (fun S172 H locs hp172 hw => ?_)
          obtain ⟨hp172, hS9⟩ := hp172
          have hS9 := hS9.symm
          subst hS9
          exact (show False from (hp172 rfl)).elim
        · refine lv_aload_n hx hb dX7_fourWires_155 rfl (lv_at hl 1 rfl) ?_
          refine g_Ph_wires (a := (a 0)) (v := (a 1)) C hw hX128.1 in_X7 (by decide +kernel) hX128.2.1 dX7_fourWires_156 ?_
          refine lv_iload_n hx hb dX7_fourWires_159 rfl (lv_at hl 4 rfl) ?_
          refine zald_P (a := (a 1)) (v := w3) C hw hX128.2.2.2.2.2.2.1 (by decide) (t0 := 3) rfl rfl hX128.2.2.2.2.2.2.2.1 (zin_of (N := 4) (by decide) (by grind) (by grind)) eF3 dX7_fourWires_160 ?_
          refine zcV_i (As := []) (rest := []) (n9 := 0) (b := w3) C hw (c_X6_takesSent l D y base S128 w3 t3 n3 S128 _ _ _ _ hW128_3 hT3 (by decide) hJ3) gX7_fourWires_X6_takesSent rfl (by decide +kernel) ⟨⟨rfl, rfl⟩, Nat.le_of_ble_eq_true rfl, Nat.le_of_ble_eq_true rfl⟩ hW128_3.1 ⟨by decide, by decide⟩ rfl rfl hl.1 rfl (Nat.le_of_ble_eq_true rfl) ⟨Nat.le_of_ble_eq_true rfl, Nat.le_of_ble_eq_true rfl⟩ dX7_fourWires_161 (fun r161 S161 H locs hp161 hw => ?_)
          obtain ⟨⟨hg161, hz161⟩, hS9⟩ := hp161
          have hS9 := hS9.symm
          subst hS9
          refine lv_if_eq (tgt := 171) hx hb dX7_fourWires_164 (by decide) (fun c164 => ?_) (fun c164 => ?_)
          · refine lv_iconst (v := 0) hx hb dX7_fourWires_171 (by decide) ?_
            refine zcS_xv (As := [.int 0]) (rest := []) (n9 := 1) C hw (c_X7_checkFlips l hst D y base S128 0 ) gX7_fourWires_X7_checkFlips rfl (by decide +kernel) ⟨⟨rfl, rfl⟩, Nat.le_of_ble_eq_true rfl, Nat.le_of_ble_eq_true rfl⟩ rfl hl.1 rfl (Nat.le_of_ble_eq_true rfl) ⟨Nat.le_of_ble_eq_true rfl, Nat.le_of_ble_eq_true rfl⟩ dX7_fourWires_172 (fun E ce q9 S172 H locs hx172 hw h1 h2 h3 => zxout hw hx0 hlocks h1 h2 h3 (by obtain ⟨rfl, hc9, rfl⟩ := hx172; first | exact absurd (by decide) hc9 | exact ⟨Or.inr (Or.inr ⟨rfl, (by have hng := mt hg137.mpr (fun q => q c140); unfold kd_four; grind)⟩), hPl.2.2⟩ | exact ⟨Or.inr (Or.inr ⟨rfl, (by have hng := mt hg149.mpr (fun q => q c152); unfold kd_four; grind)⟩), hPl.2.2⟩ | exact ⟨Or.inr (Or.inr ⟨rfl, (by have hng := mt hg161.mpr (fun q => q c164); unfold kd_four; grind)⟩), hPl.2.2⟩) ⟨Nat.le_of_ble_eq_true rfl, Nat.le_of_ble_eq_true rfl⟩) (fun S172 H locs hp172 hw => ?_)
            obtain ⟨hp172, hS9⟩ := hp172
            have hS9 := hS9.symm
            subst hS9
            exact (show False from (hp172 rfl)).elim
          · refine lv_iconst (v := 1) hx hb dX7_fourWires_167 (by decide) ?_
            refine lv_goto (tgt := 172) hx hb dX7_fourWires_168 (by decide) ?_
            refine zcS_xv (As := [.int 1]) (rest := []) (n9 := 1) C hw (c_X7_checkFlips l hst D y base S128 1 ) gX7_fourWires_X7_checkFlips rfl (by decide +kernel) ⟨⟨rfl, rfl⟩, Nat.le_of_ble_eq_true rfl, Nat.le_of_ble_eq_true rfl⟩ rfl hl.1 rfl (Nat.le_of_ble_eq_true rfl) ⟨Nat.le_of_ble_eq_true rfl, Nat.le_of_ble_eq_true rfl⟩ dX7_fourWires_172 (fun E ce q9 S172 H locs hx172 hw h1 h2 h3 => zxout hw hx0 hlocks h1 h2 h3 (by obtain ⟨rfl, hc9, rfl⟩ := hx172; first | exact absurd (by decide) hc9 | exact ⟨Or.inr (Or.inr ⟨rfl, (by have hng := mt hg137.mpr (fun q => q c140); unfold kd_four; grind)⟩), hPl.2.2⟩ | exact ⟨Or.inr (Or.inr ⟨rfl, (by have hng := mt hg149.mpr (fun q => q c152); unfold kd_four; grind)⟩), hPl.2.2⟩ | exact ⟨Or.inr (Or.inr ⟨rfl, (by have hng := mt hg161.mpr (fun q => q c164); unfold kd_four; grind)⟩), hPl.2.2⟩) ⟨Nat.le_of_ble_eq_true rfl, Nat.le_of_ble_eq_true rfl⟩) (fun S172 H locs hp172 hw => ?_)
            obtain ⟨hp172, hS9⟩ := hp172
            have hS9 := hS9.symm
            subst hS9
            refine lv_aload_n hx hb dX7_fourWires_175 rfl (lv_at hl 1 rfl) ?_
            refine g_Ph_wires (a := (a 0)) (v := (a 1)) C hw hX128.1 in_X7 (by decide +kernel) hX128.2.1 dX7_fourWires_176 ?_
            refine lv_iload_n hx hb dX7_fourWires_179 rfl (lv_at hl 2 rfl) ?_
            refine zald_P (a := (a 1)) (v := w1) C hw hX128.2.2.2.2.2.2.1 (by decide) (t0 := 3) rfl rfl hX128.2.2.2.2.2.2.2.1 (zin_of (N := 4) (by decide) (by grind) (by grind)) eF1 dX7_fourWires_180 ?_
            refine zcV_v (As := []) (rest := []) (n9 := 0) (b := w1) C hw (c_X6_flipSent l D y base S128 w1 t1 n1 hW128_1) gX7_fourWires_X6_flipSent rfl (by decide +kernel) ⟨⟨rfl, rfl⟩, Nat.le_of_ble_eq_true rfl, Nat.le_of_ble_eq_true rfl⟩ hW128_1.1 ⟨by decide, by decide⟩ rfl rfl hl.1 rfl (Nat.le_of_ble_eq_true rfl) ⟨Nat.le_of_ble_eq_true rfl, Nat.le_of_ble_eq_true rfl⟩ dX7_fourWires_181 (fun S181 H locs hp181 hw => ?_)
            have hX181 := zX.fix hp181.1 hX128
            have h181_181 := (hp181.2.1 181 (a 0) (Or.inr (by decide))).trans h128
            have hW181_b := zWire.fix hp181.1 hW128_2
            have ePb_181 := (congrFun (congrFun hp181.1.2.2.2 (a 1)) p1.toNatClampNeg).trans eF2
            have hW181_c := zWire.fix hp181.1 hW128_3
            have ePc_181 := (congrFun (congrFun hp181.1.2.2.2 (a 1)) p2.toNatClampNeg).trans eF3
            refine lv_aload_n hx hb dX7_fourWires_184 rfl (lv_at hl 1 rfl) ?_
            refine g_Ph_wires (a := (a 0)) (v := (a 1)) C hw hX181.1 in_X7 (by decide +kernel) hX181.2.1 dX7_fourWires_185 ?_
            refine lv_iload_n hx hb dX7_fourWires_188 rfl (lv_at hl 3 rfl) ?_
            refine zald_P (a := (a 1)) (v := w2) C hw hX181.2.2.2.2.2.2.1 (by decide) (t0 := 3) rfl rfl hX181.2.2.2.2.2.2.2.1 (zin_of (N := 4) (by decide) (by grind) (by grind)) ePb_181 dX7_fourWires_189 ?_
            refine zcV_v (As := []) (rest := []) (n9 := 0) (b := w2) C hw (c_X6_flipSent l D y base S181 w2 t2 n2 hW181_b) gX7_fourWires_X6_flipSent rfl (by decide +kernel) ⟨⟨rfl, rfl⟩, Nat.le_of_ble_eq_true rfl, Nat.le_of_ble_eq_true rfl⟩ hW181_b.1 ⟨by decide, by decide⟩ rfl rfl hl.1 rfl (Nat.le_of_ble_eq_true rfl) ⟨Nat.le_of_ble_eq_true rfl, Nat.le_of_ble_eq_true rfl⟩ dX7_fourWires_190 (fun S190 H locs hp190 hw => ?_)
            have hX190 := zX.fix hp190.1 hX181
            have h181_190 := (hp190.2.1 181 (a 0) (Or.inr (by decide))).trans h181_181
            have hW190_c := zWire.fix hp190.1 hW181_c
            have ePc_190 := (congrFun (congrFun hp190.1.2.2.2 (a 1)) p2.toNatClampNeg).trans ePc_181
            refine lv_aload_n hx hb dX7_fourWires_193 rfl (lv_at hl 1 rfl) ?_
            refine g_Ph_wires (a := (a 0)) (v := (a 1)) C hw hX190.1 in_X7 (by decide +kernel) hX190.2.1 dX7_fourWires_194 ?_
            refine lv_iload_n hx hb dX7_fourWires_197 rfl (lv_at hl 4 rfl) ?_
            refine zald_P (a := (a 1)) (v := w3) C hw hX190.2.2.2.2.2.2.1 (by decide) (t0 := 3) rfl rfl hX190.2.2.2.2.2.2.2.1 (zin_of (N := 4) (by decide) (by grind) (by grind)) ePc_190 dX7_fourWires_198 ?_
            refine zcV_v (As := []) (rest := []) (n9 := 0) (b := w3) C hw (c_X6_flipSent l D y base S190 w3 t3 n3 hW190_c) gX7_fourWires_X6_flipSent rfl (by decide +kernel) ⟨⟨rfl, rfl⟩, Nat.le_of_ble_eq_true rfl, Nat.le_of_ble_eq_true rfl⟩ hW190_c.1 ⟨by decide, by decide⟩ rfl rfl hl.1 rfl (Nat.le_of_ble_eq_true rfl) ⟨Nat.le_of_ble_eq_true rfl, Nat.le_of_ble_eq_true rfl⟩ dX7_fourWires_199 (fun S199 H locs hp199 hw => ?_)
            have hX199 := zX.fix hp199.1 hX190
            have h181_199 := (hp199.2.1 181 (a 0) (Or.inr (by decide))).trans h181_190
            refine lv_iload hx hb dX7_fourWires_202 (lv_at hl 0 rfl) ?_
            exact vx_ret (zri C hw hr hlocks rfl ⟨rfl, (by have hg1 := hg137.mp c140; have hg2 := hg149.mp c152; have hg3 := hg161.mp c164; unfold kd_four; grind), hPl.2.2.tr ((zCls.flp hp181).tr ((zCls.flp hp190).tr (zCls.flp hp199)))⟩ ⟨Nat.le_of_ble_eq_true rfl, Nat.le_of_ble_eq_true rfl⟩ dX7_fourWires_204)
    · refine lv_iconst (v := 1) hx hb dX7_fourWires_123 (by decide) ?_
      refine zrd (x := (zlt2 p6)) (by unfold zlt2; rw [if_pos c120]) ?_
      refine lv_goto (tgt := 128) hx hb dX7_fourWires_124 (by decide) ?_
      refine zcV_v (As := [.ref w2, .int p3, .int p4, .int p5, .int (zlt2 p6)]) (rest := []) (n9 := 5) (b := (a 0)) C hw (c_X7_planFourData l D y base S99 (a 0) w2 t2 n2 p3 p4 p5 (zlt2 p6) hW99_2 hX99.1 h99 hp27 hp35) gX7_fourWires_X7_planFourData rfl (by decide +kernel) ⟨⟨rfl, rfl⟩, Nat.le_of_ble_eq_true rfl, Nat.le_of_ble_eq_true rfl⟩ hX99.1 ⟨by decide, by decide⟩ rfl rfl hl.1 rfl (Nat.le_of_ble_eq_true rfl) ⟨Nat.le_of_ble_eq_true rfl, Nat.le_of_ble_eq_true rfl⟩ dX7_fourWires_128 (fun S128 H locs hp128 hw => ?_)
      have hPl : zPl S S128 := (zPl.chg hp74.1).tr ((zPl.chg hp99.1).tr (zPl.chg hp128.1))
      have hT1 := hp99.self.frame hp128.1 hd12.1 hd12.2
      have hT2 := hp128.self
      have hT3 := (hp74.self.frame hp99.1 (Ne.symm hd13.1) (Ne.symm hd13.2)).frame hp128.1 (Ne.symm hd23.1) (Ne.symm hd23.2)
      have hX128 := zX.fix hPl.1 hX
      have h128 := (hPl.2.1 181 (a 0) (by decide)).trans h0.2.2.2.2.1
      have hW128_1 := zWire.fix hPl.1 hW1
      have eF1 := (congrFun (congrFun hPl.1.2.2.2 (a 1)) p0.toNatClampNeg).trans eP1
      have hJ1 := (hPl.2.1 161 w1 (by decide)).trans eJ1
      have hW128_2 := zWire.fix hPl.1 hW2
      have eF2 := (congrFun (congrFun hPl.1.2.2.2 (a 1)) p1.toNatClampNeg).trans eP2
      have hJ2 := (hPl.2.1 161 w2 (by decide)).trans eJ2
      have hW128_3 := zWire.fix hPl.1 hW3
      have eF3 := (congrFun (congrFun hPl.1.2.2.2 (a 1)) p2.toNatClampNeg).trans eP3
      have hJ3 := (hPl.2.1 161 w3 (by decide)).trans eJ3
      refine lv_aload_n hx hb dX7_fourWires_131 rfl (lv_at hl 1 rfl) ?_
      refine g_Ph_wires (a := (a 0)) (v := (a 1)) C hw hX128.1 in_X7 (by decide +kernel) hX128.2.1 dX7_fourWires_132 ?_
      refine lv_iload_n hx hb dX7_fourWires_135 rfl (lv_at hl 2 rfl) ?_
      refine zald_P (a := (a 1)) (v := w1) C hw hX128.2.2.2.2.2.2.1 (by decide) (t0 := 3) rfl rfl hX128.2.2.2.2.2.2.2.1 (zin_of (N := 4) (by decide) (by grind) (by grind)) eF1 dX7_fourWires_136 ?_
      refine zcV_i (As := []) (rest := []) (n9 := 0) (b := w1) C hw (c_X6_takesSent l D y base S128 w1 t1 n1 S128 _ _ _ _ hW128_1 hT1 (by decide) hJ1) gX7_fourWires_X6_takesSent rfl (by decide +kernel) ⟨⟨rfl, rfl⟩, Nat.le_of_ble_eq_true rfl, Nat.le_of_ble_eq_true rfl⟩ hW128_1.1 ⟨by decide, by decide⟩ rfl rfl hl.1 rfl (Nat.le_of_ble_eq_true rfl) ⟨Nat.le_of_ble_eq_true rfl, Nat.le_of_ble_eq_true rfl⟩ dX7_fourWires_137 (fun r137 S137 H locs hp137 hw => ?_)
      obtain ⟨⟨hg137, hz137⟩, hS9⟩ := hp137
      have hS9 := hS9.symm
      subst hS9
      refine lv_if_eq (tgt := 171) hx hb dX7_fourWires_140 (by decide) (fun c140 => ?_) (fun c140 => ?_)
      · refine lv_iconst (v := 0) hx hb dX7_fourWires_171 (by decide) ?_
        refine zcS_xv (As := [.int 0]) (rest := []) (n9 := 1) C hw (c_X7_checkFlips l hst D y base S128 0 ) gX7_fourWires_X7_checkFlips rfl (by decide +kernel) ⟨⟨rfl, rfl⟩, Nat.le_of_ble_eq_true rfl, Nat.le_of_ble_eq_true rfl⟩ rfl hl.1 rfl (Nat.le_of_ble_eq_true rfl) ⟨Nat.le_of_ble_eq_true rfl, Nat.le_of_ble_eq_true rfl⟩ dX7_fourWires_172 (fun E ce q9 S172 H locs hx172 hw h1 h2 h3 => zxout hw hx0 hlocks h1 h2 h3 (by obtain ⟨rfl, hc9, rfl⟩ := hx172; first | exact absurd (by decide) hc9 | exact ⟨Or.inr (Or.inr ⟨rfl, (by have hng := mt hg137.mpr (fun q => q c140); unfold kd_four; grind)⟩), hPl.2.2⟩ | exact ⟨Or.inr (Or.inr ⟨rfl, (by have hng := mt hg149.mpr (fun q => q c152); unfold kd_four; grind)⟩), hPl.2.2⟩ | exact ⟨Or.inr (Or.inr ⟨rfl, (by have hng := mt hg161.mpr (fun q => q c164); unfold kd_four; grind)⟩), hPl.2.2⟩) ⟨Nat.le_of_ble_eq_true rfl, Nat.le_of_ble_eq_true rfl⟩) (fun S172 H locs hp172 hw => ?_)
        obtain ⟨hp172, hS9⟩ := hp172
        have hS9 := hS9.symm
        subst hS9
        exact (show False from (hp172 rfl)).elim
      · refine lv_aload_n hx hb dX7_fourWires_143 rfl (lv_at hl 1 rfl) ?_
        refine g_Ph_wires (a := (a 0)) (v := (a 1)) C hw hX128.1 in_X7 (by decide +kernel) hX128.2.1 dX7_fourWires_144 ?_
        refine lv_iload_n hx hb dX7_fourWires_147 rfl (lv_at hl 3 rfl) ?_
        refine zald_P (a := (a 1)) (v := w2) C hw hX128.2.2.2.2.2.2.1 (by decide) (t0 := 3) rfl rfl hX128.2.2.2.2.2.2.2.1 (zin_of (N := 4) (by decide) (by grind) (by grind)) eF2 dX7_fourWires_148 ?_
        refine zcV_i (As := []) (rest := []) (n9 := 0) (b := w2) C hw (c_X6_takesSent l D y base S128 w2 t2 n2 S128 _ _ _ _ hW128_2 hT2 (by decide) hJ2) gX7_fourWires_X6_takesSent rfl (by decide +kernel) ⟨⟨rfl, rfl⟩, Nat.le_of_ble_eq_true rfl, Nat.le_of_ble_eq_true rfl⟩ hW128_2.1 ⟨by decide, by decide⟩ rfl rfl hl.1 rfl (Nat.le_of_ble_eq_true rfl) ⟨Nat.le_of_ble_eq_true rfl, Nat.le_of_ble_eq_true rfl⟩ dX7_fourWires_149 (fun r149 S149 H locs hp149 hw => ?_)
        obtain ⟨⟨hg149, hz149⟩, hS9⟩ := hp149
        have hS9 := hS9.symm
        subst hS9
        refine lv_if_eq (tgt := 171) hx hb dX7_fourWires_152 (by decide) (fun c152 => ?_) (fun c152 => ?_)
        · refine lv_iconst (v := 0) hx hb dX7_fourWires_171 (by decide) ?_
          refine zcS_xv (As := [.int 0]) (rest := []) (n9 := 1) C hw (c_X7_checkFlips l hst D y base S128 0 ) gX7_fourWires_X7_checkFlips rfl (by decide +kernel) ⟨⟨rfl, rfl⟩, Nat.le_of_ble_eq_true rfl, Nat.le_of_ble_eq_true rfl⟩ rfl hl.1 rfl (Nat.le_of_ble_eq_true rfl) ⟨Nat.le_of_ble_eq_true rfl, Nat.le_of_ble_eq_true rfl⟩ dX7_fourWires_172 (fun E ce q9 S172 H locs hx172 hw h1 h2 h3 => zxout hw hx0 hlocks h1 h2 h3 (by obtain ⟨rfl, hc9, rfl⟩ := hx172; first | exact absurd (by decide) hc9 | exact ⟨Or.inr (Or.inr ⟨rfl, (by have hng := mt hg137.mpr (fun q => q c140); unfold kd_four; grind)⟩), hPl.2.2⟩ | exact ⟨Or.inr (Or.inr ⟨rfl, (by have hng := mt hg149.mpr (fun q => q c152); unfold kd_four; grind)⟩), hPl.2.2⟩ | exact ⟨Or.inr (Or.inr ⟨rfl, (by have hng := mt hg161.mpr (fun q => q c164); unfold kd_four; grind)⟩), hPl.2.2⟩) ⟨Nat.le_of_ble_eq_true rfl, Nat.le_of_ble_eq_true rfl⟩) (fun S172 H locs hp172 hw => ?_)
          obtain ⟨hp172, hS9⟩ := hp172
          have hS9 := hS9.symm
          subst hS9
          exact (show False from (hp172 rfl)).elim
        · refine lv_aload_n hx hb dX7_fourWires_155 rfl (lv_at hl 1 rfl) ?_
          refine g_Ph_wires (a := (a 0)) (v := (a 1)) C hw hX128.1 in_X7 (by decide +kernel) hX128.2.1 dX7_fourWires_156 ?_
          refine lv_iload_n hx hb dX7_fourWires_159 rfl (lv_at hl 4 rfl) ?_
          refine zald_P (a := (a 1)) (v := w3) C hw hX128.2.2.2.2.2.2.1 (by decide) (t0 := 3) rfl rfl hX128.2.2.2.2.2.2.2.1 (zin_of (N := 4) (by decide) (by grind) (by grind)) eF3 dX7_fourWires_160 ?_
          refine zcV_i (As := []) (rest := []) (n9 := 0) (b := w3) C hw (c_X6_takesSent l D y base S128 w3 t3 n3 S128 _ _ _ _ hW128_3 hT3 (by decide) hJ3) gX7_fourWires_X6_takesSent rfl (by decide +kernel) ⟨⟨rfl, rfl⟩, Nat.le_of_ble_eq_true rfl, Nat.le_of_ble_eq_true rfl⟩ hW128_3.1 ⟨by decide, by decide⟩ rfl rfl hl.1 rfl (Nat.le_of_ble_eq_true rfl) ⟨Nat.le_of_ble_eq_true rfl, Nat.le_of_ble_eq_true rfl⟩ dX7_fourWires_161 (fun r161 S161 H locs hp161 hw => ?_)
          obtain ⟨⟨hg161, hz161⟩, hS9⟩ := hp161
          have hS9 := hS9.symm
          subst hS9
          refine lv_if_eq (tgt := 171) hx hb dX7_fourWires_164 (by decide) (fun c164 => ?_) (fun c164 => ?_)
          · refine lv_iconst (v := 0) hx hb dX7_fourWires_171 (by decide) ?_
            refine zcS_xv (As := [.int 0]) (rest := []) (n9 := 1) C hw (c_X7_checkFlips l hst D y base S128 0 ) gX7_fourWires_X7_checkFlips rfl (by decide +kernel) ⟨⟨rfl, rfl⟩, Nat.le_of_ble_eq_true rfl, Nat.le_of_ble_eq_true rfl⟩ rfl hl.1 rfl (Nat.le_of_ble_eq_true rfl) ⟨Nat.le_of_ble_eq_true rfl, Nat.le_of_ble_eq_true rfl⟩ dX7_fourWires_172 (fun E ce q9 S172 H locs hx172 hw h1 h2 h3 => zxout hw hx0 hlocks h1 h2 h3 (by obtain ⟨rfl, hc9, rfl⟩ := hx172; first | exact absurd (by decide) hc9 | exact ⟨Or.inr (Or.inr ⟨rfl, (by have hng := mt hg137.mpr (fun q => q c140); unfold kd_four; grind)⟩), hPl.2.2⟩ | exact ⟨Or.inr (Or.inr ⟨rfl, (by have hng := mt hg149.mpr (fun q => q c152); unfold kd_four; grind)⟩), hPl.2.2⟩ | exact ⟨Or.inr (Or.inr ⟨rfl, (by have hng := mt hg161.mpr (fun q => q c164); unfold kd_four; grind)⟩), hPl.2.2⟩) ⟨Nat.le_of_ble_eq_true rfl, Nat.le_of_ble_eq_true rfl⟩) (fun S172 H locs hp172 hw => ?_)
            obtain ⟨hp172, hS9⟩ := hp172
            have hS9 := hS9.symm
            subst hS9
            exact (show False from (hp172 rfl)).elim
          · refine lv_iconst (v := 1) hx hb dX7_fourWires_167 (by decide) ?_
            refine lv_goto (tgt := 172) hx hb dX7_fourWires_168 (by decide) ?_
            refine zcS_xv (As := [.int 1]) (rest := []) (n9 := 1) C hw (c_X7_checkFlips l hst D y base S128 1 ) gX7_fourWires_X7_checkFlips rfl (by decide +kernel) ⟨⟨rfl, rfl⟩, Nat.le_of_ble_eq_true rfl, Nat.le_of_ble_eq_true rfl⟩ rfl hl.1 rfl (Nat.le_of_ble_eq_true rfl) ⟨Nat.le_of_ble_eq_true rfl, Nat.le_of_ble_eq_true rfl⟩ dX7_fourWires_172 (fun E ce q9 S172 H locs hx172 hw h1 h2 h3 => zxout hw hx0 hlocks h1 h2 h3 (by obtain ⟨rfl, hc9, rfl⟩ := hx172; first | exact absurd (by decide) hc9 | exact ⟨Or.inr (Or.inr ⟨rfl, (by have hng := mt hg137.mpr (fun q => q c140); unfold kd_four; grind)⟩), hPl.2.2⟩ | exact ⟨Or.inr (Or.inr ⟨rfl, (by have hng := mt hg149.mpr (fun q => q c152); unfold kd_four; grind)⟩), hPl.2.2⟩ | exact ⟨Or.inr (Or.inr ⟨rfl, (by have hng := mt hg161.mpr (fun q => q c164); unfold kd_four; grind)⟩), hPl.2.2⟩) ⟨Nat.le_of_ble_eq_true rfl, Nat.le_of_ble_eq_true rfl⟩) (fun S172 H locs hp172 hw => ?_)
            obtain ⟨hp172, hS9⟩ := hp172
            have hS9 := hS9.symm
            subst hS9
            refine lv_aload_n hx hb dX7_fourWires_175 rfl (lv_at hl 1 rfl) ?_
            refine g_Ph_wires (a := (a 0)) (v := (a 1)) C hw hX128.1 in_X7 (by decide +kernel) hX128.2.1 dX7_fourWires_176 ?_
            refine lv_iload_n hx hb dX7_fourWires_179 rfl (lv_at hl 2 rfl) ?_
            refine zald_P (a := (a 1)) (v := w1) C hw hX128.2.2.2.2.2.2.1 (by decide) (t0 := 3) rfl rfl hX128.2.2.2.2.2.2.2.1 (zin_of (N := 4) (by decide) (by grind) (by grind)) eF1 dX7_fourWires_180 ?_
            refine zcV_v (As := []) (rest := []) (n9 := 0) (b := w1) C hw (c_X6_flipSent l D y base S128 w1 t1 n1 hW128_1) gX7_fourWires_X6_flipSent rfl (by decide +kernel) ⟨⟨rfl, rfl⟩, Nat.le_of_ble_eq_true rfl, Nat.le_of_ble_eq_true rfl⟩ hW128_1.1 ⟨by decide, by decide⟩ rfl rfl hl.1 rfl (Nat.le_of_ble_eq_true rfl) ⟨Nat.le_of_ble_eq_true rfl, Nat.le_of_ble_eq_true rfl⟩ dX7_fourWires_181 (fun S181 H locs hp181 hw => ?_)
            have hX181 := zX.fix hp181.1 hX128
            have h181_181 := (hp181.2.1 181 (a 0) (Or.inr (by decide))).trans h128
            have hW181_b := zWire.fix hp181.1 hW128_2
            have ePb_181 := (congrFun (congrFun hp181.1.2.2.2 (a 1)) p1.toNatClampNeg).trans eF2
            have hW181_c := zWire.fix hp181.1 hW128_3
            have ePc_181 := (congrFun (congrFun hp181.1.2.2.2 (a 1)) p2.toNatClampNeg).trans eF3
            refine lv_aload_n hx hb dX7_fourWires_184 rfl (lv_at hl 1 rfl) ?_
            refine g_Ph_wires (a := (a 0)) (v := (a 1)) C hw hX181.1 in_X7 (by decide +kernel) hX181.2.1 dX7_fourWires_185 ?_
            refine lv_iload_n hx hb dX7_fourWires_188 rfl (lv_at hl 3 rfl) ?_
            refine zald_P (a := (a 1)) (v := w2) C hw hX181.2.2.2.2.2.2.1 (by decide) (t0 := 3) rfl rfl hX181.2.2.2.2.2.2.2.1 (zin_of (N := 4) (by decide) (by grind) (by grind)) ePb_181 dX7_fourWires_189 ?_
            refine zcV_v (As := []) (rest := []) (n9 := 0) (b := w2) C hw (c_X6_flipSent l D y base S181 w2 t2 n2 hW181_b) gX7_fourWires_X6_flipSent rfl (by decide +kernel) ⟨⟨rfl, rfl⟩, Nat.le_of_ble_eq_true rfl, Nat.le_of_ble_eq_true rfl⟩ hW181_b.1 ⟨by decide, by decide⟩ rfl rfl hl.1 rfl (Nat.le_of_ble_eq_true rfl) ⟨Nat.le_of_ble_eq_true rfl, Nat.le_of_ble_eq_true rfl⟩ dX7_fourWires_190 (fun S190 H locs hp190 hw => ?_)
            have hX190 := zX.fix hp190.1 hX181
            have h181_190 := (hp190.2.1 181 (a 0) (Or.inr (by decide))).trans h181_181
            have hW190_c := zWire.fix hp190.1 hW181_c
            have ePc_190 := (congrFun (congrFun hp190.1.2.2.2 (a 1)) p2.toNatClampNeg).trans ePc_181
            refine lv_aload_n hx hb dX7_fourWires_193 rfl (lv_at hl 1 rfl) ?_
            refine g_Ph_wires (a := (a 0)) (v := (a 1)) C hw hX190.1 in_X7 (by decide +kernel) hX190.2.1 dX7_fourWires_194 ?_
            refine lv_iload_n hx hb dX7_fourWires_197 rfl (lv_at hl 4 rfl) ?_
            refine zald_P (a := (a 1)) (v := w3) C hw hX190.2.2.2.2.2.2.1 (by decide) (t0 := 3) rfl rfl hX190.2.2.2.2.2.2.2.1 (zin_of (N := 4) (by decide) (by grind) (by grind)) ePc_190 dX7_fourWires_198 ?_
            refine zcV_v (As := []) (rest := []) (n9 := 0) (b := w3) C hw (c_X6_flipSent l D y base S190 w3 t3 n3 hW190_c) gX7_fourWires_X6_flipSent rfl (by decide +kernel) ⟨⟨rfl, rfl⟩, Nat.le_of_ble_eq_true rfl, Nat.le_of_ble_eq_true rfl⟩ hW190_c.1 ⟨by decide, by decide⟩ rfl rfl hl.1 rfl (Nat.le_of_ble_eq_true rfl) ⟨Nat.le_of_ble_eq_true rfl, Nat.le_of_ble_eq_true rfl⟩ dX7_fourWires_199 (fun S199 H locs hp199 hw => ?_)
            have hX199 := zX.fix hp199.1 hX190
            have h181_199 := (hp199.2.1 181 (a 0) (Or.inr (by decide))).trans h181_190
            refine lv_iload hx hb dX7_fourWires_202 (lv_at hl 0 rfl) ?_
            exact vx_ret (zri C hw hr hlocks rfl ⟨rfl, (by have hg1 := hg137.mp c140; have hg2 := hg149.mp c152; have hg3 := hg161.mp c164; unfold kd_four; grind), hPl.2.2.tr ((zCls.flp hp181).tr ((zCls.flp hp190).tr (zCls.flp hp199)))⟩ ⟨Nat.le_of_ble_eq_true rfl, Nat.le_of_ble_eq_true rfl⟩ dX7_fourWires_204)
