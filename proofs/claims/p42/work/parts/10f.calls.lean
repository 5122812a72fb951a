set_option maxHeartbeats 4000000 in
set_option maxRecDepth 100000 in
/-- X7_glitch -/
theorem c_X7_glitch (l : Launch) (hst : l.stackTraces = false) (D : va_G) (y : Nat → ClassId) (base : Nat) (S : zS) (a : Nat → Nat) (p0 : Int32) (p1 : Int32) (p2 : Int32) (hX : zX S a) (h0 : zX0 S a) : zXi l yX7_glitch wsX7_glitch ({ frames := 7, cells := 5, slots := 30, locals := 112 }) [.ref (a 0), .int p0, .int p1, .int p2] D y base S (fun (r : Int32) (S1 : zS) => r = 2 ∧ kd_glitch p0 p1 p2 = 0 ∧ zCls S S1) (fun (E : String) (S1 : zS) => ((E = "java/lang/IndexOutOfBoundsException" ∧ kd_glitch p0 p1 p2 = 1) ∨ (E = "java/lang/IllegalArgumentException" ∧ kd_glitch p0 p1 p2 = 2)) ∧ zCls S S1) 5 30 := by
  refine zXet_of (cc := cX7_glitch) (maxL := 5) (ret := (some .int)) (own := RX7) (by decide +kernel) rfl rfl (Nat.le_of_ble_eq_true rfl) ?_
  intro p e s m args below meth c ls C hr hlocks hx0 hw hl
  have hx := C.1
  have hb := C.2.1
  have hown := C.2.2.2.1
  have hts := C.2.2.2.2
  have hl : lv_has ls 5 [(0, .ref (a 0)), (1, .int p0), (2, .int p1), (3, .int p2)] := hl
  have in_X6 : ∀ w ∈ wsX60, w ∈ wsX7_glitch := by decide +kernel
  have in_X7 : ∀ w ∈ wsX70, w ∈ wsX7_glitch := by decide +kernel
  refine lv_iload_n hx hb dX7_glitch_0 rfl (lv_at hl 1 rfl) ?_
  refine zcS_xv (As := [.int p0]) (rest := []) (n9 := 1) C hw (c_X7_checkWire l hst D y base S p0 ) gX7_glitch_X7_checkWire rfl (by decide +kernel) ⟨⟨rfl, rfl⟩, Nat.le_of_ble_eq_true rfl, Nat.le_of_ble_eq_true rfl⟩ rfl hl.1 rfl (Nat.le_of_ble_eq_true rfl) ⟨Nat.le_of_ble_eq_true rfl, Nat.le_of_ble_eq_true rfl⟩ dX7_glitch_1 (fun E ce q9 S1 H locs hx1 hw h1 h2 h3 => zxout hw hx0 hlocks h1 h2 h3 (by obtain ⟨rfl, hc9, rfl⟩ := hx1; refine ⟨?_, zCls.rf⟩; first | exact (Or.inl ⟨rfl, (by unfold kd_glitch; grind)⟩) | exact (Or.inr ⟨rfl, (by unfold kd_glitch; grind)⟩)) ⟨Nat.le_of_ble_eq_true rfl, Nat.le_of_ble_eq_true rfl⟩) (fun S1 H locs hp1 hw => ?_)
  obtain ⟨hp1, hS9⟩ := hp1
  have hS9 := hS9.symm
  subst hS9
  refine lv_iload_n hx hb dX7_glitch_4 rfl (lv_at hl 2 rfl) ?_
  refine lv_iconst (v := 0) hx hb dX7_glitch_5 (by decide) ?_
  refine lv_sipush (v := 9999) hx hb dX7_glitch_6 (by decide) ?_
  refine zcS_xv (As := [.int p1, .int 0, .int 9999]) (rest := []) (n9 := 3) C hw (c_X7_checkRange l hst D y base S p1 0 9999 ) gX7_glitch_X7_checkRange rfl (by decide +kernel) ⟨⟨rfl, rfl⟩, Nat.le_of_ble_eq_true rfl, Nat.le_of_ble_eq_true rfl⟩ rfl hl.1 rfl (Nat.le_of_ble_eq_true rfl) ⟨Nat.le_of_ble_eq_true rfl, Nat.le_of_ble_eq_true rfl⟩ dX7_glitch_9 (fun E ce q9 S9 H locs hx9 hw h1 h2 h3 => zxout hw hx0 hlocks h1 h2 h3 (by obtain ⟨rfl, hc9, rfl⟩ := hx9; refine ⟨?_, zCls.rf⟩; first | exact (Or.inl ⟨rfl, (by unfold kd_glitch; grind)⟩) | exact (Or.inr ⟨rfl, (by unfold kd_glitch; grind)⟩)) ⟨Nat.le_of_ble_eq_true rfl, Nat.le_of_ble_eq_true rfl⟩) (fun S9 H locs hp9 hw => ?_)
  obtain ⟨hp9, hS9⟩ := hp9
  have hS9 := hS9.symm
  subst hS9
  refine lv_iload_n hx hb dX7_glitch_12 rfl (lv_at hl 3 rfl) ?_
  refine lv_iconst (v := 1) hx hb dX7_glitch_13 (by decide) ?_
  refine lv_bipush (v := 99) hx hb dX7_glitch_14 (by decide) ?_
  refine zcS_xv (As := [.int p2, .int 1, .int 99]) (rest := []) (n9 := 3) C hw (c_X7_checkRange l hst D y base S p2 1 99 ) gX7_glitch_X7_checkRange rfl (by decide +kernel) ⟨⟨rfl, rfl⟩, Nat.le_of_ble_eq_true rfl, Nat.le_of_ble_eq_true rfl⟩ rfl hl.1 rfl (Nat.le_of_ble_eq_true rfl) ⟨Nat.le_of_ble_eq_true rfl, Nat.le_of_ble_eq_true rfl⟩ dX7_glitch_16 (fun E ce q9 S16 H locs hx16 hw h1 h2 h3 => zxout hw hx0 hlocks h1 h2 h3 (by obtain ⟨rfl, hc9, rfl⟩ := hx16; refine ⟨?_, zCls.rf⟩; first | exact (Or.inl ⟨rfl, (by unfold kd_glitch; grind)⟩) | exact (Or.inr ⟨rfl, (by unfold kd_glitch; grind)⟩)) ⟨Nat.le_of_ble_eq_true rfl, Nat.le_of_ble_eq_true rfl⟩) (fun S16 H locs hp16 hw => ?_)
  obtain ⟨hp16, hS9⟩ := hp16
  have hS9 := hS9.symm
  subst hS9
  refine lv_iload_n hx hb dX7_glitch_19 rfl (lv_at hl 2 rfl) ?_
  refine lv_iload_n hx hb dX7_glitch_20 rfl (lv_at hl 3 rfl) ?_
  refine lv_iadd hx hb dX7_glitch_21 ?_
  refine lv_iconst (v := 0) hx hb dX7_glitch_22 (by decide) ?_
  refine lv_sipush (v := 9999) hx hb dX7_glitch_23 (by decide) ?_
  refine zcS_xv (As := [.int (p1 + p2), .int 0, .int 9999]) (rest := []) (n9 := 3) C hw (c_X7_checkRange l hst D y base S (p1 + p2) 0 9999 ) gX7_glitch_X7_checkRange rfl (by decide +kernel) ⟨⟨rfl, rfl⟩, Nat.le_of_ble_eq_true rfl, Nat.le_of_ble_eq_true rfl⟩ rfl hl.1 rfl (Nat.le_of_ble_eq_true rfl) ⟨Nat.le_of_ble_eq_true rfl, Nat.le_of_ble_eq_true rfl⟩ dX7_glitch_26 (fun E ce q9 S26 H locs hx26 hw h1 h2 h3 => zxout hw hx0 hlocks h1 h2 h3 (by obtain ⟨rfl, hc9, rfl⟩ := hx26; refine ⟨?_, zCls.rf⟩; first | exact (Or.inl ⟨rfl, (by unfold kd_glitch; grind)⟩) | exact (Or.inr ⟨rfl, (by unfold kd_glitch; grind)⟩)) ⟨Nat.le_of_ble_eq_true rfl, Nat.le_of_ble_eq_true rfl⟩) (fun S26 H locs hp26 hw => ?_)
  obtain ⟨hp26, hS9⟩ := hp26
  have hS9 := hS9.symm
  subst hS9
  refine lv_aload_n hx hb dX7_glitch_29 rfl (lv_at hl 0 rfl) ?_
  refine g_Ph_wires (a := (a 0)) (v := (a 1)) C hw hX.1 in_X7 (by decide +kernel) hX.2.1 dX7_glitch_30 ?_
  refine lv_iload_n hx hb dX7_glitch_33 rfl (lv_at hl 1 rfl) ?_
  obtain ⟨w1, t1, n1, eP1, hW1, eI1, eJ1, eA1, eB1⟩ := zX_w hX h0 (p := p0) hp1
  refine zald_P (a := (a 1)) (v := w1) C hw hX.2.2.2.2.2.2.1 (by decide) (t0 := 3) rfl rfl hX.2.2.2.2.2.2.2.1 (zin_of (N := 4) (by decide) (by grind) (by grind)) eP1 dX7_glitch_34 ?_
  refine lv_astore (lv' := [(4, .ref w1), (0, .ref (a 0)), (1, .int p0), (2, .int p1), (3, .int p2)]) hx hb dX7_glitch_35 hl (by decide) rfl (fun ls hl => ?_)
  refine lv_aload hx hb dX7_glitch_37 (lv_at hl 0 rfl) ?_
  refine lv_iconst (v := 0) hx hb dX7_glitch_39 (by decide) ?_
  refine zcV_v (As := [.int 0]) (rest := []) (n9 := 1) (b := w1) C hw (c_X6_beginSending l D y base S w1 t1 n1 0 hW1 (Or.inl rfl)) gX7_glitch_X6_beginSending rfl (by decide +kernel) ⟨⟨rfl, rfl⟩, Nat.le_of_ble_eq_true rfl, Nat.le_of_ble_eq_true rfl⟩ hW1.1 ⟨by decide, by decide⟩ rfl rfl hl.1 rfl (Nat.le_of_ble_eq_true rfl) ⟨Nat.le_of_ble_eq_true rfl, Nat.le_of_ble_eq_true rfl⟩ dX7_glitch_40 (fun S40 H locs hp40 hw => ?_)
  obtain rfl := hp40
  refine lv_aload hx hb dX7_glitch_43 (lv_at hl 0 rfl) ?_
  refine lv_iload_n hx hb dX7_glitch_45 rfl (lv_at hl 3 rfl) ?_
  refine zcV_v (As := [.int p1]) (rest := []) (n9 := 1) (b := w1) C hw (c_X6_addSent l D y base (zsI (zsI S 163 w1 0) 164 w1 0) w1 t1 n1 p1 0 hW1 (zI_s _ _ _ _) (by decide) (Or.inl rfl)) gX7_glitch_X6_addSent rfl (by decide +kernel) ⟨⟨rfl, rfl⟩, Nat.le_of_ble_eq_true rfl, Nat.le_of_ble_eq_true rfl⟩ hW1.1 ⟨by decide, by decide⟩ rfl rfl hl.1 rfl (Nat.le_of_ble_eq_true rfl) ⟨Nat.le_of_ble_eq_true rfl, Nat.le_of_ble_eq_true rfl⟩ dX7_glitch_46 (fun S46 H locs hp46 hw => ?_)
  obtain rfl := hp46
  refine lv_aload hx hb dX7_glitch_49 (lv_at hl 0 rfl) ?_
  refine lv_iload_n hx hb dX7_glitch_51 rfl (lv_at hl 3 rfl) ?_
  refine lv_iload_n hx hb dX7_glitch_52 rfl (lv_at hl 4 rfl) ?_
  refine lv_iadd hx hb dX7_glitch_53 ?_
  refine zcV_v (As := [.int (p1 + p2)]) (rest := []) (n9 := 1) (b := w1) C hw (c_X6_addSent l D y base (zsI (zsR (zsI (zsI S 163 w1 0) 164 w1 0) 22 n1 (upd (zR (zsI (zsI S 163 w1 0) 164 w1 0) 22 n1) 0 p1)) 164 w1 (nI (0 + 1))) w1 t1 n1 (p1 + p2) 1 hW1 (zI_s _ _ _ _) (by decide) (Or.inr (fun e => by have e2 := ((zrI (j := 0)).trans pk_us).symm.trans e; grind))) gX7_glitch_X6_addSent rfl (by decide +kernel) ⟨⟨rfl, rfl⟩, Nat.le_of_ble_eq_true rfl, Nat.le_of_ble_eq_true rfl⟩ hW1.1 ⟨by decide, by decide⟩ rfl rfl hl.1 rfl (Nat.le_of_ble_eq_true rfl) ⟨Nat.le_of_ble_eq_true rfl, Nat.le_of_ble_eq_true rfl⟩ dX7_glitch_54 (fun S54 H locs hp54 hw => ?_)
  obtain rfl := hp54
  refine lv_aload hx hb dX7_glitch_57 (lv_at hl 0 rfl) ?_
  have hgl := zgl hp9 hp16
  have hJ54 : zI (zsI (zsI S 163 w1 0) 164 w1 0) 161 w1 = 0 := zI_t (by decide) (zI_t (by decide) eJ1)
  have hs59 := ((zSnd.begin (S := S) (w := w1) (sn := n1) (Or.inl rfl) p1.toInt).add (k := 0) (t := p1) (zI_s _ _ _ _) (Nat.le_refl _) (by decide) (Int.le_refl _)).add (k := 1) (t := p1 + p2) (zI_s _ _ _ _) (Nat.le_refl _) (by decide) hgl
  refine zcV_i (As := []) (rest := []) (n9 := 0) (b := w1) C hw (c_X6_takesSent l D y base (zsI (zsR (zsI (zsR (zsI (zsI S 163 w1 0) 164 w1 0) 22 n1 (upd (zR (zsI (zsI S 163 w1 0) 164 w1 0) 22 n1) 0 p1)) 164 w1 (nI (0 + 1))) 22 n1 (upd (zR (zsI (zsR (zsI (zsI S 163 w1 0) 164 w1 0) 22 n1 (upd (zR (zsI (zsI S 163 w1 0) 164 w1 0) 22 n1) 0 p1)) 164 w1 (nI (0 + 1))) 22 n1) 1 (p1 + p2))) 164 w1 (nI (1 + 1))) w1 t1 n1 S 0 _ _ 2 hW1 hs59 (by decide) (zIR (zIR hJ54))) gX7_glitch_X6_takesSent rfl (by decide +kernel) ⟨⟨rfl, rfl⟩, Nat.le_of_ble_eq_true rfl, Nat.le_of_ble_eq_true rfl⟩ hW1.1 ⟨by decide, by decide⟩ rfl rfl hl.1 rfl (Nat.le_of_ble_eq_true rfl) ⟨Nat.le_of_ble_eq_true rfl, Nat.le_of_ble_eq_true rfl⟩ dX7_glitch_59 (fun r59 S59 H locs hp59 hw => ?_)
  obtain ⟨⟨hg59, hz59⟩, hS9⟩ := hp59
  have hS9 := hS9.symm
  subst hS9
  refine zcS_xv (As := [.int r59]) (rest := []) (n9 := 1) C hw (c_X7_checkFlips l hst D y base (zsI (zsR (zsI (zsR (zsI (zsI S 163 w1 0) 164 w1 0) 22 n1 (upd (zR (zsI (zsI S 163 w1 0) 164 w1 0) 22 n1) 0 p1)) 164 w1 (nI (0 + 1))) 22 n1 (upd (zR (zsI (zsR (zsI (zsI S 163 w1 0) 164 w1 0) 22 n1 (upd (zR (zsI (zsI S 163 w1 0) 164 w1 0) 22 n1) 0 p1)) 164 w1 (nI (0 + 1))) 22 n1) 1 (p1 + p2))) 164 w1 (nI (1 + 1))) r59 ) gX7_glitch_X7_checkFlips rfl (by decide +kernel) ⟨⟨rfl, rfl⟩, Nat.le_of_ble_eq_true rfl, Nat.le_of_ble_eq_true rfl⟩ rfl hl.1 rfl (Nat.le_of_ble_eq_true rfl) ⟨Nat.le_of_ble_eq_true rfl, Nat.le_of_ble_eq_true rfl⟩ dX7_glitch_62 (fun E ce q9 S62 H locs hx62 hw h1 h2 h3 => zxout hw hx0 hlocks h1 h2 h3 (by obtain ⟨rfl, hc9, rfl⟩ := hx62; exact absurd (hg59.mpr ⟨⟨trivial, hp9.2⟩, hp26.2⟩) hc9) ⟨Nat.le_of_ble_eq_true rfl, Nat.le_of_ble_eq_true rfl⟩) (fun S62 H locs hp62 hw => ?_)
  obtain ⟨hp62, hS9⟩ := hp62
  have hS9 := hS9.symm
  subst hS9
  refine lv_aload hx hb dX7_glitch_65 (lv_at hl 0 rfl) ?_
  refine zcV_v (As := []) (rest := []) (n9 := 0) (b := w1) C hw (c_X6_flipSent_n l D y base (zsI (zsR (zsI (zsR (zsI (zsI S 163 w1 0) 164 w1 0) 22 n1 (upd (zR (zsI (zsI S 163 w1 0) 164 w1 0) 22 n1) 0 p1)) 164 w1 (nI (0 + 1))) 22 n1 (upd (zR (zsI (zsR (zsI (zsI S 163 w1 0) 164 w1 0) 22 n1 (upd (zR (zsI (zsI S 163 w1 0) 164 w1 0) 22 n1) 0 p1)) 164 w1 (nI (0 + 1))) 22 n1) 1 (p1 + p2))) 164 w1 (nI (1 + 1))) w1 t1 n1 2 hW1 (zI_s _ _ _ _) (by decide) (zIR (zIR hJ54)) (zasc2 hgl)) gX7_glitch_X6_flipSent rfl (by decide +kernel) ⟨⟨rfl, rfl⟩, Nat.le_of_ble_eq_true rfl, Nat.le_of_ble_eq_true rfl⟩ hW1.1 ⟨by decide, by decide⟩ rfl rfl hl.1 rfl (Nat.le_of_ble_eq_true rfl) ⟨Nat.le_of_ble_eq_true rfl, Nat.le_of_ble_eq_true rfl⟩ dX7_glitch_67 (fun S67 H locs hp67 hw => ?_)
  have hW67_w := zWire.fix hp67.1.1 hW1
  have hq67 := hp67.2
  refine lv_aload hx hb dX7_glitch_70 (lv_at hl 0 rfl) ?_
  refine g_Wire_count (a := w1) (v := (nI 2)) C hw hW67_w.1 in_X6 (by decide +kernel) hq67 dX7_glitch_72 ?_
  exact vx_ret (zri C hw hr hlocks rfl ⟨rfl, (by unfold kd_glitch; grind), (zCls.I (by decide)).tr ((zCls.I (by decide)).tr ((zCls.R (by decide)).tr ((zCls.I (by decide)).tr ((zCls.R (by decide)).tr ((zCls.I (by decide)).tr (zCls.flp hp67.1))))))⟩ ⟨Nat.le_of_ble_eq_true rfl, Nat.le_of_ble_eq_true rfl⟩ dX7_glitch_75)

set_option maxHeartbeats 4000000 in
set_option maxRecDepth 100000 in
/-- X0_clearFor -/
theorem c_X0_clearFor (l : Launch) (D : va_G) (y : Nat → ClassId) (base : Nat) (S : zS) (c0 : Nat) (lv : Nat) (p0 : Int32) (hC : zCap S c0 lv) (hz : ∀ j, zR S 22 lv j = 0) : zMv l yX0_clearFor wsX0_clearFor ({ frames := 1, cells := 0, slots := 0, locals := 23 }) [.ref c0, .int p0] D y base S (fun (S1 : zS) => zCls S S1 ∧ zFix S S1 ∧ (∀ t a, t ≠ 64 → zI S1 t a = zI S t a) ∧ (∀ j, zR S1 22 lv j = 0)) 0 0 := by
  refine zMet_of (cc := cX0_clearFor) (maxL := 2) (ret := none) (own := RX0) (by decide +kernel) rfl rfl (Nat.le_of_ble_eq_true rfl) ?_
  intro p e s m args below meth c ls C hr hlocks hnm hw hl
  have hx := C.1
  have hb := C.2.1
  have hown := C.2.2.2.1
  have hts := C.2.2.2.2
  have hl : lv_has ls 2 [(0, .ref c0), (1, .int p0)] := hl
  have in_X0 : ∀ w ∈ wsX00, w ∈ wsX0_clearFor := by decide +kernel
  refine lv_aload_n hx hb dX0_clearFor_0 rfl (lv_at hl 0 rfl) ?_
  refine g_Cap_levels (a := c0) (v := lv) C hw hC.1 in_X0 (by decide +kernel) hC.2.1 dX0_clearFor_1 ?_
  refine lv_iconst (v := 0) hx hb dX0_clearFor_4 (by decide) ?_
  refine zcS_v (As := [.ref lv, .int 0]) (rest := []) (n9 := 2) C hw (c_J7_fill_53178 l D y base S lv 0 400 hC.2.2.1 hC.2.2.2 (by decide)) gX0_clearFor_J7_fill_53178 rfl (by decide +kernel) ⟨⟨rfl, rfl⟩, Nat.le_of_ble_eq_true rfl, Nat.le_of_ble_eq_true rfl⟩ rfl hl.1 rfl (Nat.le_of_ble_eq_true rfl) ⟨Nat.le_of_ble_eq_true rfl, Nat.le_of_ble_eq_true rfl⟩ dX0_clearFor_5 (fun S5 H locs hp5 hw => ?_)
  obtain rfl := hp5
  refine lv_aload_n hx hb dX0_clearFor_8 rfl (lv_at hl 0 rfl) ?_
  refine lv_iload_n hx hb dX0_clearFor_9 rfl (lv_at hl 1 rfl) ?_
  refine lv_aload_n hx hb dX0_clearFor_10 rfl (lv_at hl 0 rfl) ?_
  refine g_Cap_levels (a := c0) (v := lv) C hw hC.1 in_X0 (by decide +kernel) hC.2.1 dX0_clearFor_11 ?_
  refine zalen (a := lv) (v := 400) C hw hC.2.2.1 (by decide) (t0 := 1) rfl (zlen hC.2.2.2 rfl) dX0_clearFor_14 ?_
  refine va_mmin hx hb (C.2.2.1.trans hl.1.symm) hown (hts (.methodLink RX0 21 Lib.Math.min.name) (by decide +kernel)) (hts (.static Lib.Math.min.name) (by decide +kernel)) (hts (.initialized "java/lang/Math") (by decide +kernel)) (hts (.code Lib.Math.min.name Lib.Math.min.code 2 (some .int)) (by decide +kernel)) (Nat.le_of_ble_eq_true rfl) (Nat.le_of_ble_eq_true rfl) (Nat.le_of_ble_eq_true rfl) (Nat.le_of_ble_eq_true rfl) dX0_clearFor_15 ?_
  refine lv_topi (fun x18 ex18 => ?_)
  refine p_Cap_count (a := c0) (v := x18) C hw hC.1 in_X0 (by decide +kernel) dX0_clearFor_18 (fun H locs hw => ?_)
  exact zrv C hw hr hlocks ⟨(zCls.R (by decide)).tr (zCls.I (by decide)), zFix.R.tr zFix.I, (fun t a q => zI_t q rfl), (fun j => by rw [zrI]; show (if j < 400 then (0 : Int32) else zR S 22 lv j) = 0; split; rfl; exact hz j)⟩ ⟨Nat.le_of_ble_eq_true rfl, Nat.le_of_ble_eq_true rfl⟩ dX0_clearFor_21

set_option maxHeartbeats 4000000 in
set_option maxRecDepth 100000 in
/-- X6_showIn -/
theorem c_X6_showIn (l : Launch) (D : va_G) (y : Nat → ClassId) (base : Nat) (S : zS) (w : Nat) (tk : Nat) (sn : Nat) (c0 : Nat) (lv : Nat) (p0 : Int32) (p1 : Int32) (p2 : Int32) (hW : zWire S w tk sn) (hC : zCap S c0 lv) (h160 : zI S 160 w = 0) (h161 : zI S 161 w = 0) : zMv l yX6_showIn wsX6_showIn ({ frames := 0, cells := 0, slots := 0, locals := 0 }) [.ref w, .ref c0, .int p0, .int p1, .int p2] D y base S (fun (S1 : zS) => S1 = S) 0 0 := by
  refine zMet_of (cc := cX6_showIn) (maxL := 9) (ret := none) (own := RX6) (by decide +kernel) rfl rfl (Nat.le_of_ble_eq_true rfl) ?_
  intro p e s m args below meth c ls C hr hlocks hnm hw hl
  have hx := C.1
  have hb := C.2.1
  have hown := C.2.2.2.1
  have hts := C.2.2.2.2
  have hl : lv_has ls 9 [(0, .ref w), (1, .ref c0), (2, .int p0), (3, .int p1), (4, .int p2)] := hl
  have in_X0 : ∀ w ∈ wsX00, w ∈ wsX6_showIn := by decide +kernel
  have in_X6 : ∀ w ∈ wsX60, w ∈ wsX6_showIn := by decide +kernel
  refine lv_aload_n hx hb dX6_showIn_0 rfl (lv_at hl 0 rfl) ?_
  refine g_Wire_isHighFirst (a := w) (v := 0) C hw hW.1 in_X6 (by decide +kernel) h160 dX6_showIn_1 ?_
  refine lv_istore (lv' := [(5, .int 0), (0, .ref w), (1, .ref c0), (2, .int p0), (3, .int p1), (4, .int p2)]) hx hb dX6_showIn_4 hl (by decide) rfl (fun ls hl => ?_)
  refine lv_iconst (v := 0) hx hb dX6_showIn_6 (by decide) ?_
  refine lv_istore (lv' := [(6, .int 0), (5, .int 0), (0, .ref w), (1, .ref c0), (2, .int p0), (3, .int p1), (4, .int p2)]) hx hb dX6_showIn_7 hl (by decide) rfl (fun ls hl => ?_)
  refine lv_iconst (v := 0) hx hb dX6_showIn_9 (by decide) ?_
  refine lv_istore (lv' := [(7, .int 0), (6, .int 0), (5, .int 0), (0, .ref w), (1, .ref c0), (2, .int p0), (3, .int p1), (4, .int p2)]) hx hb dX6_showIn_10 hl (by decide) rfl (fun ls hl => ?_)
  have lp_2 : ∀ (n9 : Nat) (i : Nat) (H : Heap) (locs : List Loc) (ls : Array Slot), 2147483648 - i < n9 → (i < 2147483648) → zW D y base S s H locs → lv_has ls 9 [(7, .int (nI i)), (6, .int 0), (5, .int 0), (0, .ref w), (1, .ref c0), (2, .int p0), (3, .int p1), (4, .int p2)] → W p l e (headSpec wsX6_showIn ({ frames := 0, cells := 0, slots := 0, locals := 0 })).room s m args below meth c H locs 0 0 (MQ below (va_Qv (fun (S1 : zS) => S1 = S) (zPost D y base) (zA base)) args s 0 0 (zA base)) (F0 m 12 ls []) := by
    intro n9
    induction n9 with
    | zero =>
      intro i H locs ls hn9
      exact absurd hn9 (Nat.not_lt_zero _)
    | succ n9 ih_1 =>
      intro i H locs ls hn9 hi hw hl
      refine lv_iload hx hb dX6_showIn_12 (lv_at hl 0 rfl) ?_
      refine lv_aload_n hx hb dX6_showIn_14 rfl (lv_at hl 4 rfl) ?_
      refine g_Cap_count (a := c0) (v := (zI S 64 c0)) C hw hC.1 in_X0 (by decide +kernel) rfl dX6_showIn_15 ?_
      refine lv_icmp_ge (tgt := 97) hx hb dX6_showIn_18 (by decide) (fun c18 => ?_) (fun c18 => ?_)
      · exact zrv C hw hr hlocks rfl ⟨Nat.le_of_ble_eq_true rfl, Nat.le_of_ble_eq_true rfl⟩ dX6_showIn_97
      · have hlt9 : i + 1 < 2147483648 := by have h1 := z_cl_lt c18 (i := i) (by omega); have h2 := z_cl31 (zI S 64 c0); omega
        refine lv_iload_n hx hb dX6_showIn_21 rfl (lv_at hl 6 rfl) ?_
        refine lv_iload hx hb dX6_showIn_22 (lv_at hl 0 rfl) ?_
        refine lv_iload hx hb dX6_showIn_24 (lv_at hl 7 rfl) ?_
        refine lv_imul hx hb dX6_showIn_26 ?_
        refine lv_iadd hx hb dX6_showIn_27 ?_
        refine lv_topi (fun x28 ex28 => ?_)
        refine lv_istore (lv' := [(8, .int x28), (7, .int (nI i)), (6, .int 0), (5, .int 0), (0, .ref w), (1, .ref c0), (2, .int p0), (3, .int p1), (4, .int p2)]) hx hb dX6_showIn_28 hl (by decide) rfl (fun ls hl => ?_)
        refine lv_iload hx hb dX6_showIn_30 (lv_at hl 2 rfl) ?_
        refine lv_aload_n hx hb dX6_showIn_32 rfl (lv_at hl 4 rfl) ?_
        refine g_Wire_count (a := w) (v := 0) C hw hW.1 in_X6 (by decide +kernel) h161 dX6_showIn_33 ?_
        refine lv_icmp_ge (tgt := 79) hx hb dX6_showIn_36 (by decide) (fun _ => ?_) (fun c36 => absurd c36 (by decide))
        refine lv_iload hx hb dX6_showIn_79 (lv_at hl 3 rfl) ?_
        refine lv_if_eq (tgt := 91) hx hb dX6_showIn_81 (by decide) (fun _ => ?_) (fun c81 => absurd c81 (by decide))
        refine lv_iinc (v := (nI (i + 1))) (lv' := [(7, .int (nI (i + 1))), (8, .int x28), (6, .int 0), (5, .int 0), (0, .ref w), (1, .ref c0), (2, .int p0), (3, .int p1), (4, .int p2)]) hx hb dX6_showIn_91 hl (k := 1) rfl (nI_1 _) (by decide) rfl (fun ls hl => ?_)
        refine lv_goto (tgt := 12) hx hb dX6_showIn_94 (by decide) ?_
        exact ih_1 (i + 1) _ _ _ (by omega) (by omega) hw (lv_sub hl [0, 2, 3, 4, 5, 6, 7, 8] rfl)
  exact lp_2 _ 0 _ _ _ (Nat.lt_succ_self _) (by omega) hw (lv_sub hl [0, 1, 2, 3, 4, 5, 6, 7] rfl)

set_option maxHeartbeats 4000000 in
set_option maxRecDepth 100000 in
/-- X7_capture -/
theorem c_X7_capture (l : Launch) (hst : l.stackTraces = false) (D : va_G) (y : Nat → ClassId) (base : Nat) (S : zS) (a : Nat → Nat) (p0 : Int32) (p1 : Int32) (p2 : Int32) (p3 : Int32) (hX : zX S a) (h0 : zX0 S a) : zXi l yX7_capture wsX7_capture ({ frames := 7, cells := 5, slots := 30, locals := 112 }) [.ref (a 0), .int p0, .int p1, .int p2, .int p3] D y base S (fun (r : Int32) (S1 : zS) => r = 0 ∧ kd_capture p0 p1 p2 p3 = 0 ∧ zCls S S1) (fun (E : String) (S1 : zS) => ((E = "java/lang/IndexOutOfBoundsException" ∧ kd_capture p0 p1 p2 p3 = 1) ∨ (E = "java/lang/IllegalArgumentException" ∧ kd_capture p0 p1 p2 p3 = 2)) ∧ zCls S S1) 5 30 := by
  refine zXet_of (cc := cX7_capture) (maxL := 7) (ret := (some .int)) (own := RX7) (by decide +kernel) rfl rfl (Nat.le_of_ble_eq_true rfl) ?_
  intro p e s m args below meth c ls C hr hlocks hx0 hw hl
  have hx := C.1
  have hb := C.2.1
  have hown := C.2.2.2.1
  have hts := C.2.2.2.2
  have hl : lv_has ls 7 [(0, .ref (a 0)), (1, .int p0), (2, .int p1), (3, .int p2), (4, .int p3)] := hl
  have in_X7 : ∀ w ∈ wsX70, w ∈ wsX7_capture := by decide +kernel
  refine lv_iload_n hx hb dX7_capture_0 rfl (lv_at hl 1 rfl) ?_
  refine zcS_xv (As := [.int p0]) (rest := []) (n9 := 1) C hw (c_X7_checkCapture l hst D y base S p0 ) gX7_capture_X7_checkCapture rfl (by decide +kernel) ⟨⟨rfl, rfl⟩, Nat.le_of_ble_eq_true rfl, Nat.le_of_ble_eq_true rfl⟩ rfl hl.1 rfl (Nat.le_of_ble_eq_true rfl) ⟨Nat.le_of_ble_eq_true rfl, Nat.le_of_ble_eq_true rfl⟩ dX7_capture_1 (fun E ce q9 S1 H locs hx1 hw h1 h2 h3 => zxout hw hx0 hlocks h1 h2 h3 (by obtain ⟨rfl, hc9, rfl⟩ := hx1; refine ⟨?_, zCls.rf⟩; first | exact (Or.inl ⟨rfl, (by unfold kd_capture; grind)⟩) | exact (Or.inr ⟨rfl, (by unfold kd_capture; grind)⟩)) ⟨Nat.le_of_ble_eq_true rfl, Nat.le_of_ble_eq_true rfl⟩) (fun S1 H locs hp1 hw => ?_)
  obtain ⟨hp1, hS9⟩ := hp1
  have hS9 := hS9.symm
  subst hS9
  refine lv_iload_n hx hb dX7_capture_4 rfl (lv_at hl 2 rfl) ?_
  refine lv_iconst (v := 0) hx hb dX7_capture_5 (by decide) ?_
  refine lv_sipush (v := 9999) hx hb dX7_capture_6 (by decide) ?_
  refine zcS_xv (As := [.int p1, .int 0, .int 9999]) (rest := []) (n9 := 3) C hw (c_X7_checkRange l hst D y base S p1 0 9999 ) gX7_capture_X7_checkRange rfl (by decide +kernel) ⟨⟨rfl, rfl⟩, Nat.le_of_ble_eq_true rfl, Nat.le_of_ble_eq_true rfl⟩ rfl hl.1 rfl (Nat.le_of_ble_eq_true rfl) ⟨Nat.le_of_ble_eq_true rfl, Nat.le_of_ble_eq_true rfl⟩ dX7_capture_9 (fun E ce q9 S9 H locs hx9 hw h1 h2 h3 => zxout hw hx0 hlocks h1 h2 h3 (by obtain ⟨rfl, hc9, rfl⟩ := hx9; refine ⟨?_, zCls.rf⟩; first | exact (Or.inl ⟨rfl, (by unfold kd_capture; grind)⟩) | exact (Or.inr ⟨rfl, (by unfold kd_capture; grind)⟩)) ⟨Nat.le_of_ble_eq_true rfl, Nat.le_of_ble_eq_true rfl⟩) (fun S9 H locs hp9 hw => ?_)
  obtain ⟨hp9, hS9⟩ := hp9
  have hS9 := hS9.symm
  subst hS9
  refine lv_iload_n hx hb dX7_capture_12 rfl (lv_at hl 3 rfl) ?_
  refine lv_iconst (v := 1) hx hb dX7_capture_13 (by decide) ?_
  refine lv_bipush (v := 99) hx hb dX7_capture_14 (by decide) ?_
  refine zcS_xv (As := [.int p2, .int 1, .int 99]) (rest := []) (n9 := 3) C hw (c_X7_checkRange l hst D y base S p2 1 99 ) gX7_capture_X7_checkRange rfl (by decide +kernel) ⟨⟨rfl, rfl⟩, Nat.le_of_ble_eq_true rfl, Nat.le_of_ble_eq_true rfl⟩ rfl hl.1 rfl (Nat.le_of_ble_eq_true rfl) ⟨Nat.le_of_ble_eq_true rfl, Nat.le_of_ble_eq_true rfl⟩ dX7_capture_16 (fun E ce q9 S16 H locs hx16 hw h1 h2 h3 => zxout hw hx0 hlocks h1 h2 h3 (by obtain ⟨rfl, hc9, rfl⟩ := hx16; refine ⟨?_, zCls.rf⟩; first | exact (Or.inl ⟨rfl, (by unfold kd_capture; grind)⟩) | exact (Or.inr ⟨rfl, (by unfold kd_capture; grind)⟩)) ⟨Nat.le_of_ble_eq_true rfl, Nat.le_of_ble_eq_true rfl⟩) (fun S16 H locs hp16 hw => ?_)
  obtain ⟨hp16, hS9⟩ := hp16
  have hS9 := hS9.symm
  subst hS9
  refine lv_iload hx hb dX7_capture_19 (lv_at hl 4 rfl) ?_
  refine lv_iconst (v := 1) hx hb dX7_capture_21 (by decide) ?_
  refine lv_sipush (v := 400) hx hb dX7_capture_22 (by decide) ?_
  refine zcS_xv (As := [.int p3, .int 1, .int 400]) (rest := []) (n9 := 3) C hw (c_X7_checkRange l hst D y base S p3 1 400 ) gX7_capture_X7_checkRange rfl (by decide +kernel) ⟨⟨rfl, rfl⟩, Nat.le_of_ble_eq_true rfl, Nat.le_of_ble_eq_true rfl⟩ rfl hl.1 rfl (Nat.le_of_ble_eq_true rfl) ⟨Nat.le_of_ble_eq_true rfl, Nat.le_of_ble_eq_true rfl⟩ dX7_capture_25 (fun E ce q9 S25 H locs hx25 hw h1 h2 h3 => zxout hw hx0 hlocks h1 h2 h3 (by obtain ⟨rfl, hc9, rfl⟩ := hx25; refine ⟨?_, zCls.rf⟩; first | exact (Or.inl ⟨rfl, (by unfold kd_capture; grind)⟩) | exact (Or.inr ⟨rfl, (by unfold kd_capture; grind)⟩)) ⟨Nat.le_of_ble_eq_true rfl, Nat.le_of_ble_eq_true rfl⟩) (fun S25 H locs hp25 hw => ?_)
  obtain ⟨hp25, hS9⟩ := hp25
  have hS9 := hS9.symm
  subst hS9
  refine lv_iload_n hx hb dX7_capture_28 rfl (lv_at hl 2 rfl) ?_
  refine lv_iload_n hx hb dX7_capture_29 rfl (lv_at hl 3 rfl) ?_
  refine lv_iload hx hb dX7_capture_30 (lv_at hl 4 rfl) ?_
  refine lv_iconst (v := 1) hx hb dX7_capture_32 (by decide) ?_
  refine lv_isub hx hb dX7_capture_33 ?_
  refine lv_imul hx hb dX7_capture_34 ?_
  refine lv_iadd hx hb dX7_capture_35 ?_
  refine lv_iconst (v := 0) hx hb dX7_capture_36 (by decide) ?_
  refine lv_sipush (v := 9999) hx hb dX7_capture_37 (by decide) ?_
  refine zcS_xv (As := [.int (p1 + (p2 * (p3 - 1))), .int 0, .int 9999]) (rest := []) (n9 := 3) C hw (c_X7_checkRange l hst D y base S (p1 + (p2 * (p3 - 1))) 0 9999 ) gX7_capture_X7_checkRange rfl (by decide +kernel) ⟨⟨rfl, rfl⟩, Nat.le_of_ble_eq_true rfl, Nat.le_of_ble_eq_true rfl⟩ rfl hl.1 rfl (Nat.le_of_ble_eq_true rfl) ⟨Nat.le_of_ble_eq_true rfl, Nat.le_of_ble_eq_true rfl⟩ dX7_capture_40 (fun E ce q9 S40 H locs hx40 hw h1 h2 h3 => zxout hw hx0 hlocks h1 h2 h3 (by obtain ⟨rfl, hc9, rfl⟩ := hx40; exact ⟨Or.inr ⟨rfl, (by have := zcap_nn hp9 hp16 hp25; unfold kd_capture; grind)⟩, zCls.rf⟩) ⟨Nat.le_of_ble_eq_true rfl, Nat.le_of_ble_eq_true rfl⟩) (fun S40 H locs hp40 hw => ?_)
  obtain ⟨hp40, hS9⟩ := hp40
  have hS9 := hS9.symm
  subst hS9
  refine lv_aload_n hx hb dX7_capture_43 rfl (lv_at hl 0 rfl) ?_
  refine g_Ph_captures (a := (a 0)) (v := (a 2)) C hw hX.1 in_X7 (by decide +kernel) hX.2.2.1 dX7_capture_44 ?_
  refine lv_iload_n hx hb dX7_capture_47 rfl (lv_at hl 1 rfl) ?_
  obtain ⟨c1, l1, eP1, hC1, eI1, eZ1⟩ := zX_c hX h0 (p := p0) hp1
  refine zald_P (a := (a 2)) (v := c1) C hw hX.2.2.2.2.2.2.2.2.1 (by decide) (t0 := 2) rfl rfl hX.2.2.2.2.2.2.2.2.2.1 (zin_of (N := 2) (by decide) (by grind) (by grind)) eP1 dX7_capture_48 ?_
  refine lv_astore (lv' := [(5, .ref c1), (0, .ref (a 0)), (1, .int p0), (2, .int p1), (3, .int p2), (4, .int p3)]) hx hb dX7_capture_49 hl (by decide) rfl (fun ls hl => ?_)
  refine lv_aload hx hb dX7_capture_51 (lv_at hl 0 rfl) ?_
  refine lv_iload hx hb dX7_capture_53 (lv_at hl 5 rfl) ?_
  refine zcV_v (As := [.int p3]) (rest := []) (n9 := 1) (b := c1) C hw (c_X0_clearFor l D y base S c1 l1 p3 hC1 eZ1) gX7_capture_X0_clearFor rfl (by decide +kernel) ⟨⟨rfl, rfl⟩, Nat.le_of_ble_eq_true rfl, Nat.le_of_ble_eq_true rfl⟩ hC1.1 ⟨by decide, by decide⟩ rfl rfl hl.1 rfl (Nat.le_of_ble_eq_true rfl) ⟨Nat.le_of_ble_eq_true rfl, Nat.le_of_ble_eq_true rfl⟩ dX7_capture_55 (fun S55 H locs hp55 hw => ?_)
  have hX55 := zX.fix hp55.2.1 hX
  have hC55 := zCap.fix hp55.2.1 hC1
  refine lv_iconst (v := 0) hx hb dX7_capture_58 (by decide) ?_
  refine lv_istore (lv' := [(6, .int 0), (5, .ref c1), (0, .ref (a 0)), (1, .int p0), (2, .int p1), (3, .int p2), (4, .int p3)]) hx hb dX7_capture_59 hl (by decide) rfl (fun ls hl => ?_)
  have lp_2 : ∀ (n9 : Nat) (i : Nat) (H : Heap) (locs : List Loc) (ls : Array Slot), 4 - i < n9 → (i ≤ 4) → zW D y base S55 s H locs → lv_has ls 7 [(6, .int (nI i)), (0, .ref (a 0)), (1, .int p0), (2, .int p1), (3, .int p2), (4, .int p3), (5, .ref c1)] → W p l e (headSpec wsX7_capture ({ frames := 7, cells := 5, slots := 30, locals := 112 })).room s m args below meth c H locs 5 30 (vx_MQ below (va_Qi (fun (r : Int32) (S1 : zS) => r = 0 ∧ kd_capture p0 p1 p2 p3 = 0 ∧ zCls S S1) (zPost D y base) (zA base)) (zXC (fun (E : String) (S1 : zS) => ((E = "java/lang/IndexOutOfBoundsException" ∧ kd_capture p0 p1 p2 p3 = 1) ∨ (E = "java/lang/IllegalArgumentException" ∧ kd_capture p0 p1 p2 p3 = 2)) ∧ zCls S S1) D y base) args s 5 30 (zA base)) (F0 m 61 ls []) := by
    intro n9
    induction n9 with
    | zero =>
      intro i H locs ls hn9
      exact absurd hn9 (Nat.not_lt_zero _)
    | succ n9 ih_1 =>
      intro i H locs ls hn9 hi hw hl
      refine lv_iload hx hb dX7_capture_61 (lv_at hl 0 rfl) ?_
      refine lv_aload_n hx hb dX7_capture_63 rfl (lv_at hl 1 rfl) ?_
      refine g_Ph_wires (a := (a 0)) (v := (a 1)) C hw hX55.1 in_X7 (by decide +kernel) hX55.2.1 dX7_capture_64 ?_
      refine zalen (a := (a 1)) (v := 4) C hw hX55.2.2.2.2.2.2.1 (by decide) (t0 := 3) rfl (zlen hX55.2.2.2.2.2.2.2.1 rfl) dX7_capture_67 ?_
      refine lv_icmp_ge (tgt := 95) hx hb dX7_capture_68 (by decide) (fun c68 => ?_) (fun c68 => ?_)
      · refine lv_aload hx hb dX7_capture_95 (lv_at hl 6 rfl) ?_
        refine zcV_i (As := []) (rest := []) (n9 := 0) (b := c1) C hw (c_X0_changeCount l D y base S55 c1 l1 hC55 hp55.2.2.2) gX7_capture_X0_changeCount rfl (by decide +kernel) ⟨⟨rfl, rfl⟩, Nat.le_of_ble_eq_true rfl, Nat.le_of_ble_eq_true rfl⟩ hC55.1 ⟨by decide, by decide⟩ rfl rfl hl.1 rfl (Nat.le_of_ble_eq_true rfl) ⟨Nat.le_of_ble_eq_true rfl, Nat.le_of_ble_eq_true rfl⟩ dX7_capture_97 (fun r97 S97 H locs hp97 hw => ?_)
        obtain ⟨rfl, hS9⟩ := hp97
        have hS9 := hS9.symm
        subst hS9
        exact vx_ret (zri C hw hr hlocks rfl ⟨rfl, (by unfold kd_capture; grind), hp55.1⟩ ⟨Nat.le_of_ble_eq_true rfl, Nat.le_of_ble_eq_true rfl⟩ dX7_capture_100)
      · refine lv_aload_n hx hb dX7_capture_71 rfl (lv_at hl 1 rfl) ?_
        refine g_Ph_wires (a := (a 0)) (v := (a 1)) C hw hX55.1 in_X7 (by decide +kernel) hX55.2.1 dX7_capture_72 ?_
        refine lv_iload hx hb dX7_capture_75 (lv_at hl 0 rfl) ?_
        have hi4 := z_lt (n := 4) c68 (by omega) (by omega)
        obtain ⟨w9, t9, n9w, eP9, hW9, eI9, eJ9, eA9, eB9⟩ := zX_w hX h0 (p := nI i) ⟨nI_pos' (by omega), nI_le (b := 3) (by omega) (by decide)⟩
        have hWb9 := zWire.fix hp55.2.1 hW9
        have eIb9 := (hp55.2.2.1 160 w9 (by decide)).trans eI9
        have eJb9 := (hp55.2.2.1 161 w9 (by decide)).trans eJ9
        have ePb9 := (congrFun (congrFun hp55.2.1.2.2.2 (a 1)) (nI i).toNatClampNeg).trans eP9
        refine zald_P (a := (a 1)) (v := w9) C hw hX55.2.2.2.2.2.2.1 (by decide) (t0 := 3) rfl rfl hX55.2.2.2.2.2.2.2.1 (vp_in_nI hi4 (by decide)) ePb9 dX7_capture_77 ?_
        refine lv_aload hx hb dX7_capture_78 (lv_at hl 6 rfl) ?_
        refine lv_iconst (v := 1) hx hb dX7_capture_80 (by decide) ?_
        refine lv_iload hx hb dX7_capture_81 (lv_at hl 0 rfl) ?_
        refine lv_ishl hx hb dX7_capture_83 ?_
        refine lv_iload_n hx hb dX7_capture_84 rfl (lv_at hl 3 rfl) ?_
        refine lv_iload_n hx hb dX7_capture_85 rfl (lv_at hl 4 rfl) ?_
        refine zcV_v (As := [.ref c1, .int (1 <<< ((nI i) &&& 31)), .int p1, .int p2]) (rest := []) (n9 := 4) (b := w9) C hw (c_X6_showIn l D y base S55 w9 t9 n9w c1 l1 (1 <<< ((nI i) &&& 31)) p1 p2 hWb9 hC55 eIb9 eJb9) gX7_capture_X6_showIn rfl (by decide +kernel) ⟨⟨rfl, rfl⟩, Nat.le_of_ble_eq_true rfl, Nat.le_of_ble_eq_true rfl⟩ hWb9.1 ⟨by decide, by decide⟩ rfl rfl hl.1 rfl (Nat.le_of_ble_eq_true rfl) ⟨Nat.le_of_ble_eq_true rfl, Nat.le_of_ble_eq_true rfl⟩ dX7_capture_86 (fun S86 H locs hp86 hw => ?_)
        have hS9 := hp86
        have hS9 := hS9.symm
        subst hS9
        refine lv_iinc (v := (nI (i + 1))) (lv' := [(6, .int (nI (i + 1))), (0, .ref (a 0)), (1, .int p0), (2, .int p1), (3, .int p2), (4, .int p3), (5, .ref c1)]) hx hb dX7_capture_89 hl (k := 0) rfl (nI_1 _) (by decide) rfl (fun ls hl => ?_)
        refine lv_goto (tgt := 61) hx hb dX7_capture_92 (by decide) ?_
        exact ih_1 (i + 1) _ _ _ (by omega) (by omega) hw (lv_sub hl [0, 1, 2, 3, 4, 5, 6] rfl)
  exact lp_2 _ 0 _ _ _ (Nat.lt_succ_self _) (Nat.zero_le _) hw (lv_sub hl [0, 2, 3, 4, 5, 6, 1] rfl)

set_option maxHeartbeats 4000000 in
set_option maxRecDepth 100000 in
/-- X7_step -/
theorem c_X7_step (l : Launch) (hst : l.stackTraces = false) (D : va_G) (y : Nat → ClassId) (base : Nat) (S : zS) (a : Nat → Nat) (p0 : Int32) (p1 : Int32) (p2 : Int32) (hX : zX S a) (h0 : zX0 S a) : zXi l yX7_step wsX7_step ({ frames := 7, cells := 3, slots := 18, locals := 112 }) [.ref (a 0), .int p0, .int p1, .int p2] D y base S (fun (r : Int32) (S1 : zS) => r = 1 ∧ kd_step p0 p1 p2 = 0 ∧ zCls S S1) (fun (E : String) (S1 : zS) => ((E = "java/lang/IndexOutOfBoundsException" ∧ kd_step p0 p1 p2 = 1) ∨ (E = "java/lang/IllegalArgumentException" ∧ kd_step p0 p1 p2 = 2)) ∧ zCls S S1) 3 18 := by
  refine zXet_of (cc := cX7_step) (maxL := 4) (ret := (some .int)) (own := RX7) (by decide +kernel) rfl rfl (Nat.le_of_ble_eq_true rfl) ?_
  intro p e s m args below meth c ls C hr hlocks hx0 hw hl
  have hx := C.1
  have hb := C.2.1
  have hown := C.2.2.2.1
  have hts := C.2.2.2.2
  have hl : lv_has ls 4 [(0, .ref (a 0)), (1, .int p0), (2, .int p1), (3, .int p2)] := hl
  have in_X4 : ∀ w ∈ wsX40, w ∈ wsX7_step := by decide +kernel
  have in_X7 : ∀ w ∈ wsX70, w ∈ wsX7_step := by decide +kernel
  refine lv_iload_n hx hb dX7_step_0 rfl (lv_at hl 1 rfl) ?_
  refine lv_bipush (v := 112) hx hb dX7_step_1 (by decide) ?_
  refine lv_icmp_eq (tgt := 16) hx hb dX7_step_3 (by decide) (fun c3 => ?_) (fun c3 => ?_)
  · refine lv_iload_n hx hb dX7_step_16 rfl (lv_at hl 1 rfl) ?_
    refine zcS_xv (As := [.int p0]) (rest := []) (n9 := 1) C hw (c_X7_checkStepKind l hst D y base S p0 ) gX7_step_X7_checkStepKind rfl (by decide +kernel) ⟨⟨rfl, rfl⟩, Nat.le_of_ble_eq_true rfl, Nat.le_of_ble_eq_true rfl⟩ rfl hl.1 rfl (Nat.le_of_ble_eq_true rfl) ⟨Nat.le_of_ble_eq_true rfl, Nat.le_of_ble_eq_true rfl⟩ dX7_step_17 (fun E ce q9 S17 H locs hx17 hw h1 h2 h3 => zxout hw hx0 hlocks h1 h2 h3 (by obtain ⟨rfl, hc9, rfl⟩ := hx17; refine ⟨?_, zCls.rf⟩; first | exact (Or.inl ⟨rfl, (by unfold kd_step; grind)⟩) | exact (Or.inr ⟨rfl, (by unfold kd_step; grind)⟩)) ⟨Nat.le_of_ble_eq_true rfl, Nat.le_of_ble_eq_true rfl⟩) (fun S17 H locs hp17 hw => ?_)
    obtain ⟨hp17, hS9⟩ := hp17
    have hS9 := hS9.symm
    subst hS9
    refine lv_iload_n hx hb dX7_step_20 rfl (lv_at hl 3 rfl) ?_
    refine lv_iload_n hx hb dX7_step_21 rfl (lv_at hl 1 rfl) ?_
    refine lv_bipush (v := 112) hx hb dX7_step_22 (by decide) ?_
    refine lv_icmp_ne (tgt := 31) hx hb dX7_step_24 (by decide) (fun c24 => ?_) (fun c24 => ?_)
    · refine lv_iconst (v := 1) hx hb dX7_step_31 (by decide) ?_
      refine lv_iload_n hx hb dX7_step_32 rfl (lv_at hl 1 rfl) ?_
      refine lv_bipush (v := 112) hx hb dX7_step_33 (by decide) ?_
      refine lv_icmp_ne (tgt := 43) hx hb dX7_step_35 (by decide) (fun c35 => ?_) (fun c35 => ?_)
      · refine lv_sipush (v := 400) hx hb dX7_step_43 (by decide) ?_
        refine zcS_xv (As := [.int p2, .int 1, .int 400]) (rest := []) (n9 := 3) C hw (c_X7_checkRange l hst D y base S p2 1 400 ) gX7_step_X7_checkRange rfl (by decide +kernel) ⟨⟨rfl, rfl⟩, Nat.le_of_ble_eq_true rfl, Nat.le_of_ble_eq_true rfl⟩ rfl hl.1 rfl (Nat.le_of_ble_eq_true rfl) ⟨Nat.le_of_ble_eq_true rfl, Nat.le_of_ble_eq_true rfl⟩ dX7_step_46 (fun E ce q9 S46 H locs hx46 hw h1 h2 h3 => zxout hw hx0 hlocks h1 h2 h3 (by obtain ⟨rfl, hc9, rfl⟩ := hx46; refine ⟨?_, zCls.rf⟩; first | exact (Or.inl ⟨rfl, (by unfold kd_step; grind)⟩) | exact (Or.inr ⟨rfl, (by unfold kd_step; grind)⟩)) ⟨Nat.le_of_ble_eq_true rfl, Nat.le_of_ble_eq_true rfl⟩) (fun S46 H locs hp46 hw => ?_)
        obtain ⟨hp46, hS9⟩ := hp46
        have hS9 := hS9.symm
        subst hS9
        refine lv_aload_n hx hb dX7_step_49 rfl (lv_at hl 0 rfl) ?_
        refine zcV_xv (As := []) (rest := []) (n9 := 0) (b := (a 0)) C hw (c_X7_checkFreeStep l hst D y base S a hX (by first | assumption | decide | grind)) gX7_step_X7_checkFreeStep rfl (by decide +kernel) ⟨⟨rfl, rfl⟩, Nat.le_of_ble_eq_true rfl, Nat.le_of_ble_eq_true rfl⟩ hX.1 ⟨by decide, by decide⟩ rfl rfl hl.1 rfl (Nat.le_of_ble_eq_true rfl) ⟨Nat.le_of_ble_eq_true rfl, Nat.le_of_ble_eq_true rfl⟩ dX7_step_50 (fun E ce q9 S50 H locs hx50 hw h1 h2 h3 => zxout hw hx0 hlocks h1 h2 h3 (False.elim hx50.1) ⟨Nat.le_of_ble_eq_true rfl, Nat.le_of_ble_eq_true rfl⟩) (fun S50 H locs hp50 hw => ?_)
        have hS9 := hp50
        have hS9 := hS9.symm
        subst hS9
        refine lv_aload_n hx hb dX7_step_53 rfl (lv_at hl 0 rfl) ?_
        refine g_Ph_program (a := (a 0)) (v := (a 3)) C hw hX.1 in_X7 (by decide +kernel) hX.2.2.2.1 dX7_step_54 ?_
        refine lv_iload_n hx hb dX7_step_57 rfl (lv_at hl 1 rfl) ?_
        refine lv_iload_n hx hb dX7_step_58 rfl (lv_at hl 2 rfl) ?_
        refine lv_iload_n hx hb dX7_step_59 rfl (lv_at hl 3 rfl) ?_
        refine zcV_v (As := [.int p0, .int p1, .int p2]) (rest := []) (n9 := 3) (b := (a 3)) C hw (c_X4_addStep l D y base S (a 3) (a 7) (a 8) (a 9) p0 p1 p2 hX.2.2.2.2.2.2.2.2.2.2.2.2.1 h0.2.2.1) gX7_step_X4_addStep rfl (by decide +kernel) ⟨⟨rfl, rfl⟩, Nat.le_of_ble_eq_true rfl, Nat.le_of_ble_eq_true rfl⟩ hX.2.2.2.2.2.2.2.2.2.2.2.2.1.1 ⟨by decide, by decide⟩ rfl rfl hl.1 rfl (Nat.le_of_ble_eq_true rfl) ⟨Nat.le_of_ble_eq_true rfl, Nat.le_of_ble_eq_true rfl⟩ dX7_step_60 (fun S60 H locs hp60 hw => ?_)
        have hX60 := zX.fix hp60.2.2 hX
        refine lv_aload_n hx hb dX7_step_63 rfl (lv_at hl 0 rfl) ?_
        refine g_Ph_program (a := (a 0)) (v := (a 3)) C hw hX60.1 in_X7 (by decide +kernel) hX60.2.2.2.1 dX7_step_64 ?_
        refine g_Trig_count (a := (a 3)) (v := 1) C hw hX60.2.2.2.2.2.2.2.2.2.2.2.2.1.1 in_X4 (by decide +kernel) hp60.2.1 dX7_step_67 ?_
        exact vx_ret (zri C hw hr hlocks rfl ⟨rfl, (by unfold kd_step; grind), hp60.1⟩ ⟨Nat.le_of_ble_eq_true rfl, Nat.le_of_ble_eq_true rfl⟩ dX7_step_70)
      · refine lv_bipush (v := 15) hx hb dX7_step_38 (by decide) ?_
        refine lv_goto (tgt := 46) hx hb dX7_step_40 (by decide) ?_
        refine zcS_xv (As := [.int p2, .int 1, .int 15]) (rest := []) (n9 := 3) C hw (c_X7_checkRange l hst D y base S p2 1 15 ) gX7_step_X7_checkRange rfl (by decide +kernel) ⟨⟨rfl, rfl⟩, Nat.le_of_ble_eq_true rfl, Nat.le_of_ble_eq_true rfl⟩ rfl hl.1 rfl (Nat.le_of_ble_eq_true rfl) ⟨Nat.le_of_ble_eq_true rfl, Nat.le_of_ble_eq_true rfl⟩ dX7_step_46 (fun E ce q9 S46 H locs hx46 hw h1 h2 h3 => zxout hw hx0 hlocks h1 h2 h3 (by obtain ⟨rfl, hc9, rfl⟩ := hx46; refine ⟨?_, zCls.rf⟩; first | exact (Or.inl ⟨rfl, (by unfold kd_step; grind)⟩) | exact (Or.inr ⟨rfl, (by unfold kd_step; grind)⟩)) ⟨Nat.le_of_ble_eq_true rfl, Nat.le_of_ble_eq_true rfl⟩) (fun S46 H locs hp46 hw => ?_)
        obtain ⟨hp46, hS9⟩ := hp46
        have hS9 := hS9.symm
        subst hS9
        refine lv_aload_n hx hb dX7_step_49 rfl (lv_at hl 0 rfl) ?_
        refine zcV_xv (As := []) (rest := []) (n9 := 0) (b := (a 0)) C hw (c_X7_checkFreeStep l hst D y base S a hX (by first | assumption | decide | grind)) gX7_step_X7_checkFreeStep rfl (by decide +kernel) ⟨⟨rfl, rfl⟩, Nat.le_of_ble_eq_true rfl, Nat.le_of_ble_eq_true rfl⟩ hX.1 ⟨by decide, by decide⟩ rfl rfl hl.1 rfl (Nat.le_of_ble_eq_true rfl) ⟨Nat.le_of_ble_eq_true rfl, Nat.le_of_ble_eq_true rfl⟩ dX7_step_50 (fun E ce q9 S50 H locs hx50 hw h1 h2 h3 => zxout hw hx0 hlocks h1 h2 h3 (False.elim hx50.1) ⟨Nat.le_of_ble_eq_true rfl, Nat.le_of_ble_eq_true rfl⟩) (fun S50 H locs hp50 hw => ?_)
        have hS9 := hp50
        have hS9 := hS9.symm
        subst hS9
        refine lv_aload_n hx hb dX7_step_53 rfl (lv_at hl 0 rfl) ?_
        refine g_Ph_program (a := (a 0)) (v := (a 3)) C hw hX.1 in_X7 (by decide +kernel) hX.2.2.2.1 dX7_step_54 ?_
        refine lv_iload_n hx hb dX7_step_57 rfl (lv_at hl 1 rfl) ?_
        refine lv_iload_n hx hb dX7_step_58 rfl (lv_at hl 2 rfl) ?_
        refine lv_iload_n hx hb dX7_step_59 rfl (lv_at hl 3 rfl) ?_
        refine zcV_v (As := [.int p0, .int p1, .int p2]) (rest := []) (n9 := 3) (b := (a 3)) C hw (c_X4_addStep l D y base S (a 3) (a 7) (a 8) (a 9) p0 p1 p2 hX.2.2.2.2.2.2.2.2.2.2.2.2.1 h0.2.2.1) gX7_step_X4_addStep rfl (by decide +kernel) ⟨⟨rfl, rfl⟩, Nat.le_of_ble_eq_true rfl, Nat.le_of_ble_eq_true rfl⟩ hX.2.2.2.2.2.2.2.2.2.2.2.2.1.1 ⟨by decide, by decide⟩ rfl rfl hl.1 rfl (Nat.le_of_ble_eq_true rfl) ⟨Nat.le_of_ble_eq_true rfl, Nat.le_of_ble_eq_true rfl⟩ dX7_step_60 (fun S60 H locs hp60 hw => ?_)
        have hX60 := zX.fix hp60.2.2 hX
        refine lv_aload_n hx hb dX7_step_63 rfl (lv_at hl 0 rfl) ?_
        refine g_Ph_program (a := (a 0)) (v := (a 3)) C hw hX60.1 in_X7 (by decide +kernel) hX60.2.2.2.1 dX7_step_64 ?_
        refine g_Trig_count (a := (a 3)) (v := 1) C hw hX60.2.2.2.2.2.2.2.2.2.2.2.2.1.1 in_X4 (by decide +kernel) hp60.2.1 dX7_step_67 ?_
        exact vx_ret (zri C hw hr hlocks rfl ⟨rfl, (by unfold kd_step; grind), hp60.1⟩ ⟨Nat.le_of_ble_eq_true rfl, Nat.le_of_ble_eq_true rfl⟩ dX7_step_70)
    · refine lv_iconst (v := 0) hx hb dX7_step_27 (by decide) ?_
      refine lv_goto (tgt := 32) hx hb dX7_step_28 (by decide) ?_
      refine lv_iload_n hx hb dX7_step_32 rfl (lv_at hl 1 rfl) ?_
      refine lv_bipush (v := 112) hx hb dX7_step_33 (by decide) ?_
      refine lv_icmp_ne (tgt := 43) hx hb dX7_step_35 (by decide) (fun c35 => ?_) (fun c35 => ?_)
      · refine lv_sipush (v := 400) hx hb dX7_step_43 (by decide) ?_
        refine zcS_xv (As := [.int p2, .int 0, .int 400]) (rest := []) (n9 := 3) C hw (c_X7_checkRange l hst D y base S p2 0 400 ) gX7_step_X7_checkRange rfl (by decide +kernel) ⟨⟨rfl, rfl⟩, Nat.le_of_ble_eq_true rfl, Nat.le_of_ble_eq_true rfl⟩ rfl hl.1 rfl (Nat.le_of_ble_eq_true rfl) ⟨Nat.le_of_ble_eq_true rfl, Nat.le_of_ble_eq_true rfl⟩ dX7_step_46 (fun E ce q9 S46 H locs hx46 hw h1 h2 h3 => zxout hw hx0 hlocks h1 h2 h3 (by obtain ⟨rfl, hc9, rfl⟩ := hx46; refine ⟨?_, zCls.rf⟩; first | exact (Or.inl ⟨rfl, (by unfold kd_step; grind)⟩) | exact (Or.inr ⟨rfl, (by unfold kd_step; grind)⟩)) ⟨Nat.le_of_ble_eq_true rfl, Nat.le_of_ble_eq_true rfl⟩) (fun S46 H locs hp46 hw => ?_)
        obtain ⟨hp46, hS9⟩ := hp46
        have hS9 := hS9.symm
        subst hS9
        refine lv_aload_n hx hb dX7_step_49 rfl (lv_at hl 0 rfl) ?_
        refine zcV_xv (As := []) (rest := []) (n9 := 0) (b := (a 0)) C hw (c_X7_checkFreeStep l hst D y base S a hX (by first | assumption | decide | grind)) gX7_step_X7_checkFreeStep rfl (by decide +kernel) ⟨⟨rfl, rfl⟩, Nat.le_of_ble_eq_true rfl, Nat.le_of_ble_eq_true rfl⟩ hX.1 ⟨by decide, by decide⟩ rfl rfl hl.1 rfl (Nat.le_of_ble_eq_true rfl) ⟨Nat.le_of_ble_eq_true rfl, Nat.le_of_ble_eq_true rfl⟩ dX7_step_50 (fun E ce q9 S50 H locs hx50 hw h1 h2 h3 => zxout hw hx0 hlocks h1 h2 h3 (False.elim hx50.1) ⟨Nat.le_of_ble_eq_true rfl, Nat.le_of_ble_eq_true rfl⟩) (fun S50 H locs hp50 hw => ?_)
        have hS9 := hp50
        have hS9 := hS9.symm
        subst hS9
        refine lv_aload_n hx hb dX7_step_53 rfl (lv_at hl 0 rfl) ?_
        refine g_Ph_program (a := (a 0)) (v := (a 3)) C hw hX.1 in_X7 (by decide +kernel) hX.2.2.2.1 dX7_step_54 ?_
        refine lv_iload_n hx hb dX7_step_57 rfl (lv_at hl 1 rfl) ?_
        refine lv_iload_n hx hb dX7_step_58 rfl (lv_at hl 2 rfl) ?_
        refine lv_iload_n hx hb dX7_step_59 rfl (lv_at hl 3 rfl) ?_
        refine zcV_v (As := [.int p0, .int p1, .int p2]) (rest := []) (n9 := 3) (b := (a 3)) C hw (c_X4_addStep l D y base S (a 3) (a 7) (a 8) (a 9) p0 p1 p2 hX.2.2.2.2.2.2.2.2.2.2.2.2.1 h0.2.2.1) gX7_step_X4_addStep rfl (by decide +kernel) ⟨⟨rfl, rfl⟩, Nat.le_of_ble_eq_true rfl, Nat.le_of_ble_eq_true rfl⟩ hX.2.2.2.2.2.2.2.2.2.2.2.2.1.1 ⟨by decide, by decide⟩ rfl rfl hl.1 rfl (Nat.le_of_ble_eq_true rfl) ⟨Nat.le_of_ble_eq_true rfl, Nat.le_of_ble_eq_true rfl⟩ dX7_step_60 (fun S60 H locs hp60 hw => ?_)
        have hX60 := zX.fix hp60.2.2 hX
        refine lv_aload_n hx hb dX7_step_63 rfl (lv_at hl 0 rfl) ?_
        refine g_Ph_program (a := (a 0)) (v := (a 3)) C hw hX60.1 in_X7 (by decide +kernel) hX60.2.2.2.1 dX7_step_64 ?_
        refine g_Trig_count (a := (a 3)) (v := 1) C hw hX60.2.2.2.2.2.2.2.2.2.2.2.2.1.1 in_X4 (by decide +kernel) hp60.2.1 dX7_step_67 ?_
        exact vx_ret (zri C hw hr hlocks rfl ⟨rfl, (by unfold kd_step; grind), hp60.1⟩ ⟨Nat.le_of_ble_eq_true rfl, Nat.le_of_ble_eq_true rfl⟩ dX7_step_70)
      · refine lv_bipush (v := 15) hx hb dX7_step_38 (by decide) ?_
        refine lv_goto (tgt := 46) hx hb dX7_step_40 (by decide) ?_
        refine zcS_xv (As := [.int p2, .int 0, .int 15]) (rest := []) (n9 := 3) C hw (c_X7_checkRange l hst D y base S p2 0 15 ) gX7_step_X7_checkRange rfl (by decide +kernel) ⟨⟨rfl, rfl⟩, Nat.le_of_ble_eq_true rfl, Nat.le_of_ble_eq_true rfl⟩ rfl hl.1 rfl (Nat.le_of_ble_eq_true rfl) ⟨Nat.le_of_ble_eq_true rfl, Nat.le_of_ble_eq_true rfl⟩ dX7_step_46 (fun E ce q9 S46 H locs hx46 hw h1 h2 h3 => zxout hw hx0 hlocks h1 h2 h3 (by obtain ⟨rfl, hc9, rfl⟩ := hx46; refine ⟨?_, zCls.rf⟩; first | exact (Or.inl ⟨rfl, (by unfold kd_step; grind)⟩) | exact (Or.inr ⟨rfl, (by unfold kd_step; grind)⟩)) ⟨Nat.le_of_ble_eq_true rfl, Nat.le_of_ble_eq_true rfl⟩) (fun S46 H locs hp46 hw => ?_)
        obtain ⟨hp46, hS9⟩ := hp46
        have hS9 := hS9.symm
        subst hS9
        refine lv_aload_n hx hb dX7_step_49 rfl (lv_at hl 0 rfl) ?_
        refine zcV_xv (As := []) (rest := []) (n9 := 0) (b := (a 0)) C hw (c_X7_checkFreeStep l hst D y base S a hX (by first | assumption | decide | grind)) gX7_step_X7_checkFreeStep rfl (by decide +kernel) ⟨⟨rfl, rfl⟩, Nat.le_of_ble_eq_true rfl, Nat.le_of_ble_eq_true rfl⟩ hX.1 ⟨by decide, by decide⟩ rfl rfl hl.1 rfl (Nat.le_of_ble_eq_true rfl) ⟨Nat.le_of_ble_eq_true rfl, Nat.le_of_ble_eq_true rfl⟩ dX7_step_50 (fun E ce q9 S50 H locs hx50 hw h1 h2 h3 => zxout hw hx0 hlocks h1 h2 h3 (False.elim hx50.1) ⟨Nat.le_of_ble_eq_true rfl, Nat.le_of_ble_eq_true rfl⟩) (fun S50 H locs hp50 hw => ?_)
        have hS9 := hp50
        have hS9 := hS9.symm
        subst hS9
        refine lv_aload_n hx hb dX7_step_53 rfl (lv_at hl 0 rfl) ?_
        refine g_Ph_program (a := (a 0)) (v := (a 3)) C hw hX.1 in_X7 (by decide +kernel) hX.2.2.2.1 dX7_step_54 ?_
        refine lv_iload_n hx hb dX7_step_57 rfl (lv_at hl 1 rfl) ?_
        refine lv_iload_n hx hb dX7_step_58 rfl (lv_at hl 2 rfl) ?_
        refine lv_iload_n hx hb dX7_step_59 rfl (lv_at hl 3 rfl) ?_
        refine zcV_v (As := [.int p0, .int p1, .int p2]) (rest := []) (n9 := 3) (b := (a 3)) C hw (c_X4_addStep l D y base S (a 3) (a 7) (a 8) (a 9) p0 p1 p2 hX.2.2.2.2.2.2.2.2.2.2.2.2.1 h0.2.2.1) gX7_step_X4_addStep rfl (by decide +kernel) ⟨⟨rfl, rfl⟩, Nat.le_of_ble_eq_true rfl, Nat.le_of_ble_eq_true rfl⟩ hX.2.2.2.2.2.2.2.2.2.2.2.2.1.1 ⟨by decide, by decide⟩ rfl rfl hl.1 rfl (Nat.le_of_ble_eq_true rfl) ⟨Nat.le_of_ble_eq_true rfl, Nat.le_of_ble_eq_true rfl⟩ dX7_step_60 (fun S60 H locs hp60 hw => ?_)
        have hX60 := zX.fix hp60.2.2 hX
        refine lv_aload_n hx hb dX7_step_63 rfl (lv_at hl 0 rfl) ?_
        refine g_Ph_program (a := (a 0)) (v := (a 3)) C hw hX60.1 in_X7 (by decide +kernel) hX60.2.2.2.1 dX7_step_64 ?_
        refine g_Trig_count (a := (a 3)) (v := 1) C hw hX60.2.2.2.2.2.2.2.2.2.2.2.2.1.1 in_X4 (by decide +kernel) hp60.2.1 dX7_step_67 ?_
        exact vx_ret (zri C hw hr hlocks rfl ⟨rfl, (by unfold kd_step; grind), hp60.1⟩ ⟨Nat.le_of_ble_eq_true rfl, Nat.le_of_ble_eq_true rfl⟩ dX7_step_70)
  · refine lv_iload_n hx hb dX7_step_6 rfl (lv_at hl 1 rfl) ?_
    refine lv_bipush (v := 116) hx hb dX7_step_7 (by decide) ?_
    refine lv_icmp_eq (tgt := 16) hx hb dX7_step_9 (by decide) (fun c9 => ?_) (fun c9 => ?_)
    · refine lv_iload_n hx hb dX7_step_16 rfl (lv_at hl 1 rfl) ?_
      refine zcS_xv (As := [.int p0]) (rest := []) (n9 := 1) C hw (c_X7_checkStepKind l hst D y base S p0 ) gX7_step_X7_checkStepKind rfl (by decide +kernel) ⟨⟨rfl, rfl⟩, Nat.le_of_ble_eq_true rfl, Nat.le_of_ble_eq_true rfl⟩ rfl hl.1 rfl (Nat.le_of_ble_eq_true rfl) ⟨Nat.le_of_ble_eq_true rfl, Nat.le_of_ble_eq_true rfl⟩ dX7_step_17 (fun E ce q9 S17 H locs hx17 hw h1 h2 h3 => zxout hw hx0 hlocks h1 h2 h3 (by obtain ⟨rfl, hc9, rfl⟩ := hx17; refine ⟨?_, zCls.rf⟩; first | exact (Or.inl ⟨rfl, (by unfold kd_step; grind)⟩) | exact (Or.inr ⟨rfl, (by unfold kd_step; grind)⟩)) ⟨Nat.le_of_ble_eq_true rfl, Nat.le_of_ble_eq_true rfl⟩) (fun S17 H locs hp17 hw => ?_)
      obtain ⟨hp17, hS9⟩ := hp17
      have hS9 := hS9.symm
      subst hS9
      refine lv_iload_n hx hb dX7_step_20 rfl (lv_at hl 3 rfl) ?_
      refine lv_iload_n hx hb dX7_step_21 rfl (lv_at hl 1 rfl) ?_
      refine lv_bipush (v := 112) hx hb dX7_step_22 (by decide) ?_
      refine lv_icmp_ne (tgt := 31) hx hb dX7_step_24 (by decide) (fun c24 => ?_) (fun c24 => ?_)
      · refine lv_iconst (v := 1) hx hb dX7_step_31 (by decide) ?_
        refine lv_iload_n hx hb dX7_step_32 rfl (lv_at hl 1 rfl) ?_
        refine lv_bipush (v := 112) hx hb dX7_step_33 (by decide) ?_
        refine lv_icmp_ne (tgt := 43) hx hb dX7_step_35 (by decide) (fun c35 => ?_) (fun c35 => ?_)
        · refine lv_sipush (v := 400) hx hb dX7_step_43 (by decide) ?_
          refine zcS_xv (As := [.int p2, .int 1, .int 400]) (rest := []) (n9 := 3) C hw (c_X7_checkRange l hst D y base S p2 1 400 ) gX7_step_X7_checkRange rfl (by decide +kernel) ⟨⟨rfl, rfl⟩, Nat.le_of_ble_eq_true rfl, Nat.le_of_ble_eq_true rfl⟩ rfl hl.1 rfl (Nat.le_of_ble_eq_true rfl) ⟨Nat.le_of_ble_eq_true rfl, Nat.le_of_ble_eq_true rfl⟩ dX7_step_46 (fun E ce q9 S46 H locs hx46 hw h1 h2 h3 => zxout hw hx0 hlocks h1 h2 h3 (by obtain ⟨rfl, hc9, rfl⟩ := hx46; refine ⟨?_, zCls.rf⟩; first | exact (Or.inl ⟨rfl, (by unfold kd_step; grind)⟩) | exact (Or.inr ⟨rfl, (by unfold kd_step; grind)⟩)) ⟨Nat.le_of_ble_eq_true rfl, Nat.le_of_ble_eq_true rfl⟩) (fun S46 H locs hp46 hw => ?_)
          obtain ⟨hp46, hS9⟩ := hp46
          have hS9 := hS9.symm
          subst hS9
          refine lv_aload_n hx hb dX7_step_49 rfl (lv_at hl 0 rfl) ?_
          refine zcV_xv (As := []) (rest := []) (n9 := 0) (b := (a 0)) C hw (c_X7_checkFreeStep l hst D y base S a hX (by first | assumption | decide | grind)) gX7_step_X7_checkFreeStep rfl (by decide +kernel) ⟨⟨rfl, rfl⟩, Nat.le_of_ble_eq_true rfl, Nat.le_of_ble_eq_true rfl⟩ hX.1 ⟨by decide, by decide⟩ rfl rfl hl.1 rfl (Nat.le_of_ble_eq_true rfl) ⟨Nat.le_of_ble_eq_true rfl, Nat.le_of_ble_eq_true rfl⟩ dX7_step_50 (fun E ce q9 S50 H locs hx50 hw h1 h2 h3 => zxout hw hx0 hlocks h1 h2 h3 (False.elim hx50.1) ⟨Nat.le_of_ble_eq_true rfl, Nat.le_of_ble_eq_true rfl⟩) (fun S50 H locs hp50 hw => ?_)
          have hS9 := hp50
          have hS9 := hS9.symm
          subst hS9
          refine lv_aload_n hx hb dX7_step_53 rfl (lv_at hl 0 rfl) ?_
          refine g_Ph_program (a := (a 0)) (v := (a 3)) C hw hX.1 in_X7 (by decide +kernel) hX.2.2.2.1 dX7_step_54 ?_
          refine lv_iload_n hx hb dX7_step_57 rfl (lv_at hl 1 rfl) ?_
          refine lv_iload_n hx hb dX7_step_58 rfl (lv_at hl 2 rfl) ?_
          refine lv_iload_n hx hb dX7_step_59 rfl (lv_at hl 3 rfl) ?_
          refine zcV_v (As := [.int p0, .int p1, .int p2]) (rest := []) (n9 := 3) (b := (a 3)) C hw (c_X4_addStep l D y base S (a 3) (a 7) (a 8) (a 9) p0 p1 p2 hX.2.2.2.2.2.2.2.2.2.2.2.2.1 h0.2.2.1) gX7_step_X4_addStep rfl (by decide +kernel) ⟨⟨rfl, rfl⟩, Nat.le_of_ble_eq_true rfl, Nat.le_of_ble_eq_true rfl⟩ hX.2.2.2.2.2.2.2.2.2.2.2.2.1.1 ⟨by decide, by decide⟩ rfl rfl hl.1 rfl (Nat.le_of_ble_eq_true rfl) ⟨Nat.le_of_ble_eq_true rfl, Nat.le_of_ble_eq_true rfl⟩ dX7_step_60 (fun S60 H locs hp60 hw => ?_)
          have hX60 := zX.fix hp60.2.2 hX
          refine lv_aload_n hx hb dX7_step_63 rfl (lv_at hl 0 rfl) ?_
          refine g_Ph_program (a := (a 0)) (v := (a 3)) C hw hX60.1 in_X7 (by decide +kernel) hX60.2.2.2.1 dX7_step_64 ?_
          refine g_Trig_count (a := (a 3)) (v := 1) C hw hX60.2.2.2.2.2.2.2.2.2.2.2.2.1.1 in_X4 (by decide +kernel) hp60.2.1 dX7_step_67 ?_
          exact vx_ret (zri C hw hr hlocks rfl ⟨rfl, (by unfold kd_step; grind), hp60.1⟩ ⟨Nat.le_of_ble_eq_true rfl, Nat.le_of_ble_eq_true rfl⟩ dX7_step_70)
        · refine lv_bipush (v := 15) hx hb dX7_step_38 (by decide) ?_
          refine lv_goto (tgt := 46) hx hb dX7_step_40 (by decide) ?_
          refine zcS_xv (As := [.int p2, .int 1, .int 15]) (rest := []) (n9 := 3) C hw (c_X7_checkRange l hst D y base S p2 1 15 ) gX7_step_X7_checkRange rfl (by decide +kernel) ⟨⟨rfl, rfl⟩, Nat.le_of_ble_eq_true rfl, Nat.le_of_ble_eq_true rfl⟩ rfl hl.1 rfl (Nat.le_of_ble_eq_true rfl) ⟨Nat.le_of_ble_eq_true rfl, Nat.le_of_ble_eq_true rfl⟩ dX7_step_46 (fun E ce q9 S46 H locs hx46 hw h1 h2 h3 => zxout hw hx0 hlocks h1 h2 h3 (by obtain ⟨rfl, hc9, rfl⟩ := hx46; refine ⟨?_, zCls.rf⟩; first | exact (Or.inl ⟨rfl, (by unfold kd_step; grind)⟩) | exact (Or.inr ⟨rfl, (by unfold kd_step; grind)⟩)) ⟨Nat.le_of_ble_eq_true rfl, Nat.le_of_ble_eq_true rfl⟩) (fun S46 H locs hp46 hw => ?_)
          obtain ⟨hp46, hS9⟩ := hp46
          have hS9 := hS9.symm
          subst hS9
          refine lv_aload_n hx hb dX7_step_49 rfl (lv_at hl 0 rfl) ?_
          refine zcV_xv (As := []) (rest := []) (n9 := 0) (b := (a 0)) C hw (c_X7_checkFreeStep l hst D y base S a hX (by first | assumption | decide | grind)) gX7_step_X7_checkFreeStep rfl (by decide +kernel) ⟨⟨rfl, rfl⟩, Nat.le_of_ble_eq_true rfl, Nat.le_of_ble_eq_true rfl⟩ hX.1 ⟨by decide, by decide⟩ rfl rfl hl.1 rfl (Nat.le_of_ble_eq_true rfl) ⟨Nat.le_of_ble_eq_true rfl, Nat.le_of_ble_eq_true rfl⟩ dX7_step_50 (fun E ce q9 S50 H locs hx50 hw h1 h2 h3 => zxout hw hx0 hlocks h1 h2 h3 (False.elim hx50.1) ⟨Nat.le_of_ble_eq_true rfl, Nat.le_of_ble_eq_true rfl⟩) (fun S50 H locs hp50 hw => ?_)
          have hS9 := hp50
          have hS9 := hS9.symm
          subst hS9
          refine lv_aload_n hx hb dX7_step_53 rfl (lv_at hl 0 rfl) ?_
          refine g_Ph_program (a := (a 0)) (v := (a 3)) C hw hX.1 in_X7 (by decide +kernel) hX.2.2.2.1 dX7_step_54 ?_
          refine lv_iload_n hx hb dX7_step_57 rfl (lv_at hl 1 rfl) ?_
          refine lv_iload_n hx hb dX7_step_58 rfl (lv_at hl 2 rfl) ?_
          refine lv_iload_n hx hb dX7_step_59 rfl (lv_at hl 3 rfl) ?_
          refine zcV_v (As := [.int p0, .int p1, .int p2]) (rest := []) (n9 := 3) (b := (a 3)) C hw (c_X4_addStep l D y base S (a 3) (a 7) (a 8) (a 9) p0 p1 p2 hX.2.2.2.2.2.2.2.2.2.2.2.2.1 h0.2.2.1) gX7_step_X4_addStep rfl (by decide +kernel) ⟨⟨rfl, rfl⟩, Nat.le_of_ble_eq_true rfl, Nat.le_of_ble_eq_true rfl⟩ hX.2.2.2.2.2.2.2.2.2.2.2.2.1.1 ⟨by decide, by decide⟩ rfl rfl hl.1 rfl (Nat.le_of_ble_eq_true rfl) ⟨Nat.le_of_ble_eq_true rfl, Nat.le_of_ble_eq_true rfl⟩ dX7_step_60 (fun S60 H locs hp60 hw => ?_)
          have hX60 := zX.fix hp60.2.2 hX
          refine lv_aload_n hx hb dX7_step_63 rfl (lv_at hl 0 rfl) ?_
          refine g_Ph_program (a := (a 0)) (v := (a 3)) C hw hX60.1 in_X7 (by decide +kernel) hX60.2.2.2.1 dX7_step_64 ?_
          refine g_Trig_count (a := (a 3)) (v := 1) C hw hX60.2.2.2.2.2.2.2.2.2.2.2.2.1.1 in_X4 (by decide +kernel) hp60.2.1 dX7_step_67 ?_
          exact vx_ret (zri C hw hr hlocks rfl ⟨rfl, (by unfold kd_step; grind), hp60.1⟩ ⟨Nat.le_of_ble_eq_true rfl, Nat.le_of_ble_eq_true rfl⟩ dX7_step_70)
      · refine lv_iconst (v := 0) hx hb dX7_step_27 (by decide) ?_
        refine lv_goto (tgt := 32) hx hb dX7_step_28 (by decide) ?_
        refine lv_iload_n hx hb dX7_step_32 rfl (lv_at hl 1 rfl) ?_
        refine lv_bipush (v := 112) hx hb dX7_step_33 (by decide) ?_
        refine lv_icmp_ne (tgt := 43) hx hb dX7_step_35 (by decide) (fun c35 => ?_) (fun c35 => ?_)
        · refine lv_sipush (v := 400) hx hb dX7_step_43 (by decide) ?_
          refine zcS_xv (As := [.int p2, .int 0, .int 400]) (rest := []) (n9 := 3) C hw (c_X7_checkRange l hst D y base S p2 0 400 ) gX7_step_X7_checkRange rfl (by decide +kernel) ⟨⟨rfl, rfl⟩, Nat.le_of_ble_eq_true rfl, Nat.le_of_ble_eq_true rfl⟩ rfl hl.1 rfl (Nat.le_of_ble_eq_true rfl) ⟨Nat.le_of_ble_eq_true rfl, Nat.le_of_ble_eq_true rfl⟩ dX7_step_46 (fun E ce q9 S46 H locs hx46 hw h1 h2 h3 => zxout hw hx0 hlocks h1 h2 h3 (by obtain ⟨rfl, hc9, rfl⟩ := hx46; refine ⟨?_, zCls.rf⟩; first | exact (Or.inl ⟨rfl, (by unfold kd_step; grind)⟩) | exact (Or.inr ⟨rfl, (by unfold kd_step; grind)⟩)) ⟨Nat.le_of_ble_eq_true rfl, Nat.le_of_ble_eq_true rfl⟩) (fun S46 H locs hp46 hw => ?_)
          obtain ⟨hp46, hS9⟩ := hp46
          have hS9 := hS9.symm
          subst hS9
          refine lv_aload_n hx hb dX7_step_49 rfl (lv_at hl 0 rfl) ?_
          refine zcV_xv (As := []) (rest := []) (n9 := 0) (b := (a 0)) C hw (c_X7_checkFreeStep l hst D y base S a hX (by first | assumption | decide | grind)) gX7_step_X7_checkFreeStep rfl (by decide +kernel) ⟨⟨rfl, rfl⟩, Nat.le_of_ble_eq_true rfl, Nat.le_of_ble_eq_true rfl⟩ hX.1 ⟨by decide, by decide⟩ rfl rfl hl.1 rfl (Nat.le_of_ble_eq_true rfl) ⟨Nat.le_of_ble_eq_true rfl, Nat.le_of_ble_eq_true rfl⟩ dX7_step_50 (fun E ce q9 S50 H locs hx50 hw h1 h2 h3 => zxout hw hx0 hlocks h1 h2 h3 (False.elim hx50.1) ⟨Nat.le_of_ble_eq_true rfl, Nat.le_of_ble_eq_true rfl⟩) (fun S50 H locs hp50 hw => ?_)
          have hS9 := hp50
          have hS9 := hS9.symm
          subst hS9
          refine lv_aload_n hx hb dX7_step_53 rfl (lv_at hl 0 rfl) ?_
          refine g_Ph_program (a := (a 0)) (v := (a 3)) C hw hX.1 in_X7 (by decide +kernel) hX.2.2.2.1 dX7_step_54 ?_
          refine lv_iload_n hx hb dX7_step_57 rfl (lv_at hl 1 rfl) ?_
          refine lv_iload_n hx hb dX7_step_58 rfl (lv_at hl 2 rfl) ?_
          refine lv_iload_n hx hb dX7_step_59 rfl (lv_at hl 3 rfl) ?_
          refine zcV_v (As := [.int p0, .int p1, .int p2]) (rest := []) (n9 := 3) (b := (a 3)) C hw (c_X4_addStep l D y base S (a 3) (a 7) (a 8) (a 9) p0 p1 p2 hX.2.2.2.2.2.2.2.2.2.2.2.2.1 h0.2.2.1) gX7_step_X4_addStep rfl (by decide +kernel) ⟨⟨rfl, rfl⟩, Nat.le_of_ble_eq_true rfl, Nat.le_of_ble_eq_true rfl⟩ hX.2.2.2.2.2.2.2.2.2.2.2.2.1.1 ⟨by decide, by decide⟩ rfl rfl hl.1 rfl (Nat.le_of_ble_eq_true rfl) ⟨Nat.le_of_ble_eq_true rfl, Nat.le_of_ble_eq_true rfl⟩ dX7_step_60 (fun S60 H locs hp60 hw => ?_)
          have hX60 := zX.fix hp60.2.2 hX
          refine lv_aload_n hx hb dX7_step_63 rfl (lv_at hl 0 rfl) ?_
          refine g_Ph_program (a := (a 0)) (v := (a 3)) C hw hX60.1 in_X7 (by decide +kernel) hX60.2.2.2.1 dX7_step_64 ?_
          refine g_Trig_count (a := (a 3)) (v := 1) C hw hX60.2.2.2.2.2.2.2.2.2.2.2.2.1.1 in_X4 (by decide +kernel) hp60.2.1 dX7_step_67 ?_
          exact vx_ret (zri C hw hr hlocks rfl ⟨rfl, (by unfold kd_step; grind), hp60.1⟩ ⟨Nat.le_of_ble_eq_true rfl, Nat.le_of_ble_eq_true rfl⟩ dX7_step_70)
        · refine lv_bipush (v := 15) hx hb dX7_step_38 (by decide) ?_
          refine lv_goto (tgt := 46) hx hb dX7_step_40 (by decide) ?_
          refine zcS_xv (As := [.int p2, .int 0, .int 15]) (rest := []) (n9 := 3) C hw (c_X7_checkRange l hst D y base S p2 0 15 ) gX7_step_X7_checkRange rfl (by decide +kernel) ⟨⟨rfl, rfl⟩, Nat.le_of_ble_eq_true rfl, Nat.le_of_ble_eq_true rfl⟩ rfl hl.1 rfl (Nat.le_of_ble_eq_true rfl) ⟨Nat.le_of_ble_eq_true rfl, Nat.le_of_ble_eq_true rfl⟩ dX7_step_46 (fun E ce q9 S46 H locs hx46 hw h1 h2 h3 => zxout hw hx0 hlocks h1 h2 h3 (by obtain ⟨rfl, hc9, rfl⟩ := hx46; refine ⟨?_, zCls.rf⟩; first | exact (Or.inl ⟨rfl, (by unfold kd_step; grind)⟩) | exact (Or.inr ⟨rfl, (by unfold kd_step; grind)⟩)) ⟨Nat.le_of_ble_eq_true rfl, Nat.le_of_ble_eq_true rfl⟩) (fun S46 H locs hp46 hw => ?_)
          obtain ⟨hp46, hS9⟩ := hp46
          have hS9 := hS9.symm
          subst hS9
          refine lv_aload_n hx hb dX7_step_49 rfl (lv_at hl 0 rfl) ?_
          refine zcV_xv (As := []) (rest := []) (n9 := 0) (b := (a 0)) C hw (c_X7_checkFreeStep l hst D y base S a hX (by first | assumption | decide | grind)) gX7_step_X7_checkFreeStep rfl (by decide +kernel) ⟨⟨rfl, rfl⟩, Nat.le_of_ble_eq_true rfl, Nat.le_of_ble_eq_true rfl⟩ hX.1 ⟨by decide, by decide⟩ rfl rfl hl.1 rfl (Nat.le_of_ble_eq_true rfl) ⟨Nat.le_of_ble_eq_true rfl, Nat.le_of_ble_eq_true rfl⟩ dX7_step_50 (fun E ce q9 S50 H locs hx50 hw h1 h2 h3 => zxout hw hx0 hlocks h1 h2 h3 (False.elim hx50.1) ⟨Nat.le_of_ble_eq_true rfl, Nat.le_of_ble_eq_true rfl⟩) (fun S50 H locs hp50 hw => ?_)
          have hS9 := hp50
          have hS9 := hS9.symm
          subst hS9
          refine lv_aload_n hx hb dX7_step_53 rfl (lv_at hl 0 rfl) ?_
          refine g_Ph_program (a := (a 0)) (v := (a 3)) C hw hX.1 in_X7 (by decide +kernel) hX.2.2.2.1 dX7_step_54 ?_
          refine lv_iload_n hx hb dX7_step_57 rfl (lv_at hl 1 rfl) ?_
          refine lv_iload_n hx hb dX7_step_58 rfl (lv_at hl 2 rfl) ?_
          refine lv_iload_n hx hb dX7_step_59 rfl (lv_at hl 3 rfl) ?_
          refine zcV_v (As := [.int p0, .int p1, .int p2]) (rest := []) (n9 := 3) (b := (a 3)) C hw (c_X4_addStep l D y base S (a 3) (a 7) (a 8) (a 9) p0 p1 p2 hX.2.2.2.2.2.2.2.2.2.2.2.2.1 h0.2.2.1) gX7_step_X4_addStep rfl (by decide +kernel) ⟨⟨rfl, rfl⟩, Nat.le_of_ble_eq_true rfl, Nat.le_of_ble_eq_true rfl⟩ hX.2.2.2.2.2.2.2.2.2.2.2.2.1.1 ⟨by decide, by decide⟩ rfl rfl hl.1 rfl (Nat.le_of_ble_eq_true rfl) ⟨Nat.le_of_ble_eq_true rfl, Nat.le_of_ble_eq_true rfl⟩ dX7_step_60 (fun S60 H locs hp60 hw => ?_)
          have hX60 := zX.fix hp60.2.2 hX
          refine lv_aload_n hx hb dX7_step_63 rfl (lv_at hl 0 rfl) ?_
          refine g_Ph_program (a := (a 0)) (v := (a 3)) C hw hX60.1 in_X7 (by decide +kernel) hX60.2.2.2.1 dX7_step_64 ?_
          refine g_Trig_count (a := (a 3)) (v := 1) C hw hX60.2.2.2.2.2.2.2.2.2.2.2.2.1.1 in_X4 (by decide +kernel) hp60.2.1 dX7_step_67 ?_
          exact vx_ret (zri C hw hr hlocks rfl ⟨rfl, (by unfold kd_step; grind), hp60.1⟩ ⟨Nat.le_of_ble_eq_true rfl, Nat.le_of_ble_eq_true rfl⟩ dX7_step_70)
    · refine lv_iload_n hx hb dX7_step_12 rfl (lv_at hl 2 rfl) ?_
      refine zcS_xv (As := [.int p1]) (rest := []) (n9 := 1) C hw (c_X7_checkWire l hst D y base S p1 ) gX7_step_X7_checkWire rfl (by decide +kernel) ⟨⟨rfl, rfl⟩, Nat.le_of_ble_eq_true rfl, Nat.le_of_ble_eq_true rfl⟩ rfl hl.1 rfl (Nat.le_of_ble_eq_true rfl) ⟨Nat.le_of_ble_eq_true rfl, Nat.le_of_ble_eq_true rfl⟩ dX7_step_13 (fun E ce q9 S13 H locs hx13 hw h1 h2 h3 => zxout hw hx0 hlocks h1 h2 h3 (by obtain ⟨rfl, hc9, rfl⟩ := hx13; refine ⟨?_, zCls.rf⟩; first | exact (Or.inl ⟨rfl, (by unfold kd_step; grind)⟩) | exact (Or.inr ⟨rfl, (by unfold kd_step; grind)⟩)) ⟨Nat.le_of_ble_eq_true rfl, Nat.le_of_ble_eq_true rfl⟩) (fun S13 H locs hp13 hw => ?_)
      obtain ⟨hp13, hS9⟩ := hp13
      have hS9 := hS9.symm
      subst hS9
      refine lv_iload_n hx hb dX7_step_16 rfl (lv_at hl 1 rfl) ?_
      refine zcS_xv (As := [.int p0]) (rest := []) (n9 := 1) C hw (c_X7_checkStepKind l hst D y base S p0 ) gX7_step_X7_checkStepKind rfl (by decide +kernel) ⟨⟨rfl, rfl⟩, Nat.le_of_ble_eq_true rfl, Nat.le_of_ble_eq_true rfl⟩ rfl hl.1 rfl (Nat.le_of_ble_eq_true rfl) ⟨Nat.le_of_ble_eq_true rfl, Nat.le_of_ble_eq_true rfl⟩ dX7_step_17 (fun E ce q9 S17 H locs hx17 hw h1 h2 h3 => zxout hw hx0 hlocks h1 h2 h3 (by obtain ⟨rfl, hc9, rfl⟩ := hx17; refine ⟨?_, zCls.rf⟩; first | exact (Or.inl ⟨rfl, (by unfold kd_step; grind)⟩) | exact (Or.inr ⟨rfl, (by unfold kd_step; grind)⟩)) ⟨Nat.le_of_ble_eq_true rfl, Nat.le_of_ble_eq_true rfl⟩) (fun S17 H locs hp17 hw => ?_)
      obtain ⟨hp17, hS9⟩ := hp17
      have hS9 := hS9.symm
      subst hS9
      refine lv_iload_n hx hb dX7_step_20 rfl (lv_at hl 3 rfl) ?_
      refine lv_iload_n hx hb dX7_step_21 rfl (lv_at hl 1 rfl) ?_
      refine lv_bipush (v := 112) hx hb dX7_step_22 (by decide) ?_
      refine lv_icmp_ne (tgt := 31) hx hb dX7_step_24 (by decide) (fun c24 => ?_) (fun c24 => ?_)
      · refine lv_iconst (v := 1) hx hb dX7_step_31 (by decide) ?_
        refine lv_iload_n hx hb dX7_step_32 rfl (lv_at hl 1 rfl) ?_
        refine lv_bipush (v := 112) hx hb dX7_step_33 (by decide) ?_
        refine lv_icmp_ne (tgt := 43) hx hb dX7_step_35 (by decide) (fun c35 => ?_) (fun c35 => ?_)
        · refine lv_sipush (v := 400) hx hb dX7_step_43 (by decide) ?_
          refine zcS_xv (As := [.int p2, .int 1, .int 400]) (rest := []) (n9 := 3) C hw (c_X7_checkRange l hst D y base S p2 1 400 ) gX7_step_X7_checkRange rfl (by decide +kernel) ⟨⟨rfl, rfl⟩, Nat.le_of_ble_eq_true rfl, Nat.le_of_ble_eq_true rfl⟩ rfl hl.1 rfl (Nat.le_of_ble_eq_true rfl) ⟨Nat.le_of_ble_eq_true rfl, Nat.le_of_ble_eq_true rfl⟩ dX7_step_46 (fun E ce q9 S46 H locs hx46 hw h1 h2 h3 => zxout hw hx0 hlocks h1 h2 h3 (by obtain ⟨rfl, hc9, rfl⟩ := hx46; refine ⟨?_, zCls.rf⟩; first | exact (Or.inl ⟨rfl, (by unfold kd_step; grind)⟩) | exact (Or.inr ⟨rfl, (by unfold kd_step; grind)⟩)) ⟨Nat.le_of_ble_eq_true rfl, Nat.le_of_ble_eq_true rfl⟩) (fun S46 H locs hp46 hw => ?_)
          obtain ⟨hp46, hS9⟩ := hp46
          have hS9 := hS9.symm
          subst hS9
          refine lv_aload_n hx hb dX7_step_49 rfl (lv_at hl 0 rfl) ?_
          refine zcV_xv (As := []) (rest := []) (n9 := 0) (b := (a 0)) C hw (c_X7_checkFreeStep l hst D y base S a hX (by first | assumption | decide | grind)) gX7_step_X7_checkFreeStep rfl (by decide +kernel) ⟨⟨rfl, rfl⟩, Nat.le_of_ble_eq_true rfl, Nat.le_of_ble_eq_true rfl⟩ hX.1 ⟨by decide, by decide⟩ rfl rfl hl.1 rfl (Nat.le_of_ble_eq_true rfl) ⟨Nat.le_of_ble_eq_true rfl, Nat.le_of_ble_eq_true rfl⟩ dX7_step_50 (fun E ce q9 S50 H locs hx50 hw h1 h2 h3 => zxout hw hx0 hlocks h1 h2 h3 (False.elim hx50.1) ⟨Nat.le_of_ble_eq_true rfl, Nat.le_of_ble_eq_true rfl⟩) (fun S50 H locs hp50 hw => ?_)
          have hS9 := hp50
          have hS9 := hS9.symm
          subst hS9
          refine lv_aload_n hx hb dX7_step_53 rfl (lv_at hl 0 rfl) ?_
          refine g_Ph_program (a := (a 0)) (v := (a 3)) C hw hX.1 in_X7 (by decide +kernel) hX.2.2.2.1 dX7_step_54 ?_
          refine lv_iload_n hx hb dX7_step_57 rfl (lv_at hl 1 rfl) ?_
          refine lv_iload_n hx hb dX7_step_58 rfl (lv_at hl 2 rfl) ?_
          refine lv_iload_n hx hb dX7_step_59 rfl (lv_at hl 3 rfl) ?_
          refine zcV_v (As := [.int p0, .int p1, .int p2]) (rest := []) (n9 := 3) (b := (a 3)) C hw (c_X4_addStep l D y base S (a 3) (a 7) (a 8) (a 9) p0 p1 p2 hX.2.2.2.2.2.2.2.2.2.2.2.2.1 h0.2.2.1) gX7_step_X4_addStep rfl (by decide +kernel) ⟨⟨rfl, rfl⟩, Nat.le_of_ble_eq_true rfl, Nat.le_of_ble_eq_true rfl⟩ hX.2.2.2.2.2.2.2.2.2.2.2.2.1.1 ⟨by decide, by decide⟩ rfl rfl hl.1 rfl (Nat.le_of_ble_eq_true rfl) ⟨Nat.le_of_ble_eq_true rfl, Nat.le_of_ble_eq_true rfl⟩ dX7_step_60 (fun S60 H locs hp60 hw => ?_)
          have hX60 := zX.fix hp60.2.2 hX
          refine lv_aload_n hx hb dX7_step_63 rfl (lv_at hl 0 rfl) ?_
          refine g_Ph_program (a := (a 0)) (v := (a 3)) C hw hX60.1 in_X7 (by decide +kernel) hX60.2.2.2.1 dX7_step_64 ?_
          refine g_Trig_count (a := (a 3)) (v := 1) C hw hX60.2.2.2.2.2.2.2.2.2.2.2.2.1.1 in_X4 (by decide +kernel) hp60.2.1 dX7_step_67 ?_
          exact vx_ret (zri C hw hr hlocks rfl ⟨rfl, (by unfold kd_step; grind), hp60.1⟩ ⟨Nat.le_of_ble_eq_true rfl, Nat.le_of_ble_eq_true rfl⟩ dX7_step_70)
        · refine lv_bipush (v := 15) hx hb dX7_step_38 (by decide) ?_
          refine lv_goto (tgt := 46) hx hb dX7_step_40 (by decide) ?_
          refine zcS_xv (As := [.int p2, .int 1, .int 15]) (rest := []) (n9 := 3) C hw (c_X7_checkRange l hst D y base S p2 1 15 ) gX7_step_X7_checkRange rfl (by decide +kernel) ⟨⟨rfl, rfl⟩, Nat.le_of_ble_eq_true rfl, Nat.le_of_ble_eq_true rfl⟩ rfl hl.1 rfl (Nat.le_of_ble_eq_true rfl) ⟨Nat.le_of_ble_eq_true rfl, Nat.le_of_ble_eq_true rfl⟩ dX7_step_46 (fun E ce q9 S46 H locs hx46 hw h1 h2 h3 => zxout hw hx0 hlocks h1 h2 h3 (by obtain ⟨rfl, hc9, rfl⟩ := hx46; refine ⟨?_, zCls.rf⟩; first | exact (Or.inl ⟨rfl, (by unfold kd_step; grind)⟩) | exact (Or.inr ⟨rfl, (by unfold kd_step; grind)⟩)) ⟨Nat.le_of_ble_eq_true rfl, Nat.le_of_ble_eq_true rfl⟩) (fun S46 H locs hp46 hw => ?_)
          obtain ⟨hp46, hS9⟩ := hp46
          have hS9 := hS9.symm
          subst hS9
          refine lv_aload_n hx hb dX7_step_49 rfl (lv_at hl 0 rfl) ?_
          refine zcV_xv (As := []) (rest := []) (n9 := 0) (b := (a 0)) C hw (c_X7_checkFreeStep l hst D y base S a hX (by first | assumption | decide | grind)) gX7_step_X7_checkFreeStep rfl (by decide +kernel) ⟨⟨rfl, rfl⟩, Nat.le_of_ble_eq_true rfl, Nat.le_of_ble_eq_true rfl⟩ hX.1 ⟨by decide, by decide⟩ rfl rfl hl.1 rfl (Nat.le_of_ble_eq_true rfl) ⟨Nat.le_of_ble_eq_true rfl, Nat.le_of_ble_eq_true rfl⟩ dX7_step_50 (fun E ce q9 S50 H locs hx50 hw h1 h2 h3 => zxout hw hx0 hlocks h1 h2 h3 (False.elim hx50.1) ⟨Nat.le_of_ble_eq_true rfl, Nat.le_of_ble_eq_true rfl⟩) (fun S50 H locs hp50 hw => ?_)
          have hS9 := hp50
          have hS9 := hS9.symm
          subst hS9
          refine lv_aload_n hx hb dX7_step_53 rfl (lv_at hl 0 rfl) ?_
          refine g_Ph_program (a := (a 0)) (v := (a 3)) C hw hX.1 in_X7 (by decide +kernel) hX.2.2.2.1 dX7_step_54 ?_
          refine lv_iload_n hx hb dX7_step_57 rfl (lv_at hl 1 rfl) ?_
          refine lv_iload_n hx hb dX7_step_58 rfl (lv_at hl 2 rfl) ?_
          refine lv_iload_n hx hb dX7_step_59 rfl (lv_at hl 3 rfl) ?_
          refine zcV_v (As := [.int p0, .int p1, .int p2]) (rest := []) (n9 := 3) (b := (a 3)) C hw (c_X4_addStep l D y base S (a 3) (a 7) (a 8) (a 9) p0 p1 p2 hX.2.2.2.2.2.2.2.2.2.2.2.2.1 h0.2.2.1) gX7_step_X4_addStep rfl (by decide +kernel) ⟨⟨rfl, rfl⟩, Nat.le_of_ble_eq_true rfl, Nat.le_of_ble_eq_true rfl⟩ hX.2.2.2.2.2.2.2.2.2.2.2.2.1.1 ⟨by decide, by decide⟩ rfl rfl hl.1 rfl (Nat.le_of_ble_eq_true rfl) ⟨Nat.le_of_ble_eq_true rfl, Nat.le_of_ble_eq_true rfl⟩ dX7_step_60 (fun S60 H locs hp60 hw => ?_)
          have hX60 := zX.fix hp60.2.2 hX
          refine lv_aload_n hx hb dX7_step_63 rfl (lv_at hl 0 rfl) ?_
          refine g_Ph_program (a := (a 0)) (v := (a 3)) C hw hX60.1 in_X7 (by decide +kernel) hX60.2.2.2.1 dX7_step_64 ?_
          refine g_Trig_count (a := (a 3)) (v := 1) C hw hX60.2.2.2.2.2.2.2.2.2.2.2.2.1.1 in_X4 (by decide +kernel) hp60.2.1 dX7_step_67 ?_
          exact vx_ret (zri C hw hr hlocks rfl ⟨rfl, (by unfold kd_step; grind), hp60.1⟩ ⟨Nat.le_of_ble_eq_true rfl, Nat.le_of_ble_eq_true rfl⟩ dX7_step_70)
      · refine lv_iconst (v := 0) hx hb dX7_step_27 (by decide) ?_
        refine lv_goto (tgt := 32) hx hb dX7_step_28 (by decide) ?_
        refine lv_iload_n hx hb dX7_step_32 rfl (lv_at hl 1 rfl) ?_
        refine lv_bipush (v := 112) hx hb dX7_step_33 (by decide) ?_
        refine lv_icmp_ne (tgt := 43) hx hb dX7_step_35 (by decide) (fun c35 => ?_) (fun c35 => ?_)
        · refine lv_sipush (v := 400) hx hb dX7_step_43 (by decide) ?_
          refine zcS_xv (As := [.int p2, .int 0, .int 400]) (rest := []) (n9 := 3) C hw (c_X7_checkRange l hst D y base S p2 0 400 ) gX7_step_X7_checkRange rfl (by decide +kernel) ⟨⟨rfl, rfl⟩, Nat.le_of_ble_eq_true rfl, Nat.le_of_ble_eq_true rfl⟩ rfl hl.1 rfl (Nat.le_of_ble_eq_true rfl) ⟨Nat.le_of_ble_eq_true rfl, Nat.le_of_ble_eq_true rfl⟩ dX7_step_46 (fun E ce q9 S46 H locs hx46 hw h1 h2 h3 => zxout hw hx0 hlocks h1 h2 h3 (by obtain ⟨rfl, hc9, rfl⟩ := hx46; refine ⟨?_, zCls.rf⟩; first | exact (Or.inl ⟨rfl, (by unfold kd_step; grind)⟩) | exact (Or.inr ⟨rfl, (by unfold kd_step; grind)⟩)) ⟨Nat.le_of_ble_eq_true rfl, Nat.le_of_ble_eq_true rfl⟩) (fun S46 H locs hp46 hw => ?_)
          obtain ⟨hp46, hS9⟩ := hp46
          have hS9 := hS9.symm
          subst hS9
          refine lv_aload_n hx hb dX7_step_49 rfl (lv_at hl 0 rfl) ?_
          refine zcV_xv (As := []) (rest := []) (n9 := 0) (b := (a 0)) C hw (c_X7_checkFreeStep l hst D y base S a hX (by first | assumption | decide | grind)) gX7_step_X7_checkFreeStep rfl (by decide +kernel) ⟨⟨rfl, rfl⟩, Nat.le_of_ble_eq_true rfl, Nat.le_of_ble_eq_true rfl⟩ hX.1 ⟨by decide, by decide⟩ rfl rfl hl.1 rfl (Nat.le_of_ble_eq_true rfl) ⟨Nat.le_of_ble_eq_true rfl, Nat.le_of_ble_eq_true rfl⟩ dX7_step_50 (fun E ce q9 S50 H locs hx50 hw h1 h2 h3 => zxout hw hx0 hlocks h1 h2 h3 (False.elim hx50.1) ⟨Nat.le_of_ble_eq_true rfl, Nat.le_of_ble_eq_true rfl⟩) (fun S50 H locs hp50 hw => ?_)
          have hS9 := hp50
          have hS9 := hS9.symm
          subst hS9
          refine lv_aload_n hx hb dX7_step_53 rfl (lv_at hl 0 rfl) ?_
          refine g_Ph_program (a := (a 0)) (v := (a 3)) C hw hX.1 in_X7 (by decide +kernel) hX.2.2.2.1 dX7_step_54 ?_
          refine lv_iload_n hx hb dX7_step_57 rfl (lv_at hl 1 rfl) ?_
          refine lv_iload_n hx hb dX7_step_58 rfl (lv_at hl 2 rfl) ?_
          refine lv_iload_n hx hb dX7_step_59 rfl (lv_at hl 3 rfl) ?_
          refine zcV_v (As := [.int p0, .int p1, .int p2]) (rest := []) (n9 := 3) (b := (a 3)) C hw (c_X4_addStep l D y base S (a 3) (a 7) (a 8) (a 9) p0 p1 p2 hX.2.2.2.2.2.2.2.2.2.2.2.2.1 h0.2.2.1) gX7_step_X4_addStep rfl (by decide +kernel) ⟨⟨rfl, rfl⟩, Nat.le_of_ble_eq_true rfl, Nat.le_of_ble_eq_true rfl⟩ hX.2.2.2.2.2.2.2.2.2.2.2.2.1.1 ⟨by decide, by decide⟩ rfl rfl hl.1 rfl (Nat.le_of_ble_eq_true rfl) ⟨Nat.le_of_ble_eq_true rfl, Nat.le_of_ble_eq_true rfl⟩ dX7_step_60 (fun S60 H locs hp60 hw => ?_)
          have hX60 := zX.fix hp60.2.2 hX
          refine lv_aload_n hx hb dX7_step_63 rfl (lv_at hl 0 rfl) ?_
          refine g_Ph_program (a := (a 0)) (v := (a 3)) C hw hX60.1 in_X7 (by decide +kernel) hX60.2.2.2.1 dX7_step_64 ?_
          refine g_Trig_count (a := (a 3)) (v := 1) C hw hX60.2.2.2.2.2.2.2.2.2.2.2.2.1.1 in_X4 (by decide +kernel) hp60.2.1 dX7_step_67 ?_
          exact vx_ret (zri C hw hr hlocks rfl ⟨rfl, (by unfold kd_step; grind), hp60.1⟩ ⟨Nat.le_of_ble_eq_true rfl, Nat.le_of_ble_eq_true rfl⟩ dX7_step_70)
        · refine lv_bipush (v := 15) hx hb dX7_step_38 (by decide) ?_
          refine lv_goto (tgt := 46) hx hb dX7_step_40 (by decide) ?_
          refine zcS_xv (As := [.int p2, .int 0, .int 15]) (rest := []) (n9 := 3) C hw (c_X7_checkRange l hst D y base S p2 0 15 ) gX7_step_X7_checkRange rfl (by decide +kernel) ⟨⟨rfl, rfl⟩, Nat.le_of_ble_eq_true rfl, Nat.le_of_ble_eq_true rfl⟩ rfl hl.1 rfl (Nat.le_of_ble_eq_true rfl) ⟨Nat.le_of_ble_eq_true rfl, Nat.le_of_ble_eq_true rfl⟩ dX7_step_46 (fun E ce q9 S46 H locs hx46 hw h1 h2 h3 => zxout hw hx0 hlocks h1 h2 h3 (by obtain ⟨rfl, hc9, rfl⟩ := hx46; refine ⟨?_, zCls.rf⟩; first | exact (Or.inl ⟨rfl, (by unfold kd_step; grind)⟩) | exact (Or.inr ⟨rfl, (by unfold kd_step; grind)⟩)) ⟨Nat.le_of_ble_eq_true rfl, Nat.le_of_ble_eq_true rfl⟩) (fun S46 H locs hp46 hw => ?_)
          obtain ⟨hp46, hS9⟩ := hp46
          have hS9 := hS9.symm
          subst hS9
          refine lv_aload_n hx hb dX7_step_49 rfl (lv_at hl 0 rfl) ?_
          refine zcV_xv (As := []) (rest := []) (n9 := 0) (b := (a 0)) C hw (c_X7_checkFreeStep l hst D y base S a hX (by first | assumption | decide | grind)) gX7_step_X7_checkFreeStep rfl (by decide +kernel) ⟨⟨rfl, rfl⟩, Nat.le_of_ble_eq_true rfl, Nat.le_of_ble_eq_true rfl⟩ hX.1 ⟨by decide, by decide⟩ rfl rfl hl.1 rfl (Nat.le_of_ble_eq_true rfl) ⟨Nat.le_of_ble_eq_true rfl, Nat.le_of_ble_eq_true rfl⟩ dX7_step_50 (fun E ce q9 S50 H locs hx50 hw h1 h2 h3 => zxout hw hx0 hlocks h1 h2 h3 (False.elim hx50.1) ⟨Nat.le_of_ble_eq_true rfl, Nat.le_of_ble_eq_true rfl⟩) (fun S50 H locs hp50 hw => ?_)
          have hS9 := hp50
          have hS9 := hS9.symm
          subst hS9
          refine lv_aload_n hx hb dX7_step_53 rfl (lv_at hl 0 rfl) ?_
          refine g_Ph_program (a := (a 0)) (v := (a 3)) C hw hX.1 in_X7 (by decide +kernel) hX.2.2.2.1 dX7_step_54 ?_
          refine lv_iload_n hx hb dX7_step_57 rfl (lv_at hl 1 rfl) ?_
          refine lv_iload_n hx hb dX7_step_58 rfl (lv_at hl 2 rfl) ?_
          refine lv_iload_n hx hb dX7_step_59 rfl (lv_at hl 3 rfl) ?_
          refine zcV_v (As := [.int p0, .int p1, .int p2]) (rest := []) (n9 := 3) (b := (a 3)) C hw (c_X4_addStep l D y base S (a 3) (a 7) (a 8) (a 9) p0 p1 p2 hX.2.2.2.2.2.2.2.2.2.2.2.2.1 h0.2.2.1) gX7_step_X4_addStep rfl (by decide +kernel) ⟨⟨rfl, rfl⟩, Nat.le_of_ble_eq_true rfl, Nat.le_of_ble_eq_true rfl⟩ hX.2.2.2.2.2.2.2.2.2.2.2.2.1.1 ⟨by decide, by decide⟩ rfl rfl hl.1 rfl (Nat.le_of_ble_eq_true rfl) ⟨Nat.le_of_ble_eq_true rfl, Nat.le_of_ble_eq_true rfl⟩ dX7_step_60 (fun S60 H locs hp60 hw => ?_)
          have hX60 := zX.fix hp60.2.2 hX
          refine lv_aload_n hx hb dX7_step_63 rfl (lv_at hl 0 rfl) ?_
          refine g_Ph_program (a := (a 0)) (v := (a 3)) C hw hX60.1 in_X7 (by decide +kernel) hX60.2.2.2.1 dX7_step_64 ?_
          refine g_Trig_count (a := (a 3)) (v := 1) C hw hX60.2.2.2.2.2.2.2.2.2.2.2.2.1.1 in_X4 (by decide +kernel) hp60.2.1 dX7_step_67 ?_
          exact vx_ret (zri C hw hr hlocks rfl ⟨rfl, (by unfold kd_step; grind), hp60.1⟩ ⟨Nat.le_of_ble_eq_true rfl, Nat.le_of_ble_eq_true rfl⟩ dX7_step_70)

set_option maxHeartbeats 4000000 in
set_option maxRecDepth 100000 in
/-- X7_serial -/
theorem c_X7_serial (l : Launch) (hst : l.stackTraces = false) (D : va_G) (y : Nat → ClassId) (base : Nat) (S : zS) (a : Nat → Nat) (p0 : Int32) (p1 : Int32) (p2 : Int32) (p3 : Int32) (p4 : Int32) (hX : zX S a) (h0 : zX0 S a) : zXi l yX7_serial wsX7_serial ({ frames := 7, cells := 6, slots := 36, locals := 112 }) [.ref (a 0), .int p0, .int p1, .int p2, .int p3, .int p4] D y base S (fun (r : Int32) (S1 : zS) => r = p2 + nI (zsbN p4) * p3 ∧ kd_serial p0 p1 p2 p3 p4 = 0 ∧ zCls S S1) (fun (E : String) (S1 : zS) => ((E = "java/lang/IndexOutOfBoundsException" ∧ kd_serial p0 p1 p2 p3 p4 = 1) ∨ (E = "java/lang/IllegalArgumentException" ∧ kd_serial p0 p1 p2 p3 p4 = 2) ∨ (E = "java/lang/IllegalStateException" ∧ kd_serial p0 p1 p2 p3 p4 = 3)) ∧ zCls S S1) 6 36 := by
  refine zXet_of (cc := cX7_serial) (maxL := 10) (ret := (some .int)) (own := RX7) (by decide +kernel) rfl rfl (Nat.le_of_ble_eq_true rfl) ?_
  intro p e s m args below meth c ls C hr hlocks hx0 hw hl
  have hx := C.1
  have hb := C.2.1
  have hown := C.2.2.2.1
  have hts := C.2.2.2.2
  have hl : lv_has ls 10 [(0, .ref (a 0)), (1, .int p0), (2, .int p1), (3, .int p2), (4, .int p3), (5, .int p4)] := hl
  have in_X7 : ∀ w ∈ wsX70, w ∈ wsX7_serial := by decide +kernel
  refine lv_iload_n hx hb dX7_serial_0 rfl (lv_at hl 1 rfl) ?_
  refine zcS_xv (As := [.int p0]) (rest := []) (n9 := 1) C hw (c_X7_checkWire l hst D y base S p0 ) gX7_serial_X7_checkWire rfl (by decide +kernel) ⟨⟨rfl, rfl⟩, Nat.le_of_ble_eq_true rfl, Nat.le_of_ble_eq_true rfl⟩ rfl hl.1 rfl (Nat.le_of_ble_eq_true rfl) ⟨Nat.le_of_ble_eq_true rfl, Nat.le_of_ble_eq_true rfl⟩ dX7_serial_1 (fun E ce q9 S1 H locs hx1 hw h1 h2 h3 => zxout hw hx0 hlocks h1 h2 h3 (by obtain ⟨rfl, hc9, rfl⟩ := hx1; refine ⟨?_, zCls.rf⟩; first | exact (Or.inl ⟨rfl, (by unfold kd_serial; grind)⟩) | exact (Or.inr (Or.inl ⟨rfl, (by unfold kd_serial; grind)⟩)) | exact (Or.inr (Or.inr ⟨rfl, (by unfold kd_serial; grind)⟩))) ⟨Nat.le_of_ble_eq_true rfl, Nat.le_of_ble_eq_true rfl⟩) (fun S1 H locs hp1 hw => ?_)
  obtain ⟨hp1, hS9⟩ := hp1
  have hS9 := hS9.symm
  subst hS9
  refine lv_iload_n hx hb dX7_serial_4 rfl (lv_at hl 2 rfl) ?_
  refine lv_iconst (v := 0) hx hb dX7_serial_5 (by decide) ?_
  refine lv_sipush (v := 255) hx hb dX7_serial_6 (by decide) ?_
  refine zcS_xv (As := [.int p1, .int 0, .int 255]) (rest := []) (n9 := 3) C hw (c_X7_checkRange l hst D y base S p1 0 255 ) gX7_serial_X7_checkRange rfl (by decide +kernel) ⟨⟨rfl, rfl⟩, Nat.le_of_ble_eq_true rfl, Nat.le_of_ble_eq_true rfl⟩ rfl hl.1 rfl (Nat.le_of_ble_eq_true rfl) ⟨Nat.le_of_ble_eq_true rfl, Nat.le_of_ble_eq_true rfl⟩ dX7_serial_9 (fun E ce q9 S9 H locs hx9 hw h1 h2 h3 => zxout hw hx0 hlocks h1 h2 h3 (by obtain ⟨rfl, hc9, rfl⟩ := hx9; refine ⟨?_, zCls.rf⟩; first | exact (Or.inl ⟨rfl, (by unfold kd_serial; grind)⟩) | exact (Or.inr (Or.inl ⟨rfl, (by unfold kd_serial; grind)⟩)) | exact (Or.inr (Or.inr ⟨rfl, (by unfold kd_serial; grind)⟩))) ⟨Nat.le_of_ble_eq_true rfl, Nat.le_of_ble_eq_true rfl⟩) (fun S9 H locs hp9 hw => ?_)
  obtain ⟨hp9, hS9⟩ := hp9
  have hS9 := hS9.symm
  subst hS9
  refine lv_iload_n hx hb dX7_serial_12 rfl (lv_at hl 3 rfl) ?_
  refine lv_iconst (v := 0) hx hb dX7_serial_13 (by decide) ?_
  refine lv_sipush (v := 9999) hx hb dX7_serial_14 (by decide) ?_
  refine zcS_xv (As := [.int p2, .int 0, .int 9999]) (rest := []) (n9 := 3) C hw (c_X7_checkRange l hst D y base S p2 0 9999 ) gX7_serial_X7_checkRange rfl (by decide +kernel) ⟨⟨rfl, rfl⟩, Nat.le_of_ble_eq_true rfl, Nat.le_of_ble_eq_true rfl⟩ rfl hl.1 rfl (Nat.le_of_ble_eq_true rfl) ⟨Nat.le_of_ble_eq_true rfl, Nat.le_of_ble_eq_true rfl⟩ dX7_serial_17 (fun E ce q9 S17 H locs hx17 hw h1 h2 h3 => zxout hw hx0 hlocks h1 h2 h3 (by obtain ⟨rfl, hc9, rfl⟩ := hx17; refine ⟨?_, zCls.rf⟩; first | exact (Or.inl ⟨rfl, (by unfold kd_serial; grind)⟩) | exact (Or.inr (Or.inl ⟨rfl, (by unfold kd_serial; grind)⟩)) | exact (Or.inr (Or.inr ⟨rfl, (by unfold kd_serial; grind)⟩))) ⟨Nat.le_of_ble_eq_true rfl, Nat.le_of_ble_eq_true rfl⟩) (fun S17 H locs hp17 hw => ?_)
  obtain ⟨hp17, hS9⟩ := hp17
  have hS9 := hS9.symm
  subst hS9
  refine lv_iload hx hb dX7_serial_20 (lv_at hl 4 rfl) ?_
  refine lv_iconst (v := 2) hx hb dX7_serial_22 (by decide) ?_
  refine lv_bipush (v := 50) hx hb dX7_serial_23 (by decide) ?_
  refine zcS_xv (As := [.int p3, .int 2, .int 50]) (rest := []) (n9 := 3) C hw (c_X7_checkRange l hst D y base S p3 2 50 ) gX7_serial_X7_checkRange rfl (by decide +kernel) ⟨⟨rfl, rfl⟩, Nat.le_of_ble_eq_true rfl, Nat.le_of_ble_eq_true rfl⟩ rfl hl.1 rfl (Nat.le_of_ble_eq_true rfl) ⟨Nat.le_of_ble_eq_true rfl, Nat.le_of_ble_eq_true rfl⟩ dX7_serial_25 (fun E ce q9 S25 H locs hx25 hw h1 h2 h3 => zxout hw hx0 hlocks h1 h2 h3 (by obtain ⟨rfl, hc9, rfl⟩ := hx25; refine ⟨?_, zCls.rf⟩; first | exact (Or.inl ⟨rfl, (by unfold kd_serial; grind)⟩) | exact (Or.inr (Or.inl ⟨rfl, (by unfold kd_serial; grind)⟩)) | exact (Or.inr (Or.inr ⟨rfl, (by unfold kd_serial; grind)⟩))) ⟨Nat.le_of_ble_eq_true rfl, Nat.le_of_ble_eq_true rfl⟩) (fun S25 H locs hp25 hw => ?_)
  obtain ⟨hp25, hS9⟩ := hp25
  have hS9 := hS9.symm
  subst hS9
  refine lv_iload hx hb dX7_serial_28 (lv_at hl 5 rfl) ?_
  refine zcS_xv (As := [.int p4]) (rest := []) (n9 := 1) C hw (c_X7_checkParity l hst D y base S p4 ) gX7_serial_X7_checkParity rfl (by decide +kernel) ⟨⟨rfl, rfl⟩, Nat.le_of_ble_eq_true rfl, Nat.le_of_ble_eq_true rfl⟩ rfl hl.1 rfl (Nat.le_of_ble_eq_true rfl) ⟨Nat.le_of_ble_eq_true rfl, Nat.le_of_ble_eq_true rfl⟩ dX7_serial_30 (fun E ce q9 S30 H locs hx30 hw h1 h2 h3 => zxout hw hx0 hlocks h1 h2 h3 (by obtain ⟨rfl, hc9, rfl⟩ := hx30; refine ⟨?_, zCls.rf⟩; first | exact (Or.inl ⟨rfl, (by unfold kd_serial; grind)⟩) | exact (Or.inr (Or.inl ⟨rfl, (by unfold kd_serial; grind)⟩)) | exact (Or.inr (Or.inr ⟨rfl, (by unfold kd_serial; grind)⟩))) ⟨Nat.le_of_ble_eq_true rfl, Nat.le_of_ble_eq_true rfl⟩) (fun S30 H locs hp30 hw => ?_)
  obtain ⟨hp30, hS9⟩ := hp30
  have hS9 := hS9.symm
  subst hS9
  refine lv_aload_n hx hb dX7_serial_33 rfl (lv_at hl 0 rfl) ?_
  refine g_Ph_wires (a := (a 0)) (v := (a 1)) C hw hX.1 in_X7 (by decide +kernel) hX.2.1 dX7_serial_34 ?_
  refine lv_iload_n hx hb dX7_serial_37 rfl (lv_at hl 1 rfl) ?_
  obtain ⟨w1, t1, n1, eP1, hW1, eI1, eJ1, eA1, eB1⟩ := zX_w hX h0 (p := p0) hp1
  refine zald_P (a := (a 1)) (v := w1) C hw hX.2.2.2.2.2.2.1 (by decide) (t0 := 3) rfl rfl hX.2.2.2.2.2.2.2.1 (zin_of (N := 4) (by decide) (by grind) (by grind)) eP1 dX7_serial_38 ?_
  refine lv_astore (lv' := [(6, .ref w1), (0, .ref (a 0)), (1, .int p0), (2, .int p1), (3, .int p2), (4, .int p3), (5, .int p4)]) hx hb dX7_serial_39 hl (by decide) rfl (fun ls hl => ?_)
  refine lv_iload hx hb dX7_serial_41 (lv_at hl 6 rfl) ?_
  refine zcS_i (As := [.int p4]) (rest := []) (n9 := 1) C hw (c_X7_serialBits l D y base S p4 ) gX7_serial_X7_serialBits rfl (by decide +kernel) ⟨⟨rfl, rfl⟩, Nat.le_of_ble_eq_true rfl, Nat.le_of_ble_eq_true rfl⟩ rfl hl.1 rfl (Nat.le_of_ble_eq_true rfl) ⟨Nat.le_of_ble_eq_true rfl, Nat.le_of_ble_eq_true rfl⟩ dX7_serial_43 (fun r43 S43 H locs hp43 hw => ?_)
  obtain ⟨rfl, hS9⟩ := hp43
  have hS9 := hS9.symm
  subst hS9
  refine lv_istore (lv' := [(7, .int (nI (zsbN p4))), (6, .ref w1), (0, .ref (a 0)), (1, .int p0), (2, .int p1), (3, .int p2), (4, .int p3), (5, .int p4)]) hx hb dX7_serial_46 hl (by decide) rfl (fun ls hl => ?_)
  refine lv_iload_n hx hb dX7_serial_48 rfl (lv_at hl 4 rfl) ?_
  refine lv_iload hx hb dX7_serial_49 (lv_at hl 7 rfl) ?_
  refine zcS_i (As := [.int p1, .int p4]) (rest := []) (n9 := 2) C hw (c_X7_serialWord l D y base S p1 p4 ) gX7_serial_X7_serialWord rfl (by decide +kernel) ⟨⟨rfl, rfl⟩, Nat.le_of_ble_eq_true rfl, Nat.le_of_ble_eq_true rfl⟩ rfl hl.1 rfl (Nat.le_of_ble_eq_true rfl) ⟨Nat.le_of_ble_eq_true rfl, Nat.le_of_ble_eq_true rfl⟩ dX7_serial_51 (fun r51 S51 H locs hp51 hw => ?_)
  obtain ⟨rfl, hS9⟩ := hp51
  have hS9 := hS9.symm
  subst hS9
  refine lv_istore (lv' := [(8, .int (zsw p1 p4)), (7, .int (nI (zsbN p4))), (6, .ref w1), (0, .ref (a 0)), (1, .int p0), (2, .int p1), (3, .int p2), (4, .int p3), (5, .int p4)]) hx hb dX7_serial_54 hl (by decide) rfl (fun ls hl => ?_)
  have hr3 : 1 ≤ p3 ∧ p3 ≤ 50 := by grind
  refine lv_aload hx hb dX7_serial_56 (lv_at hl 2 rfl) ?_
  refine lv_iconst (v := 1) hx hb dX7_serial_58 (by decide) ?_
  refine zcV_v (As := [.int 1]) (rest := []) (n9 := 1) (b := w1) C hw (c_X6_beginSending l D y base S w1 t1 n1 1 hW1 (Or.inr rfl)) gX7_serial_X6_beginSending rfl (by decide +kernel) ⟨⟨rfl, rfl⟩, Nat.le_of_ble_eq_true rfl, Nat.le_of_ble_eq_true rfl⟩ hW1.1 ⟨by decide, by decide⟩ rfl rfl hl.1 rfl (Nat.le_of_ble_eq_true rfl) ⟨Nat.le_of_ble_eq_true rfl, Nat.le_of_ble_eq_true rfl⟩ dX7_serial_59 (fun S59 H locs hp59 hw => ?_)
  obtain rfl := hp59
  refine lv_iconst (v := 0) hx hb dX7_serial_62 (by decide) ?_
  refine lv_istore (lv' := [(9, .int 0), (8, .int (zsw p1 p4)), (7, .int (nI (zsbN p4))), (6, .ref w1), (0, .ref (a 0)), (1, .int p0), (2, .int p1), (3, .int p2), (4, .int p3), (5, .int p4)]) hx hb dX7_serial_63 hl (by decide) rfl (fun ls hl => ?_)
  have lp_2 : ∀ (n9 : Nat) (i : Nat) (S2 : zS) (H : Heap) (locs : List Loc) (ls : Array Slot), 11 - i < n9 → (i ≤ zsbN p4) → (zSnd S S2 w1 n1 (zlS p1 p4 i) (zgd (zlS p1 p4) (ztk p2 p3) i) (znx p2 p3 i) i) → zW D y base S2 s H locs → lv_has ls 10 [(9, .int (nI i)), (0, .ref (a 0)), (1, .int p0), (2, .int p1), (3, .int p2), (4, .int p3), (5, .int p4), (6, .ref w1), (7, .int (nI (zsbN p4))), (8, .int (zsw p1 p4))] → W p l e (headSpec wsX7_serial ({ frames := 7, cells := 6, slots := 36, locals := 112 })).room s m args below meth c H locs 5 30 (vx_MQ below (va_Qi (fun (r : Int32) (S1 : zS) => r = p2 + nI (zsbN p4) * p3 ∧ kd_serial p0 p1 p2 p3 p4 = 0 ∧ zCls S S1) (zPost D y base) (zA base)) (zXC (fun (E : String) (S1 : zS) => ((E = "java/lang/IndexOutOfBoundsException" ∧ kd_serial p0 p1 p2 p3 p4 = 1) ∨ (E = "java/lang/IllegalArgumentException" ∧ kd_serial p0 p1 p2 p3 p4 = 2) ∨ (E = "java/lang/IllegalStateException" ∧ kd_serial p0 p1 p2 p3 p4 = 3)) ∧ zCls S S1) D y base) args s 6 36 (zA base)) (F0 m 65 ls []) := by
    intro n9
    induction n9 with
    | zero =>
      intro i S2 H locs ls hn9
      exact absurd hn9 (Nat.not_lt_zero _)
    | succ n9 ih_1 =>
      intro i S2 H locs ls hn9 hi hs hw hl
      have hX2 := zX.fix hs.1.1 hX
      have hW2 : zWire S2 w1 t1 n1 := zWire.fix hs.1.1 hW1
      have h181 : zI S2 181 (a 0) = 0 := (hs.1.2.1 181 (a 0) (Or.inr (by decide))).trans h0.2.2.2.2.1
      have hb11 : zsbN p4 ≤ 11 := zsbN_le p4
      refine lv_iload hx hb dX7_serial_65 (lv_at hl 0 rfl) ?_
      refine lv_iload hx hb dX7_serial_67 (lv_at hl 8 rfl) ?_
      refine lv_icmp_ge (tgt := 100) hx hb dX7_serial_69 (by decide) (fun c69 => ?_) (fun c69 => ?_)
      · have hie : i = zsbN p4 := by have := z_ge (n := zsbN p4) c69 (by omega) (by omega); omega
        rw [hie] at hs
        refine lv_aload hx hb dX7_serial_100 (lv_at hl 7 rfl) ?_
        refine zcV_i (As := []) (rest := []) (n9 := 0) (b := w1) C hw (c_X6_takesSent l D y base S2 w1 t1 n1 S _ _ _ _ hW2 hs (by omega) ((hs.1.2.1 161 w1 (Or.inr (by decide))).trans eJ1)) gX7_serial_X6_takesSent rfl (by decide +kernel) ⟨⟨rfl, rfl⟩, Nat.le_of_ble_eq_true rfl, Nat.le_of_ble_eq_true rfl⟩ hW2.1 ⟨by decide, by decide⟩ rfl rfl hl.1 rfl (Nat.le_of_ble_eq_true rfl) ⟨Nat.le_of_ble_eq_true rfl, Nat.le_of_ble_eq_true rfl⟩ dX7_serial_102 (fun r102 S102 H locs hp102 hw => ?_)
        obtain ⟨⟨hg102, hz102⟩, hS9⟩ := hp102
        have hS9 := hS9.symm
        subst hS9
        refine zcS_xv (As := [.int r102]) (rest := []) (n9 := 1) C hw (c_X7_checkFlips l hst D y base S2 r102 ) gX7_serial_X7_checkFlips rfl (by decide +kernel) ⟨⟨rfl, rfl⟩, Nat.le_of_ble_eq_true rfl, Nat.le_of_ble_eq_true rfl⟩ rfl hl.1 rfl (Nat.le_of_ble_eq_true rfl) ⟨Nat.le_of_ble_eq_true rfl, Nat.le_of_ble_eq_true rfl⟩ dX7_serial_105 (fun E ce q9 S105 H locs hx105 hw h1 h2 h3 => zxout hw hx0 hlocks h1 h2 h3 (by obtain ⟨rfl, hc9, rfl⟩ := hx105; exact ⟨Or.inr (Or.inr ⟨rfl, (by have hng : ¬ zgd (zlS p1 p4) (ztk p2 p3) (zsbN p4) := (fun g => hc9 (hg102.mpr g)); unfold kd_serial; grind)⟩), zCls.chg hs.1⟩) ⟨Nat.le_of_ble_eq_true rfl, Nat.le_of_ble_eq_true rfl⟩) (fun S105 H locs hp105 hw => ?_)
        obtain ⟨hp105, hS9⟩ := hp105
        have hS9 := hS9.symm
        subst hS9
        refine lv_aload hx hb dX7_serial_108 (lv_at hl 7 rfl) ?_
        refine zcV_v (As := []) (rest := []) (n9 := 0) (b := w1) C hw (c_X6_flipSent l D y base S2 w1 t1 n1 hW2) gX7_serial_X6_flipSent rfl (by decide +kernel) ⟨⟨rfl, rfl⟩, Nat.le_of_ble_eq_true rfl, Nat.le_of_ble_eq_true rfl⟩ hW2.1 ⟨by decide, by decide⟩ rfl rfl hl.1 rfl (Nat.le_of_ble_eq_true rfl) ⟨Nat.le_of_ble_eq_true rfl, Nat.le_of_ble_eq_true rfl⟩ dX7_serial_110 (fun S110 H locs hp110 hw => ?_)
        have hX110 := zX.fix hp110.1 hX2
        have h181_110 := (hp110.2.1 181 (a 0) (Or.inr (by decide))).trans h181
        refine lv_aload_n hx hb dX7_serial_113 rfl (lv_at hl 1 rfl) ?_
        refine lv_iload_n hx hb dX7_serial_114 rfl (lv_at hl 4 rfl) ?_
        refine lv_iload hx hb dX7_serial_115 (lv_at hl 8 rfl) ?_
        refine lv_iload hx hb dX7_serial_117 (lv_at hl 5 rfl) ?_
        refine lv_imul hx hb dX7_serial_119 ?_
        refine zcV_i (As := [.int p2, .int ((nI (zsbN p4)) * p3)]) (rest := []) (n9 := 2) (b := (a 0)) C hw (c_X7_tickBehind l D y base S110 (a 0) p2 ((nI (zsbN p4)) * p3) hX110.1 h181_110) gX7_serial_X7_tickBehind rfl (by decide +kernel) ⟨⟨rfl, rfl⟩, Nat.le_of_ble_eq_true rfl, Nat.le_of_ble_eq_true rfl⟩ hX110.1 ⟨by decide, by decide⟩ rfl rfl hl.1 rfl (Nat.le_of_ble_eq_true rfl) ⟨Nat.le_of_ble_eq_true rfl, Nat.le_of_ble_eq_true rfl⟩ dX7_serial_120 (fun r120 S120 H locs hp120 hw => ?_)
        obtain ⟨rfl, hS9⟩ := hp120
        have hS9 := hS9.symm
        subst hS9
        exact vx_ret (zri C hw hr hlocks rfl ⟨rfl, (by have hg9 : zgd (zlS p1 p4) (ztk p2 p3) (zsbN p4) := hg102.mp hp105; unfold kd_serial; grind), (zCls.chg hs.1).tr (zCls.flp hp110)⟩ ⟨Nat.le_of_ble_eq_true rfl, Nat.le_of_ble_eq_true rfl⟩ dX7_serial_123)
      · refine lv_aload hx hb dX7_serial_72 (lv_at hl 7 rfl) ?_
        refine lv_iload hx hb dX7_serial_74 (lv_at hl 9 rfl) ?_
        refine lv_iload hx hb dX7_serial_76 (lv_at hl 0 rfl) ?_
        refine zcS_i (As := [.int (zsw p1 p4), .int (nI i)]) (rest := [.ref w1]) (n9 := 2) C hw (c_X7_hasBit l D y base S2 (zsw p1 p4) (nI i) ) gX7_serial_X7_hasBit rfl (by decide +kernel) ⟨⟨rfl, rfl⟩, Nat.le_of_ble_eq_true rfl, Nat.le_of_ble_eq_true rfl⟩ rfl hl.1 rfl (Nat.le_of_ble_eq_true rfl) ⟨Nat.le_of_ble_eq_true rfl, Nat.le_of_ble_eq_true rfl⟩ dX7_serial_78 (fun r78 S78 H locs hp78 hw => ?_)
        obtain ⟨rfl, hS9⟩ := hp78
        have hS9 := hS9.symm
        subst hS9
        refine lv_aload_n hx hb dX7_serial_81 rfl (lv_at hl 1 rfl) ?_
        refine lv_iload_n hx hb dX7_serial_82 rfl (lv_at hl 4 rfl) ?_
        refine lv_iload hx hb dX7_serial_83 (lv_at hl 0 rfl) ?_
        refine lv_iload hx hb dX7_serial_85 (lv_at hl 5 rfl) ?_
        refine lv_imul hx hb dX7_serial_87 ?_
        refine zcV_i (As := [.int p2, .int ((nI i) * p3)]) (rest := [.int (zbv (zsw p1 p4) (nI i)), .ref w1]) (n9 := 2) (b := (a 0)) C hw (c_X7_tickBehind l D y base S2 (a 0) p2 ((nI i) * p3) hX2.1 h181) gX7_serial_X7_tickBehind rfl (by decide +kernel) ⟨⟨rfl, rfl⟩, Nat.le_of_ble_eq_true rfl, Nat.le_of_ble_eq_true rfl⟩ hX2.1 ⟨by decide, by decide⟩ rfl rfl hl.1 rfl (Nat.le_of_ble_eq_true rfl) ⟨Nat.le_of_ble_eq_true rfl, Nat.le_of_ble_eq_true rfl⟩ dX7_serial_88 (fun r88 S88 H locs hp88 hw => ?_)
        obtain ⟨rfl, hS9⟩ := hp88
        have hS9 := hS9.symm
        subst hS9
        refine zcV_v (As := [.int (zbv (zsw p1 p4) (nI i)), .int (p2 + ((nI i) * p3))]) (rest := []) (n9 := 2) (b := w1) C hw (c_X6_send l D y base S2 w1 t1 n1 S (zbv (zsw p1 p4) (nI i)) (p2 + ((nI i) * p3)) (zlS p1 p4 i) (zgd (zlS p1 p4) (ztk p2 p3) i) (znx p2 p3 i) i hW2 (zbv_01 _ _) hs (by have := z_lt (n := zsbN p4) c69 (by omega) (by omega); omega) (Int.le_of_eq (ztk_i hp17 hr3 (by omega)).symm)) gX7_serial_X6_send rfl (by decide +kernel) ⟨⟨rfl, rfl⟩, Nat.le_of_ble_eq_true rfl, Nat.le_of_ble_eq_true rfl⟩ hW2.1 ⟨by decide, by decide⟩ rfl rfl hl.1 rfl (Nat.le_of_ble_eq_true rfl) ⟨Nat.le_of_ble_eq_true rfl, Nat.le_of_ble_eq_true rfl⟩ dX7_serial_91 (fun S91 H locs hp91 hw => ?_)
        refine lv_iinc (v := (nI (i + 1))) (lv' := [(9, .int (nI (i + 1))), (0, .ref (a 0)), (1, .int p0), (2, .int p1), (3, .int p2), (4, .int p3), (5, .int p4), (6, .ref w1), (7, .int (nI (zsbN p4))), (8, .int (zsw p1 p4))]) hx hb dX7_serial_94 hl (k := 0) rfl (nI_1 _) (by decide) rfl (fun ls hl => ?_)
        refine lv_goto (tgt := 65) hx hb dX7_serial_97 (by decide) ?_
        exact ih_1 (i + 1) S91 _ _ _ (by have := z_lt (n := zsbN p4) c69 (by omega) (by omega); omega) (by have := z_lt (n := zsbN p4) c69 (by omega) (by omega); omega) (hp91.1.weak (zgd_s (zlS p1 p4) (ztk p2 p3) i) (Nat.le_refl _) (ztk_nx hp17 hr3 (by omega) (Nat.lt_succ_self i))) hw (lv_sub hl [0, 1, 2, 3, 4, 5, 6, 7, 8, 9] rfl)
  exact lp_2 _ 0 (zsI (zsI S 163 w1 1) 164 w1 0) _ _ _ (Nat.lt_succ_self _) (Nat.zero_le _) ((zSnd.begin (Or.inr rfl) _).weak (zgd_0 _ _) (Nat.le_refl _) (Int.le_refl _)) hw (lv_sub hl [0, 4, 5, 6, 7, 8, 9, 3, 2, 1] rfl)
