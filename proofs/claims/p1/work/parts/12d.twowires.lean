set_option maxHeartbeats 4000000 in
set_option maxRecDepth 100000 in
/-- X11_twoWires -/
theorem c_X11_twoWires (l : Launch) (D : va_G) (y : Nat → ClassId) (base : Nat) (S : zS) (b : Nat → Nat) (p0 : Int32) (p1 : Int32) (p2 : Int32) (p3 : Int32) (p4 : Int32) (p5 : Int32) (p6 : Int32) (p7 : Int32) (hM : zMd S b) (hM0 : zMd0 S b) (hz3 : p3 = 0 ∨ p3 = 1) : zMi l yX11_twoWires wsX11_twoWires ({ frames := 3, cells := 8, slots := 40016, locals := 68 }) [.ref (b 0), .int p0, .int p1, .int p2, .int p3, .int p4, .int p5, .int p6, .int p7] D y base S (fun (r : Int32) (S1 : zS) => zK S1 (b 0) = 15 ∧ zI S1 240 (b 0) = kd_two p0 p1 p2 p3 p4 p5 p6 p7 ∧ (kd_two p0 p1 p2 p3 p4 p5 p6 p7 = 0 → r = p6 + 57 * p7)) 8 40016 := by
  refine zMet_of (cc := cX11_twoWires) (maxL := 16) (ret := (some .int)) (own := RX11) (by decide +kernel) rfl rfl (Nat.le_of_ble_eq_true rfl) ?_
  intro p e s m args below meth c ls C hr hlocks hnm hw hl
  have hx := C.1
  have hb := C.2.1
  have hown := C.2.2.2.1
  have hts := C.2.2.2.2
  have hl : lv_has ls 16 [(0, .ref (b 0)), (1, .int p0), (2, .int p1), (3, .int p2), (4, .int p3), (5, .int p4), (6, .int p5), (7, .int p6), (8, .int p7)] := hl
  have in_X11 : ∀ w ∈ wsX110, w ∈ wsX11_twoWires := by decide +kernel
  have in_X9 : ∀ w ∈ wsX90, w ∈ wsX11_twoWires := by decide +kernel
  refine lv_aload_n hx hb dX11_twoWires_0 rfl (lv_at hl 0 rfl) ?_
  refine lv_iload_n hx hb dX11_twoWires_1 rfl (lv_at hl 1 rfl) ?_
  refine zcS_i (As := [.int p0]) (rest := [.ref (b 0)]) (n9 := 1) C hw (c_X11_isWire l D y base S p0 ) gX11_twoWires_X11_isWire rfl (by decide +kernel) ⟨⟨rfl, rfl⟩, Nat.le_of_ble_eq_true rfl, Nat.le_of_ble_eq_true rfl⟩ rfl hl.1 rfl (Nat.le_of_ble_eq_true rfl) ⟨Nat.le_of_ble_eq_true rfl, Nat.le_of_ble_eq_true rfl⟩ dX11_twoWires_2 (fun r2 S2 H locs hp2 hw => ?_)
  obtain ⟨rfl, hS9⟩ := hp2
  have hS9 := hS9.symm
  subst hS9
  refine lv_if_eq (tgt := 19) hx hb dX11_twoWires_5 (by decide) (fun c5 => ?_) (fun c5 => ?_)
  · replace c5 := zb0.mp c5
    refine lv_iconst (v := 1) hx hb dX11_twoWires_19 (by decide) ?_
    refine p_Mod_thrown (a := (b 0)) (v := 1) C hw hM.1 in_X11 (by decide +kernel) dX11_twoWires_20 (fun H locs hw => ?_)
    refine lv_aload_n hx hb dX11_twoWires_23 rfl (lv_at hl 0 rfl) ?_
    refine g_Mod_thrown (a := (b 0)) (v := 1) C hw hM.1 in_X11 (by decide +kernel) (zI_s S 240 (b 0) 1) dX11_twoWires_24 ?_
    refine lv_if_le (tgt := 32) hx hb dX11_twoWires_27 (by decide) (fun c27 => absurd c27 (by decide)) (fun _ => ?_)
    refine lv_iconst (v := 0) hx hb dX11_twoWires_30 (by decide) ?_
    exact zri C hw hr hlocks rfl ⟨hM.1, ((zI_s S 240 (b 0) 1)).trans (by unfold kd_two; (try unfold zb); grind), (fun h9 => by first | rfl | (revert h9; unfold kd_two; (try unfold zb); grind))⟩ ⟨Nat.le_of_ble_eq_true rfl, Nat.le_of_ble_eq_true rfl⟩ dX11_twoWires_31
  · replace c5 := zb1.mp c5
    refine lv_iload_n hx hb dX11_twoWires_8 rfl (lv_at hl 2 rfl) ?_
    refine zcS_i (As := [.int p1]) (rest := [.ref (b 0)]) (n9 := 1) C hw (c_X11_isWire l D y base S p1 ) gX11_twoWires_X11_isWire rfl (by decide +kernel) ⟨⟨rfl, rfl⟩, Nat.le_of_ble_eq_true rfl, Nat.le_of_ble_eq_true rfl⟩ rfl hl.1 rfl (Nat.le_of_ble_eq_true rfl) ⟨Nat.le_of_ble_eq_true rfl, Nat.le_of_ble_eq_true rfl⟩ dX11_twoWires_9 (fun r9 S9 H locs hp9 hw => ?_)
    obtain ⟨rfl, hS9⟩ := hp9
    have hS9 := hS9.symm
    subst hS9
    refine lv_if_eq (tgt := 19) hx hb dX11_twoWires_12 (by decide) (fun c12 => ?_) (fun c12 => ?_)
    · replace c12 := zb0.mp c12
      refine lv_iconst (v := 1) hx hb dX11_twoWires_19 (by decide) ?_
      refine p_Mod_thrown (a := (b 0)) (v := 1) C hw hM.1 in_X11 (by decide +kernel) dX11_twoWires_20 (fun H locs hw => ?_)
      refine lv_aload_n hx hb dX11_twoWires_23 rfl (lv_at hl 0 rfl) ?_
      refine g_Mod_thrown (a := (b 0)) (v := 1) C hw hM.1 in_X11 (by decide +kernel) (zI_s S 240 (b 0) 1) dX11_twoWires_24 ?_
      refine lv_if_le (tgt := 32) hx hb dX11_twoWires_27 (by decide) (fun c27 => absurd c27 (by decide)) (fun _ => ?_)
      refine lv_iconst (v := 0) hx hb dX11_twoWires_30 (by decide) ?_
      exact zri C hw hr hlocks rfl ⟨hM.1, ((zI_s S 240 (b 0) 1)).trans (by unfold kd_two; (try unfold zb); grind), (fun h9 => by first | rfl | (revert h9; unfold kd_two; (try unfold zb); grind))⟩ ⟨Nat.le_of_ble_eq_true rfl, Nat.le_of_ble_eq_true rfl⟩ dX11_twoWires_31
    · replace c12 := zb1.mp c12
      refine lv_iconst (v := 0) hx hb dX11_twoWires_15 (by decide) ?_
      refine lv_goto (tgt := 20) hx hb dX11_twoWires_16 (by decide) ?_
      refine p_Mod_thrown (a := (b 0)) (v := 0) C hw hM.1 in_X11 (by decide +kernel) dX11_twoWires_20 (fun H locs hw => ?_)
      refine lv_aload_n hx hb dX11_twoWires_23 rfl (lv_at hl 0 rfl) ?_
      refine g_Mod_thrown (a := (b 0)) (v := 0) C hw hM.1 in_X11 (by decide +kernel) (zI_s S 240 (b 0) 0) dX11_twoWires_24 ?_
      refine lv_if_le (tgt := 32) hx hb dX11_twoWires_27 (by decide) (fun _ => ?_) (fun c27 => absurd c27 (by decide))
      refine lv_iload_n hx hb dX11_twoWires_32 rfl (lv_at hl 1 rfl) ?_
      refine lv_iload_n hx hb dX11_twoWires_33 rfl (lv_at hl 2 rfl) ?_
      refine lv_icmp_eq (tgt := 79) hx hb dX11_twoWires_34 (by decide) (fun c34 => ?_) (fun c34 => ?_)
      · refine lv_iconst (v := 0) hx hb dX11_twoWires_79 (by decide) ?_
        refine lv_istore (lv' := [(9, .int 0), (0, .ref (b 0)), (1, .int p0), (2, .int p1), (3, .int p2), (4, .int p3), (5, .int p4), (6, .int p5), (7, .int p6), (8, .int p7)]) hx hb dX11_twoWires_80 hl (by decide) rfl (fun ls hl => ?_)
        refine lv_aload_n hx hb dX11_twoWires_82 rfl (lv_at hl 1 rfl) ?_
        refine lv_iload hx hb dX11_twoWires_83 (lv_at hl 0 rfl) ?_
        refine lv_if_eq (tgt := 118) hx hb dX11_twoWires_85 (by decide) (fun _ => ?_) (fun c85 => absurd c85 (by decide))
        refine lv_iconst (v := 2) hx hb dX11_twoWires_118 (by decide) ?_
        refine p_Mod_thrown (a := (b 0)) (v := 2) C hw hM.1 in_X11 (by decide +kernel) dX11_twoWires_119 (fun H locs hw => ?_)
        refine lv_aload_n hx hb dX11_twoWires_122 rfl (lv_at hl 1 rfl) ?_
        refine g_Mod_thrown (a := (b 0)) (v := 2) C hw hM.1 in_X11 (by decide +kernel) (zI_s (zsI S 240 (b 0) 0) 240 (b 0) 2) dX11_twoWires_123 ?_
        refine lv_if_le (tgt := 131) hx hb dX11_twoWires_126 (by decide) (fun c126 => absurd c126 (by decide)) (fun _ => ?_)
        refine lv_iconst (v := 0) hx hb dX11_twoWires_129 (by decide) ?_
        exact zri C hw hr hlocks rfl ⟨hM.1, ((zI_s (zsI S 240 (b 0) 0) 240 (b 0) 2)).trans (by unfold kd_two; (try unfold zb); grind), (fun h9 => by first | rfl | (revert h9; unfold kd_two; (try unfold zb); grind))⟩ ⟨Nat.le_of_ble_eq_true rfl, Nat.le_of_ble_eq_true rfl⟩ dX11_twoWires_130
      · refine lv_iload_n hx hb dX11_twoWires_37 rfl (lv_at hl 3 rfl) ?_
        refine lv_i2l (v := p2.toInt64) hx hb dX11_twoWires_38 rfl ?_
        refine lv_lconst (v := ((0 : Int32).toInt64)) hx hb dX11_twoWires_39 (by decide) ?_
        refine lv_ldc2 (own := RX11) (v := ((127 : Int32).toInt64)) hx hb hown (hts (.constantLong RX11 124 (127)) (by decide +kernel)) dX11_twoWires_40 ?_
        refine zcS_i (As := [.long (p2.toInt64), .long ((0 : Int32).toInt64), .long ((127 : Int32).toInt64)]) (rest := []) (n9 := 3) C hw (c_X11_in l D y base (zsI S 240 (b 0) 0) p2 (0 : Int32) (127 : Int32) ) gX11_twoWires_X11_in rfl (by decide +kernel) ⟨⟨rfl, rfl⟩, Nat.le_of_ble_eq_true rfl, Nat.le_of_ble_eq_true rfl⟩ rfl hl.1 rfl (Nat.le_of_ble_eq_true rfl) ⟨Nat.le_of_ble_eq_true rfl, Nat.le_of_ble_eq_true rfl⟩ dX11_twoWires_43 (fun r43 S43 H locs hp43 hw => ?_)
        obtain ⟨rfl, hS9⟩ := hp43
        have hS9 := hS9.symm
        subst hS9
        refine lv_if_eq (tgt := 79) hx hb dX11_twoWires_46 (by decide) (fun c46 => ?_) (fun c46 => ?_)
        · replace c46 := zb0.mp c46
          refine lv_iconst (v := 0) hx hb dX11_twoWires_79 (by decide) ?_
          refine lv_istore (lv' := [(9, .int 0), (0, .ref (b 0)), (1, .int p0), (2, .int p1), (3, .int p2), (4, .int p3), (5, .int p4), (6, .int p5), (7, .int p6), (8, .int p7)]) hx hb dX11_twoWires_80 hl (by decide) rfl (fun ls hl => ?_)
          refine lv_aload_n hx hb dX11_twoWires_82 rfl (lv_at hl 1 rfl) ?_
          refine lv_iload hx hb dX11_twoWires_83 (lv_at hl 0 rfl) ?_
          refine lv_if_eq (tgt := 118) hx hb dX11_twoWires_85 (by decide) (fun _ => ?_) (fun c85 => absurd c85 (by decide))
          refine lv_iconst (v := 2) hx hb dX11_twoWires_118 (by decide) ?_
          refine p_Mod_thrown (a := (b 0)) (v := 2) C hw hM.1 in_X11 (by decide +kernel) dX11_twoWires_119 (fun H locs hw => ?_)
          refine lv_aload_n hx hb dX11_twoWires_122 rfl (lv_at hl 1 rfl) ?_
          refine g_Mod_thrown (a := (b 0)) (v := 2) C hw hM.1 in_X11 (by decide +kernel) (zI_s (zsI S 240 (b 0) 0) 240 (b 0) 2) dX11_twoWires_123 ?_
          refine lv_if_le (tgt := 131) hx hb dX11_twoWires_126 (by decide) (fun c126 => absurd c126 (by decide)) (fun _ => ?_)
          refine lv_iconst (v := 0) hx hb dX11_twoWires_129 (by decide) ?_
          exact zri C hw hr hlocks rfl ⟨hM.1, ((zI_s (zsI S 240 (b 0) 0) 240 (b 0) 2)).trans (by unfold kd_two; (try unfold zb); grind), (fun h9 => by first | rfl | (revert h9; unfold kd_two; (try unfold zb); grind))⟩ ⟨Nat.le_of_ble_eq_true rfl, Nat.le_of_ble_eq_true rfl⟩ dX11_twoWires_130
        · replace c46 := zb1.mp c46
          refine lv_iload hx hb dX11_twoWires_49 (lv_at hl 5 rfl) ?_
          refine lv_i2l (v := p4.toInt64) hx hb dX11_twoWires_51 rfl ?_
          refine lv_lconst (v := ((0 : Int32).toInt64)) hx hb dX11_twoWires_52 (by decide) ?_
          refine lv_ldc2 (own := RX11) (v := ((15 : Int32).toInt64)) hx hb hown (hts (.constantLong RX11 126 (15)) (by decide +kernel)) dX11_twoWires_53 ?_
          refine zcS_i (As := [.long (p4.toInt64), .long ((0 : Int32).toInt64), .long ((15 : Int32).toInt64)]) (rest := []) (n9 := 3) C hw (c_X11_in l D y base (zsI S 240 (b 0) 0) p4 (0 : Int32) (15 : Int32) ) gX11_twoWires_X11_in rfl (by decide +kernel) ⟨⟨rfl, rfl⟩, Nat.le_of_ble_eq_true rfl, Nat.le_of_ble_eq_true rfl⟩ rfl hl.1 rfl (Nat.le_of_ble_eq_true rfl) ⟨Nat.le_of_ble_eq_true rfl, Nat.le_of_ble_eq_true rfl⟩ dX11_twoWires_56 (fun r56 S56 H locs hp56 hw => ?_)
          obtain ⟨rfl, hS9⟩ := hp56
          have hS9 := hS9.symm
          subst hS9
          refine lv_if_eq (tgt := 79) hx hb dX11_twoWires_59 (by decide) (fun c59 => ?_) (fun c59 => ?_)
          · replace c59 := zb0.mp c59
            refine lv_iconst (v := 0) hx hb dX11_twoWires_79 (by decide) ?_
            refine lv_istore (lv' := [(9, .int 0), (0, .ref (b 0)), (1, .int p0), (2, .int p1), (3, .int p2), (4, .int p3), (5, .int p4), (6, .int p5), (7, .int p6), (8, .int p7)]) hx hb dX11_twoWires_80 hl (by decide) rfl (fun ls hl => ?_)
            refine lv_aload_n hx hb dX11_twoWires_82 rfl (lv_at hl 1 rfl) ?_
            refine lv_iload hx hb dX11_twoWires_83 (lv_at hl 0 rfl) ?_
            refine lv_if_eq (tgt := 118) hx hb dX11_twoWires_85 (by decide) (fun _ => ?_) (fun c85 => absurd c85 (by decide))
            refine lv_iconst (v := 2) hx hb dX11_twoWires_118 (by decide) ?_
            refine p_Mod_thrown (a := (b 0)) (v := 2) C hw hM.1 in_X11 (by decide +kernel) dX11_twoWires_119 (fun H locs hw => ?_)
            refine lv_aload_n hx hb dX11_twoWires_122 rfl (lv_at hl 1 rfl) ?_
            refine g_Mod_thrown (a := (b 0)) (v := 2) C hw hM.1 in_X11 (by decide +kernel) (zI_s (zsI S 240 (b 0) 0) 240 (b 0) 2) dX11_twoWires_123 ?_
            refine lv_if_le (tgt := 131) hx hb dX11_twoWires_126 (by decide) (fun c126 => absurd c126 (by decide)) (fun _ => ?_)
            refine lv_iconst (v := 0) hx hb dX11_twoWires_129 (by decide) ?_
            exact zri C hw hr hlocks rfl ⟨hM.1, ((zI_s (zsI S 240 (b 0) 0) 240 (b 0) 2)).trans (by unfold kd_two; (try unfold zb); grind), (fun h9 => by first | rfl | (revert h9; unfold kd_two; (try unfold zb); grind))⟩ ⟨Nat.le_of_ble_eq_true rfl, Nat.le_of_ble_eq_true rfl⟩ dX11_twoWires_130
          · replace c59 := zb1.mp c59
            refine lv_iload hx hb dX11_twoWires_62 (lv_at hl 6 rfl) ?_
            refine lv_i2l (v := p5.toInt64) hx hb dX11_twoWires_64 rfl ?_
            refine lv_lconst (v := ((0 : Int32).toInt64)) hx hb dX11_twoWires_65 (by decide) ?_
            refine lv_ldc2 (own := RX11) (v := ((255 : Int32).toInt64)) hx hb hown (hts (.constantLong RX11 96 (255)) (by decide +kernel)) dX11_twoWires_66 ?_
            refine zcS_i (As := [.long (p5.toInt64), .long ((0 : Int32).toInt64), .long ((255 : Int32).toInt64)]) (rest := []) (n9 := 3) C hw (c_X11_in l D y base (zsI S 240 (b 0) 0) p5 (0 : Int32) (255 : Int32) ) gX11_twoWires_X11_in rfl (by decide +kernel) ⟨⟨rfl, rfl⟩, Nat.le_of_ble_eq_true rfl, Nat.le_of_ble_eq_true rfl⟩ rfl hl.1 rfl (Nat.le_of_ble_eq_true rfl) ⟨Nat.le_of_ble_eq_true rfl, Nat.le_of_ble_eq_true rfl⟩ dX11_twoWires_69 (fun r69 S69 H locs hp69 hw => ?_)
            obtain ⟨rfl, hS9⟩ := hp69
            have hS9 := hS9.symm
            subst hS9
            refine lv_if_eq (tgt := 79) hx hb dX11_twoWires_72 (by decide) (fun c72 => ?_) (fun c72 => ?_)
            · replace c72 := zb0.mp c72
              refine lv_iconst (v := 0) hx hb dX11_twoWires_79 (by decide) ?_
              refine lv_istore (lv' := [(9, .int 0), (0, .ref (b 0)), (1, .int p0), (2, .int p1), (3, .int p2), (4, .int p3), (5, .int p4), (6, .int p5), (7, .int p6), (8, .int p7)]) hx hb dX11_twoWires_80 hl (by decide) rfl (fun ls hl => ?_)
              refine lv_aload_n hx hb dX11_twoWires_82 rfl (lv_at hl 1 rfl) ?_
              refine lv_iload hx hb dX11_twoWires_83 (lv_at hl 0 rfl) ?_
              refine lv_if_eq (tgt := 118) hx hb dX11_twoWires_85 (by decide) (fun _ => ?_) (fun c85 => absurd c85 (by decide))
              refine lv_iconst (v := 2) hx hb dX11_twoWires_118 (by decide) ?_
              refine p_Mod_thrown (a := (b 0)) (v := 2) C hw hM.1 in_X11 (by decide +kernel) dX11_twoWires_119 (fun H locs hw => ?_)
              refine lv_aload_n hx hb dX11_twoWires_122 rfl (lv_at hl 1 rfl) ?_
              refine g_Mod_thrown (a := (b 0)) (v := 2) C hw hM.1 in_X11 (by decide +kernel) (zI_s (zsI S 240 (b 0) 0) 240 (b 0) 2) dX11_twoWires_123 ?_
              refine lv_if_le (tgt := 131) hx hb dX11_twoWires_126 (by decide) (fun c126 => absurd c126 (by decide)) (fun _ => ?_)
              refine lv_iconst (v := 0) hx hb dX11_twoWires_129 (by decide) ?_
              exact zri C hw hr hlocks rfl ⟨hM.1, ((zI_s (zsI S 240 (b 0) 0) 240 (b 0) 2)).trans (by unfold kd_two; (try unfold zb); grind), (fun h9 => by first | rfl | (revert h9; unfold kd_two; (try unfold zb); grind))⟩ ⟨Nat.le_of_ble_eq_true rfl, Nat.le_of_ble_eq_true rfl⟩ dX11_twoWires_130
            · replace c72 := zb1.mp c72
              refine lv_iconst (v := 1) hx hb dX11_twoWires_75 (by decide) ?_
              refine lv_goto (tgt := 80) hx hb dX11_twoWires_76 (by decide) ?_
              refine lv_istore (lv' := [(9, .int 1), (0, .ref (b 0)), (1, .int p0), (2, .int p1), (3, .int p2), (4, .int p3), (5, .int p4), (6, .int p5), (7, .int p6), (8, .int p7)]) hx hb dX11_twoWires_80 hl (by decide) rfl (fun ls hl => ?_)
              refine lv_aload_n hx hb dX11_twoWires_82 rfl (lv_at hl 1 rfl) ?_
              refine lv_iload hx hb dX11_twoWires_83 (lv_at hl 0 rfl) ?_
              refine lv_if_eq (tgt := 118) hx hb dX11_twoWires_85 (by decide) (fun c85 => absurd c85 (by decide)) (fun _ => ?_)
              refine lv_iload hx hb dX11_twoWires_88 (lv_at hl 8 rfl) ?_
              refine lv_i2l (v := p6.toInt64) hx hb dX11_twoWires_90 rfl ?_
              refine lv_lconst (v := ((0 : Int32).toInt64)) hx hb dX11_twoWires_91 (by decide) ?_
              refine lv_ldc2 (own := RX11) (v := ((9999 : Int32).toInt64)) hx hb hown (hts (.constantLong RX11 60 (9999)) (by decide +kernel)) dX11_twoWires_92 ?_
              refine zcS_i (As := [.long (p6.toInt64), .long ((0 : Int32).toInt64), .long ((9999 : Int32).toInt64)]) (rest := [.ref (b 0)]) (n9 := 3) C hw (c_X11_in l D y base (zsI S 240 (b 0) 0) p6 (0 : Int32) (9999 : Int32) ) gX11_twoWires_X11_in rfl (by decide +kernel) ⟨⟨rfl, rfl⟩, Nat.le_of_ble_eq_true rfl, Nat.le_of_ble_eq_true rfl⟩ rfl hl.1 rfl (Nat.le_of_ble_eq_true rfl) ⟨Nat.le_of_ble_eq_true rfl, Nat.le_of_ble_eq_true rfl⟩ dX11_twoWires_95 (fun r95 S95 H locs hp95 hw => ?_)
              obtain ⟨rfl, hS9⟩ := hp95
              have hS9 := hS9.symm
              subst hS9
              refine lv_if_eq (tgt := 118) hx hb dX11_twoWires_98 (by decide) (fun c98 => ?_) (fun c98 => ?_)
              · replace c98 := zb0.mp c98
                refine lv_iconst (v := 2) hx hb dX11_twoWires_118 (by decide) ?_
                refine p_Mod_thrown (a := (b 0)) (v := 2) C hw hM.1 in_X11 (by decide +kernel) dX11_twoWires_119 (fun H locs hw => ?_)
                refine lv_aload_n hx hb dX11_twoWires_122 rfl (lv_at hl 1 rfl) ?_
                refine g_Mod_thrown (a := (b 0)) (v := 2) C hw hM.1 in_X11 (by decide +kernel) (zI_s (zsI S 240 (b 0) 0) 240 (b 0) 2) dX11_twoWires_123 ?_
                refine lv_if_le (tgt := 131) hx hb dX11_twoWires_126 (by decide) (fun c126 => absurd c126 (by decide)) (fun _ => ?_)
                refine lv_iconst (v := 0) hx hb dX11_twoWires_129 (by decide) ?_
                exact zri C hw hr hlocks rfl ⟨hM.1, ((zI_s (zsI S 240 (b 0) 0) 240 (b 0) 2)).trans (by unfold kd_two; (try unfold zb); grind), (fun h9 => by first | rfl | (revert h9; unfold kd_two; (try unfold zb); grind))⟩ ⟨Nat.le_of_ble_eq_true rfl, Nat.le_of_ble_eq_true rfl⟩ dX11_twoWires_130
              · replace c98 := zb1.mp c98
                refine lv_iload hx hb dX11_twoWires_101 (lv_at hl 9 rfl) ?_
                refine lv_i2l (v := p7.toInt64) hx hb dX11_twoWires_103 rfl ?_
                refine lv_lconst (v := ((1 : Int32).toInt64)) hx hb dX11_twoWires_104 (by decide) ?_
                refine lv_ldc2 (own := RX11) (v := ((50 : Int32).toInt64)) hx hb hown (hts (.constantLong RX11 91 (50)) (by decide +kernel)) dX11_twoWires_105 ?_
                refine zcS_i (As := [.long (p7.toInt64), .long ((1 : Int32).toInt64), .long ((50 : Int32).toInt64)]) (rest := [.ref (b 0)]) (n9 := 3) C hw (c_X11_in l D y base (zsI S 240 (b 0) 0) p7 (1 : Int32) (50 : Int32) ) gX11_twoWires_X11_in rfl (by decide +kernel) ⟨⟨rfl, rfl⟩, Nat.le_of_ble_eq_true rfl, Nat.le_of_ble_eq_true rfl⟩ rfl hl.1 rfl (Nat.le_of_ble_eq_true rfl) ⟨Nat.le_of_ble_eq_true rfl, Nat.le_of_ble_eq_true rfl⟩ dX11_twoWires_108 (fun r108 S108 H locs hp108 hw => ?_)
                obtain ⟨rfl, hS9⟩ := hp108
                have hS9 := hS9.symm
                subst hS9
                refine lv_if_eq (tgt := 118) hx hb dX11_twoWires_111 (by decide) (fun c111 => ?_) (fun c111 => ?_)
                · replace c111 := zb0.mp c111
                  refine lv_iconst (v := 2) hx hb dX11_twoWires_118 (by decide) ?_
                  refine p_Mod_thrown (a := (b 0)) (v := 2) C hw hM.1 in_X11 (by decide +kernel) dX11_twoWires_119 (fun H locs hw => ?_)
                  refine lv_aload_n hx hb dX11_twoWires_122 rfl (lv_at hl 1 rfl) ?_
                  refine g_Mod_thrown (a := (b 0)) (v := 2) C hw hM.1 in_X11 (by decide +kernel) (zI_s (zsI S 240 (b 0) 0) 240 (b 0) 2) dX11_twoWires_123 ?_
                  refine lv_if_le (tgt := 131) hx hb dX11_twoWires_126 (by decide) (fun c126 => absurd c126 (by decide)) (fun _ => ?_)
                  refine lv_iconst (v := 0) hx hb dX11_twoWires_129 (by decide) ?_
                  exact zri C hw hr hlocks rfl ⟨hM.1, ((zI_s (zsI S 240 (b 0) 0) 240 (b 0) 2)).trans (by unfold kd_two; (try unfold zb); grind), (fun h9 => by first | rfl | (revert h9; unfold kd_two; (try unfold zb); grind))⟩ ⟨Nat.le_of_ble_eq_true rfl, Nat.le_of_ble_eq_true rfl⟩ dX11_twoWires_130
                · replace c111 := zb1.mp c111
                  refine lv_iconst (v := 0) hx hb dX11_twoWires_114 (by decide) ?_
                  refine lv_goto (tgt := 119) hx hb dX11_twoWires_115 (by decide) ?_
                  refine p_Mod_thrown (a := (b 0)) (v := 0) C hw hM.1 in_X11 (by decide +kernel) dX11_twoWires_119 (fun H locs hw => ?_)
                  refine lv_aload_n hx hb dX11_twoWires_122 rfl (lv_at hl 1 rfl) ?_
                  refine g_Mod_thrown (a := (b 0)) (v := 0) C hw hM.1 in_X11 (by decide +kernel) (zI_s (zsI S 240 (b 0) 0) 240 (b 0) 0) dX11_twoWires_123 ?_
                  refine lv_if_le (tgt := 131) hx hb dX11_twoWires_126 (by decide) (fun _ => ?_) (fun c126 => absurd c126 (by decide))
                  have hMb : zMd (zsI (zsI S 240 (b 0) 0) 240 (b 0) 0) b := hM
                  have hM0b : zMd0 (zsI (zsI S 240 (b 0) 0) 240 (b 0) 0) b := by first | exact hM0 | exact zMd0.i hM0 | exact zMd0.i (zMd0.i hM0)
                  have hp0 : 0 ≤ p0 ∧ p0 ≤ 3 := by grind
                  have hp1 : 0 ≤ p1 ∧ p1 ≤ 3 := by grind
                  have hd9 : p0.toNatClampNeg ≠ p1.toNatClampNeg := zcl_ne hp0 hp1 (by assumption)
                  have hp2 : 0 ≤ p2 ∧ p2 ≤ 127 := by grind
                  have hp4 : 0 ≤ p4 ∧ p4 ≤ 15 := by grind
                  have hp5 : 0 ≤ p5 ∧ p5 ≤ 255 := by grind
                  have hp6 : 0 ≤ p6 ∧ p6 ≤ 9999 := by grind
                  have hp7 : 1 ≤ p7 ∧ p7 ≤ 50 := by grind
                  have hkg := kdg_two (p3 := p3) hp0 hp1 (by assumption) hp2 hp4 hp5 hp6 hp7
                  refine znew (k := 13) (Cn := RX9) (T := TX9) (N := 5) C hw (by decide) (by decide) rfl in_X9 tyX9 tyX9_ok (by decide +kernel) (by decide +kernel) (by decide +kernel) (zdfX9) (Nat.le_of_ble_eq_true rfl) (Nat.le_of_ble_eq_true rfl) dX11_twoWires_131 (fun q131 H kq131 hw => ?_)
                  have hMn : zMd (znO (zsI (zsI S 240 (b 0) 0) 240 (b 0) 0) q131 13) b := zMd.cls (zCls.gv (zGv.nO kq131) kq131) hMb
                  have hM0n : zMd0 (znO (zsI (zsI S 240 (b 0) 0) 240 (b 0) 0) q131 13) b := zMd0.cls (zCls.gv (zGv.nO kq131) kq131) hMb hM0b
                  refine lv_dup hx hb dX11_twoWires_134 rfl ?_
                  refine lv_aload_n hx hb dX11_twoWires_135 rfl (lv_at hl 1 rfl) ?_
                  refine lv_iload hx hb dX11_twoWires_136 (lv_at hl 8 rfl) ?_
                  refine zcI_v (As := [.ref (b 0), .int p6]) (rest := [.ref q131]) (n9 := 2) (b := q131) C hw (c_X9_init l D y base (znO (zsI (zsI S 240 (b 0) 0) 240 (b 0) 0) q131 13) b q131 p6 hMn hM0n (zK_nOs (zsI (zsI S 240 (b 0) 0) 240 (b 0) 0) q131 13)) gX11_twoWires_X9_init rfl (by decide +kernel) (by decide +kernel) (by decide +kernel) rfl (by decide +kernel) ⟨⟨rfl, rfl⟩, Nat.le_of_ble_eq_true rfl, Nat.le_of_ble_eq_true rfl⟩ rfl hl.1 rfl (Nat.le_of_ble_eq_true rfl) ⟨Nat.le_of_ble_eq_true rfl, Nat.le_of_ble_eq_true rfl⟩ dX11_twoWires_138 (fun S138 H locs hp138 hw => ?_)
                  obtain ⟨rw9, sn, f, i1, i2, i3, i4, i5, i6, i7, i8, i9, i10, i11, i12, i13⟩ := hp138
                  have hG9 : zGv (zsI (zsI S 240 (b 0) 0) 240 (b 0) 0) S138 q131 := (zGv.nO kq131).tr i13
                  have hM9 := zMd.cls (zCls.gv hG9 kq131) hMb
                  have hM09 := zMd0.cls (zCls.gv hG9 kq131) hMb hM0b
                  have hE138 : zSe S138 q131 (b 0) rw9 sn f p6 (fun _ => 0) True 0 := ⟨⟨i1, i2, i3, i4, hM9.1, hM09.1, hM09.2.1, hM09.2.2.1, i5, i7, i8, i9, i10⟩, ⟨Or.inr i6, ⟨fun _ => trivial, fun _ h => absurd (i6.symm.trans h) (by decide)⟩⟩, fun j _ => i11 j, fun j hj => ⟨(i12 j hj).1, (i12 j hj).2.1, (i12 j hj).2.2.1, (i12 j hj).2.2.2.2, Nat.le_of_eq (zct_none (fun t _ => by rw [decide_eq_true_eq]; exact fun q => q ((i12 j hj).2.2.2.1 t)))⟩⟩
                  refine lv_astore (lv' := [(10, .ref q131), (9, .int 1), (0, .ref (b 0)), (1, .int p0), (2, .int p1), (3, .int p2), (4, .int p3), (5, .int p4), (6, .int p5), (7, .int p6), (8, .int p7)]) hx hb dX11_twoWires_141 hl (by decide) rfl (fun ls hl => ?_)
                  refine lv_aload hx hb dX11_twoWires_143 (lv_at hl 0 rfl) ?_
                  refine zgetN (a := q131) (k := 13) (j := 1) (b := true) (v := .ref sn) (ref := "ProbehallModel$Sending") (host := "ProbehallModel") (Cn := RX9) (T := TX9) (N := 5) C hw hE138.1.1 (by decide) (by decide) rfl in_X9 rfl (by decide) (by decide +kernel) (fun _ h => h) (show va_rf (zQ S138 209 q131) = .ref sn by rw [show zQ S138 209 q131 = some sn from hE138.1.2.2.1]; rfl) dX11_twoWires_145 ?_
                  refine lv_iload_n hx hb dX11_twoWires_148 rfl (lv_at hl 3 rfl) ?_
                  refine lv_iconst (v := 1) hx hb dX11_twoWires_149 (by decide) ?_
                  refine zast_Z (a := sn) C hw hE138.1.2.2.2.2.2.2.2.2.2.2.2.1 hE138.1.2.2.2.2.2.2.2.2.2.2.2.2 (zin_of (N := 4) (by decide) (by grind) (by grind)) dX11_twoWires_150 (fun H locs hw => ?_)
                  refine lv_aload hx hb dX11_twoWires_151 (lv_at hl 0 rfl) ?_
                  refine zgetN (a := q131) (k := 13) (j := 1) (b := true) (v := .ref sn) (ref := "ProbehallModel$Sending") (host := "ProbehallModel") (Cn := RX9) (T := TX9) (N := 5) C hw hE138.1.1 (by decide) (by decide) rfl in_X9 rfl (by decide) (by decide +kernel) (fun _ h => h) (show va_rf (zQ (zsR S138 23 sn (upd (zR S138 23 sn) (p0).toNatClampNeg (vp_nar .boolean 1))) 209 q131) = .ref sn by rw [show zQ (zsR S138 23 sn (upd (zR S138 23 sn) (p0).toNatClampNeg (vp_nar .boolean 1))) 209 q131 = some sn from hE138.1.2.2.1]; rfl) dX11_twoWires_153 ?_
                  refine lv_iload_n hx hb dX11_twoWires_156 rfl (lv_at hl 4 rfl) ?_
                  refine lv_iconst (v := 1) hx hb dX11_twoWires_157 (by decide) ?_
                  refine zast_Z (a := sn) C hw hE138.1.2.2.2.2.2.2.2.2.2.2.2.1 hE138.1.2.2.2.2.2.2.2.2.2.2.2.2 (zin_of (N := 4) (by decide) (by grind) (by grind)) dX11_twoWires_158 (fun H locs hw => ?_)
                  have hPa := zSe_put (p0 := p0) (v := 1) hE138 (Or.inr rfl)
                  have hPb := zSe_put (p0 := p1) (v := 1) hPa.1 (Or.inr rfl)
                  have hE158 : zSe (zsR (zsR S138 23 sn (upd (zR S138 23 sn) (p0).toNatClampNeg (vp_nar .boolean 1))) 23 sn (upd (zR (zsR S138 23 sn (upd (zR S138 23 sn) (p0).toNatClampNeg (vp_nar .boolean 1))) 23 sn) (p1).toNatClampNeg (vp_nar .boolean 1))) q131 (b 0) rw9 sn f p6 (zl3 p0.toNatClampNeg p1.toNatClampNeg 4 (zlC (0)) (zlD (zwd2 p2 p3 p4 p5) (0)) 0) (zgd zlC (fun j => ztk p6 p7 (zmC j)) (0) ∧ zgd (zlD (zwd2 p2 p3 p4 p5)) (fun j => ztk p6 p7 (zmD j)) (0) ∧ True) (0 + (0)) := hPb.1.weak (fun j _ => by show (if j = p1.toNatClampNeg then (1 : Int32) else if j = p0.toNatClampNeg then 1 else 0) = zl3 p0.toNatClampNeg p1.toNatClampNeg 4 1 1 0 j; unfold zl3; grind) ⟨fun _ => ⟨(zgd_0 _ _).mp trivial, (zgd_0 _ _).mp trivial, trivial⟩, fun _ => trivial⟩ (Nat.le_refl _)
                  refine lv_aload hx hb dX11_twoWires_159 (lv_at hl 0 rfl) ?_
                  refine lv_iload_n hx hb dX11_twoWires_161 rfl (lv_at hl 4 rfl) ?_
                  refine lv_iconst (v := 0) hx hb dX11_twoWires_162 (by decide) ?_
                  refine zrd (x := (nI 0 * p7)) (by rw [nI_0, Int32.zero_mul]) ?_
                  refine lv_iconst (v := 0) hx hb dX11_twoWires_163 (by decide) ?_
                  refine zcV_v (As := [.int p1, .int (nI 0 * p7), .int 0]) (rest := []) (n9 := 3) (b := q131) C hw (c_X9_tells l D y base (zsR (zsR S138 23 sn (upd (zR S138 23 sn) (p0).toNatClampNeg (vp_nar .boolean 1))) 23 sn (upd (zR (zsR S138 23 sn (upd (zR S138 23 sn) (p0).toNatClampNeg (vp_nar .boolean 1))) 23 sn) (p1).toNatClampNeg (vp_nar .boolean 1))) q131 (b 0) rw9 sn (f p1.toNatClampNeg) p6 _ (zl3 p0.toNatClampNeg p1.toNatClampNeg 4 (zlC (0)) (zlD (zwd2 p2 p3 p4 p5) (0)) 0 p1.toNatClampNeg) p1 (nI 0 * p7) 0 hE158.1.1 hE158.1.2.1 hE158.1.2.2.1 hE158.1.2.2.2.1 hE158.1.2.2.2.2.1 hE158.1.2.2.2.2.2.1 hE158.1.2.2.2.2.2.2.2.2.1 rfl hE158.2.1.1 hE158.1.2.2.2.2.2.2.2.2.2.1 hE158.1.2.2.2.2.2.2.2.2.2.2.1 hE158.1.2.2.2.2.2.2.2.2.2.2.2.1 hE158.1.2.2.2.2.2.2.2.2.2.2.2.2 (hE158.2.2.1 _ (z_cl4 hp1)) hp1 (hE158.2.2.2 _ (z_cl4 hp1)).1 (hE158.2.2.2 _ (z_cl4 hp1)).2.1 (hE158.2.2.2 _ (z_cl4 hp1)).2.2.1 (hE158.2.2.2 _ (z_cl4 hp1)).2.2.2.1 (Or.inl rfl) (ztk_nn (m := 0) hp6 hp7 (by omega))) gX11_twoWires_X9_tells rfl (by decide +kernel) ⟨⟨rfl, rfl⟩, Nat.le_of_ble_eq_true rfl, Nat.le_of_ble_eq_true rfl⟩ hE158.1.1 ⟨by decide, by decide⟩ rfl rfl hl.1 rfl (Nat.le_of_ble_eq_true rfl) ⟨Nat.le_of_ble_eq_true rfl, Nat.le_of_ble_eq_true rfl⟩ dX11_twoWires_164 (fun S164 H locs hp164 hw => ?_)
                  have hT164 := zSe_3b (L := zlD (zwd2 p2 p3 p4 p5)) (t := (fun j => ztk p6 p7 (zmD j))) (k := 0) hE158 hp1 rfl hd9 rfl rfl hp164
                  have hE164 : zSe S164 q131 (b 0) rw9 sn f p6 (zl3 p0.toNatClampNeg p1.toNatClampNeg 4 (zlC (0)) (zlD (zwd2 p2 p3 p4 p5) (0 + 1)) 0) (zgd zlC (fun j => ztk p6 p7 (zmC j)) (0) ∧ zgd (zlD (zwd2 p2 p3 p4 p5)) (fun j => ztk p6 p7 (zmD j)) (0 + 1) ∧ True) (0 + (0 + 1)) := hT164.1.weak (fun _ _ => rfl) Iff.rfl (by omega)
                  refine lv_iconst (v := 3) hx hb dX11_twoWires_167 (by decide) ?_
                  refine znewI (N := 3) C hw (by decide +kernel) (by decide) (by decide) (Nat.le_of_ble_eq_true rfl) (Nat.le_of_ble_eq_true rfl) (Nat.le_of_ble_eq_true rfl) dX11_twoWires_168 (fun q168 H kq168 hw => ?_)
                  refine lv_dup hx hb dX11_twoWires_170 rfl ?_
                  refine lv_iconst (v := 0) hx hb dX11_twoWires_171 (by decide) ?_
                  refine lv_iconst (v := 2) hx hb dX11_twoWires_172 (by decide) ?_
                  refine lv_iload_n hx hb dX11_twoWires_173 rfl (lv_at hl 5 rfl) ?_
                  refine lv_imul hx hb dX11_twoWires_174 ?_
                  have jn_1 : ∀ (rd9_2 : Int32) (H : Heap) (locs : List Loc) (ls : Array Slot), zW D y base (znR S164 q168 22 3 (fun _ => 0)) s H locs → lv_has ls 16 [(10, .ref q131), (9, .int 1), (0, .ref (b 0)), (1, .int p0), (2, .int p1), (3, .int p2), (4, .int p3), (5, .int p4), (6, .int p5), (7, .int p6), (8, .int p7)] → (rd9_2 = p3) → W p l e (headSpec wsX11_twoWires ({ frames := 3, cells := 8, slots := 40016, locals := 68 })).room s m args below meth c H locs 8 40016 (MQ below (va_Qi (fun (r : Int32) (S1 : zS) => zK S1 (b 0) = 15 ∧ zI S1 240 (b 0) = kd_two p0 p1 p2 p3 p4 p5 p6 p7 ∧ (kd_two p0 p1 p2 p3 p4 p5 p6 p7 = 0 → r = p6 + 57 * p7)) (zPost D y base) (zA base)) args s 8 40016 (zA base)) (F0 m 185 ls [.int rd9_2, .int (2 * p2), .int 0, .ref q168, .ref q168]) := by
                    intro rd9_2 H locs ls hw hl f_3
                    have frd9 := f_3
                    refine lv_iadd hx hb dX11_twoWires_185 ?_
                    refine zast_I (a := q168) C hw (zK_nRs S164 q168 22 3 (fun _ => 0)) (zN_nRs S164 q168 22 3 (fun _ => 0)) (zin_of (N := 3) (by decide) (by grind) (by grind)) dX11_twoWires_186 (fun H locs hw => ?_)
                    refine lv_dup hx hb dX11_twoWires_187 rfl ?_
                    refine lv_iconst (v := 1) hx hb dX11_twoWires_188 (by decide) ?_
                    refine lv_iload hx hb dX11_twoWires_189 (lv_at hl 7 rfl) ?_
                    refine zast_I (a := q168) C hw (zK_nRs S164 q168 22 3 (fun _ => 0)) (zN_nRs S164 q168 22 3 (fun _ => 0)) (zin_of (N := 3) (by decide) (by grind) (by grind)) dX11_twoWires_191 (fun H locs hw => ?_)
                    refine lv_dup hx hb dX11_twoWires_192 rfl ?_
                    refine lv_iconst (v := 2) hx hb dX11_twoWires_193 (by decide) ?_
                    refine lv_iload hx hb dX11_twoWires_194 (lv_at hl 8 rfl) ?_
                    refine zast_I (a := q168) C hw (zK_nRs S164 q168 22 3 (fun _ => 0)) (zN_nRs S164 q168 22 3 (fun _ => 0)) (zin_of (N := 3) (by decide) (by grind) (by grind)) dX11_twoWires_196 (fun H locs hw => ?_)
                    have hG9b : zGv S164 (zsR (zsR (zsR (znR S164 q168 22 3 (fun _ => 0)) 22 q168 (upd (zR (znR S164 q168 22 3 (fun _ => 0)) 22 q168) (0 : Int32).toNatClampNeg ((2 * p2) + rd9_2))) 22 q168 (upd (zR (zsR (znR S164 q168 22 3 (fun _ => 0)) 22 q168 (upd (zR (znR S164 q168 22 3 (fun _ => 0)) 22 q168) (0 : Int32).toNatClampNeg ((2 * p2) + rd9_2))) 22 q168) (1 : Int32).toNatClampNeg p4)) 22 q168 (upd (zR (zsR (zsR (znR S164 q168 22 3 (fun _ => 0)) 22 q168 (upd (zR (znR S164 q168 22 3 (fun _ => 0)) 22 q168) (0 : Int32).toNatClampNeg ((2 * p2) + rd9_2))) 22 q168 (upd (zR (zsR (znR S164 q168 22 3 (fun _ => 0)) 22 q168 (upd (zR (znR S164 q168 22 3 (fun _ => 0)) 22 q168) (0 : Int32).toNatClampNeg ((2 * p2) + rd9_2))) 22 q168) (1 : Int32).toNatClampNeg p4)) 22 q168) (2 : Int32).toNatClampNeg p5)) q168 := (zGv.nR kq168).tr (zGv.R.tr (zGv.R.tr zGv.R))
                    have hE197 : zSe (zsR (zsR (zsR (znR S164 q168 22 3 (fun _ => 0)) 22 q168 (upd (zR (znR S164 q168 22 3 (fun _ => 0)) 22 q168) (0 : Int32).toNatClampNeg ((2 * p2) + rd9_2))) 22 q168 (upd (zR (zsR (znR S164 q168 22 3 (fun _ => 0)) 22 q168 (upd (zR (znR S164 q168 22 3 (fun _ => 0)) 22 q168) (0 : Int32).toNatClampNeg ((2 * p2) + rd9_2))) 22 q168) (1 : Int32).toNatClampNeg p4)) 22 q168 (upd (zR (zsR (zsR (znR S164 q168 22 3 (fun _ => 0)) 22 q168 (upd (zR (znR S164 q168 22 3 (fun _ => 0)) 22 q168) (0 : Int32).toNatClampNeg ((2 * p2) + rd9_2))) 22 q168 (upd (zR (zsR (znR S164 q168 22 3 (fun _ => 0)) 22 q168 (upd (zR (znR S164 q168 22 3 (fun _ => 0)) 22 q168) (0 : Int32).toNatClampNeg ((2 * p2) + rd9_2))) 22 q168) (1 : Int32).toNatClampNeg p4)) 22 q168) (2 : Int32).toNatClampNeg p5)) q131 (b 0) rw9 sn f p6 (zl3 p0.toNatClampNeg p1.toNatClampNeg 4 (zlC (0)) (zlD (zwd2 p2 p3 p4 p5) (0 + 1)) 0) (zgd zlC (fun j => ztk p6 p7 (zmC j)) (0) ∧ zgd (zlD (zwd2 p2 p3 p4 p5)) (fun j => ztk p6 p7 (zmD j)) (0 + 1) ∧ True) (0 + (0 + 1)) := hE164.gv hG9b kq168
                    have hb197 : zK (zsR (zsR (zsR (znR S164 q168 22 3 (fun _ => 0)) 22 q168 (upd (zR (znR S164 q168 22 3 (fun _ => 0)) 22 q168) (0 : Int32).toNatClampNeg ((2 * p2) + rd9_2))) 22 q168 (upd (zR (zsR (znR S164 q168 22 3 (fun _ => 0)) 22 q168 (upd (zR (znR S164 q168 22 3 (fun _ => 0)) 22 q168) (0 : Int32).toNatClampNeg ((2 * p2) + rd9_2))) 22 q168) (1 : Int32).toNatClampNeg p4)) 22 q168 (upd (zR (zsR (zsR (znR S164 q168 22 3 (fun _ => 0)) 22 q168 (upd (zR (znR S164 q168 22 3 (fun _ => 0)) 22 q168) (0 : Int32).toNatClampNeg ((2 * p2) + rd9_2))) 22 q168 (upd (zR (zsR (znR S164 q168 22 3 (fun _ => 0)) 22 q168 (upd (zR (znR S164 q168 22 3 (fun _ => 0)) 22 q168) (0 : Int32).toNatClampNeg ((2 * p2) + rd9_2))) 22 q168) (1 : Int32).toNatClampNeg p4)) 22 q168) (2 : Int32).toNatClampNeg p5)) q168 = 22 ∧ zN (zsR (zsR (zsR (znR S164 q168 22 3 (fun _ => 0)) 22 q168 (upd (zR (znR S164 q168 22 3 (fun _ => 0)) 22 q168) (0 : Int32).toNatClampNeg ((2 * p2) + rd9_2))) 22 q168 (upd (zR (zsR (znR S164 q168 22 3 (fun _ => 0)) 22 q168 (upd (zR (znR S164 q168 22 3 (fun _ => 0)) 22 q168) (0 : Int32).toNatClampNeg ((2 * p2) + rd9_2))) 22 q168) (1 : Int32).toNatClampNeg p4)) 22 q168 (upd (zR (zsR (zsR (znR S164 q168 22 3 (fun _ => 0)) 22 q168 (upd (zR (znR S164 q168 22 3 (fun _ => 0)) 22 q168) (0 : Int32).toNatClampNeg ((2 * p2) + rd9_2))) 22 q168 (upd (zR (zsR (znR S164 q168 22 3 (fun _ => 0)) 22 q168 (upd (zR (znR S164 q168 22 3 (fun _ => 0)) 22 q168) (0 : Int32).toNatClampNeg ((2 * p2) + rd9_2))) 22 q168) (1 : Int32).toNatClampNeg p4)) 22 q168) (2 : Int32).toNatClampNeg p5)) q168 = 3 ∧ (∀ j, j < 27 → zR (zsR (zsR (zsR (znR S164 q168 22 3 (fun _ => 0)) 22 q168 (upd (zR (znR S164 q168 22 3 (fun _ => 0)) 22 q168) (0 : Int32).toNatClampNeg ((2 * p2) + rd9_2))) 22 q168 (upd (zR (zsR (znR S164 q168 22 3 (fun _ => 0)) 22 q168 (upd (zR (znR S164 q168 22 3 (fun _ => 0)) 22 q168) (0 : Int32).toNatClampNeg ((2 * p2) + rd9_2))) 22 q168) (1 : Int32).toNatClampNeg p4)) 22 q168 (upd (zR (zsR (zsR (znR S164 q168 22 3 (fun _ => 0)) 22 q168 (upd (zR (znR S164 q168 22 3 (fun _ => 0)) 22 q168) (0 : Int32).toNatClampNeg ((2 * p2) + rd9_2))) 22 q168 (upd (zR (zsR (znR S164 q168 22 3 (fun _ => 0)) 22 q168 (upd (zR (znR S164 q168 22 3 (fun _ => 0)) 22 q168) (0 : Int32).toNatClampNeg ((2 * p2) + rd9_2))) 22 q168) (1 : Int32).toNatClampNeg p4)) 22 q168) (2 : Int32).toNatClampNeg p5)) 22 q168 (j / 9) = zby p2 p3 p4 p5 j) := ⟨(zK_nRs S164 q168 22 3 (fun _ => 0)), (zN_nRs S164 q168 22 3 (fun _ => 0)), fun j hj => by rw [zR_s, zR_s, zR_s, frd9]; unfold zby; rcases (show j / 9 = 0 ∨ j / 9 = 1 ∨ j / 9 = 2 by omega) with e | e | e <;> rw [e] <;> rfl⟩
                    have hw : zW D y base (zsR (zsR (zsR (znR S164 q168 22 3 (fun _ => 0)) 22 q168 (upd (zR (znR S164 q168 22 3 (fun _ => 0)) 22 q168) (0 : Int32).toNatClampNeg ((2 * p2) + rd9_2))) 22 q168 (upd (zR (zsR (znR S164 q168 22 3 (fun _ => 0)) 22 q168 (upd (zR (znR S164 q168 22 3 (fun _ => 0)) 22 q168) (0 : Int32).toNatClampNeg ((2 * p2) + rd9_2))) 22 q168) (1 : Int32).toNatClampNeg p4)) 22 q168 (upd (zR (zsR (zsR (znR S164 q168 22 3 (fun _ => 0)) 22 q168 (upd (zR (znR S164 q168 22 3 (fun _ => 0)) 22 q168) (0 : Int32).toNatClampNeg ((2 * p2) + rd9_2))) 22 q168 (upd (zR (zsR (znR S164 q168 22 3 (fun _ => 0)) 22 q168 (upd (zR (znR S164 q168 22 3 (fun _ => 0)) 22 q168) (0 : Int32).toNatClampNeg ((2 * p2) + rd9_2))) 22 q168) (1 : Int32).toNatClampNeg p4)) 22 q168) (2 : Int32).toNatClampNeg p5)) s _ _ := hw
                    generalize hSS : (zsR (zsR (zsR (znR S164 q168 22 3 (fun _ => 0)) 22 q168 (upd (zR (znR S164 q168 22 3 (fun _ => 0)) 22 q168) (0 : Int32).toNatClampNeg ((2 * p2) + rd9_2))) 22 q168 (upd (zR (zsR (znR S164 q168 22 3 (fun _ => 0)) 22 q168 (upd (zR (znR S164 q168 22 3 (fun _ => 0)) 22 q168) (0 : Int32).toNatClampNeg ((2 * p2) + rd9_2))) 22 q168) (1 : Int32).toNatClampNeg p4)) 22 q168 (upd (zR (zsR (zsR (znR S164 q168 22 3 (fun _ => 0)) 22 q168 (upd (zR (znR S164 q168 22 3 (fun _ => 0)) 22 q168) (0 : Int32).toNatClampNeg ((2 * p2) + rd9_2))) 22 q168 (upd (zR (zsR (znR S164 q168 22 3 (fun _ => 0)) 22 q168 (upd (zR (znR S164 q168 22 3 (fun _ => 0)) 22 q168) (0 : Int32).toNatClampNeg ((2 * p2) + rd9_2))) 22 q168) (1 : Int32).toNatClampNeg p4)) 22 q168) (2 : Int32).toNatClampNeg p5)) = S197 at hw hE197 hb197
                    refine lv_astore (lv' := [(11, .ref q168), (10, .ref q131), (9, .int 1), (0, .ref (b 0)), (1, .int p0), (2, .int p1), (3, .int p2), (4, .int p3), (5, .int p4), (6, .int p5), (7, .int p6), (8, .int p7)]) hx hb dX11_twoWires_197 hl (by decide) rfl (fun ls hl => ?_)
                    refine lv_iconst (v := 0) hx hb dX11_twoWires_199 (by decide) ?_
                    refine lv_istore (lv' := [(12, .int 0), (11, .ref q168), (10, .ref q131), (9, .int 1), (0, .ref (b 0)), (1, .int p0), (2, .int p1), (3, .int p2), (4, .int p3), (5, .int p4), (6, .int p5), (7, .int p6), (8, .int p7)]) hx hb dX11_twoWires_200 hl (by decide) rfl (fun ls hl => ?_)
                    have lp_5 : ∀ (n9 : Nat) (i : Nat) (S2 : zS) (H : Heap) (locs : List Loc) (ls : Array Slot), 27 - i < n9 → (i ≤ 27) → (zSe S2 q131 (b 0) rw9 sn f p6 (zl3 p0.toNatClampNeg p1.toNatClampNeg 4 (zlC (2 * i)) (zlD (zwd2 p2 p3 p4 p5) (i + 1)) 0) (zgd zlC (fun j => ztk p6 p7 (zmC j)) (2 * i) ∧ zgd (zlD (zwd2 p2 p3 p4 p5)) (fun j => ztk p6 p7 (zmD j)) (i + 1) ∧ True) (2 * i + (i + 1))) → (zK S2 q168 = 22 ∧ zN S2 q168 = 3 ∧ (∀ j, j < 27 → zR S2 22 q168 (j / 9) = zby p2 p3 p4 p5 j)) → zW D y base S2 s H locs → lv_has ls 16 [(12, .int (nI i)), (0, .ref (b 0)), (1, .int p0), (2, .int p1), (8, .int p7), (10, .ref q131), (11, .ref q168)] → W p l e (headSpec wsX11_twoWires ({ frames := 3, cells := 8, slots := 40016, locals := 68 })).room s m args below meth c H locs 8 40016 (MQ below (va_Qi (fun (r : Int32) (S1 : zS) => zK S1 (b 0) = 15 ∧ zI S1 240 (b 0) = kd_two p0 p1 p2 p3 p4 p5 p6 p7 ∧ (kd_two p0 p1 p2 p3 p4 p5 p6 p7 = 0 → r = p6 + 57 * p7)) (zPost D y base) (zA base)) args s 8 40016 (zA base)) (F0 m 202 ls []) := by
                      intro n9
                      induction n9 with
                      | zero =>
                        intro i S2 H locs ls hn9
                        exact absurd hn9 (Nat.not_lt_zero _)
                      | succ n9 ih_4 =>
                        intro i S2 H locs ls hn9 hi hE2 hb2 hw hl
                        refine lv_iload hx hb dX11_twoWires_202 (lv_at hl 0 rfl) ?_
                        refine lv_bipush (v := 27) hx hb dX11_twoWires_204 (by decide) ?_
                        refine lv_icmp_ge (tgt := 332) hx hb dX11_twoWires_206 (by decide) (fun c206 => ?_) (fun c206 => ?_)
                        · have hie : i = 27 := by have := z_ge (n := 27) c206 (by omega) (by omega); omega
                          have hEz : zSe S2 q131 (b 0) rw9 sn f p6 (zl3 p0.toNatClampNeg p1.toNatClampNeg 4 (zlC (54)) (zlD (zwd2 p2 p3 p4 p5) (28)) 0) (zgd zlC (fun j => ztk p6 p7 (zmC j)) (54) ∧ zgd (zlD (zwd2 p2 p3 p4 p5)) (fun j => ztk p6 p7 (zmD j)) (28) ∧ True) (54 + (28)) := by rw [hie] at hE2; exact hE2
                          refine lv_aload hx hb dX11_twoWires_332 (lv_at hl 5 rfl) ?_
                          refine lv_iload_n hx hb dX11_twoWires_334 rfl (lv_at hl 2 rfl) ?_
                          refine lv_bipush (v := 55) hx hb dX11_twoWires_335 (by decide) ?_
                          refine lv_iload hx hb dX11_twoWires_337 (lv_at hl 4 rfl) ?_
                          refine lv_imul hx hb dX11_twoWires_339 ?_
                          refine zrd (x := (nI 55 * p7)) rfl ?_
                          refine lv_iconst (v := 0) hx hb dX11_twoWires_340 (by decide) ?_
                          refine zcV_v (As := [.int p0, .int (nI 55 * p7), .int 0]) (rest := []) (n9 := 3) (b := q131) C hw (c_X9_tells l D y base S2 q131 (b 0) rw9 sn (f p0.toNatClampNeg) p6 _ (zl3 p0.toNatClampNeg p1.toNatClampNeg 4 (zlC (54)) (zlD (zwd2 p2 p3 p4 p5) (28)) 0 p0.toNatClampNeg) p0 (nI 55 * p7) 0 hEz.1.1 hEz.1.2.1 hEz.1.2.2.1 hEz.1.2.2.2.1 hEz.1.2.2.2.2.1 hEz.1.2.2.2.2.2.1 hEz.1.2.2.2.2.2.2.2.2.1 rfl hEz.2.1.1 hEz.1.2.2.2.2.2.2.2.2.2.1 hEz.1.2.2.2.2.2.2.2.2.2.2.1 hEz.1.2.2.2.2.2.2.2.2.2.2.2.1 hEz.1.2.2.2.2.2.2.2.2.2.2.2.2 (hEz.2.2.1 _ (z_cl4 hp0)) hp0 (hEz.2.2.2 _ (z_cl4 hp0)).1 (hEz.2.2.2 _ (z_cl4 hp0)).2.1 (hEz.2.2.2 _ (z_cl4 hp0)).2.2.1 (hEz.2.2.2 _ (z_cl4 hp0)).2.2.2.1 (Or.inl rfl) (ztk_nn (m := 55) hp6 hp7 (by omega))) gX11_twoWires_X9_tells rfl (by decide +kernel) ⟨⟨rfl, rfl⟩, Nat.le_of_ble_eq_true rfl, Nat.le_of_ble_eq_true rfl⟩ hE2.1.1 ⟨by decide, by decide⟩ rfl rfl hl.1 rfl (Nat.le_of_ble_eq_true rfl) ⟨Nat.le_of_ble_eq_true rfl, Nat.le_of_ble_eq_true rfl⟩ dX11_twoWires_341 (fun S341 H locs hp341 hw => ?_)
                          have hT341 := zSe_3a (L := zlC) (t := (fun j => ztk p6 p7 (zmC j))) (k := 54) hEz hp0 rfl rfl rfl hp341
                          have hE341 : zSe S341 q131 (b 0) rw9 sn f p6 (zl3 p0.toNatClampNeg p1.toNatClampNeg 4 (zlC (54 + 1)) (zlD (zwd2 p2 p3 p4 p5) (28)) 0) (zgd zlC (fun j => ztk p6 p7 (zmC j)) (54 + 1) ∧ zgd (zlD (zwd2 p2 p3 p4 p5)) (fun j => ztk p6 p7 (zmD j)) (28) ∧ True) (54 + 1 + (28)) := hT341.1.weak (fun _ _ => rfl) Iff.rfl (by omega)
                          refine lv_aload hx hb dX11_twoWires_344 (lv_at hl 5 rfl) ?_
                          refine lv_iload_n hx hb dX11_twoWires_346 rfl (lv_at hl 3 rfl) ?_
                          refine lv_bipush (v := 55) hx hb dX11_twoWires_347 (by decide) ?_
                          refine lv_iload hx hb dX11_twoWires_349 (lv_at hl 4 rfl) ?_
                          refine lv_imul hx hb dX11_twoWires_351 ?_
                          refine zrd (x := (nI 55 * p7)) rfl ?_
                          refine lv_iconst (v := 0) hx hb dX11_twoWires_352 (by decide) ?_
                          refine zcV_v (As := [.int p1, .int (nI 55 * p7), .int 0]) (rest := []) (n9 := 3) (b := q131) C hw (c_X9_tells l D y base S341 q131 (b 0) rw9 sn (f p1.toNatClampNeg) p6 _ (zl3 p0.toNatClampNeg p1.toNatClampNeg 4 (zlC (55)) (zlD (zwd2 p2 p3 p4 p5) (28)) 0 p1.toNatClampNeg) p1 (nI 55 * p7) 0 hE341.1.1 hE341.1.2.1 hE341.1.2.2.1 hE341.1.2.2.2.1 hE341.1.2.2.2.2.1 hE341.1.2.2.2.2.2.1 hE341.1.2.2.2.2.2.2.2.2.1 rfl hE341.2.1.1 hE341.1.2.2.2.2.2.2.2.2.2.1 hE341.1.2.2.2.2.2.2.2.2.2.2.1 hE341.1.2.2.2.2.2.2.2.2.2.2.2.1 hE341.1.2.2.2.2.2.2.2.2.2.2.2.2 (hE341.2.2.1 _ (z_cl4 hp1)) hp1 (hE341.2.2.2 _ (z_cl4 hp1)).1 (hE341.2.2.2 _ (z_cl4 hp1)).2.1 (hE341.2.2.2 _ (z_cl4 hp1)).2.2.1 (hE341.2.2.2 _ (z_cl4 hp1)).2.2.2.1 (Or.inl rfl) (ztk_nn (m := 55) hp6 hp7 (by omega))) gX11_twoWires_X9_tells rfl (by decide +kernel) ⟨⟨rfl, rfl⟩, Nat.le_of_ble_eq_true rfl, Nat.le_of_ble_eq_true rfl⟩ hE341.1.1 ⟨by decide, by decide⟩ rfl rfl hl.1 rfl (Nat.le_of_ble_eq_true rfl) ⟨Nat.le_of_ble_eq_true rfl, Nat.le_of_ble_eq_true rfl⟩ dX11_twoWires_353 (fun S353 H locs hp353 hw => ?_)
                          have hT353 := zSe_3b (L := zlD (zwd2 p2 p3 p4 p5)) (t := (fun j => ztk p6 p7 (zmD j))) (k := 28) hE341 hp1 rfl hd9 rfl rfl hp353
                          have hE353 : zSe S353 q131 (b 0) rw9 sn f p6 (zl3 p0.toNatClampNeg p1.toNatClampNeg 4 (zlC (55)) (zlD (zwd2 p2 p3 p4 p5) (28 + 1)) 0) (zgd zlC (fun j => ztk p6 p7 (zmC j)) (55) ∧ zgd (zlD (zwd2 p2 p3 p4 p5)) (fun j => ztk p6 p7 (zmD j)) (28 + 1) ∧ True) (55 + (28 + 1)) := hT353.1.weak (fun _ _ => rfl) Iff.rfl (by omega)
                          refine lv_aload hx hb dX11_twoWires_356 (lv_at hl 5 rfl) ?_
                          refine lv_iload_n hx hb dX11_twoWires_358 rfl (lv_at hl 2 rfl) ?_
                          refine lv_bipush (v := 56) hx hb dX11_twoWires_359 (by decide) ?_
                          refine lv_iload hx hb dX11_twoWires_361 (lv_at hl 4 rfl) ?_
                          refine lv_imul hx hb dX11_twoWires_363 ?_
                          refine zrd (x := (nI 56 * p7)) rfl ?_
                          refine lv_iconst (v := 1) hx hb dX11_twoWires_364 (by decide) ?_
                          refine zcV_v (As := [.int p0, .int (nI 56 * p7), .int 1]) (rest := []) (n9 := 3) (b := q131) C hw (c_X9_tells l D y base S353 q131 (b 0) rw9 sn (f p0.toNatClampNeg) p6 _ (zl3 p0.toNatClampNeg p1.toNatClampNeg 4 (zlC (55)) (zlD (zwd2 p2 p3 p4 p5) (29)) 0 p0.toNatClampNeg) p0 (nI 56 * p7) 1 hE353.1.1 hE353.1.2.1 hE353.1.2.2.1 hE353.1.2.2.2.1 hE353.1.2.2.2.2.1 hE353.1.2.2.2.2.2.1 hE353.1.2.2.2.2.2.2.2.2.1 rfl hE353.2.1.1 hE353.1.2.2.2.2.2.2.2.2.2.1 hE353.1.2.2.2.2.2.2.2.2.2.2.1 hE353.1.2.2.2.2.2.2.2.2.2.2.2.1 hE353.1.2.2.2.2.2.2.2.2.2.2.2.2 (hE353.2.2.1 _ (z_cl4 hp0)) hp0 (hE353.2.2.2 _ (z_cl4 hp0)).1 (hE353.2.2.2 _ (z_cl4 hp0)).2.1 (hE353.2.2.2 _ (z_cl4 hp0)).2.2.1 (hE353.2.2.2 _ (z_cl4 hp0)).2.2.2.1 (Or.inr rfl) (ztk_nn (m := 56) hp6 hp7 (by omega))) gX11_twoWires_X9_tells rfl (by decide +kernel) ⟨⟨rfl, rfl⟩, Nat.le_of_ble_eq_true rfl, Nat.le_of_ble_eq_true rfl⟩ hE353.1.1 ⟨by decide, by decide⟩ rfl rfl hl.1 rfl (Nat.le_of_ble_eq_true rfl) ⟨Nat.le_of_ble_eq_true rfl, Nat.le_of_ble_eq_true rfl⟩ dX11_twoWires_365 (fun S365 H locs hp365 hw => ?_)
                          have hT365 := zSe_3a (L := zlC) (t := (fun j => ztk p6 p7 (zmC j))) (k := 55) hE353 hp0 rfl rfl rfl hp365
                          have hE365 : zSe S365 q131 (b 0) rw9 sn f p6 (zl3 p0.toNatClampNeg p1.toNatClampNeg 4 (zlC (55 + 1)) (zlD (zwd2 p2 p3 p4 p5) (29)) 0) (zgd zlC (fun j => ztk p6 p7 (zmC j)) (55 + 1) ∧ zgd (zlD (zwd2 p2 p3 p4 p5)) (fun j => ztk p6 p7 (zmD j)) (29) ∧ True) (55 + 1 + (29)) := hT365.1.weak (fun _ _ => rfl) Iff.rfl (by omega)
                          refine lv_aload hx hb dX11_twoWires_368 (lv_at hl 5 rfl) ?_
                          refine lv_iload_n hx hb dX11_twoWires_370 rfl (lv_at hl 3 rfl) ?_
                          refine lv_bipush (v := 57) hx hb dX11_twoWires_371 (by decide) ?_
                          refine lv_iload hx hb dX11_twoWires_373 (lv_at hl 4 rfl) ?_
                          refine lv_imul hx hb dX11_twoWires_375 ?_
                          refine zrd (x := (nI 57 * p7)) rfl ?_
                          refine lv_iconst (v := 1) hx hb dX11_twoWires_376 (by decide) ?_
                          refine zcV_v (As := [.int p1, .int (nI 57 * p7), .int 1]) (rest := []) (n9 := 3) (b := q131) C hw (c_X9_tells l D y base S365 q131 (b 0) rw9 sn (f p1.toNatClampNeg) p6 _ (zl3 p0.toNatClampNeg p1.toNatClampNeg 4 (zlC (56)) (zlD (zwd2 p2 p3 p4 p5) (29)) 0 p1.toNatClampNeg) p1 (nI 57 * p7) 1 hE365.1.1 hE365.1.2.1 hE365.1.2.2.1 hE365.1.2.2.2.1 hE365.1.2.2.2.2.1 hE365.1.2.2.2.2.2.1 hE365.1.2.2.2.2.2.2.2.2.1 rfl hE365.2.1.1 hE365.1.2.2.2.2.2.2.2.2.2.1 hE365.1.2.2.2.2.2.2.2.2.2.2.1 hE365.1.2.2.2.2.2.2.2.2.2.2.2.1 hE365.1.2.2.2.2.2.2.2.2.2.2.2.2 (hE365.2.2.1 _ (z_cl4 hp1)) hp1 (hE365.2.2.2 _ (z_cl4 hp1)).1 (hE365.2.2.2 _ (z_cl4 hp1)).2.1 (hE365.2.2.2 _ (z_cl4 hp1)).2.2.1 (hE365.2.2.2 _ (z_cl4 hp1)).2.2.2.1 (Or.inr rfl) (ztk_nn (m := 57) hp6 hp7 (by omega))) gX11_twoWires_X9_tells rfl (by decide +kernel) ⟨⟨rfl, rfl⟩, Nat.le_of_ble_eq_true rfl, Nat.le_of_ble_eq_true rfl⟩ hE365.1.1 ⟨by decide, by decide⟩ rfl rfl hl.1 rfl (Nat.le_of_ble_eq_true rfl) ⟨Nat.le_of_ble_eq_true rfl, Nat.le_of_ble_eq_true rfl⟩ dX11_twoWires_377 (fun S377 H locs hp377 hw => ?_)
                          have hT377 := zSe_3b (L := zlD (zwd2 p2 p3 p4 p5)) (t := (fun j => ztk p6 p7 (zmD j))) (k := 29) hE365 hp1 rfl hd9 rfl rfl hp377
                          have hE377 : zSe S377 q131 (b 0) rw9 sn f p6 (zl3 p0.toNatClampNeg p1.toNatClampNeg 4 (zlC (56)) (zlD (zwd2 p2 p3 p4 p5) (29 + 1)) 0) (zgd zlC (fun j => ztk p6 p7 (zmC j)) (56) ∧ zgd (zlD (zwd2 p2 p3 p4 p5)) (fun j => ztk p6 p7 (zmD j)) (29 + 1) ∧ True) (56 + (29 + 1)) := hT377.1.weak (fun _ _ => rfl) Iff.rfl (by omega)
                          refine lv_aload hx hb dX11_twoWires_380 (lv_at hl 5 rfl) ?_
                          refine lv_bipush (v := 57) hx hb dX11_twoWires_382 (by decide) ?_
                          refine lv_iload hx hb dX11_twoWires_384 (lv_at hl 4 rfl) ?_
                          refine lv_imul hx hb dX11_twoWires_386 ?_
                          refine zcV_i (As := [.int (57 * p7)]) (rest := []) (n9 := 1) (b := q131) C hw (c_X9_ends l D y base S377 q131 (b 0) rw9 f p6 _ (57 * p7) hE377.1.1 hE377.1.2.1 hE377.1.2.2.2.1 hE377.1.2.2.2.2.1 hE377.1.2.2.2.2.2.1 hE377.1.2.2.2.2.2.2.2.2.1 rfl hE377.1.2.2.2.2.2.2.2.2.2.1 hE377.1.2.2.2.2.2.2.2.2.2.2.1 (hE377.ends (by omega))) gX11_twoWires_X9_ends rfl (by decide +kernel) ⟨⟨rfl, rfl⟩, Nat.le_of_ble_eq_true rfl, Nat.le_of_ble_eq_true rfl⟩ hE377.1.1 ⟨by decide, by decide⟩ rfl rfl hl.1 rfl (Nat.le_of_ble_eq_true rfl) ⟨Nat.le_of_ble_eq_true rfl, Nat.le_of_ble_eq_true rfl⟩ dX11_twoWires_387 (fun r387 S387 H locs hp387 hw => ?_)
                          exact zri C hw hr hlocks rfl ⟨hp387.1, zend hE377.2.1.2 hkg hp387.2.1 hp387.2.2⟩ ⟨Nat.le_of_ble_eq_true rfl, Nat.le_of_ble_eq_true rfl⟩ dX11_twoWires_390
                        · have hi27 := z_lt (n := 27) c206 (by omega) (by omega)
                          have hwb := zwbit hp2 hz3 hp4 hp5 hi27
                          refine lv_iload hx hb dX11_twoWires_209 (lv_at hl 4 rfl) ?_
                          refine lv_iconst (v := 2) hx hb dX11_twoWires_211 (by decide) ?_
                          refine lv_iload hx hb dX11_twoWires_212 (lv_at hl 4 rfl) ?_
                          refine lv_imul hx hb dX11_twoWires_214 ?_
                          refine lv_iload hx hb dX11_twoWires_215 (lv_at hl 0 rfl) ?_
                          refine lv_imul hx hb dX11_twoWires_217 ?_
                          refine lv_iadd hx hb dX11_twoWires_218 ?_
                          refine zrd (x := (nI (2 * i + 1) * p7)) (zfrom p7 i) ?_
                          refine lv_istore (lv' := [(13, .int (nI (2 * i + 1) * p7)), (12, .int (nI i)), (0, .ref (b 0)), (1, .int p0), (2, .int p1), (8, .int p7), (10, .ref q131), (11, .ref q168)]) hx hb dX11_twoWires_219 hl (by decide) rfl (fun ls hl => ?_)
                          have jn_6 : ∀ (an_7 : Int32) (H : Heap) (locs : List Loc) (ls : Array Slot), zW D y base S2 s H locs → lv_has ls 16 [(13, .int (nI (2 * i + 1) * p7)), (12, .int (nI i)), (0, .ref (b 0)), (1, .int p0), (2, .int p1), (8, .int p7), (10, .ref q131), (11, .ref q168)] → (an_7 = (1 : Int32)) → W p l e (headSpec wsX11_twoWires ({ frames := 3, cells := 8, slots := 40016, locals := 68 })).room s m args below meth c H locs 8 40016 (MQ below (va_Qi (fun (r : Int32) (S1 : zS) => zK S1 (b 0) = 15 ∧ zI S1 240 (b 0) = kd_two p0 p1 p2 p3 p4 p5 p6 p7 ∧ (kd_two p0 p1 p2 p3 p4 p5 p6 p7 = 0 → r = p6 + 57 * p7)) (zPost D y base) (zA base)) args s 8 40016 (zA base)) (F0 m 240 ls [.int an_7]) := by
                            intro an_7 H locs ls hw hl f_8
                            have fan := f_8
                            refine lv_istore (lv' := [(14, .int an_7), (13, .int (nI (2 * i + 1) * p7)), (12, .int (nI i)), (0, .ref (b 0)), (1, .int p0), (2, .int p1), (8, .int p7), (10, .ref q131), (11, .ref q168)]) hx hb dX11_twoWires_240 hl (by decide) rfl (fun ls hl => ?_)
                            have jn_9 : ∀ (bt_10 : Int32) (H : Heap) (locs : List Loc) (ls : Array Slot), zW D y base S2 s H locs → lv_has ls 16 [(14, .int an_7), (13, .int (nI (2 * i + 1) * p7)), (12, .int (nI i)), (0, .ref (b 0)), (1, .int p0), (2, .int p1), (8, .int p7), (10, .ref q131), (11, .ref q168)] → (bt_10 = zlD (zwd2 p2 p3 p4 p5) (i + 2)) → W p l e (headSpec wsX11_twoWires ({ frames := 3, cells := 8, slots := 40016, locals := 68 })).room s m args below meth c H locs 8 40016 (MQ below (va_Qi (fun (r : Int32) (S1 : zS) => zK S1 (b 0) = 15 ∧ zI S1 240 (b 0) = kd_two p0 p1 p2 p3 p4 p5 p6 p7 ∧ (kd_two p0 p1 p2 p3 p4 p5 p6 p7 = 0 → r = p6 + 57 * p7)) (zPost D y base) (zA base)) args s 8 40016 (zA base)) (F0 m 293 ls [.int bt_10]) := by
                              intro bt_10 H locs ls hw hl f_11
                              have fbt := f_11
                              refine lv_istore (lv' := [(15, .int bt_10), (14, .int an_7), (13, .int (nI (2 * i + 1) * p7)), (12, .int (nI i)), (0, .ref (b 0)), (1, .int p0), (2, .int p1), (8, .int p7), (10, .ref q131), (11, .ref q168)]) hx hb dX11_twoWires_293 hl (by decide) rfl (fun ls hl => ?_)
                              refine lv_aload hx hb dX11_twoWires_295 (lv_at hl 8 rfl) ?_
                              refine lv_iload_n hx hb dX11_twoWires_297 rfl (lv_at hl 5 rfl) ?_
                              refine lv_iload hx hb dX11_twoWires_298 (lv_at hl 2 rfl) ?_
                              refine lv_iconst (v := 0) hx hb dX11_twoWires_300 (by decide) ?_
                              refine zcV_v (As := [.int p0, .int (nI (2 * i + 1) * p7), .int 0]) (rest := []) (n9 := 3) (b := q131) C hw (c_X9_tells l D y base S2 q131 (b 0) rw9 sn (f p0.toNatClampNeg) p6 _ (zl3 p0.toNatClampNeg p1.toNatClampNeg 4 (zlC (2 * i)) (zlD (zwd2 p2 p3 p4 p5) (i + 1)) 0 p0.toNatClampNeg) p0 (nI (2 * i + 1) * p7) 0 hE2.1.1 hE2.1.2.1 hE2.1.2.2.1 hE2.1.2.2.2.1 hE2.1.2.2.2.2.1 hE2.1.2.2.2.2.2.1 hE2.1.2.2.2.2.2.2.2.2.1 rfl hE2.2.1.1 hE2.1.2.2.2.2.2.2.2.2.2.1 hE2.1.2.2.2.2.2.2.2.2.2.2.1 hE2.1.2.2.2.2.2.2.2.2.2.2.2.1 hE2.1.2.2.2.2.2.2.2.2.2.2.2.2 (hE2.2.2.1 _ (z_cl4 hp0)) hp0 (hE2.2.2.2 _ (z_cl4 hp0)).1 (hE2.2.2.2 _ (z_cl4 hp0)).2.1 (hE2.2.2.2 _ (z_cl4 hp0)).2.2.1 (hE2.2.2.2 _ (z_cl4 hp0)).2.2.2.1 (Or.inl rfl) (ztk_nn (m := 2 * i + 1) hp6 hp7 (by omega))) gX11_twoWires_X9_tells rfl (by decide +kernel) ⟨⟨rfl, rfl⟩, Nat.le_of_ble_eq_true rfl, Nat.le_of_ble_eq_true rfl⟩ hE2.1.1 ⟨by decide, by decide⟩ rfl rfl hl.1 rfl (Nat.le_of_ble_eq_true rfl) ⟨Nat.le_of_ble_eq_true rfl, Nat.le_of_ble_eq_true rfl⟩ dX11_twoWires_301 (fun S301 H locs hp301 hw => ?_)
                              have hT301 := zSe_3a (L := zlC) (t := (fun j => ztk p6 p7 (zmC j))) (k := 2 * i) hE2 hp0 rfl (zlC_o i).symm rfl hp301
                              have hE301 : zSe S301 q131 (b 0) rw9 sn f p6 (zl3 p0.toNatClampNeg p1.toNatClampNeg 4 (zlC (2 * i + 1)) (zlD (zwd2 p2 p3 p4 p5) (i + 1)) 0) (zgd zlC (fun j => ztk p6 p7 (zmC j)) (2 * i + 1) ∧ zgd (zlD (zwd2 p2 p3 p4 p5)) (fun j => ztk p6 p7 (zmD j)) (i + 1) ∧ True) (2 * i + 1 + (i + 1)) := hT301.1.weak (fun _ _ => rfl) Iff.rfl (by omega)
                              have hb301 : zK S301 q168 = 22 ∧ zN S301 q168 = 3 ∧ (∀ j, j < 27 → zR S301 22 q168 (j / 9) = zby p2 p3 p4 p5 j) := ⟨(congrFun hT301.2.1 _).trans hb2.1, (congrFun hT301.2.2.1 _).trans hb2.2.1, fun j hj => (congrFun (hT301.2.2.2.2.2 q168) (j / 9)).trans (hb2.2.2 j hj)⟩
                              refine lv_aload hx hb dX11_twoWires_304 (lv_at hl 8 rfl) ?_
                              refine lv_iload_n hx hb dX11_twoWires_306 rfl (lv_at hl 6 rfl) ?_
                              refine lv_iload hx hb dX11_twoWires_307 (lv_at hl 2 rfl) ?_
                              refine lv_iload hx hb dX11_twoWires_309 (lv_at hl 0 rfl) ?_
                              refine zcV_v (As := [.int p1, .int (nI (2 * i + 1) * p7), .int bt_10]) (rest := []) (n9 := 3) (b := q131) C hw (c_X9_tells l D y base S301 q131 (b 0) rw9 sn (f p1.toNatClampNeg) p6 _ (zl3 p0.toNatClampNeg p1.toNatClampNeg 4 (zlC (2 * i + 1)) (zlD (zwd2 p2 p3 p4 p5) (i + 1)) 0 p1.toNatClampNeg) p1 (nI (2 * i + 1) * p7) bt_10 hE301.1.1 hE301.1.2.1 hE301.1.2.2.1 hE301.1.2.2.2.1 hE301.1.2.2.2.2.1 hE301.1.2.2.2.2.2.1 hE301.1.2.2.2.2.2.2.2.2.1 rfl hE301.2.1.1 hE301.1.2.2.2.2.2.2.2.2.2.1 hE301.1.2.2.2.2.2.2.2.2.2.2.1 hE301.1.2.2.2.2.2.2.2.2.2.2.2.1 hE301.1.2.2.2.2.2.2.2.2.2.2.2.2 (hE301.2.2.1 _ (z_cl4 hp1)) hp1 (hE301.2.2.2 _ (z_cl4 hp1)).1 (hE301.2.2.2 _ (z_cl4 hp1)).2.1 (hE301.2.2.2 _ (z_cl4 hp1)).2.2.1 (hE301.2.2.2 _ (z_cl4 hp1)).2.2.2.1 (by rw [fbt]; exact zlD_01 _ _) (ztk_nn (m := 2 * i + 1) hp6 hp7 (by omega))) gX11_twoWires_X9_tells rfl (by decide +kernel) ⟨⟨rfl, rfl⟩, Nat.le_of_ble_eq_true rfl, Nat.le_of_ble_eq_true rfl⟩ hE301.1.1 ⟨by decide, by decide⟩ rfl rfl hl.1 rfl (Nat.le_of_ble_eq_true rfl) ⟨Nat.le_of_ble_eq_true rfl, Nat.le_of_ble_eq_true rfl⟩ dX11_twoWires_311 (fun S311 H locs hp311 hw => ?_)
                              have hT311 := zSe_3b (L := zlD (zwd2 p2 p3 p4 p5)) (t := (fun j => ztk p6 p7 (zmD j))) (k := i + 1) hE301 hp1 rfl hd9 fbt (show _ = ztk p6 p7 (zmD (i + 1)) by rw [show zmD (i + 1) = 2 * i + 1 from if_pos hi27]; rfl) hp311
                              have hE311 : zSe S311 q131 (b 0) rw9 sn f p6 (zl3 p0.toNatClampNeg p1.toNatClampNeg 4 (zlC (2 * i + 1)) (zlD (zwd2 p2 p3 p4 p5) (i + 1 + 1)) 0) (zgd zlC (fun j => ztk p6 p7 (zmC j)) (2 * i + 1) ∧ zgd (zlD (zwd2 p2 p3 p4 p5)) (fun j => ztk p6 p7 (zmD j)) (i + 1 + 1) ∧ True) (2 * i + 1 + (i + 1 + 1)) := hT311.1.weak (fun _ _ => rfl) Iff.rfl (by omega)
                              have hb311 : zK S311 q168 = 22 ∧ zN S311 q168 = 3 ∧ (∀ j, j < 27 → zR S311 22 q168 (j / 9) = zby p2 p3 p4 p5 j) := ⟨(congrFun hT311.2.1 _).trans hb301.1, (congrFun hT311.2.2.1 _).trans hb301.2.1, fun j hj => (congrFun (hT311.2.2.2.2.2 q168) (j / 9)).trans (hb301.2.2 j hj)⟩
                              refine lv_aload hx hb dX11_twoWires_314 (lv_at hl 8 rfl) ?_
                              refine lv_iload_n hx hb dX11_twoWires_316 rfl (lv_at hl 5 rfl) ?_
                              refine lv_iload hx hb dX11_twoWires_317 (lv_at hl 2 rfl) ?_
                              refine lv_iload hx hb dX11_twoWires_319 (lv_at hl 7 rfl) ?_
                              refine lv_iadd hx hb dX11_twoWires_321 ?_
                              refine zrd (x := (nI (2 * i + 2) * p7)) (znxt p7 (2 * i + 1)) ?_
                              refine lv_iconst (v := 1) hx hb dX11_twoWires_322 (by decide) ?_
                              refine zcV_v (As := [.int p0, .int (nI (2 * i + 2) * p7), .int 1]) (rest := []) (n9 := 3) (b := q131) C hw (c_X9_tells l D y base S311 q131 (b 0) rw9 sn (f p0.toNatClampNeg) p6 _ (zl3 p0.toNatClampNeg p1.toNatClampNeg 4 (zlC (2 * i + 1)) (zlD (zwd2 p2 p3 p4 p5) (i + 2)) 0 p0.toNatClampNeg) p0 (nI (2 * i + 2) * p7) 1 hE311.1.1 hE311.1.2.1 hE311.1.2.2.1 hE311.1.2.2.2.1 hE311.1.2.2.2.2.1 hE311.1.2.2.2.2.2.1 hE311.1.2.2.2.2.2.2.2.2.1 rfl hE311.2.1.1 hE311.1.2.2.2.2.2.2.2.2.2.1 hE311.1.2.2.2.2.2.2.2.2.2.2.1 hE311.1.2.2.2.2.2.2.2.2.2.2.2.1 hE311.1.2.2.2.2.2.2.2.2.2.2.2.2 (hE311.2.2.1 _ (z_cl4 hp0)) hp0 (hE311.2.2.2 _ (z_cl4 hp0)).1 (hE311.2.2.2 _ (z_cl4 hp0)).2.1 (hE311.2.2.2 _ (z_cl4 hp0)).2.2.1 (hE311.2.2.2 _ (z_cl4 hp0)).2.2.2.1 (Or.inr rfl) (ztk_nn (m := 2 * i + 2) hp6 hp7 (by omega))) gX11_twoWires_X9_tells rfl (by decide +kernel) ⟨⟨rfl, rfl⟩, Nat.le_of_ble_eq_true rfl, Nat.le_of_ble_eq_true rfl⟩ hE311.1.1 ⟨by decide, by decide⟩ rfl rfl hl.1 rfl (Nat.le_of_ble_eq_true rfl) ⟨Nat.le_of_ble_eq_true rfl, Nat.le_of_ble_eq_true rfl⟩ dX11_twoWires_323 (fun S323 H locs hp323 hw => ?_)
                              have hT323 := zSe_3a (L := zlC) (t := (fun j => ztk p6 p7 (zmC j))) (k := 2 * i + 1) hE311 hp0 rfl (zlC_e i).symm rfl hp323
                              have hE323 : zSe S323 q131 (b 0) rw9 sn f p6 (zl3 p0.toNatClampNeg p1.toNatClampNeg 4 (zlC (2 * i + 1 + 1)) (zlD (zwd2 p2 p3 p4 p5) (i + 2)) 0) (zgd zlC (fun j => ztk p6 p7 (zmC j)) (2 * i + 1 + 1) ∧ zgd (zlD (zwd2 p2 p3 p4 p5)) (fun j => ztk p6 p7 (zmD j)) (i + 2) ∧ True) (2 * i + 1 + 1 + (i + 2)) := hT323.1.weak (fun _ _ => rfl) Iff.rfl (by omega)
                              have hb323 : zK S323 q168 = 22 ∧ zN S323 q168 = 3 ∧ (∀ j, j < 27 → zR S323 22 q168 (j / 9) = zby p2 p3 p4 p5 j) := ⟨(congrFun hT323.2.1 _).trans hb311.1, (congrFun hT323.2.2.1 _).trans hb311.2.1, fun j hj => (congrFun (hT323.2.2.2.2.2 q168) (j / 9)).trans (hb311.2.2 j hj)⟩
                              refine lv_iinc (v := (nI (i + 1))) (lv' := [(12, .int (nI (i + 1))), (15, .int bt_10), (14, .int an_7), (13, .int (nI (2 * i + 1) * p7)), (0, .ref (b 0)), (1, .int p0), (2, .int p1), (8, .int p7), (10, .ref q131), (11, .ref q168)]) hx hb dX11_twoWires_326 hl (k := 3) rfl (nI_1 _) (by decide) rfl (fun ls hl => ?_)
                              refine lv_goto (tgt := 202) hx hb dX11_twoWires_329 (by decide) ?_
                              exact ih_4 (i + 1) S323 _ _ _ (by omega) (by omega) (by rw [show 2 * (i + 1) = 2 * i + 1 + 1 by omega]; exact hE323.weak (fun _ _ => rfl) Iff.rfl (by omega)) hb323 hw (lv_sub hl [0, 4, 5, 6, 7, 8, 9] rfl)
                            refine lv_iload hx hb dX11_twoWires_242 (lv_at hl 2 rfl) ?_
                            refine lv_bipush (v := 9) hx hb dX11_twoWires_244 (by decide) ?_
                            refine lv_irem hx hb dX11_twoWires_246 (by decide) ?_
                            refine zrd (x := (nI (i % 9))) (zmod9 i hi27) ?_
                            refine lv_bipush (v := 8) hx hb dX11_twoWires_247 (by decide) ?_
                            refine lv_icmp_ne (tgt := 265) hx hb dX11_twoWires_249 (by decide) (fun c249 => ?_) (fun c249 => ?_)
                            · refine lv_aload hx hb dX11_twoWires_265 (lv_at hl 8 rfl) ?_
                              refine lv_iload hx hb dX11_twoWires_267 (lv_at hl 2 rfl) ?_
                              refine lv_bipush (v := 9) hx hb dX11_twoWires_269 (by decide) ?_
                              refine lv_idiv hx hb dX11_twoWires_271 (by decide) ?_
                              refine zrd (x := (nI (i / 9))) (zdiv9 i hi27) ?_
                              refine zald_I (a := q168) C hw hb2.1 hb2.2.1 (vp_in_nI (by omega) (by decide)) dX11_twoWires_272 ?_
                              refine zrd (x := (zby p2 p3 p4 p5 i)) (by rw [nI_clamp (by omega)]; exact hb2.2.2 i hi27) ?_
                              refine lv_bipush (v := 7) hx hb dX11_twoWires_273 (by decide) ?_
                              refine lv_iload hx hb dX11_twoWires_275 (lv_at hl 2 rfl) ?_
                              refine lv_bipush (v := 9) hx hb dX11_twoWires_277 (by decide) ?_
                              refine lv_irem hx hb dX11_twoWires_279 (by decide) ?_
                              refine zrd (x := (nI (i % 9))) (zmod9 i hi27) ?_
                              refine lv_isub hx hb dX11_twoWires_280 ?_
                              refine lv_ishr hx hb dX11_twoWires_281 ?_
                              refine lv_iconst (v := 1) hx hb dX11_twoWires_282 (by decide) ?_
                              refine lv_iand hx hb dX11_twoWires_283 ?_
                              refine lv_iconst (v := 1) hx hb dX11_twoWires_284 (by decide) ?_
                              refine lv_icmp_ne (tgt := 292) hx hb dX11_twoWires_285 (by decide) (fun c285 => ?_) (fun c285 => ?_)
                              · refine lv_iconst (v := 0) hx hb dX11_twoWires_292 (by decide) ?_
                                exact jn_9 0 _ _ _ hw (lv_sub hl [0, 1, 2, 3, 4, 5, 6, 7, 8] rfl) (by first | exact (hwb.1 ((nI_eq (b := 8) (by omega) (by decide)).mp c249)).symm | (rw [hwb.2 (fun q => c249 (show nI (i % 9) = 8 by rw [q]; rfl))]; first | exact zbv_1 c285 | exact zbv_0 c285))
                              · refine lv_iconst (v := 1) hx hb dX11_twoWires_288 (by decide) ?_
                                refine lv_goto (tgt := 293) hx hb dX11_twoWires_289 (by decide) ?_
                                exact jn_9 1 _ _ _ hw (lv_sub hl [0, 1, 2, 3, 4, 5, 6, 7, 8] rfl) (by first | exact (hwb.1 ((nI_eq (b := 8) (by omega) (by decide)).mp c249)).symm | (rw [hwb.2 (fun q => c249 (show nI (i % 9) = 8 by rw [q]; rfl))]; first | exact zbv_1 c285 | exact zbv_0 c285))
                            · refine lv_iload hx hb dX11_twoWires_252 (lv_at hl 0 rfl) ?_
                              refine lv_if_ne (tgt := 261) hx hb dX11_twoWires_254 (by decide) (fun c254 => ?_) (fun c254 => (show False from (by have h9 := c254; rw [fan] at h9; exact absurd h9 (by decide))).elim)
                              refine lv_iconst (v := 0) hx hb dX11_twoWires_261 (by decide) ?_
                              refine lv_goto (tgt := 293) hx hb dX11_twoWires_262 (by decide) ?_
                              exact jn_9 0 _ _ _ hw (lv_sub hl [0, 1, 2, 3, 4, 5, 6, 7, 8] rfl) (by first | exact (hwb.1 ((nI_eq (b := 8) (by omega) (by decide)).mp c249)).symm | (rw [hwb.2 (fun q => c249 (show nI (i % 9) = 8 by rw [q]; rfl))]; first | exact zbv_1 c285 | exact zbv_0 c285))
                          refine lv_iload hx hb dX11_twoWires_221 (lv_at hl 1 rfl) ?_
                          refine lv_bipush (v := 9) hx hb dX11_twoWires_223 (by decide) ?_
                          refine lv_idiv hx hb dX11_twoWires_225 (by decide) ?_
                          refine zrd (x := (nI (i / 9))) (zdiv9 i hi27) ?_
                          refine lv_if_ne (tgt := 236) hx hb dX11_twoWires_226 (by decide) (fun c226 => ?_) (fun c226 => ?_)
                          · refine lv_aload_n hx hb dX11_twoWires_236 rfl (lv_at hl 2 rfl) ?_
                            refine g_Mod_areOthersAnswered (a := (b 0)) (v := 1) C hw hE2.1.2.2.2.2.1 in_X11 (by decide +kernel) hE2.1.2.2.2.2.2.2.2.1 dX11_twoWires_237 ?_
                            exact jn_6 1 _ _ _ hw (lv_sub hl [0, 1, 2, 3, 4, 5, 6, 7] rfl) rfl
                          · refine lv_aload_n hx hb dX11_twoWires_229 rfl (lv_at hl 2 rfl) ?_
                            refine g_Mod_isAddressAnswered (a := (b 0)) (v := 1) C hw hE2.1.2.2.2.2.1 in_X11 (by decide +kernel) hE2.1.2.2.2.2.2.2.1 dX11_twoWires_230 ?_
                            refine lv_goto (tgt := 240) hx hb dX11_twoWires_233 (by decide) ?_
                            exact jn_6 1 _ _ _ hw (lv_sub hl [0, 1, 2, 3, 4, 5, 6, 7] rfl) rfl
                    exact lp_5 _ 0 S197 _ _ _ (Nat.lt_succ_self _) (Nat.zero_le _) hE197 hb197 hw (lv_sub hl [0, 4, 5, 6, 12, 2, 1] rfl)
                  refine lv_iload hx hb dX11_twoWires_175 (lv_at hl 6 rfl) ?_
                  refine lv_if_eq (tgt := 184) hx hb dX11_twoWires_177 (by decide) (fun c177 => ?_) (fun c177 => ?_)
                  · refine lv_iconst (v := 0) hx hb dX11_twoWires_184 (by decide) ?_
                    refine zrd (x := p3) (by grind) ?_
                    exact jn_1 p3 _ _ _ hw (lv_sub hl [0, 1, 2, 3, 4, 5, 6, 7, 8, 9, 10] rfl) rfl
                  · refine lv_iconst (v := 1) hx hb dX11_twoWires_180 (by decide) ?_
                    refine zrd (x := p3) (by grind) ?_
                    refine lv_goto (tgt := 185) hx hb dX11_twoWires_181 (by decide) ?_
                    exact jn_1 p3 _ _ _ hw (lv_sub hl [0, 1, 2, 3, 4, 5, 6, 7, 8, 9, 10] rfl) rfl

