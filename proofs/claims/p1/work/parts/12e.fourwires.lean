set_option maxHeartbeats 4000000 in
set_option maxRecDepth 100000 in
/-- X11_fourWires -/
theorem c_X11_fourWires (l : Launch) (D : va_G) (y : Nat → ClassId) (base : Nat) (S : zS) (b : Nat → Nat) (p0 : Int32) (p1 : Int32) (p2 : Int32) (p3 : Int32) (p4 : Int32) (p5 : Int32) (p6 : Int32) (hM : zMd S b) (hM0 : zMd0 S b) : zMi l yX11_fourWires wsX11_fourWires ({ frames := 3, cells := 7, slots := 40013, locals := 68 }) [.ref (b 0), .int p0, .int p1, .int p2, .int p3, .int p4, .int p5, .int p6] D y base S (fun (r : Int32) (S1 : zS) => zK S1 (b 0) = 15 ∧ zI S1 240 (b 0) = kd_four p0 p1 p2 p3 p4 p5 p6 ∧ (kd_four p0 p1 p2 p3 p4 p5 p6 = 0 → r = p4 + 17 * p5)) 7 40013 := by
  refine zMet_of (cc := cX11_fourWires) (maxL := 14) (ret := (some .int)) (own := RX11) (by decide +kernel) rfl rfl (Nat.le_of_ble_eq_true rfl) ?_
  intro p e s m args below meth c ls C hr hlocks hnm hw hl
  have hx := C.1
  have hb := C.2.1
  have hown := C.2.2.2.1
  have hts := C.2.2.2.2
  have hl : lv_has ls 14 [(0, .ref (b 0)), (1, .int p0), (2, .int p1), (3, .int p2), (4, .int p3), (5, .int p4), (6, .int p5), (7, .int p6)] := hl
  have in_X11 : ∀ w ∈ wsX110, w ∈ wsX11_fourWires := by decide +kernel
  have in_X9 : ∀ w ∈ wsX90, w ∈ wsX11_fourWires := by decide +kernel
  refine lv_aload_n hx hb dX11_fourWires_0 rfl (lv_at hl 0 rfl) ?_
  refine lv_iload_n hx hb dX11_fourWires_1 rfl (lv_at hl 1 rfl) ?_
  refine zcS_i (As := [.int p0]) (rest := [.ref (b 0)]) (n9 := 1) C hw (c_X11_isWire l D y base S p0 ) gX11_fourWires_X11_isWire rfl (by decide +kernel) ⟨⟨rfl, rfl⟩, Nat.le_of_ble_eq_true rfl, Nat.le_of_ble_eq_true rfl⟩ rfl hl.1 rfl (Nat.le_of_ble_eq_true rfl) ⟨Nat.le_of_ble_eq_true rfl, Nat.le_of_ble_eq_true rfl⟩ dX11_fourWires_2 (fun r2 S2 H locs hp2 hw => ?_)
  obtain ⟨rfl, hS9⟩ := hp2
  have hS9 := hS9.symm
  subst hS9
  refine lv_if_eq (tgt := 26) hx hb dX11_fourWires_5 (by decide) (fun c5 => ?_) (fun c5 => ?_)
  · replace c5 := zb0.mp c5
    refine lv_iconst (v := 1) hx hb dX11_fourWires_26 (by decide) ?_
    refine p_Mod_thrown (a := (b 0)) (v := 1) C hw hM.1 in_X11 (by decide +kernel) dX11_fourWires_27 (fun H locs hw => ?_)
    refine lv_aload_n hx hb dX11_fourWires_30 rfl (lv_at hl 0 rfl) ?_
    refine g_Mod_thrown (a := (b 0)) (v := 1) C hw hM.1 in_X11 (by decide +kernel) (zI_s S 240 (b 0) 1) dX11_fourWires_31 ?_
    refine lv_if_le (tgt := 39) hx hb dX11_fourWires_34 (by decide) (fun c34 => absurd c34 (by decide)) (fun _ => ?_)
    refine lv_iconst (v := 0) hx hb dX11_fourWires_37 (by decide) ?_
    exact zri C hw hr hlocks rfl ⟨hM.1, ((zI_s S 240 (b 0) 1)).trans (by unfold kd_four; (try unfold zb); grind), (fun h9 => by first | rfl | (revert h9; unfold kd_four; (try unfold zb); grind))⟩ ⟨Nat.le_of_ble_eq_true rfl, Nat.le_of_ble_eq_true rfl⟩ dX11_fourWires_38
  · replace c5 := zb1.mp c5
    refine lv_iload_n hx hb dX11_fourWires_8 rfl (lv_at hl 2 rfl) ?_
    refine zcS_i (As := [.int p1]) (rest := [.ref (b 0)]) (n9 := 1) C hw (c_X11_isWire l D y base S p1 ) gX11_fourWires_X11_isWire rfl (by decide +kernel) ⟨⟨rfl, rfl⟩, Nat.le_of_ble_eq_true rfl, Nat.le_of_ble_eq_true rfl⟩ rfl hl.1 rfl (Nat.le_of_ble_eq_true rfl) ⟨Nat.le_of_ble_eq_true rfl, Nat.le_of_ble_eq_true rfl⟩ dX11_fourWires_9 (fun r9 S9 H locs hp9 hw => ?_)
    obtain ⟨rfl, hS9⟩ := hp9
    have hS9 := hS9.symm
    subst hS9
    refine lv_if_eq (tgt := 26) hx hb dX11_fourWires_12 (by decide) (fun c12 => ?_) (fun c12 => ?_)
    · replace c12 := zb0.mp c12
      refine lv_iconst (v := 1) hx hb dX11_fourWires_26 (by decide) ?_
      refine p_Mod_thrown (a := (b 0)) (v := 1) C hw hM.1 in_X11 (by decide +kernel) dX11_fourWires_27 (fun H locs hw => ?_)
      refine lv_aload_n hx hb dX11_fourWires_30 rfl (lv_at hl 0 rfl) ?_
      refine g_Mod_thrown (a := (b 0)) (v := 1) C hw hM.1 in_X11 (by decide +kernel) (zI_s S 240 (b 0) 1) dX11_fourWires_31 ?_
      refine lv_if_le (tgt := 39) hx hb dX11_fourWires_34 (by decide) (fun c34 => absurd c34 (by decide)) (fun _ => ?_)
      refine lv_iconst (v := 0) hx hb dX11_fourWires_37 (by decide) ?_
      exact zri C hw hr hlocks rfl ⟨hM.1, ((zI_s S 240 (b 0) 1)).trans (by unfold kd_four; (try unfold zb); grind), (fun h9 => by first | rfl | (revert h9; unfold kd_four; (try unfold zb); grind))⟩ ⟨Nat.le_of_ble_eq_true rfl, Nat.le_of_ble_eq_true rfl⟩ dX11_fourWires_38
    · replace c12 := zb1.mp c12
      refine lv_iload_n hx hb dX11_fourWires_15 rfl (lv_at hl 3 rfl) ?_
      refine zcS_i (As := [.int p2]) (rest := [.ref (b 0)]) (n9 := 1) C hw (c_X11_isWire l D y base S p2 ) gX11_fourWires_X11_isWire rfl (by decide +kernel) ⟨⟨rfl, rfl⟩, Nat.le_of_ble_eq_true rfl, Nat.le_of_ble_eq_true rfl⟩ rfl hl.1 rfl (Nat.le_of_ble_eq_true rfl) ⟨Nat.le_of_ble_eq_true rfl, Nat.le_of_ble_eq_true rfl⟩ dX11_fourWires_16 (fun r16 S16 H locs hp16 hw => ?_)
      obtain ⟨rfl, hS9⟩ := hp16
      have hS9 := hS9.symm
      subst hS9
      refine lv_if_eq (tgt := 26) hx hb dX11_fourWires_19 (by decide) (fun c19 => ?_) (fun c19 => ?_)
      · replace c19 := zb0.mp c19
        refine lv_iconst (v := 1) hx hb dX11_fourWires_26 (by decide) ?_
        refine p_Mod_thrown (a := (b 0)) (v := 1) C hw hM.1 in_X11 (by decide +kernel) dX11_fourWires_27 (fun H locs hw => ?_)
        refine lv_aload_n hx hb dX11_fourWires_30 rfl (lv_at hl 0 rfl) ?_
        refine g_Mod_thrown (a := (b 0)) (v := 1) C hw hM.1 in_X11 (by decide +kernel) (zI_s S 240 (b 0) 1) dX11_fourWires_31 ?_
        refine lv_if_le (tgt := 39) hx hb dX11_fourWires_34 (by decide) (fun c34 => absurd c34 (by decide)) (fun _ => ?_)
        refine lv_iconst (v := 0) hx hb dX11_fourWires_37 (by decide) ?_
        exact zri C hw hr hlocks rfl ⟨hM.1, ((zI_s S 240 (b 0) 1)).trans (by unfold kd_four; (try unfold zb); grind), (fun h9 => by first | rfl | (revert h9; unfold kd_four; (try unfold zb); grind))⟩ ⟨Nat.le_of_ble_eq_true rfl, Nat.le_of_ble_eq_true rfl⟩ dX11_fourWires_38
      · replace c19 := zb1.mp c19
        refine lv_iconst (v := 0) hx hb dX11_fourWires_22 (by decide) ?_
        refine lv_goto (tgt := 27) hx hb dX11_fourWires_23 (by decide) ?_
        refine p_Mod_thrown (a := (b 0)) (v := 0) C hw hM.1 in_X11 (by decide +kernel) dX11_fourWires_27 (fun H locs hw => ?_)
        refine lv_aload_n hx hb dX11_fourWires_30 rfl (lv_at hl 0 rfl) ?_
        refine g_Mod_thrown (a := (b 0)) (v := 0) C hw hM.1 in_X11 (by decide +kernel) (zI_s S 240 (b 0) 0) dX11_fourWires_31 ?_
        refine lv_if_le (tgt := 39) hx hb dX11_fourWires_34 (by decide) (fun _ => ?_) (fun c34 => absurd c34 (by decide))
        refine lv_iload_n hx hb dX11_fourWires_39 rfl (lv_at hl 1 rfl) ?_
        refine lv_iload_n hx hb dX11_fourWires_40 rfl (lv_at hl 2 rfl) ?_
        refine lv_icmp_eq (tgt := 58) hx hb dX11_fourWires_41 (by decide) (fun c41 => ?_) (fun c41 => ?_)
        · refine lv_iconst (v := 0) hx hb dX11_fourWires_58 (by decide) ?_
          refine lv_istore (lv' := [(8, .int 0), (0, .ref (b 0)), (1, .int p0), (2, .int p1), (3, .int p2), (4, .int p3), (5, .int p4), (6, .int p5), (7, .int p6)]) hx hb dX11_fourWires_59 hl (by decide) rfl (fun ls hl => ?_)
          refine lv_iload hx hb dX11_fourWires_61 (lv_at hl 0 rfl) ?_
          refine lv_if_eq (tgt := 122) hx hb dX11_fourWires_63 (by decide) (fun _ => ?_) (fun c63 => absurd c63 (by decide))
          refine lv_iconst (v := 0) hx hb dX11_fourWires_122 (by decide) ?_
          refine lv_istore (lv' := [(9, .int 0), (8, .int 0), (0, .ref (b 0)), (1, .int p0), (2, .int p1), (3, .int p2), (4, .int p3), (5, .int p4), (6, .int p5), (7, .int p6)]) hx hb dX11_fourWires_123 hl (by decide) rfl (fun ls hl => ?_)
          refine lv_aload_n hx hb dX11_fourWires_125 rfl (lv_at hl 2 rfl) ?_
          refine lv_iload hx hb dX11_fourWires_126 (lv_at hl 0 rfl) ?_
          refine lv_if_eq (tgt := 135) hx hb dX11_fourWires_128 (by decide) (fun _ => ?_) (fun c128 => absurd c128 (by decide))
          refine lv_iconst (v := 2) hx hb dX11_fourWires_135 (by decide) ?_
          refine p_Mod_thrown (a := (b 0)) (v := 2) C hw hM.1 in_X11 (by decide +kernel) dX11_fourWires_136 (fun H locs hw => ?_)
          refine lv_aload_n hx hb dX11_fourWires_139 rfl (lv_at hl 2 rfl) ?_
          refine g_Mod_thrown (a := (b 0)) (v := 2) C hw hM.1 in_X11 (by decide +kernel) (zI_s (zsI S 240 (b 0) 0) 240 (b 0) 2) dX11_fourWires_140 ?_
          refine lv_if_le (tgt := 148) hx hb dX11_fourWires_143 (by decide) (fun c143 => absurd c143 (by decide)) (fun _ => ?_)
          refine lv_iconst (v := 0) hx hb dX11_fourWires_146 (by decide) ?_
          exact zri C hw hr hlocks rfl ⟨hM.1, ((zI_s (zsI S 240 (b 0) 0) 240 (b 0) 2)).trans (by unfold kd_four; (try unfold zb); grind), (fun h9 => by first | rfl | (revert h9; unfold kd_four; (try unfold zb); grind))⟩ ⟨Nat.le_of_ble_eq_true rfl, Nat.le_of_ble_eq_true rfl⟩ dX11_fourWires_147
        · refine lv_iload_n hx hb dX11_fourWires_44 rfl (lv_at hl 1 rfl) ?_
          refine lv_iload_n hx hb dX11_fourWires_45 rfl (lv_at hl 3 rfl) ?_
          refine lv_icmp_eq (tgt := 58) hx hb dX11_fourWires_46 (by decide) (fun c46 => ?_) (fun c46 => ?_)
          · refine lv_iconst (v := 0) hx hb dX11_fourWires_58 (by decide) ?_
            refine lv_istore (lv' := [(8, .int 0), (0, .ref (b 0)), (1, .int p0), (2, .int p1), (3, .int p2), (4, .int p3), (5, .int p4), (6, .int p5), (7, .int p6)]) hx hb dX11_fourWires_59 hl (by decide) rfl (fun ls hl => ?_)
            refine lv_iload hx hb dX11_fourWires_61 (lv_at hl 0 rfl) ?_
            refine lv_if_eq (tgt := 122) hx hb dX11_fourWires_63 (by decide) (fun _ => ?_) (fun c63 => absurd c63 (by decide))
            refine lv_iconst (v := 0) hx hb dX11_fourWires_122 (by decide) ?_
            refine lv_istore (lv' := [(9, .int 0), (8, .int 0), (0, .ref (b 0)), (1, .int p0), (2, .int p1), (3, .int p2), (4, .int p3), (5, .int p4), (6, .int p5), (7, .int p6)]) hx hb dX11_fourWires_123 hl (by decide) rfl (fun ls hl => ?_)
            refine lv_aload_n hx hb dX11_fourWires_125 rfl (lv_at hl 2 rfl) ?_
            refine lv_iload hx hb dX11_fourWires_126 (lv_at hl 0 rfl) ?_
            refine lv_if_eq (tgt := 135) hx hb dX11_fourWires_128 (by decide) (fun _ => ?_) (fun c128 => absurd c128 (by decide))
            refine lv_iconst (v := 2) hx hb dX11_fourWires_135 (by decide) ?_
            refine p_Mod_thrown (a := (b 0)) (v := 2) C hw hM.1 in_X11 (by decide +kernel) dX11_fourWires_136 (fun H locs hw => ?_)
            refine lv_aload_n hx hb dX11_fourWires_139 rfl (lv_at hl 2 rfl) ?_
            refine g_Mod_thrown (a := (b 0)) (v := 2) C hw hM.1 in_X11 (by decide +kernel) (zI_s (zsI S 240 (b 0) 0) 240 (b 0) 2) dX11_fourWires_140 ?_
            refine lv_if_le (tgt := 148) hx hb dX11_fourWires_143 (by decide) (fun c143 => absurd c143 (by decide)) (fun _ => ?_)
            refine lv_iconst (v := 0) hx hb dX11_fourWires_146 (by decide) ?_
            exact zri C hw hr hlocks rfl ⟨hM.1, ((zI_s (zsI S 240 (b 0) 0) 240 (b 0) 2)).trans (by unfold kd_four; (try unfold zb); grind), (fun h9 => by first | rfl | (revert h9; unfold kd_four; (try unfold zb); grind))⟩ ⟨Nat.le_of_ble_eq_true rfl, Nat.le_of_ble_eq_true rfl⟩ dX11_fourWires_147
          · refine lv_iload_n hx hb dX11_fourWires_49 rfl (lv_at hl 2 rfl) ?_
            refine lv_iload_n hx hb dX11_fourWires_50 rfl (lv_at hl 3 rfl) ?_
            refine lv_icmp_eq (tgt := 58) hx hb dX11_fourWires_51 (by decide) (fun c51 => ?_) (fun c51 => ?_)
            · refine lv_iconst (v := 0) hx hb dX11_fourWires_58 (by decide) ?_
              refine lv_istore (lv' := [(8, .int 0), (0, .ref (b 0)), (1, .int p0), (2, .int p1), (3, .int p2), (4, .int p3), (5, .int p4), (6, .int p5), (7, .int p6)]) hx hb dX11_fourWires_59 hl (by decide) rfl (fun ls hl => ?_)
              refine lv_iload hx hb dX11_fourWires_61 (lv_at hl 0 rfl) ?_
              refine lv_if_eq (tgt := 122) hx hb dX11_fourWires_63 (by decide) (fun _ => ?_) (fun c63 => absurd c63 (by decide))
              refine lv_iconst (v := 0) hx hb dX11_fourWires_122 (by decide) ?_
              refine lv_istore (lv' := [(9, .int 0), (8, .int 0), (0, .ref (b 0)), (1, .int p0), (2, .int p1), (3, .int p2), (4, .int p3), (5, .int p4), (6, .int p5), (7, .int p6)]) hx hb dX11_fourWires_123 hl (by decide) rfl (fun ls hl => ?_)
              refine lv_aload_n hx hb dX11_fourWires_125 rfl (lv_at hl 2 rfl) ?_
              refine lv_iload hx hb dX11_fourWires_126 (lv_at hl 0 rfl) ?_
              refine lv_if_eq (tgt := 135) hx hb dX11_fourWires_128 (by decide) (fun _ => ?_) (fun c128 => absurd c128 (by decide))
              refine lv_iconst (v := 2) hx hb dX11_fourWires_135 (by decide) ?_
              refine p_Mod_thrown (a := (b 0)) (v := 2) C hw hM.1 in_X11 (by decide +kernel) dX11_fourWires_136 (fun H locs hw => ?_)
              refine lv_aload_n hx hb dX11_fourWires_139 rfl (lv_at hl 2 rfl) ?_
              refine g_Mod_thrown (a := (b 0)) (v := 2) C hw hM.1 in_X11 (by decide +kernel) (zI_s (zsI S 240 (b 0) 0) 240 (b 0) 2) dX11_fourWires_140 ?_
              refine lv_if_le (tgt := 148) hx hb dX11_fourWires_143 (by decide) (fun c143 => absurd c143 (by decide)) (fun _ => ?_)
              refine lv_iconst (v := 0) hx hb dX11_fourWires_146 (by decide) ?_
              exact zri C hw hr hlocks rfl ⟨hM.1, ((zI_s (zsI S 240 (b 0) 0) 240 (b 0) 2)).trans (by unfold kd_four; (try unfold zb); grind), (fun h9 => by first | rfl | (revert h9; unfold kd_four; (try unfold zb); grind))⟩ ⟨Nat.le_of_ble_eq_true rfl, Nat.le_of_ble_eq_true rfl⟩ dX11_fourWires_147
            · refine lv_iconst (v := 1) hx hb dX11_fourWires_54 (by decide) ?_
              refine lv_goto (tgt := 59) hx hb dX11_fourWires_55 (by decide) ?_
              refine lv_istore (lv' := [(8, .int 1), (0, .ref (b 0)), (1, .int p0), (2, .int p1), (3, .int p2), (4, .int p3), (5, .int p4), (6, .int p5), (7, .int p6)]) hx hb dX11_fourWires_59 hl (by decide) rfl (fun ls hl => ?_)
              refine lv_iload hx hb dX11_fourWires_61 (lv_at hl 0 rfl) ?_
              refine lv_if_eq (tgt := 122) hx hb dX11_fourWires_63 (by decide) (fun c63 => absurd c63 (by decide)) (fun _ => ?_)
              refine lv_iload hx hb dX11_fourWires_66 (lv_at hl 5 rfl) ?_
              refine lv_i2l (v := p3.toInt64) hx hb dX11_fourWires_68 rfl ?_
              refine lv_lconst (v := ((0 : Int32).toInt64)) hx hb dX11_fourWires_69 (by decide) ?_
              refine lv_ldc2 (own := RX11) (v := ((255 : Int32).toInt64)) hx hb hown (hts (.constantLong RX11 96 (255)) (by decide +kernel)) dX11_fourWires_70 ?_
              refine zcS_i (As := [.long (p3.toInt64), .long ((0 : Int32).toInt64), .long ((255 : Int32).toInt64)]) (rest := []) (n9 := 3) C hw (c_X11_in l D y base (zsI S 240 (b 0) 0) p3 (0 : Int32) (255 : Int32) ) gX11_fourWires_X11_in rfl (by decide +kernel) ⟨⟨rfl, rfl⟩, Nat.le_of_ble_eq_true rfl, Nat.le_of_ble_eq_true rfl⟩ rfl hl.1 rfl (Nat.le_of_ble_eq_true rfl) ⟨Nat.le_of_ble_eq_true rfl, Nat.le_of_ble_eq_true rfl⟩ dX11_fourWires_73 (fun r73 S73 H locs hp73 hw => ?_)
              obtain ⟨rfl, hS9⟩ := hp73
              have hS9 := hS9.symm
              subst hS9
              refine lv_if_eq (tgt := 122) hx hb dX11_fourWires_76 (by decide) (fun c76 => ?_) (fun c76 => ?_)
              · replace c76 := zb0.mp c76
                refine lv_iconst (v := 0) hx hb dX11_fourWires_122 (by decide) ?_
                refine lv_istore (lv' := [(9, .int 0), (8, .int 1), (0, .ref (b 0)), (1, .int p0), (2, .int p1), (3, .int p2), (4, .int p3), (5, .int p4), (6, .int p5), (7, .int p6)]) hx hb dX11_fourWires_123 hl (by decide) rfl (fun ls hl => ?_)
                refine lv_aload_n hx hb dX11_fourWires_125 rfl (lv_at hl 2 rfl) ?_
                refine lv_iload hx hb dX11_fourWires_126 (lv_at hl 0 rfl) ?_
                refine lv_if_eq (tgt := 135) hx hb dX11_fourWires_128 (by decide) (fun _ => ?_) (fun c128 => absurd c128 (by decide))
                refine lv_iconst (v := 2) hx hb dX11_fourWires_135 (by decide) ?_
                refine p_Mod_thrown (a := (b 0)) (v := 2) C hw hM.1 in_X11 (by decide +kernel) dX11_fourWires_136 (fun H locs hw => ?_)
                refine lv_aload_n hx hb dX11_fourWires_139 rfl (lv_at hl 2 rfl) ?_
                refine g_Mod_thrown (a := (b 0)) (v := 2) C hw hM.1 in_X11 (by decide +kernel) (zI_s (zsI S 240 (b 0) 0) 240 (b 0) 2) dX11_fourWires_140 ?_
                refine lv_if_le (tgt := 148) hx hb dX11_fourWires_143 (by decide) (fun c143 => absurd c143 (by decide)) (fun _ => ?_)
                refine lv_iconst (v := 0) hx hb dX11_fourWires_146 (by decide) ?_
                exact zri C hw hr hlocks rfl ⟨hM.1, ((zI_s (zsI S 240 (b 0) 0) 240 (b 0) 2)).trans (by unfold kd_four; (try unfold zb); grind), (fun h9 => by first | rfl | (revert h9; unfold kd_four; (try unfold zb); grind))⟩ ⟨Nat.le_of_ble_eq_true rfl, Nat.le_of_ble_eq_true rfl⟩ dX11_fourWires_147
              · replace c76 := zb1.mp c76
                refine lv_iload hx hb dX11_fourWires_79 (lv_at hl 6 rfl) ?_
                refine lv_i2l (v := p4.toInt64) hx hb dX11_fourWires_81 rfl ?_
                refine lv_lconst (v := ((0 : Int32).toInt64)) hx hb dX11_fourWires_82 (by decide) ?_
                refine lv_ldc2 (own := RX11) (v := ((9999 : Int32).toInt64)) hx hb hown (hts (.constantLong RX11 60 (9999)) (by decide +kernel)) dX11_fourWires_83 ?_
                refine zcS_i (As := [.long (p4.toInt64), .long ((0 : Int32).toInt64), .long ((9999 : Int32).toInt64)]) (rest := []) (n9 := 3) C hw (c_X11_in l D y base (zsI S 240 (b 0) 0) p4 (0 : Int32) (9999 : Int32) ) gX11_fourWires_X11_in rfl (by decide +kernel) ⟨⟨rfl, rfl⟩, Nat.le_of_ble_eq_true rfl, Nat.le_of_ble_eq_true rfl⟩ rfl hl.1 rfl (Nat.le_of_ble_eq_true rfl) ⟨Nat.le_of_ble_eq_true rfl, Nat.le_of_ble_eq_true rfl⟩ dX11_fourWires_86 (fun r86 S86 H locs hp86 hw => ?_)
                obtain ⟨rfl, hS9⟩ := hp86
                have hS9 := hS9.symm
                subst hS9
                refine lv_if_eq (tgt := 122) hx hb dX11_fourWires_89 (by decide) (fun c89 => ?_) (fun c89 => ?_)
                · replace c89 := zb0.mp c89
                  refine lv_iconst (v := 0) hx hb dX11_fourWires_122 (by decide) ?_
                  refine lv_istore (lv' := [(9, .int 0), (8, .int 1), (0, .ref (b 0)), (1, .int p0), (2, .int p1), (3, .int p2), (4, .int p3), (5, .int p4), (6, .int p5), (7, .int p6)]) hx hb dX11_fourWires_123 hl (by decide) rfl (fun ls hl => ?_)
                  refine lv_aload_n hx hb dX11_fourWires_125 rfl (lv_at hl 2 rfl) ?_
                  refine lv_iload hx hb dX11_fourWires_126 (lv_at hl 0 rfl) ?_
                  refine lv_if_eq (tgt := 135) hx hb dX11_fourWires_128 (by decide) (fun _ => ?_) (fun c128 => absurd c128 (by decide))
                  refine lv_iconst (v := 2) hx hb dX11_fourWires_135 (by decide) ?_
                  refine p_Mod_thrown (a := (b 0)) (v := 2) C hw hM.1 in_X11 (by decide +kernel) dX11_fourWires_136 (fun H locs hw => ?_)
                  refine lv_aload_n hx hb dX11_fourWires_139 rfl (lv_at hl 2 rfl) ?_
                  refine g_Mod_thrown (a := (b 0)) (v := 2) C hw hM.1 in_X11 (by decide +kernel) (zI_s (zsI S 240 (b 0) 0) 240 (b 0) 2) dX11_fourWires_140 ?_
                  refine lv_if_le (tgt := 148) hx hb dX11_fourWires_143 (by decide) (fun c143 => absurd c143 (by decide)) (fun _ => ?_)
                  refine lv_iconst (v := 0) hx hb dX11_fourWires_146 (by decide) ?_
                  exact zri C hw hr hlocks rfl ⟨hM.1, ((zI_s (zsI S 240 (b 0) 0) 240 (b 0) 2)).trans (by unfold kd_four; (try unfold zb); grind), (fun h9 => by first | rfl | (revert h9; unfold kd_four; (try unfold zb); grind))⟩ ⟨Nat.le_of_ble_eq_true rfl, Nat.le_of_ble_eq_true rfl⟩ dX11_fourWires_147
                · replace c89 := zb1.mp c89
                  refine lv_iload hx hb dX11_fourWires_92 (lv_at hl 7 rfl) ?_
                  refine lv_i2l (v := p5.toInt64) hx hb dX11_fourWires_94 rfl ?_
                  refine lv_lconst (v := ((1 : Int32).toInt64)) hx hb dX11_fourWires_95 (by decide) ?_
                  refine lv_ldc2 (own := RX11) (v := ((50 : Int32).toInt64)) hx hb hown (hts (.constantLong RX11 91 (50)) (by decide +kernel)) dX11_fourWires_96 ?_
                  refine zcS_i (As := [.long (p5.toInt64), .long ((1 : Int32).toInt64), .long ((50 : Int32).toInt64)]) (rest := []) (n9 := 3) C hw (c_X11_in l D y base (zsI S 240 (b 0) 0) p5 (1 : Int32) (50 : Int32) ) gX11_fourWires_X11_in rfl (by decide +kernel) ⟨⟨rfl, rfl⟩, Nat.le_of_ble_eq_true rfl, Nat.le_of_ble_eq_true rfl⟩ rfl hl.1 rfl (Nat.le_of_ble_eq_true rfl) ⟨Nat.le_of_ble_eq_true rfl, Nat.le_of_ble_eq_true rfl⟩ dX11_fourWires_99 (fun r99 S99 H locs hp99 hw => ?_)
                  obtain ⟨rfl, hS9⟩ := hp99
                  have hS9 := hS9.symm
                  subst hS9
                  refine lv_if_eq (tgt := 122) hx hb dX11_fourWires_102 (by decide) (fun c102 => ?_) (fun c102 => ?_)
                  · replace c102 := zb0.mp c102
                    refine lv_iconst (v := 0) hx hb dX11_fourWires_122 (by decide) ?_
                    refine lv_istore (lv' := [(9, .int 0), (8, .int 1), (0, .ref (b 0)), (1, .int p0), (2, .int p1), (3, .int p2), (4, .int p3), (5, .int p4), (6, .int p5), (7, .int p6)]) hx hb dX11_fourWires_123 hl (by decide) rfl (fun ls hl => ?_)
                    refine lv_aload_n hx hb dX11_fourWires_125 rfl (lv_at hl 2 rfl) ?_
                    refine lv_iload hx hb dX11_fourWires_126 (lv_at hl 0 rfl) ?_
                    refine lv_if_eq (tgt := 135) hx hb dX11_fourWires_128 (by decide) (fun _ => ?_) (fun c128 => absurd c128 (by decide))
                    refine lv_iconst (v := 2) hx hb dX11_fourWires_135 (by decide) ?_
                    refine p_Mod_thrown (a := (b 0)) (v := 2) C hw hM.1 in_X11 (by decide +kernel) dX11_fourWires_136 (fun H locs hw => ?_)
                    refine lv_aload_n hx hb dX11_fourWires_139 rfl (lv_at hl 2 rfl) ?_
                    refine g_Mod_thrown (a := (b 0)) (v := 2) C hw hM.1 in_X11 (by decide +kernel) (zI_s (zsI S 240 (b 0) 0) 240 (b 0) 2) dX11_fourWires_140 ?_
                    refine lv_if_le (tgt := 148) hx hb dX11_fourWires_143 (by decide) (fun c143 => absurd c143 (by decide)) (fun _ => ?_)
                    refine lv_iconst (v := 0) hx hb dX11_fourWires_146 (by decide) ?_
                    exact zri C hw hr hlocks rfl ⟨hM.1, ((zI_s (zsI S 240 (b 0) 0) 240 (b 0) 2)).trans (by unfold kd_four; (try unfold zb); grind), (fun h9 => by first | rfl | (revert h9; unfold kd_four; (try unfold zb); grind))⟩ ⟨Nat.le_of_ble_eq_true rfl, Nat.le_of_ble_eq_true rfl⟩ dX11_fourWires_147
                  · replace c102 := zb1.mp c102
                    refine lv_iload hx hb dX11_fourWires_105 (lv_at hl 8 rfl) ?_
                    refine lv_i2l (v := p6.toInt64) hx hb dX11_fourWires_107 rfl ?_
                    refine lv_lconst (v := ((0 : Int32).toInt64)) hx hb dX11_fourWires_108 (by decide) ?_
                    refine lv_ldc2 (own := RX11) (v := ((3 : Int32).toInt64)) hx hb hown (hts (.constantLong RX11 47 (3)) (by decide +kernel)) dX11_fourWires_109 ?_
                    refine zcS_i (As := [.long (p6.toInt64), .long ((0 : Int32).toInt64), .long ((3 : Int32).toInt64)]) (rest := []) (n9 := 3) C hw (c_X11_in l D y base (zsI S 240 (b 0) 0) p6 (0 : Int32) (3 : Int32) ) gX11_fourWires_X11_in rfl (by decide +kernel) ⟨⟨rfl, rfl⟩, Nat.le_of_ble_eq_true rfl, Nat.le_of_ble_eq_true rfl⟩ rfl hl.1 rfl (Nat.le_of_ble_eq_true rfl) ⟨Nat.le_of_ble_eq_true rfl, Nat.le_of_ble_eq_true rfl⟩ dX11_fourWires_112 (fun r112 S112 H locs hp112 hw => ?_)
                    obtain ⟨rfl, hS9⟩ := hp112
                    have hS9 := hS9.symm
                    subst hS9
                    refine lv_if_eq (tgt := 122) hx hb dX11_fourWires_115 (by decide) (fun c115 => ?_) (fun c115 => ?_)
                    · replace c115 := zb0.mp c115
                      refine lv_iconst (v := 0) hx hb dX11_fourWires_122 (by decide) ?_
                      refine lv_istore (lv' := [(9, .int 0), (8, .int 1), (0, .ref (b 0)), (1, .int p0), (2, .int p1), (3, .int p2), (4, .int p3), (5, .int p4), (6, .int p5), (7, .int p6)]) hx hb dX11_fourWires_123 hl (by decide) rfl (fun ls hl => ?_)
                      refine lv_aload_n hx hb dX11_fourWires_125 rfl (lv_at hl 2 rfl) ?_
                      refine lv_iload hx hb dX11_fourWires_126 (lv_at hl 0 rfl) ?_
                      refine lv_if_eq (tgt := 135) hx hb dX11_fourWires_128 (by decide) (fun _ => ?_) (fun c128 => absurd c128 (by decide))
                      refine lv_iconst (v := 2) hx hb dX11_fourWires_135 (by decide) ?_
                      refine p_Mod_thrown (a := (b 0)) (v := 2) C hw hM.1 in_X11 (by decide +kernel) dX11_fourWires_136 (fun H locs hw => ?_)
                      refine lv_aload_n hx hb dX11_fourWires_139 rfl (lv_at hl 2 rfl) ?_
                      refine g_Mod_thrown (a := (b 0)) (v := 2) C hw hM.1 in_X11 (by decide +kernel) (zI_s (zsI S 240 (b 0) 0) 240 (b 0) 2) dX11_fourWires_140 ?_
                      refine lv_if_le (tgt := 148) hx hb dX11_fourWires_143 (by decide) (fun c143 => absurd c143 (by decide)) (fun _ => ?_)
                      refine lv_iconst (v := 0) hx hb dX11_fourWires_146 (by decide) ?_
                      exact zri C hw hr hlocks rfl ⟨hM.1, ((zI_s (zsI S 240 (b 0) 0) 240 (b 0) 2)).trans (by unfold kd_four; (try unfold zb); grind), (fun h9 => by first | rfl | (revert h9; unfold kd_four; (try unfold zb); grind))⟩ ⟨Nat.le_of_ble_eq_true rfl, Nat.le_of_ble_eq_true rfl⟩ dX11_fourWires_147
                    · replace c115 := zb1.mp c115
                      refine lv_iconst (v := 1) hx hb dX11_fourWires_118 (by decide) ?_
                      refine lv_goto (tgt := 123) hx hb dX11_fourWires_119 (by decide) ?_
                      refine lv_istore (lv' := [(9, .int 1), (8, .int 1), (0, .ref (b 0)), (1, .int p0), (2, .int p1), (3, .int p2), (4, .int p3), (5, .int p4), (6, .int p5), (7, .int p6)]) hx hb dX11_fourWires_123 hl (by decide) rfl (fun ls hl => ?_)
                      refine lv_aload_n hx hb dX11_fourWires_125 rfl (lv_at hl 2 rfl) ?_
                      refine lv_iload hx hb dX11_fourWires_126 (lv_at hl 0 rfl) ?_
                      refine lv_if_eq (tgt := 135) hx hb dX11_fourWires_128 (by decide) (fun c128 => absurd c128 (by decide)) (fun _ => ?_)
                      refine lv_iconst (v := 0) hx hb dX11_fourWires_131 (by decide) ?_
                      refine lv_goto (tgt := 136) hx hb dX11_fourWires_132 (by decide) ?_
                      refine p_Mod_thrown (a := (b 0)) (v := 0) C hw hM.1 in_X11 (by decide +kernel) dX11_fourWires_136 (fun H locs hw => ?_)
                      refine lv_aload_n hx hb dX11_fourWires_139 rfl (lv_at hl 2 rfl) ?_
                      refine g_Mod_thrown (a := (b 0)) (v := 0) C hw hM.1 in_X11 (by decide +kernel) (zI_s (zsI S 240 (b 0) 0) 240 (b 0) 0) dX11_fourWires_140 ?_
                      refine lv_if_le (tgt := 148) hx hb dX11_fourWires_143 (by decide) (fun _ => ?_) (fun c143 => absurd c143 (by decide))
                      have hMb : zMd (zsI (zsI S 240 (b 0) 0) 240 (b 0) 0) b := hM
                      have hM0b : zMd0 (zsI (zsI S 240 (b 0) 0) 240 (b 0) 0) b := by first | exact hM0 | exact zMd0.i hM0 | exact zMd0.i (zMd0.i hM0)
                      have hp0 : 0 ≤ p0 ∧ p0 ≤ 3 := by grind
                      have hp1 : 0 ≤ p1 ∧ p1 ≤ 3 := by grind
                      have hp2 : 0 ≤ p2 ∧ p2 ≤ 3 := by grind
                      have hd1 : p0.toNatClampNeg ≠ p1.toNatClampNeg := zcl_ne hp0 hp1 (by assumption)
                      have hd2 : p0.toNatClampNeg ≠ p2.toNatClampNeg := zcl_ne hp0 hp2 (by assumption)
                      have hd3 : p1.toNatClampNeg ≠ p2.toNatClampNeg := zcl_ne hp1 hp2 (by assumption)
                      have hp3 : 0 ≤ p3 ∧ p3 ≤ 255 := by grind
                      have hp4 : 0 ≤ p4 ∧ p4 ≤ 9999 := by grind
                      have hp5 : 1 ≤ p5 ∧ p5 ≤ 50 := by grind
                      have hp6 : 0 ≤ p6 ∧ p6 ≤ 3 := by grind
                      have hkg := kdg_four hp0 hp1 hp2 (by assumption) (by assumption) (by assumption) hp3 hp4 hp5 hp6
                      refine znew (k := 13) (Cn := RX9) (T := TX9) (N := 5) C hw (by decide) (by decide) rfl in_X9 tyX9 tyX9_ok (by decide +kernel) (by decide +kernel) (by decide +kernel) (zdfX9) (Nat.le_of_ble_eq_true rfl) (Nat.le_of_ble_eq_true rfl) dX11_fourWires_148 (fun q148 H kq148 hw => ?_)
                      have hMn : zMd (znO (zsI (zsI S 240 (b 0) 0) 240 (b 0) 0) q148 13) b := zMd.cls (zCls.gv (zGv.nO kq148) kq148) hMb
                      have hM0n : zMd0 (znO (zsI (zsI S 240 (b 0) 0) 240 (b 0) 0) q148 13) b := zMd0.cls (zCls.gv (zGv.nO kq148) kq148) hMb hM0b
                      refine lv_dup hx hb dX11_fourWires_151 rfl ?_
                      refine lv_aload_n hx hb dX11_fourWires_152 rfl (lv_at hl 2 rfl) ?_
                      refine lv_iload hx hb dX11_fourWires_153 (lv_at hl 7 rfl) ?_
                      refine zcI_v (As := [.ref (b 0), .int p4]) (rest := [.ref q148]) (n9 := 2) (b := q148) C hw (c_X9_init l D y base (znO (zsI (zsI S 240 (b 0) 0) 240 (b 0) 0) q148 13) b q148 p4 hMn hM0n (zK_nOs (zsI (zsI S 240 (b 0) 0) 240 (b 0) 0) q148 13)) gX11_fourWires_X9_init rfl (by decide +kernel) (by decide +kernel) (by decide +kernel) rfl (by decide +kernel) ⟨⟨rfl, rfl⟩, Nat.le_of_ble_eq_true rfl, Nat.le_of_ble_eq_true rfl⟩ rfl hl.1 rfl (Nat.le_of_ble_eq_true rfl) ⟨Nat.le_of_ble_eq_true rfl, Nat.le_of_ble_eq_true rfl⟩ dX11_fourWires_155 (fun S155 H locs hp155 hw => ?_)
                      obtain ⟨rw9, sn, f, i1, i2, i3, i4, i5, i6, i7, i8, i9, i10, i11, i12, i13⟩ := hp155
                      have hG9 : zGv (zsI (zsI S 240 (b 0) 0) 240 (b 0) 0) S155 q148 := (zGv.nO kq148).tr i13
                      have hM9 := zMd.cls (zCls.gv hG9 kq148) hMb
                      have hM09 := zMd0.cls (zCls.gv hG9 kq148) hMb hM0b
                      have hE155 : zSe S155 q148 (b 0) rw9 sn f p4 (fun _ => 0) True 0 := ⟨⟨i1, i2, i3, i4, hM9.1, hM09.1, hM09.2.1, hM09.2.2.1, i5, i7, i8, i9, i10⟩, ⟨Or.inr i6, ⟨fun _ => trivial, fun _ h => absurd (i6.symm.trans h) (by decide)⟩⟩, fun j _ => i11 j, fun j hj => ⟨(i12 j hj).1, (i12 j hj).2.1, (i12 j hj).2.2.1, (i12 j hj).2.2.2.2, Nat.le_of_eq (zct_none (fun t _ => by rw [decide_eq_true_eq]; exact fun q => q ((i12 j hj).2.2.2.1 t)))⟩⟩
                      refine lv_astore (lv' := [(10, .ref q148), (9, .int 1), (8, .int 1), (0, .ref (b 0)), (1, .int p0), (2, .int p1), (3, .int p2), (4, .int p3), (5, .int p4), (6, .int p5), (7, .int p6)]) hx hb dX11_fourWires_158 hl (by decide) rfl (fun ls hl => ?_)
                      have jn_1 : ∀ (ih_2 : Int32) (H : Heap) (locs : List Loc) (ls : Array Slot), zW D y base S155 s H locs → lv_has ls 14 [(10, .ref q148), (9, .int 1), (8, .int 1), (0, .ref (b 0)), (1, .int p0), (2, .int p1), (3, .int p2), (4, .int p3), (5, .int p4), (6, .int p5), (7, .int p6)] → (ih_2 = (zge2 p6)) → W p l e (headSpec wsX11_fourWires ({ frames := 3, cells := 7, slots := 40013, locals := 68 })).room s m args below meth c H locs 7 40013 (MQ below (va_Qi (fun (r : Int32) (S1 : zS) => zK S1 (b 0) = 15 ∧ zI S1 240 (b 0) = kd_four p0 p1 p2 p3 p4 p5 p6 ∧ (kd_four p0 p1 p2 p3 p4 p5 p6 = 0 → r = p4 + 17 * p5)) (zPost D y base) (zA base)) args s 7 40013 (zA base)) (F0 m 171 ls [.int ih_2]) := by
                        intro ih_2 H locs ls hw hl f_3
                        have fih := f_3
                        refine lv_istore (lv' := [(11, .int ih_2), (10, .ref q148), (9, .int 1), (8, .int 1), (0, .ref (b 0)), (1, .int p0), (2, .int p1), (3, .int p2), (4, .int p3), (5, .int p4), (6, .int p5), (7, .int p6)]) hx hb dX11_fourWires_171 hl (by decide) rfl (fun ls hl => ?_)
                        refine lv_aload hx hb dX11_fourWires_173 (lv_at hl 1 rfl) ?_
                        refine zgetN (a := q148) (k := 13) (j := 1) (b := true) (v := .ref sn) (ref := "ProbehallModel$Sending") (host := "ProbehallModel") (Cn := RX9) (T := TX9) (N := 5) C hw hE155.1.1 (by decide) (by decide) rfl in_X9 rfl (by decide) (by decide +kernel) (fun _ h => h) (show va_rf (zQ S155 209 q148) = .ref sn by rw [show zQ S155 209 q148 = some sn from hE155.1.2.2.1]; rfl) dX11_fourWires_175 ?_
                        refine lv_iload_n hx hb dX11_fourWires_178 rfl (lv_at hl 7 rfl) ?_
                        refine lv_iconst (v := 1) hx hb dX11_fourWires_179 (by decide) ?_
                        refine zast_Z (a := sn) C hw hE155.1.2.2.2.2.2.2.2.2.2.2.2.1 hE155.1.2.2.2.2.2.2.2.2.2.2.2.2 (zin_of (N := 4) (by decide) (by grind) (by grind)) dX11_fourWires_180 (fun H locs hw => ?_)
                        refine lv_aload hx hb dX11_fourWires_181 (lv_at hl 1 rfl) ?_
                        refine zgetN (a := q148) (k := 13) (j := 1) (b := true) (v := .ref sn) (ref := "ProbehallModel$Sending") (host := "ProbehallModel") (Cn := RX9) (T := TX9) (N := 5) C hw hE155.1.1 (by decide) (by decide) rfl in_X9 rfl (by decide) (by decide +kernel) (fun _ h => h) (show va_rf (zQ (zsR S155 23 sn (upd (zR S155 23 sn) (p2).toNatClampNeg (vp_nar .boolean 1))) 209 q148) = .ref sn by rw [show zQ (zsR S155 23 sn (upd (zR S155 23 sn) (p2).toNatClampNeg (vp_nar .boolean 1))) 209 q148 = some sn from hE155.1.2.2.1]; rfl) dX11_fourWires_183 ?_
                        refine lv_iload_n hx hb dX11_fourWires_186 rfl (lv_at hl 5 rfl) ?_
                        refine lv_iload hx hb dX11_fourWires_187 (lv_at hl 0 rfl) ?_
                        refine zast_Z (a := sn) C hw hE155.1.2.2.2.2.2.2.2.2.2.2.2.1 hE155.1.2.2.2.2.2.2.2.2.2.2.2.2 (zin_of (N := 4) (by decide) (by grind) (by grind)) dX11_fourWires_189 (fun H locs hw => ?_)
                        have hPa := zSe_put (p0 := p2) (v := 1) hE155 (Or.inr rfl)
                        have hPb := zSe_put (p0 := p0) (v := ih_2) hPa.1 (by rw [fih]; exact zge2_01 _)
                        have hE189 : zSe (zsR (zsR S155 23 sn (upd (zR S155 23 sn) (p2).toNatClampNeg (vp_nar .boolean 1))) 23 sn (upd (zR (zsR S155 23 sn (upd (zR S155 23 sn) (p2).toNatClampNeg (vp_nar .boolean 1))) 23 sn) (p0).toNatClampNeg (vp_nar .boolean ih_2))) q148 (b 0) rw9 sn f p4 (zl3 p0.toNatClampNeg p1.toNatClampNeg p2.toNatClampNeg (zlF (zge2 p6) (0)) (zlG p3 (0)) (zlL (0))) (zgd (zlF (zge2 p6)) (fun j => ztk p4 p5 (j + 1)) (0) ∧ zgd (zlG p3) (fun j => ztk p4 p5 (zmG (zlt2 p6) j)) (0) ∧ zgd zlL (fun j => ztk p4 p5 (zmL j)) (0)) (0) := hPb.1.weak (fun j _ => by show (if j = p0.toNatClampNeg then ih_2 else if j = p2.toNatClampNeg then (1 : Int32) else 0) = zl3 p0.toNatClampNeg p1.toNatClampNeg p2.toNatClampNeg (zge2 p6) 0 1 j; unfold zl3; rw [fih]; grind) ⟨fun _ => ⟨(zgd_0 _ _).mp trivial, (zgd_0 _ _).mp trivial, (zgd_0 _ _).mp trivial⟩, fun _ => trivial⟩ (Nat.le_refl _)
                        refine lv_aload hx hb dX11_fourWires_190 (lv_at hl 1 rfl) ?_
                        refine lv_iload_n hx hb dX11_fourWires_192 rfl (lv_at hl 7 rfl) ?_
                        refine lv_iconst (v := 0) hx hb dX11_fourWires_193 (by decide) ?_
                        refine zrd (x := (nI 0 * p5)) (by rw [nI_0, Int32.zero_mul]) ?_
                        refine lv_iconst (v := 0) hx hb dX11_fourWires_194 (by decide) ?_
                        refine zcV_v (As := [.int p2, .int (nI 0 * p5), .int 0]) (rest := []) (n9 := 3) (b := q148) C hw (c_X9_tells l D y base (zsR (zsR S155 23 sn (upd (zR S155 23 sn) (p2).toNatClampNeg (vp_nar .boolean 1))) 23 sn (upd (zR (zsR S155 23 sn (upd (zR S155 23 sn) (p2).toNatClampNeg (vp_nar .boolean 1))) 23 sn) (p0).toNatClampNeg (vp_nar .boolean ih_2))) q148 (b 0) rw9 sn (f p2.toNatClampNeg) p4 _ (zl3 p0.toNatClampNeg p1.toNatClampNeg p2.toNatClampNeg (zlF (zge2 p6) (0)) (zlG p3 (0)) (zlL (0)) p2.toNatClampNeg) p2 (nI 0 * p5) 0 hE189.1.1 hE189.1.2.1 hE189.1.2.2.1 hE189.1.2.2.2.1 hE189.1.2.2.2.2.1 hE189.1.2.2.2.2.2.1 hE189.1.2.2.2.2.2.2.2.2.1 rfl hE189.2.1.1 hE189.1.2.2.2.2.2.2.2.2.2.1 hE189.1.2.2.2.2.2.2.2.2.2.2.1 hE189.1.2.2.2.2.2.2.2.2.2.2.2.1 hE189.1.2.2.2.2.2.2.2.2.2.2.2.2 (hE189.2.2.1 _ (z_cl4 hp2)) hp2 (hE189.2.2.2 _ (z_cl4 hp2)).1 (hE189.2.2.2 _ (z_cl4 hp2)).2.1 (hE189.2.2.2 _ (z_cl4 hp2)).2.2.1 (hE189.2.2.2 _ (z_cl4 hp2)).2.2.2.1 (Or.inl rfl) (ztk_nn (m := 0) hp4 hp5 (by first | omega | (have := (zmG_b (lt := (zlt2 p6)) hi8).2; omega)))) gX11_fourWires_X9_tells rfl (by decide +kernel) ⟨⟨rfl, rfl⟩, Nat.le_of_ble_eq_true rfl, Nat.le_of_ble_eq_true rfl⟩ hE189.1.1 ⟨by decide, by decide⟩ rfl rfl hl.1 rfl (Nat.le_of_ble_eq_true rfl) ⟨Nat.le_of_ble_eq_true rfl, Nat.le_of_ble_eq_true rfl⟩ dX11_fourWires_195 (fun S195 H locs hp195 hw => ?_)
                        have hE195 : zSe S195 q148 (b 0) rw9 sn f p4 (zl3 p0.toNatClampNeg p1.toNatClampNeg p2.toNatClampNeg (zlF (zge2 p6) (0)) (zlG p3 (0)) (zlL (0 + 1))) (zgd (zlF (zge2 p6)) (fun j => ztk p4 p5 (j + 1)) (0) ∧ zgd (zlG p3) (fun j => ztk p4 p5 (zmG (zlt2 p6) j)) (0) ∧ zgd zlL (fun j => ztk p4 p5 (zmL j)) (0 + 1)) (0 + 1) := (zSe_3c (L := zlL) (t := (fun j => ztk p4 p5 (zmL j))) (k := 0) hE189 hp2 rfl hd2 hd3 rfl rfl hp195).1
                        refine lv_iconst (v := 0) hx hb dX11_fourWires_198 (by decide) ?_
                        refine lv_istore (lv' := [(12, .int 0), (11, .int ih_2), (10, .ref q148), (9, .int 1), (8, .int 1), (0, .ref (b 0)), (1, .int p0), (2, .int p1), (3, .int p2), (4, .int p3), (5, .int p4), (6, .int p5), (7, .int p6)]) hx hb dX11_fourWires_199 hl (by decide) rfl (fun ls hl => ?_)
                        have lp_5 : ∀ (n9 : Nat) (i : Nat) (S2 : zS) (H : Heap) (locs : List Loc) (ls : Array Slot), 8 - i < n9 → (i ≤ 8) → (zSe S2 q148 (b 0) rw9 sn f p4 (zl3 p0.toNatClampNeg p1.toNatClampNeg p2.toNatClampNeg (zlF (zge2 p6) (2 * i)) (zlG p3 (i)) (zlL (1))) (zgd (zlF (zge2 p6)) (fun j => ztk p4 p5 (j + 1)) (2 * i) ∧ zgd (zlG p3) (fun j => ztk p4 p5 (zmG (zlt2 p6) j)) (i) ∧ zgd zlL (fun j => ztk p4 p5 (zmL j)) (1)) (2 * i + i + 1)) → zW D y base S2 s H locs → lv_has ls 14 [(12, .int (nI i)), (0, .ref (b 0)), (1, .int p0), (2, .int p1), (3, .int p2), (4, .int p3), (6, .int p5), (7, .int p6), (10, .ref q148), (11, .int ih_2)] → W p l e (headSpec wsX11_fourWires ({ frames := 3, cells := 7, slots := 40013, locals := 68 })).room s m args below meth c H locs 7 40013 (MQ below (va_Qi (fun (r : Int32) (S1 : zS) => zK S1 (b 0) = 15 ∧ zI S1 240 (b 0) = kd_four p0 p1 p2 p3 p4 p5 p6 ∧ (kd_four p0 p1 p2 p3 p4 p5 p6 = 0 → r = p4 + 17 * p5)) (zPost D y base) (zA base)) args s 7 40013 (zA base)) (F0 m 201 ls []) := by
                          intro n9
                          induction n9 with
                          | zero =>
                            intro i S2 H locs ls hn9
                            exact absurd hn9 (Nat.not_lt_zero _)
                          | succ n9 ih_4 =>
                            intro i S2 H locs ls hn9 hi hE2 hw hl
                            refine lv_iload hx hb dX11_fourWires_201 (lv_at hl 0 rfl) ?_
                            refine lv_bipush (v := 8) hx hb dX11_fourWires_203 (by decide) ?_
                            refine lv_icmp_ge (tgt := 297) hx hb dX11_fourWires_205 (by decide) (fun c205 => ?_) (fun c205 => ?_)
                            · have hie : i = 8 := by have := z_ge (n := 8) c205 (by omega) (by omega); omega
                              have hEz : zSe S2 q148 (b 0) rw9 sn f p4 (zl3 p0.toNatClampNeg p1.toNatClampNeg p2.toNatClampNeg (zlF (zge2 p6) (16)) (zlG p3 (8)) (zlL (1))) (zgd (zlF (zge2 p6)) (fun j => ztk p4 p5 (j + 1)) (16) ∧ zgd (zlG p3) (fun j => ztk p4 p5 (zmG (zlt2 p6) j)) (8) ∧ zgd zlL (fun j => ztk p4 p5 (zmL j)) (1)) (25) := by rw [hie] at hE2; exact hE2
                              refine lv_aload hx hb dX11_fourWires_297 (lv_at hl 8 rfl) ?_
                              refine lv_iload_n hx hb dX11_fourWires_299 rfl (lv_at hl 4 rfl) ?_
                              refine lv_bipush (v := 17) hx hb dX11_fourWires_300 (by decide) ?_
                              refine lv_iload hx hb dX11_fourWires_302 (lv_at hl 6 rfl) ?_
                              refine lv_imul hx hb dX11_fourWires_304 ?_
                              refine zrd (x := (nI 17 * p5)) rfl ?_
                              refine lv_iconst (v := 1) hx hb dX11_fourWires_305 (by decide) ?_
                              refine zcV_v (As := [.int p2, .int (nI 17 * p5), .int 1]) (rest := []) (n9 := 3) (b := q148) C hw (c_X9_tells l D y base S2 q148 (b 0) rw9 sn (f p2.toNatClampNeg) p4 _ (zl3 p0.toNatClampNeg p1.toNatClampNeg p2.toNatClampNeg (zlF (zge2 p6) (16)) (zlG p3 (8)) (zlL (1)) p2.toNatClampNeg) p2 (nI 17 * p5) 1 hEz.1.1 hEz.1.2.1 hEz.1.2.2.1 hEz.1.2.2.2.1 hEz.1.2.2.2.2.1 hEz.1.2.2.2.2.2.1 hEz.1.2.2.2.2.2.2.2.2.1 rfl hEz.2.1.1 hEz.1.2.2.2.2.2.2.2.2.2.1 hEz.1.2.2.2.2.2.2.2.2.2.2.1 hEz.1.2.2.2.2.2.2.2.2.2.2.2.1 hEz.1.2.2.2.2.2.2.2.2.2.2.2.2 (hEz.2.2.1 _ (z_cl4 hp2)) hp2 (hEz.2.2.2 _ (z_cl4 hp2)).1 (hEz.2.2.2 _ (z_cl4 hp2)).2.1 (hEz.2.2.2 _ (z_cl4 hp2)).2.2.1 (hEz.2.2.2 _ (z_cl4 hp2)).2.2.2.1 (Or.inr rfl) (ztk_nn (m := 17) hp4 hp5 (by first | omega | (have := (zmG_b (lt := (zlt2 p6)) hi8).2; omega)))) gX11_fourWires_X9_tells rfl (by decide +kernel) ⟨⟨rfl, rfl⟩, Nat.le_of_ble_eq_true rfl, Nat.le_of_ble_eq_true rfl⟩ hE2.1.1 ⟨by decide, by decide⟩ rfl rfl hl.1 rfl (Nat.le_of_ble_eq_true rfl) ⟨Nat.le_of_ble_eq_true rfl, Nat.le_of_ble_eq_true rfl⟩ dX11_fourWires_306 (fun S306 H locs hp306 hw => ?_)
                              have hE306 : zSe S306 q148 (b 0) rw9 sn f p4 (zl3 p0.toNatClampNeg p1.toNatClampNeg p2.toNatClampNeg (zlF (zge2 p6) (16)) (zlG p3 (8)) (zlL (1 + 1))) (zgd (zlF (zge2 p6)) (fun j => ztk p4 p5 (j + 1)) (16) ∧ zgd (zlG p3) (fun j => ztk p4 p5 (zmG (zlt2 p6) j)) (8) ∧ zgd zlL (fun j => ztk p4 p5 (zmL j)) (1 + 1)) (25 + 1) := (zSe_3c (L := zlL) (t := (fun j => ztk p4 p5 (zmL j))) (k := 1) hEz hp2 rfl hd2 hd3 rfl rfl hp306).1
                              refine lv_aload hx hb dX11_fourWires_309 (lv_at hl 8 rfl) ?_
                              refine lv_iload_n hx hb dX11_fourWires_311 rfl (lv_at hl 3 rfl) ?_
                              refine lv_bipush (v := 17) hx hb dX11_fourWires_312 (by decide) ?_
                              refine lv_iload hx hb dX11_fourWires_314 (lv_at hl 6 rfl) ?_
                              refine lv_imul hx hb dX11_fourWires_316 ?_
                              refine zrd (x := (nI 17 * p5)) rfl ?_
                              refine lv_iconst (v := 0) hx hb dX11_fourWires_317 (by decide) ?_
                              refine zcV_v (As := [.int p1, .int (nI 17 * p5), .int 0]) (rest := []) (n9 := 3) (b := q148) C hw (c_X9_tells l D y base S306 q148 (b 0) rw9 sn (f p1.toNatClampNeg) p4 _ (zl3 p0.toNatClampNeg p1.toNatClampNeg p2.toNatClampNeg (zlF (zge2 p6) (16)) (zlG p3 (8)) (zlL (1 + 1)) p1.toNatClampNeg) p1 (nI 17 * p5) 0 hE306.1.1 hE306.1.2.1 hE306.1.2.2.1 hE306.1.2.2.2.1 hE306.1.2.2.2.2.1 hE306.1.2.2.2.2.2.1 hE306.1.2.2.2.2.2.2.2.2.1 rfl hE306.2.1.1 hE306.1.2.2.2.2.2.2.2.2.2.1 hE306.1.2.2.2.2.2.2.2.2.2.2.1 hE306.1.2.2.2.2.2.2.2.2.2.2.2.1 hE306.1.2.2.2.2.2.2.2.2.2.2.2.2 (hE306.2.2.1 _ (z_cl4 hp1)) hp1 (hE306.2.2.2 _ (z_cl4 hp1)).1 (hE306.2.2.2 _ (z_cl4 hp1)).2.1 (hE306.2.2.2 _ (z_cl4 hp1)).2.2.1 (hE306.2.2.2 _ (z_cl4 hp1)).2.2.2.1 (Or.inl rfl) (ztk_nn (m := 17) hp4 hp5 (by first | omega | (have := (zmG_b (lt := (zlt2 p6)) hi8).2; omega)))) gX11_fourWires_X9_tells rfl (by decide +kernel) ⟨⟨rfl, rfl⟩, Nat.le_of_ble_eq_true rfl, Nat.le_of_ble_eq_true rfl⟩ hE306.1.1 ⟨by decide, by decide⟩ rfl rfl hl.1 rfl (Nat.le_of_ble_eq_true rfl) ⟨Nat.le_of_ble_eq_true rfl, Nat.le_of_ble_eq_true rfl⟩ dX11_fourWires_318 (fun S318 H locs hp318 hw => ?_)
                              have hE318 : zSe S318 q148 (b 0) rw9 sn f p4 (zl3 p0.toNatClampNeg p1.toNatClampNeg p2.toNatClampNeg (zlF (zge2 p6) (16)) (zlG p3 (8 + 1)) (zlL (1 + 1))) (zgd (zlF (zge2 p6)) (fun j => ztk p4 p5 (j + 1)) (16) ∧ zgd (zlG p3) (fun j => ztk p4 p5 (zmG (zlt2 p6) j)) (8 + 1) ∧ zgd zlL (fun j => ztk p4 p5 (zmL j)) (1 + 1)) (25 + 1 + 1) := (zSe_3b (L := zlG p3) (t := (fun j => ztk p4 p5 (zmG (zlt2 p6) j))) (k := 8) hE306 hp1 rfl hd1 rfl rfl hp318).1
                              refine lv_aload hx hb dX11_fourWires_321 (lv_at hl 8 rfl) ?_
                              refine lv_bipush (v := 17) hx hb dX11_fourWires_323 (by decide) ?_
                              refine lv_iload hx hb dX11_fourWires_325 (lv_at hl 6 rfl) ?_
                              refine lv_imul hx hb dX11_fourWires_327 ?_
                              refine zcV_i (As := [.int (17 * p5)]) (rest := []) (n9 := 1) (b := q148) C hw (c_X9_ends l D y base S318 q148 (b 0) rw9 f p4 _ (17 * p5) hE318.1.1 hE318.1.2.1 hE318.1.2.2.2.1 hE318.1.2.2.2.2.1 hE318.1.2.2.2.2.2.1 hE318.1.2.2.2.2.2.2.2.2.1 rfl hE318.1.2.2.2.2.2.2.2.2.2.1 hE318.1.2.2.2.2.2.2.2.2.2.2.1 (hE318.ends (by omega))) gX11_fourWires_X9_ends rfl (by decide +kernel) ⟨⟨rfl, rfl⟩, Nat.le_of_ble_eq_true rfl, Nat.le_of_ble_eq_true rfl⟩ hE318.1.1 ⟨by decide, by decide⟩ rfl rfl hl.1 rfl (Nat.le_of_ble_eq_true rfl) ⟨Nat.le_of_ble_eq_true rfl, Nat.le_of_ble_eq_true rfl⟩ dX11_fourWires_328 (fun r328 S328 H locs hp328 hw => ?_)
                              exact zri C hw hr hlocks rfl ⟨hp328.1, zend hE318.2.1.2 hkg hp328.2.1 hp328.2.2⟩ ⟨Nat.le_of_ble_eq_true rfl, Nat.le_of_ble_eq_true rfl⟩ dX11_fourWires_331
                            · have jn_6 : ∀ (bt_7 : Int32) (H : Heap) (locs : List Loc) (ls : Array Slot), zW D y base S2 s H locs → lv_has ls 14 [(12, .int (nI i)), (0, .ref (b 0)), (1, .int p0), (2, .int p1), (3, .int p2), (4, .int p3), (6, .int p5), (7, .int p6), (10, .ref q148), (11, .int ih_2)] → (bt_7 = zlG p3 (i + 1)) → W p l e (headSpec wsX11_fourWires ({ frames := 3, cells := 7, slots := 40013, locals := 68 })).room s m args below meth c H locs 7 40013 (MQ below (va_Qi (fun (r : Int32) (S1 : zS) => zK S1 (b 0) = 15 ∧ zI S1 240 (b 0) = kd_four p0 p1 p2 p3 p4 p5 p6 ∧ (kd_four p0 p1 p2 p3 p4 p5 p6 = 0 → r = p4 + 17 * p5)) (zPost D y base) (zA base)) args s 7 40013 (zA base)) (F0 m 227 ls [.int bt_7]) := by
                                intro bt_7 H locs ls hw hl f_8
                                have hi8 := z_lt (n := 8) c205 (by omega) (by omega)
                                have fbt := f_8
                                refine lv_istore (lv' := [(13, .int bt_7), (12, .int (nI i)), (0, .ref (b 0)), (1, .int p0), (2, .int p1), (3, .int p2), (4, .int p3), (6, .int p5), (7, .int p6), (10, .ref q148), (11, .int ih_2)]) hx hb dX11_fourWires_227 hl (by decide) rfl (fun ls hl => ?_)
                                refine lv_aload hx hb dX11_fourWires_229 (lv_at hl 9 rfl) ?_
                                refine lv_iload_n hx hb dX11_fourWires_231 rfl (lv_at hl 4 rfl) ?_
                                refine lv_iconst (v := 2) hx hb dX11_fourWires_232 (by decide) ?_
                                refine lv_iload hx hb dX11_fourWires_233 (lv_at hl 1 rfl) ?_
                                refine lv_imul hx hb dX11_fourWires_235 ?_
                                refine lv_iload hx hb dX11_fourWires_236 (lv_at hl 8 rfl) ?_
                                refine lv_iconst (v := 2) hx hb dX11_fourWires_238 (by decide) ?_
                                refine lv_irem hx hb dX11_fourWires_239 (by decide) ?_
                                refine lv_iadd hx hb dX11_fourWires_240 ?_
                                refine zrd (x := (nI (zmG (zlt2 p6) i))) (zmGr hp6 hi8) ?_
                                refine lv_iload hx hb dX11_fourWires_241 (lv_at hl 7 rfl) ?_
                                refine lv_imul hx hb dX11_fourWires_243 ?_
                                refine lv_iload hx hb dX11_fourWires_244 (lv_at hl 0 rfl) ?_
                                refine zcV_v (As := [.int p1, .int ((nI (zmG (zlt2 p6) i)) * p5), .int bt_7]) (rest := []) (n9 := 3) (b := q148) C hw (c_X9_tells l D y base S2 q148 (b 0) rw9 sn (f p1.toNatClampNeg) p4 _ (zl3 p0.toNatClampNeg p1.toNatClampNeg p2.toNatClampNeg (zlF (zge2 p6) (2 * i)) (zlG p3 (i)) (zlL (1)) p1.toNatClampNeg) p1 ((nI (zmG (zlt2 p6) i)) * p5) bt_7 hE2.1.1 hE2.1.2.1 hE2.1.2.2.1 hE2.1.2.2.2.1 hE2.1.2.2.2.2.1 hE2.1.2.2.2.2.2.1 hE2.1.2.2.2.2.2.2.2.2.1 rfl hE2.2.1.1 hE2.1.2.2.2.2.2.2.2.2.2.1 hE2.1.2.2.2.2.2.2.2.2.2.2.1 hE2.1.2.2.2.2.2.2.2.2.2.2.2.1 hE2.1.2.2.2.2.2.2.2.2.2.2.2.2 (hE2.2.2.1 _ (z_cl4 hp1)) hp1 (hE2.2.2.2 _ (z_cl4 hp1)).1 (hE2.2.2.2 _ (z_cl4 hp1)).2.1 (hE2.2.2.2 _ (z_cl4 hp1)).2.2.1 (hE2.2.2.2 _ (z_cl4 hp1)).2.2.2.1 (by rw [fbt]; exact zlG_01 _ _) (ztk_nn (m := zmG (zlt2 p6) i) hp4 hp5 (by first | omega | (have := (zmG_b (lt := (zlt2 p6)) hi8).2; omega)))) gX11_fourWires_X9_tells rfl (by decide +kernel) ⟨⟨rfl, rfl⟩, Nat.le_of_ble_eq_true rfl, Nat.le_of_ble_eq_true rfl⟩ hE2.1.1 ⟨by decide, by decide⟩ rfl rfl hl.1 rfl (Nat.le_of_ble_eq_true rfl) ⟨Nat.le_of_ble_eq_true rfl, Nat.le_of_ble_eq_true rfl⟩ dX11_fourWires_246 (fun S246 H locs hp246 hw => ?_)
                                have hE246 : zSe S246 q148 (b 0) rw9 sn f p4 (zl3 p0.toNatClampNeg p1.toNatClampNeg p2.toNatClampNeg (zlF (zge2 p6) (2 * i)) (zlG p3 (i + 1)) (zlL (1))) (zgd (zlF (zge2 p6)) (fun j => ztk p4 p5 (j + 1)) (2 * i) ∧ zgd (zlG p3) (fun j => ztk p4 p5 (zmG (zlt2 p6) j)) (i + 1) ∧ zgd zlL (fun j => ztk p4 p5 (zmL j)) (1)) (2 * i + i + 1 + 1) := (zSe_3b (L := zlG p3) (t := (fun j => ztk p4 p5 (zmG (zlt2 p6) j))) (k := i) hE2 hp1 rfl hd1 fbt rfl hp246).1
                                refine lv_aload hx hb dX11_fourWires_249 (lv_at hl 9 rfl) ?_
                                refine lv_iload_n hx hb dX11_fourWires_251 rfl (lv_at hl 3 rfl) ?_
                                refine lv_iconst (v := 2) hx hb dX11_fourWires_252 (by decide) ?_
                                refine lv_iload hx hb dX11_fourWires_253 (lv_at hl 1 rfl) ?_
                                refine lv_imul hx hb dX11_fourWires_255 ?_
                                refine lv_iconst (v := 1) hx hb dX11_fourWires_256 (by decide) ?_
                                refine lv_iadd hx hb dX11_fourWires_257 ?_
                                refine zrd (x := (nI (2 * i + 1))) (z2i1 i) ?_
                                refine lv_iload hx hb dX11_fourWires_258 (lv_at hl 7 rfl) ?_
                                refine lv_imul hx hb dX11_fourWires_260 ?_
                                have jn_9 : ∀ (nh_10 : Int32) (H : Heap) (locs : List Loc) (ls : Array Slot), zW D y base S246 s H locs → lv_has ls 14 [(13, .int bt_7), (12, .int (nI i)), (0, .ref (b 0)), (1, .int p0), (2, .int p1), (3, .int p2), (4, .int p3), (6, .int p5), (7, .int p6), (10, .ref q148), (11, .int ih_2)] → (nh_10 = zno (zge2 p6)) → W p l e (headSpec wsX11_fourWires ({ frames := 3, cells := 7, slots := 40013, locals := 68 })).room s m args below meth c H locs 7 40013 (MQ below (va_Qi (fun (r : Int32) (S1 : zS) => zK S1 (b 0) = 15 ∧ zI S1 240 (b 0) = kd_four p0 p1 p2 p3 p4 p5 p6 ∧ (kd_four p0 p1 p2 p3 p4 p5 p6 = 0 → r = p4 + 17 * p5)) (zPost D y base) (zA base)) args s 7 40013 (zA base)) (F0 m 271 ls [.int nh_10, .int ((nI (2 * i + 1)) * p5), .int p0, .ref q148]) := by
                                  intro nh_10 H locs ls hw hl f_11
                                  have fnh := f_11
                                  refine zcV_v (As := [.int p0, .int ((nI (2 * i + 1)) * p5), .int nh_10]) (rest := []) (n9 := 3) (b := q148) C hw (c_X9_tells l D y base S246 q148 (b 0) rw9 sn (f p0.toNatClampNeg) p4 _ (zl3 p0.toNatClampNeg p1.toNatClampNeg p2.toNatClampNeg (zlF (zge2 p6) (2 * i)) (zlG p3 (i + 1)) (zlL (1)) p0.toNatClampNeg) p0 ((nI (2 * i + 1)) * p5) nh_10 hE246.1.1 hE246.1.2.1 hE246.1.2.2.1 hE246.1.2.2.2.1 hE246.1.2.2.2.2.1 hE246.1.2.2.2.2.2.1 hE246.1.2.2.2.2.2.2.2.2.1 rfl hE246.2.1.1 hE246.1.2.2.2.2.2.2.2.2.2.1 hE246.1.2.2.2.2.2.2.2.2.2.2.1 hE246.1.2.2.2.2.2.2.2.2.2.2.2.1 hE246.1.2.2.2.2.2.2.2.2.2.2.2.2 (hE246.2.2.1 _ (z_cl4 hp0)) hp0 (hE246.2.2.2 _ (z_cl4 hp0)).1 (hE246.2.2.2 _ (z_cl4 hp0)).2.1 (hE246.2.2.2 _ (z_cl4 hp0)).2.2.1 (hE246.2.2.2 _ (z_cl4 hp0)).2.2.2.1 (by rw [fnh]; exact zno_01 _) (ztk_nn (m := 2 * i + 1) hp4 hp5 (by first | omega | (have := (zmG_b (lt := (zlt2 p6)) hi8).2; omega)))) gX11_fourWires_X9_tells rfl (by decide +kernel) ⟨⟨rfl, rfl⟩, Nat.le_of_ble_eq_true rfl, Nat.le_of_ble_eq_true rfl⟩ hE246.1.1 ⟨by decide, by decide⟩ rfl rfl hl.1 rfl (Nat.le_of_ble_eq_true rfl) ⟨Nat.le_of_ble_eq_true rfl, Nat.le_of_ble_eq_true rfl⟩ dX11_fourWires_271 (fun S271 H locs hp271 hw => ?_)
                                  have hE271 : zSe S271 q148 (b 0) rw9 sn f p4 (zl3 p0.toNatClampNeg p1.toNatClampNeg p2.toNatClampNeg (zlF (zge2 p6) (2 * i + 1)) (zlG p3 (i + 1)) (zlL (1))) (zgd (zlF (zge2 p6)) (fun j => ztk p4 p5 (j + 1)) (2 * i + 1) ∧ zgd (zlG p3) (fun j => ztk p4 p5 (zmG (zlt2 p6) j)) (i + 1) ∧ zgd zlL (fun j => ztk p4 p5 (zmL j)) (1)) (2 * i + i + 1 + 1 + 1) := (zSe_3a (L := zlF (zge2 p6)) (t := (fun j => ztk p4 p5 (j + 1))) (k := 2 * i) hE246 hp0 rfl (fnh.trans (zlF_o _ i).symm) rfl hp271).1
                                  refine lv_aload hx hb dX11_fourWires_274 (lv_at hl 9 rfl) ?_
                                  refine lv_iload_n hx hb dX11_fourWires_276 rfl (lv_at hl 3 rfl) ?_
                                  refine lv_iconst (v := 2) hx hb dX11_fourWires_277 (by decide) ?_
                                  refine lv_iload hx hb dX11_fourWires_278 (lv_at hl 1 rfl) ?_
                                  refine lv_imul hx hb dX11_fourWires_280 ?_
                                  refine lv_iconst (v := 2) hx hb dX11_fourWires_281 (by decide) ?_
                                  refine lv_iadd hx hb dX11_fourWires_282 ?_
                                  refine zrd (x := (nI (2 * i + 2))) (z2i2 i) ?_
                                  refine lv_iload hx hb dX11_fourWires_283 (lv_at hl 7 rfl) ?_
                                  refine lv_imul hx hb dX11_fourWires_285 ?_
                                  refine lv_iload hx hb dX11_fourWires_286 (lv_at hl 10 rfl) ?_
                                  refine zcV_v (As := [.int p0, .int ((nI (2 * i + 2)) * p5), .int ih_2]) (rest := []) (n9 := 3) (b := q148) C hw (c_X9_tells l D y base S271 q148 (b 0) rw9 sn (f p0.toNatClampNeg) p4 _ (zl3 p0.toNatClampNeg p1.toNatClampNeg p2.toNatClampNeg (zlF (zge2 p6) (2 * i + 1)) (zlG p3 (i + 1)) (zlL (1)) p0.toNatClampNeg) p0 ((nI (2 * i + 2)) * p5) ih_2 hE271.1.1 hE271.1.2.1 hE271.1.2.2.1 hE271.1.2.2.2.1 hE271.1.2.2.2.2.1 hE271.1.2.2.2.2.2.1 hE271.1.2.2.2.2.2.2.2.2.1 rfl hE271.2.1.1 hE271.1.2.2.2.2.2.2.2.2.2.1 hE271.1.2.2.2.2.2.2.2.2.2.2.1 hE271.1.2.2.2.2.2.2.2.2.2.2.2.1 hE271.1.2.2.2.2.2.2.2.2.2.2.2.2 (hE271.2.2.1 _ (z_cl4 hp0)) hp0 (hE271.2.2.2 _ (z_cl4 hp0)).1 (hE271.2.2.2 _ (z_cl4 hp0)).2.1 (hE271.2.2.2 _ (z_cl4 hp0)).2.2.1 (hE271.2.2.2 _ (z_cl4 hp0)).2.2.2.1 (by rw [fih]; exact zge2_01 _) (ztk_nn (m := 2 * i + 2) hp4 hp5 (by first | omega | (have := (zmG_b (lt := (zlt2 p6)) hi8).2; omega)))) gX11_fourWires_X9_tells rfl (by decide +kernel) ⟨⟨rfl, rfl⟩, Nat.le_of_ble_eq_true rfl, Nat.le_of_ble_eq_true rfl⟩ hE271.1.1 ⟨by decide, by decide⟩ rfl rfl hl.1 rfl (Nat.le_of_ble_eq_true rfl) ⟨Nat.le_of_ble_eq_true rfl, Nat.le_of_ble_eq_true rfl⟩ dX11_fourWires_288 (fun S288 H locs hp288 hw => ?_)
                                  have hE288 : zSe S288 q148 (b 0) rw9 sn f p4 (zl3 p0.toNatClampNeg p1.toNatClampNeg p2.toNatClampNeg (zlF (zge2 p6) (2 * i + 1 + 1)) (zlG p3 (i + 1)) (zlL (1))) (zgd (zlF (zge2 p6)) (fun j => ztk p4 p5 (j + 1)) (2 * i + 1 + 1) ∧ zgd (zlG p3) (fun j => ztk p4 p5 (zmG (zlt2 p6) j)) (i + 1) ∧ zgd zlL (fun j => ztk p4 p5 (zmL j)) (1)) (2 * i + i + 1 + 1 + 1 + 1) := (zSe_3a (L := zlF (zge2 p6)) (t := (fun j => ztk p4 p5 (j + 1))) (k := 2 * i + 1) hE271 hp0 rfl (fih.trans (zlF_e _ (i + 1)).symm) rfl hp288).1
                                  refine lv_iinc (v := (nI (i + 1))) (lv' := [(12, .int (nI (i + 1))), (13, .int bt_7), (0, .ref (b 0)), (1, .int p0), (2, .int p1), (3, .int p2), (4, .int p3), (6, .int p5), (7, .int p6), (10, .ref q148), (11, .int ih_2)]) hx hb dX11_fourWires_291 hl (k := 1) rfl (nI_1 _) (by decide) rfl (fun ls hl => ?_)
                                  refine lv_goto (tgt := 201) hx hb dX11_fourWires_294 (by decide) ?_
                                  exact ih_4 (i + 1) S288 _ _ _ (by omega) (by omega) (by rw [show 2 * (i + 1) = 2 * i + 1 + 1 by omega]; exact hE288.weak (fun _ _ => rfl) Iff.rfl (by omega)) hw (lv_sub hl [0, 2, 3, 4, 5, 6, 7, 8, 9, 10] rfl)
                                refine lv_iload hx hb dX11_fourWires_261 (lv_at hl 10 rfl) ?_
                                refine lv_if_ne (tgt := 270) hx hb dX11_fourWires_263 (by decide) (fun c263 => ?_) (fun c263 => ?_)
                                · refine lv_iconst (v := 0) hx hb dX11_fourWires_270 (by decide) ?_
                                  exact jn_9 0 _ _ _ hw (lv_sub hl [0, 1, 2, 3, 4, 5, 6, 7, 8, 9, 10] rfl) (by unfold zno; rw [← fih]; first | rw [if_pos c263] | rw [if_neg c263])
                                · refine lv_iconst (v := 1) hx hb dX11_fourWires_266 (by decide) ?_
                                  refine lv_goto (tgt := 271) hx hb dX11_fourWires_267 (by decide) ?_
                                  exact jn_9 1 _ _ _ hw (lv_sub hl [0, 1, 2, 3, 4, 5, 6, 7, 8, 9, 10] rfl) (by unfold zno; rw [← fih]; first | rw [if_pos c263] | rw [if_neg c263])
                              have hi8 := z_lt (n := 8) c205 (by omega) (by omega)
                              refine lv_iload hx hb dX11_fourWires_208 (lv_at hl 5 rfl) ?_
                              refine lv_bipush (v := 7) hx hb dX11_fourWires_210 (by decide) ?_
                              refine lv_iload hx hb dX11_fourWires_212 (lv_at hl 0 rfl) ?_
                              refine lv_isub hx hb dX11_fourWires_214 ?_
                              refine lv_ishr hx hb dX11_fourWires_215 ?_
                              refine lv_iconst (v := 1) hx hb dX11_fourWires_216 (by decide) ?_
                              refine lv_iand hx hb dX11_fourWires_217 ?_
                              refine lv_iconst (v := 1) hx hb dX11_fourWires_218 (by decide) ?_
                              refine lv_icmp_ne (tgt := 226) hx hb dX11_fourWires_219 (by decide) (fun c219 => ?_) (fun c219 => ?_)
                              · refine lv_iconst (v := 0) hx hb dX11_fourWires_226 (by decide) ?_
                                exact jn_6 0 _ _ _ hw (lv_sub hl [0, 1, 2, 3, 4, 5, 6, 7, 8, 9] rfl) (by rw [zlG_s hi8]; first | exact zbv_1 c219 | exact zbv_0 c219)
                              · refine lv_iconst (v := 1) hx hb dX11_fourWires_222 (by decide) ?_
                                refine lv_goto (tgt := 227) hx hb dX11_fourWires_223 (by decide) ?_
                                exact jn_6 1 _ _ _ hw (lv_sub hl [0, 1, 2, 3, 4, 5, 6, 7, 8, 9] rfl) (by rw [zlG_s hi8]; first | exact zbv_1 c219 | exact zbv_0 c219)
                        exact lp_5 _ 0 S195 _ _ _ (Nat.lt_succ_self _) (Nat.zero_le _) hE195 hw (lv_sub hl [0, 5, 6, 7, 8, 9, 11, 12, 2, 1] rfl)
                      refine lv_iload hx hb dX11_fourWires_160 (lv_at hl 10 rfl) ?_
                      refine lv_iconst (v := 2) hx hb dX11_fourWires_162 (by decide) ?_
                      refine lv_icmp_lt (tgt := 170) hx hb dX11_fourWires_163 (by decide) (fun c163 => ?_) (fun c163 => ?_)
                      · refine lv_iconst (v := 0) hx hb dX11_fourWires_170 (by decide) ?_
                        exact jn_1 0 _ _ _ hw (lv_sub hl [0, 1, 2, 3, 4, 5, 6, 7, 8, 9, 10] rfl) (by unfold zge2; first | rw [if_pos c163] | rw [if_neg c163])
                      · refine lv_iconst (v := 1) hx hb dX11_fourWires_166 (by decide) ?_
                        refine lv_goto (tgt := 171) hx hb dX11_fourWires_167 (by decide) ?_
                        exact jn_1 1 _ _ _ hw (lv_sub hl [0, 1, 2, 3, 4, 5, 6, 7, 8, 9, 10] rfl) (by unfold zge2; first | rw [if_pos c163] | rw [if_neg c163])

