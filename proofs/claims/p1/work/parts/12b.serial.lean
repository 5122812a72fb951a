set_option maxHeartbeats 4000000 in
set_option maxRecDepth 100000 in
/-- X11_serial -/
theorem c_X11_serial (l : Launch) (D : va_G) (y : Nat → ClassId) (base : Nat) (S : zS) (b : Nat → Nat) (p0 : Int32) (p1 : Int32) (p2 : Int32) (p3 : Int32) (p4 : Int32) (hM : zMd S b) (hM0 : zMd0 S b) : zMi l yX11_serial wsX11_serial ({ frames := 3, cells := 7, slots := 40013, locals := 68 }) [.ref (b 0), .int p0, .int p1, .int p2, .int p3, .int p4] D y base S (fun (r : Int32) (S1 : zS) => zK S1 (b 0) = 15 ∧ zI S1 240 (b 0) = kd_serial p0 p1 p2 p3 p4 ∧ (kd_serial p0 p1 p2 p3 p4 = 0 → r = p2 + nI (zsbN p4) * p3)) 7 40013 := by
  refine zMet_of (cc := cX11_serial) (maxL := 10) (ret := (some .int)) (own := RX11) (by decide +kernel) rfl rfl (Nat.le_of_ble_eq_true rfl) ?_
  intro p e s m args below meth c ls C hr hlocks hnm hw hl
  have hx := C.1
  have hb := C.2.1
  have hown := C.2.2.2.1
  have hts := C.2.2.2.2
  have hl : lv_has ls 10 [(0, .ref (b 0)), (1, .int p0), (2, .int p1), (3, .int p2), (4, .int p3), (5, .int p4)] := hl
  have in_X11 : ∀ w ∈ wsX110, w ∈ wsX11_serial := by decide +kernel
  have in_X9 : ∀ w ∈ wsX90, w ∈ wsX11_serial := by decide +kernel
  refine lv_aload_n hx hb dX11_serial_0 rfl (lv_at hl 0 rfl) ?_
  refine lv_iload_n hx hb dX11_serial_1 rfl (lv_at hl 1 rfl) ?_
  refine zcV_i (As := [.int p0]) (rest := []) (n9 := 1) (b := (b 0)) C hw (c_X11_noWire l D y base S (b 0) p0 hM.1) gX11_serial_X11_noWire rfl (by decide +kernel) ⟨⟨rfl, rfl⟩, Nat.le_of_ble_eq_true rfl, Nat.le_of_ble_eq_true rfl⟩ hM.1 ⟨by decide, by decide⟩ rfl rfl hl.1 rfl (Nat.le_of_ble_eq_true rfl) ⟨Nat.le_of_ble_eq_true rfl, Nat.le_of_ble_eq_true rfl⟩ dX11_serial_2 (fun r2 S2 H locs hp2 hw => ?_)
  obtain ⟨rfl, rfl⟩ := hp2
  refine lv_if_eq (tgt := 10) hx hb dX11_serial_5 (by decide) (fun c5 => ?_) (fun c5 => ?_)
  · replace c5 := zb0.mp c5
    refine lv_iload_n hx hb dX11_serial_10 rfl (lv_at hl 2 rfl) ?_
    refine lv_i2l (v := p1.toInt64) hx hb dX11_serial_11 rfl ?_
    refine lv_lconst (v := ((0 : Int32).toInt64)) hx hb dX11_serial_12 (by decide) ?_
    refine lv_ldc2 (own := RX11) (v := ((255 : Int32).toInt64)) hx hb hown (hts (.constantLong RX11 96 (255)) (by decide +kernel)) dX11_serial_13 ?_
    refine zcS_i (As := [.long (p1.toInt64), .long ((0 : Int32).toInt64), .long ((255 : Int32).toInt64)]) (rest := []) (n9 := 3) C hw (c_X11_in l D y base (zsI S 240 (b 0) (zb (¬ (0 ≤ p0 ∧ p0 ≤ 3)))) p1 (0 : Int32) (255 : Int32) ) gX11_serial_X11_in rfl (by decide +kernel) ⟨⟨rfl, rfl⟩, Nat.le_of_ble_eq_true rfl, Nat.le_of_ble_eq_true rfl⟩ rfl hl.1 rfl (Nat.le_of_ble_eq_true rfl) ⟨Nat.le_of_ble_eq_true rfl, Nat.le_of_ble_eq_true rfl⟩ dX11_serial_16 (fun r16 S16 H locs hp16 hw => ?_)
    obtain ⟨rfl, hS9⟩ := hp16
    have hS9 := hS9.symm
    subst hS9
    refine lv_if_eq (tgt := 61) hx hb dX11_serial_19 (by decide) (fun c19 => ?_) (fun c19 => ?_)
    · replace c19 := zb0.mp c19
      refine lv_iconst (v := 0) hx hb dX11_serial_61 (by decide) ?_
      refine lv_istore (lv' := [(6, .int 0), (0, .ref (b 0)), (1, .int p0), (2, .int p1), (3, .int p2), (4, .int p3), (5, .int p4)]) hx hb dX11_serial_62 hl (by decide) rfl (fun ls hl => ?_)
      refine lv_aload_n hx hb dX11_serial_64 rfl (lv_at hl 1 rfl) ?_
      refine lv_iload hx hb dX11_serial_65 (lv_at hl 0 rfl) ?_
      refine lv_if_eq (tgt := 74) hx hb dX11_serial_67 (by decide) (fun _ => ?_) (fun c67 => absurd c67 (by decide))
      refine lv_iconst (v := 2) hx hb dX11_serial_74 (by decide) ?_
      refine p_Mod_thrown (a := (b 0)) (v := 2) C hw hM.1 in_X11 (by decide +kernel) dX11_serial_75 (fun H locs hw => ?_)
      refine lv_aload_n hx hb dX11_serial_78 rfl (lv_at hl 1 rfl) ?_
      refine g_Mod_thrown (a := (b 0)) (v := 2) C hw hM.1 in_X11 (by decide +kernel) (zI_s (zsI S 240 (b 0) (zb (¬ (0 ≤ p0 ∧ p0 ≤ 3)))) 240 (b 0) 2) dX11_serial_79 ?_
      refine lv_if_le (tgt := 87) hx hb dX11_serial_82 (by decide) (fun c82 => absurd c82 (by decide)) (fun _ => ?_)
      refine lv_iconst (v := 0) hx hb dX11_serial_85 (by decide) ?_
      exact zri C hw hr hlocks rfl ⟨hM.1, ((zI_s (zsI S 240 (b 0) (zb (¬ (0 ≤ p0 ∧ p0 ≤ 3)))) 240 (b 0) 2)).trans (by unfold kd_serial; (try unfold zb); grind), (fun h9 => by first | rfl | (revert h9; unfold kd_serial; (try unfold zb); grind))⟩ ⟨Nat.le_of_ble_eq_true rfl, Nat.le_of_ble_eq_true rfl⟩ dX11_serial_86
    · replace c19 := zb1.mp c19
      refine lv_iload_n hx hb dX11_serial_22 rfl (lv_at hl 3 rfl) ?_
      refine lv_i2l (v := p2.toInt64) hx hb dX11_serial_23 rfl ?_
      refine lv_lconst (v := ((0 : Int32).toInt64)) hx hb dX11_serial_24 (by decide) ?_
      refine lv_ldc2 (own := RX11) (v := ((9999 : Int32).toInt64)) hx hb hown (hts (.constantLong RX11 60 (9999)) (by decide +kernel)) dX11_serial_25 ?_
      refine zcS_i (As := [.long (p2.toInt64), .long ((0 : Int32).toInt64), .long ((9999 : Int32).toInt64)]) (rest := []) (n9 := 3) C hw (c_X11_in l D y base (zsI S 240 (b 0) (zb (¬ (0 ≤ p0 ∧ p0 ≤ 3)))) p2 (0 : Int32) (9999 : Int32) ) gX11_serial_X11_in rfl (by decide +kernel) ⟨⟨rfl, rfl⟩, Nat.le_of_ble_eq_true rfl, Nat.le_of_ble_eq_true rfl⟩ rfl hl.1 rfl (Nat.le_of_ble_eq_true rfl) ⟨Nat.le_of_ble_eq_true rfl, Nat.le_of_ble_eq_true rfl⟩ dX11_serial_28 (fun r28 S28 H locs hp28 hw => ?_)
      obtain ⟨rfl, hS9⟩ := hp28
      have hS9 := hS9.symm
      subst hS9
      refine lv_if_eq (tgt := 61) hx hb dX11_serial_31 (by decide) (fun c31 => ?_) (fun c31 => ?_)
      · replace c31 := zb0.mp c31
        refine lv_iconst (v := 0) hx hb dX11_serial_61 (by decide) ?_
        refine lv_istore (lv' := [(6, .int 0), (0, .ref (b 0)), (1, .int p0), (2, .int p1), (3, .int p2), (4, .int p3), (5, .int p4)]) hx hb dX11_serial_62 hl (by decide) rfl (fun ls hl => ?_)
        refine lv_aload_n hx hb dX11_serial_64 rfl (lv_at hl 1 rfl) ?_
        refine lv_iload hx hb dX11_serial_65 (lv_at hl 0 rfl) ?_
        refine lv_if_eq (tgt := 74) hx hb dX11_serial_67 (by decide) (fun _ => ?_) (fun c67 => absurd c67 (by decide))
        refine lv_iconst (v := 2) hx hb dX11_serial_74 (by decide) ?_
        refine p_Mod_thrown (a := (b 0)) (v := 2) C hw hM.1 in_X11 (by decide +kernel) dX11_serial_75 (fun H locs hw => ?_)
        refine lv_aload_n hx hb dX11_serial_78 rfl (lv_at hl 1 rfl) ?_
        refine g_Mod_thrown (a := (b 0)) (v := 2) C hw hM.1 in_X11 (by decide +kernel) (zI_s (zsI S 240 (b 0) (zb (¬ (0 ≤ p0 ∧ p0 ≤ 3)))) 240 (b 0) 2) dX11_serial_79 ?_
        refine lv_if_le (tgt := 87) hx hb dX11_serial_82 (by decide) (fun c82 => absurd c82 (by decide)) (fun _ => ?_)
        refine lv_iconst (v := 0) hx hb dX11_serial_85 (by decide) ?_
        exact zri C hw hr hlocks rfl ⟨hM.1, ((zI_s (zsI S 240 (b 0) (zb (¬ (0 ≤ p0 ∧ p0 ≤ 3)))) 240 (b 0) 2)).trans (by unfold kd_serial; (try unfold zb); grind), (fun h9 => by first | rfl | (revert h9; unfold kd_serial; (try unfold zb); grind))⟩ ⟨Nat.le_of_ble_eq_true rfl, Nat.le_of_ble_eq_true rfl⟩ dX11_serial_86
      · replace c31 := zb1.mp c31
        refine lv_iload hx hb dX11_serial_34 (lv_at hl 4 rfl) ?_
        refine lv_i2l (v := p3.toInt64) hx hb dX11_serial_36 rfl ?_
        refine lv_ldc2 (own := RX11) (v := ((2 : Int32).toInt64)) hx hb hown (hts (.constantLong RX11 98 (2)) (by decide +kernel)) dX11_serial_37 ?_
        refine lv_ldc2 (own := RX11) (v := ((50 : Int32).toInt64)) hx hb hown (hts (.constantLong RX11 91 (50)) (by decide +kernel)) dX11_serial_40 ?_
        refine zcS_i (As := [.long (p3.toInt64), .long ((2 : Int32).toInt64), .long ((50 : Int32).toInt64)]) (rest := []) (n9 := 3) C hw (c_X11_in l D y base (zsI S 240 (b 0) (zb (¬ (0 ≤ p0 ∧ p0 ≤ 3)))) p3 (2 : Int32) (50 : Int32) ) gX11_serial_X11_in rfl (by decide +kernel) ⟨⟨rfl, rfl⟩, Nat.le_of_ble_eq_true rfl, Nat.le_of_ble_eq_true rfl⟩ rfl hl.1 rfl (Nat.le_of_ble_eq_true rfl) ⟨Nat.le_of_ble_eq_true rfl, Nat.le_of_ble_eq_true rfl⟩ dX11_serial_43 (fun r43 S43 H locs hp43 hw => ?_)
        obtain ⟨rfl, hS9⟩ := hp43
        have hS9 := hS9.symm
        subst hS9
        refine lv_if_eq (tgt := 61) hx hb dX11_serial_46 (by decide) (fun c46 => ?_) (fun c46 => ?_)
        · replace c46 := zb0.mp c46
          refine lv_iconst (v := 0) hx hb dX11_serial_61 (by decide) ?_
          refine lv_istore (lv' := [(6, .int 0), (0, .ref (b 0)), (1, .int p0), (2, .int p1), (3, .int p2), (4, .int p3), (5, .int p4)]) hx hb dX11_serial_62 hl (by decide) rfl (fun ls hl => ?_)
          refine lv_aload_n hx hb dX11_serial_64 rfl (lv_at hl 1 rfl) ?_
          refine lv_iload hx hb dX11_serial_65 (lv_at hl 0 rfl) ?_
          refine lv_if_eq (tgt := 74) hx hb dX11_serial_67 (by decide) (fun _ => ?_) (fun c67 => absurd c67 (by decide))
          refine lv_iconst (v := 2) hx hb dX11_serial_74 (by decide) ?_
          refine p_Mod_thrown (a := (b 0)) (v := 2) C hw hM.1 in_X11 (by decide +kernel) dX11_serial_75 (fun H locs hw => ?_)
          refine lv_aload_n hx hb dX11_serial_78 rfl (lv_at hl 1 rfl) ?_
          refine g_Mod_thrown (a := (b 0)) (v := 2) C hw hM.1 in_X11 (by decide +kernel) (zI_s (zsI S 240 (b 0) (zb (¬ (0 ≤ p0 ∧ p0 ≤ 3)))) 240 (b 0) 2) dX11_serial_79 ?_
          refine lv_if_le (tgt := 87) hx hb dX11_serial_82 (by decide) (fun c82 => absurd c82 (by decide)) (fun _ => ?_)
          refine lv_iconst (v := 0) hx hb dX11_serial_85 (by decide) ?_
          exact zri C hw hr hlocks rfl ⟨hM.1, ((zI_s (zsI S 240 (b 0) (zb (¬ (0 ≤ p0 ∧ p0 ≤ 3)))) 240 (b 0) 2)).trans (by unfold kd_serial; (try unfold zb); grind), (fun h9 => by first | rfl | (revert h9; unfold kd_serial; (try unfold zb); grind))⟩ ⟨Nat.le_of_ble_eq_true rfl, Nat.le_of_ble_eq_true rfl⟩ dX11_serial_86
        · replace c46 := zb1.mp c46
          refine lv_iload hx hb dX11_serial_49 (lv_at hl 5 rfl) ?_
          refine zcS_i (As := [.int p4]) (rest := []) (n9 := 1) C hw (c_X11_isParity l D y base (zsI S 240 (b 0) (zb (¬ (0 ≤ p0 ∧ p0 ≤ 3)))) p4 ) gX11_serial_X11_isParity rfl (by decide +kernel) ⟨⟨rfl, rfl⟩, Nat.le_of_ble_eq_true rfl, Nat.le_of_ble_eq_true rfl⟩ rfl hl.1 rfl (Nat.le_of_ble_eq_true rfl) ⟨Nat.le_of_ble_eq_true rfl, Nat.le_of_ble_eq_true rfl⟩ dX11_serial_51 (fun r51 S51 H locs hp51 hw => ?_)
          obtain ⟨rfl, hS9⟩ := hp51
          have hS9 := hS9.symm
          subst hS9
          refine lv_if_eq (tgt := 61) hx hb dX11_serial_54 (by decide) (fun c54 => ?_) (fun c54 => ?_)
          · replace c54 := zb0.mp c54
            refine lv_iconst (v := 0) hx hb dX11_serial_61 (by decide) ?_
            refine lv_istore (lv' := [(6, .int 0), (0, .ref (b 0)), (1, .int p0), (2, .int p1), (3, .int p2), (4, .int p3), (5, .int p4)]) hx hb dX11_serial_62 hl (by decide) rfl (fun ls hl => ?_)
            refine lv_aload_n hx hb dX11_serial_64 rfl (lv_at hl 1 rfl) ?_
            refine lv_iload hx hb dX11_serial_65 (lv_at hl 0 rfl) ?_
            refine lv_if_eq (tgt := 74) hx hb dX11_serial_67 (by decide) (fun _ => ?_) (fun c67 => absurd c67 (by decide))
            refine lv_iconst (v := 2) hx hb dX11_serial_74 (by decide) ?_
            refine p_Mod_thrown (a := (b 0)) (v := 2) C hw hM.1 in_X11 (by decide +kernel) dX11_serial_75 (fun H locs hw => ?_)
            refine lv_aload_n hx hb dX11_serial_78 rfl (lv_at hl 1 rfl) ?_
            refine g_Mod_thrown (a := (b 0)) (v := 2) C hw hM.1 in_X11 (by decide +kernel) (zI_s (zsI S 240 (b 0) (zb (¬ (0 ≤ p0 ∧ p0 ≤ 3)))) 240 (b 0) 2) dX11_serial_79 ?_
            refine lv_if_le (tgt := 87) hx hb dX11_serial_82 (by decide) (fun c82 => absurd c82 (by decide)) (fun _ => ?_)
            refine lv_iconst (v := 0) hx hb dX11_serial_85 (by decide) ?_
            exact zri C hw hr hlocks rfl ⟨hM.1, ((zI_s (zsI S 240 (b 0) (zb (¬ (0 ≤ p0 ∧ p0 ≤ 3)))) 240 (b 0) 2)).trans (by unfold kd_serial; (try unfold zb); grind), (fun h9 => by first | rfl | (revert h9; unfold kd_serial; (try unfold zb); grind))⟩ ⟨Nat.le_of_ble_eq_true rfl, Nat.le_of_ble_eq_true rfl⟩ dX11_serial_86
          · replace c54 := zb1.mp c54
            refine lv_iconst (v := 1) hx hb dX11_serial_57 (by decide) ?_
            refine lv_goto (tgt := 62) hx hb dX11_serial_58 (by decide) ?_
            refine lv_istore (lv' := [(6, .int 1), (0, .ref (b 0)), (1, .int p0), (2, .int p1), (3, .int p2), (4, .int p3), (5, .int p4)]) hx hb dX11_serial_62 hl (by decide) rfl (fun ls hl => ?_)
            refine lv_aload_n hx hb dX11_serial_64 rfl (lv_at hl 1 rfl) ?_
            refine lv_iload hx hb dX11_serial_65 (lv_at hl 0 rfl) ?_
            refine lv_if_eq (tgt := 74) hx hb dX11_serial_67 (by decide) (fun c67 => absurd c67 (by decide)) (fun _ => ?_)
            refine lv_iconst (v := 0) hx hb dX11_serial_70 (by decide) ?_
            refine lv_goto (tgt := 75) hx hb dX11_serial_71 (by decide) ?_
            refine p_Mod_thrown (a := (b 0)) (v := 0) C hw hM.1 in_X11 (by decide +kernel) dX11_serial_75 (fun H locs hw => ?_)
            refine lv_aload_n hx hb dX11_serial_78 rfl (lv_at hl 1 rfl) ?_
            refine g_Mod_thrown (a := (b 0)) (v := 0) C hw hM.1 in_X11 (by decide +kernel) (zI_s (zsI S 240 (b 0) (zb (¬ (0 ≤ p0 ∧ p0 ≤ 3)))) 240 (b 0) 0) dX11_serial_79 ?_
            refine lv_if_le (tgt := 87) hx hb dX11_serial_82 (by decide) (fun _ => ?_) (fun c82 => absurd c82 (by decide))
            have hMb : zMd (zsI (zsI S 240 (b 0) (zb (¬ (0 ≤ p0 ∧ p0 ≤ 3)))) 240 (b 0) 0) b := hM
            have hM0b : zMd0 (zsI (zsI S 240 (b 0) (zb (¬ (0 ≤ p0 ∧ p0 ≤ 3)))) 240 (b 0) 0) b := by first | exact hM0 | exact zMd0.i hM0 | exact zMd0.i (zMd0.i hM0)
            have hp0 : 0 ≤ p0 ∧ p0 ≤ 3 := by grind
            have hp1 : 0 ≤ p1 ∧ p1 ≤ 255 := by grind
            have hp2 : 0 ≤ p2 ∧ p2 ≤ 9999 := by grind
            have hp3 : 1 ≤ p3 ∧ p3 ≤ 50 := by grind
            have hp3b : 2 ≤ p3 ∧ p3 ≤ 50 := by grind
            have hp4 : p4 = 110 ∨ p4 = 101 ∨ p4 = 111 := by grind
            have hser := zser_all (v := p1) (par := p4) hp1 hp4
            have hkg := kdg_serial hp0 hp1 hp2 hp3b hp4
            refine znew (k := 13) (Cn := RX9) (T := TX9) (N := 5) C hw (by decide) (by decide) rfl in_X9 tyX9 tyX9_ok (by decide +kernel) (by decide +kernel) (by decide +kernel) (zdfX9) (Nat.le_of_ble_eq_true rfl) (Nat.le_of_ble_eq_true rfl) dX11_serial_87 (fun q87 H kq87 hw => ?_)
            have hMn : zMd (znO (zsI (zsI S 240 (b 0) (zb (¬ (0 ≤ p0 ∧ p0 ≤ 3)))) 240 (b 0) 0) q87 13) b := zMd.cls (zCls.gv (zGv.nO kq87) kq87) hMb
            have hM0n : zMd0 (znO (zsI (zsI S 240 (b 0) (zb (¬ (0 ≤ p0 ∧ p0 ≤ 3)))) 240 (b 0) 0) q87 13) b := zMd0.cls (zCls.gv (zGv.nO kq87) kq87) hMb hM0b
            refine lv_dup hx hb dX11_serial_90 rfl ?_
            refine lv_aload_n hx hb dX11_serial_91 rfl (lv_at hl 1 rfl) ?_
            refine lv_iload_n hx hb dX11_serial_92 rfl (lv_at hl 4 rfl) ?_
            refine zcI_v (As := [.ref (b 0), .int p2]) (rest := [.ref q87]) (n9 := 2) (b := q87) C hw (c_X9_init l D y base (znO (zsI (zsI S 240 (b 0) (zb (¬ (0 ≤ p0 ∧ p0 ≤ 3)))) 240 (b 0) 0) q87 13) b q87 p2 hMn hM0n (zK_nOs (zsI (zsI S 240 (b 0) (zb (¬ (0 ≤ p0 ∧ p0 ≤ 3)))) 240 (b 0) 0) q87 13)) gX11_serial_X9_init rfl (by decide +kernel) (by decide +kernel) (by decide +kernel) rfl (by decide +kernel) ⟨⟨rfl, rfl⟩, Nat.le_of_ble_eq_true rfl, Nat.le_of_ble_eq_true rfl⟩ rfl hl.1 rfl (Nat.le_of_ble_eq_true rfl) ⟨Nat.le_of_ble_eq_true rfl, Nat.le_of_ble_eq_true rfl⟩ dX11_serial_93 (fun S93 H locs hp93 hw => ?_)
            obtain ⟨rw9, sn, f, i1, i2, i3, i4, i5, i6, i7, i8, i9, i10, i11, i12, i13⟩ := hp93
            have hG9 : zGv (zsI (zsI S 240 (b 0) (zb (¬ (0 ≤ p0 ∧ p0 ≤ 3)))) 240 (b 0) 0) S93 q87 := (zGv.nO kq87).tr i13
            have hM9 := zMd.cls (zCls.gv hG9 kq87) hMb
            have hM09 := zMd0.cls (zCls.gv hG9 kq87) hMb hM0b
            have hE93 : zSe S93 q87 (b 0) rw9 sn f p2 (fun _ => 0) True 0 := ⟨⟨i1, i2, i3, i4, hM9.1, hM09.1, hM09.2.1, hM09.2.2.1, i5, i7, i8, i9, i10⟩, ⟨Or.inr i6, ⟨fun _ => trivial, fun _ h => absurd (i6.symm.trans h) (by decide)⟩⟩, fun j _ => i11 j, fun j hj => ⟨(i12 j hj).1, (i12 j hj).2.1, (i12 j hj).2.2.1, (i12 j hj).2.2.2.2, Nat.le_of_eq (zct_none (fun t _ => by rw [decide_eq_true_eq]; exact fun q => q ((i12 j hj).2.2.2.1 t)))⟩⟩
            refine lv_astore (lv' := [(7, .ref q87), (6, .int 1), (0, .ref (b 0)), (1, .int p0), (2, .int p1), (3, .int p2), (4, .int p3), (5, .int p4)]) hx hb dX11_serial_96 hl (by decide) rfl (fun ls hl => ?_)
            refine lv_aload hx hb dX11_serial_98 (lv_at hl 0 rfl) ?_
            refine zgetN (a := q87) (k := 13) (j := 1) (b := true) (v := .ref sn) (ref := "ProbehallModel$Sending") (host := "ProbehallModel") (Cn := RX9) (T := TX9) (N := 5) C hw hE93.1.1 (by decide) (by decide) rfl in_X9 rfl (by decide) (by decide +kernel) (fun _ h => h) (show va_rf (zQ S93 209 q87) = .ref sn by rw [show zQ S93 209 q87 = some sn from hE93.1.2.2.1]; rfl) dX11_serial_100 ?_
            refine lv_iload_n hx hb dX11_serial_103 rfl (lv_at hl 3 rfl) ?_
            refine lv_iconst (v := 1) hx hb dX11_serial_104 (by decide) ?_
            refine zast_Z (a := sn) C hw hE93.1.2.2.2.2.2.2.2.2.2.2.2.1 hE93.1.2.2.2.2.2.2.2.2.2.2.2.2 (zin_of (N := 4) (by decide) (by grind) (by grind)) dX11_serial_105 (fun H locs hw => ?_)
            have hP9 := zSe_put (p0 := p0) (v := 1) hE93 (Or.inr rfl)
            have hE105 : zSe (zsR S93 23 sn (upd (zR S93 23 sn) (p0).toNatClampNeg (vp_nar .boolean 1))) q87 (b 0) rw9 sn f p2 (fun j => if j = p0.toNatClampNeg then zlS p1 p4 (0) else 0) (zgd (zlS p1 p4) (ztk p2 p3) (0)) (0) := hP9.1.weak (fun _ _ => rfl) (zgd_0 _ _) (Nat.le_refl _)
            refine lv_aload hx hb dX11_serial_106 (lv_at hl 0 rfl) ?_
            refine lv_iload_n hx hb dX11_serial_108 rfl (lv_at hl 3 rfl) ?_
            refine lv_iconst (v := 0) hx hb dX11_serial_109 (by decide) ?_
            refine zrd (x := (nI 0 * p3)) (by rw [nI_0, Int32.zero_mul]) ?_
            refine lv_iconst (v := 0) hx hb dX11_serial_110 (by decide) ?_
            refine zcV_v (As := [.int p0, .int (nI 0 * p3), .int 0]) (rest := []) (n9 := 3) (b := q87) C hw (c_X9_tells l D y base (zsR S93 23 sn (upd (zR S93 23 sn) (p0).toNatClampNeg (vp_nar .boolean 1))) q87 (b 0) rw9 sn (f p0.toNatClampNeg) p2 _ (if p0.toNatClampNeg = p0.toNatClampNeg then zlS p1 p4 (0) else 0) p0 (nI 0 * p3) 0 hE105.1.1 hE105.1.2.1 hE105.1.2.2.1 hE105.1.2.2.2.1 hE105.1.2.2.2.2.1 hE105.1.2.2.2.2.2.1 hE105.1.2.2.2.2.2.2.2.2.1 rfl hE105.2.1.1 hE105.1.2.2.2.2.2.2.2.2.2.1 hE105.1.2.2.2.2.2.2.2.2.2.2.1 hE105.1.2.2.2.2.2.2.2.2.2.2.2.1 hE105.1.2.2.2.2.2.2.2.2.2.2.2.2 (hE105.2.2.1 _ (z_cl4 hp0)) hp0 (hE105.2.2.2 _ (z_cl4 hp0)).1 (hE105.2.2.2 _ (z_cl4 hp0)).2.1 (hE105.2.2.2 _ (z_cl4 hp0)).2.2.1 (hE105.2.2.2 _ (z_cl4 hp0)).2.2.2.1 (Or.inl rfl) (ztk_nn (m := 0) hp2 hp3 (by decide))) gX11_serial_X9_tells rfl (by decide +kernel) ⟨⟨rfl, rfl⟩, Nat.le_of_ble_eq_true rfl, Nat.le_of_ble_eq_true rfl⟩ hE105.1.1 ⟨by decide, by decide⟩ rfl rfl hl.1 rfl (Nat.le_of_ble_eq_true rfl) ⟨Nat.le_of_ble_eq_true rfl, Nat.le_of_ble_eq_true rfl⟩ dX11_serial_111 (fun S111 H locs hp111 hw => ?_)
            have hE111 : zSe S111 q87 (b 0) rw9 sn f p2 (fun j => if j = p0.toNatClampNeg then zlS p1 p4 (0 + 1) else 0) (zgd (zlS p1 p4) (ztk p2 p3) (0 + 1)) (0 + 1) := (zSe_one (L := zlS p1 p4) (t := ztk p2 p3) (k := 0) hE105 hp0 hser.1.symm rfl hp111).1
            refine lv_iconst (v := 0) hx hb dX11_serial_114 (by decide) ?_
            refine lv_istore (lv' := [(8, .int 0), (7, .ref q87), (6, .int 1), (0, .ref (b 0)), (1, .int p0), (2, .int p1), (3, .int p2), (4, .int p3), (5, .int p4)]) hx hb dX11_serial_115 hl (by decide) rfl (fun ls hl => ?_)
            have lp_2 : ∀ (n9 : Nat) (i : Nat) (S2 : zS) (H : Heap) (locs : List Loc) (ls : Array Slot), 8 - i < n9 → (i ≤ 8) → (zSe S2 q87 (b 0) rw9 sn f p2 (fun j => if j = p0.toNatClampNeg then zlS p1 p4 (i + 1) else 0) (zgd (zlS p1 p4) (ztk p2 p3) (i + 1)) (i + 1)) → zW D y base S2 s H locs → lv_has ls 10 [(8, .int (nI i)), (0, .ref (b 0)), (1, .int p0), (2, .int p1), (3, .int p2), (4, .int p3), (5, .int p4), (7, .ref q87)] → W p l e (headSpec wsX11_serial ({ frames := 3, cells := 7, slots := 40013, locals := 68 })).room s m args below meth c H locs 7 40013 (MQ below (va_Qi (fun (r : Int32) (S1 : zS) => zK S1 (b 0) = 15 ∧ zI S1 240 (b 0) = kd_serial p0 p1 p2 p3 p4 ∧ (kd_serial p0 p1 p2 p3 p4 = 0 → r = p2 + nI (zsbN p4) * p3)) (zPost D y base) (zA base)) args s 7 40013 (zA base)) (F0 m 117 ls []) := by
              intro n9
              induction n9 with
              | zero =>
                intro i S2 H locs ls hn9
                exact absurd hn9 (Nat.not_lt_zero _)
              | succ n9 ih_1 =>
                intro i S2 H locs ls hn9 hi hE2 hw hl
                refine lv_iload hx hb dX11_serial_117 (lv_at hl 0 rfl) ?_
                refine lv_bipush (v := 8) hx hb dX11_serial_119 (by decide) ?_
                refine lv_icmp_ge (tgt := 158) hx hb dX11_serial_121 (by decide) (fun c121 => ?_) (fun c121 => ?_)
                · have hie : i = 8 := by have := z_ge (n := 8) c121 (by omega) (by omega); omega
                  refine lv_bipush (v := 9) hx hb dX11_serial_158 (by decide) ?_
                  refine lv_istore (lv' := [(8, .int 9), (0, .ref (b 0)), (1, .int p0), (2, .int p1), (3, .int p2), (4, .int p3), (5, .int p4), (7, .ref q87)]) hx hb dX11_serial_160 hl (by decide) rfl (fun ls hl => ?_)
                  refine lv_iload hx hb dX11_serial_162 (lv_at hl 6 rfl) ?_
                  refine lv_bipush (v := 110) hx hb dX11_serial_164 (by decide) ?_
                  refine lv_icmp_eq (tgt := 222) hx hb dX11_serial_166 (by decide) (fun c166 => ?_) (fun c166 => ?_)
                  · have hEz : zSe S2 q87 (b 0) rw9 sn f p2 (fun j => if j = p0.toNatClampNeg then zlS p1 p4 (9) else 0) (zgd (zlS p1 p4) (ztk p2 p3) (9)) (9) := (by rw [hie] at hE2; exact hE2)
                    refine lv_aload hx hb dX11_serial_222 (lv_at hl 7 rfl) ?_
                    refine lv_iload_n hx hb dX11_serial_224 rfl (lv_at hl 2 rfl) ?_
                    refine lv_iload hx hb dX11_serial_225 (lv_at hl 0 rfl) ?_
                    refine lv_iload hx hb dX11_serial_227 (lv_at hl 5 rfl) ?_
                    refine lv_imul hx hb dX11_serial_229 ?_
                    refine zrd (x := (nI 9 * p3)) rfl ?_
                    refine lv_iconst (v := 1) hx hb dX11_serial_230 (by decide) ?_
                    refine zcV_v (As := [.int p0, .int (nI 9 * p3), .int 1]) (rest := []) (n9 := 3) (b := q87) C hw (c_X9_tells l D y base S2 q87 (b 0) rw9 sn (f p0.toNatClampNeg) p2 _ (if p0.toNatClampNeg = p0.toNatClampNeg then zlS p1 p4 (9) else 0) p0 (nI 9 * p3) 1 hEz.1.1 hEz.1.2.1 hEz.1.2.2.1 hEz.1.2.2.2.1 hEz.1.2.2.2.2.1 hEz.1.2.2.2.2.2.1 hEz.1.2.2.2.2.2.2.2.2.1 rfl hEz.2.1.1 hEz.1.2.2.2.2.2.2.2.2.2.1 hEz.1.2.2.2.2.2.2.2.2.2.2.1 hEz.1.2.2.2.2.2.2.2.2.2.2.2.1 hEz.1.2.2.2.2.2.2.2.2.2.2.2.2 (hEz.2.2.1 _ (z_cl4 hp0)) hp0 (hEz.2.2.2 _ (z_cl4 hp0)).1 (hEz.2.2.2 _ (z_cl4 hp0)).2.1 (hEz.2.2.2 _ (z_cl4 hp0)).2.2.1 (hEz.2.2.2 _ (z_cl4 hp0)).2.2.2.1 (Or.inr rfl) (ztk_nn (m := 9) hp2 hp3 (by decide))) gX11_serial_X9_tells rfl (by decide +kernel) ⟨⟨rfl, rfl⟩, Nat.le_of_ble_eq_true rfl, Nat.le_of_ble_eq_true rfl⟩ hEz.1.1 ⟨by decide, by decide⟩ rfl rfl hl.1 rfl (Nat.le_of_ble_eq_true rfl) ⟨Nat.le_of_ble_eq_true rfl, Nat.le_of_ble_eq_true rfl⟩ dX11_serial_231 (fun S231 H locs hp231 hw => ?_)
                    have hE231 : zSe S231 q87 (b 0) rw9 sn f p2 (fun j => if j = p0.toNatClampNeg then zlS p1 p4 (9 + 1) else 0) (zgd (zlS p1 p4) (ztk p2 p3) (9 + 1)) (9 + 1) := (zSe_one (L := zlS p1 p4) (t := ztk p2 p3) (k := 9) hEz hp0 (hser.2.2.1 c166).symm rfl hp231).1
                    refine lv_aload hx hb dX11_serial_234 (lv_at hl 7 rfl) ?_
                    refine lv_iload hx hb dX11_serial_236 (lv_at hl 0 rfl) ?_
                    refine lv_iconst (v := 1) hx hb dX11_serial_238 (by decide) ?_
                    refine lv_iadd hx hb dX11_serial_239 ?_
                    refine zrd (x := 10) (by decide) ?_
                    refine zrd (x := (nI 10)) rfl ?_
                    refine lv_iload hx hb dX11_serial_240 (lv_at hl 5 rfl) ?_
                    refine lv_imul hx hb dX11_serial_242 ?_
                    refine zcV_i (As := [.int ((nI 10) * p3)]) (rest := []) (n9 := 1) (b := q87) C hw (c_X9_ends l D y base S231 q87 (b 0) rw9 f p2 _ ((nI 10) * p3) hE231.1.1 hE231.1.2.1 hE231.1.2.2.2.1 hE231.1.2.2.2.2.1 hE231.1.2.2.2.2.2.1 hE231.1.2.2.2.2.2.2.2.2.1 rfl hE231.1.2.2.2.2.2.2.2.2.2.1 hE231.1.2.2.2.2.2.2.2.2.2.2.1 (hE231.ends (by omega))) gX11_serial_X9_ends rfl (by decide +kernel) ⟨⟨rfl, rfl⟩, Nat.le_of_ble_eq_true rfl, Nat.le_of_ble_eq_true rfl⟩ hE231.1.1 ⟨by decide, by decide⟩ rfl rfl hl.1 rfl (Nat.le_of_ble_eq_true rfl) ⟨Nat.le_of_ble_eq_true rfl, Nat.le_of_ble_eq_true rfl⟩ dX11_serial_243 (fun r243 S243 H locs hp243 hw => ?_)
                    exact zri C hw hr hlocks rfl ⟨hp243.1, zend (G := zgd (zlS p1 p4) (ztk p2 p3) (zsbN p4)) (by rw [show zsbN p4 = 9 + 1 from if_pos c166]; exact hE231.2.1.2) hkg hp243.2.1 (fun q => (hp243.2.2 q).trans (by rw [show zsbN p4 = 9 + 1 from if_pos c166]))⟩ ⟨Nat.le_of_ble_eq_true rfl, Nat.le_of_ble_eq_true rfl⟩ dX11_serial_246
                  · have jn_3 : ∀ (od_4 : Int32) (H : Heap) (locs : List Loc) (ls : Array Slot), zW D y base S2 s H locs → lv_has ls 10 [(8, .int 9), (0, .ref (b 0)), (1, .int p0), (2, .int p1), (3, .int p2), (4, .int p3), (5, .int p4), (7, .ref q87)] → (od_4 = (if zbc p1 - zbc p1 / 2 * 2 = 1 then (1 : Int32) else 0)) → W p l e (headSpec wsX11_serial ({ frames := 3, cells := 7, slots := 40013, locals := 68 })).room s m args below meth c H locs 7 40013 (MQ below (va_Qi (fun (r : Int32) (S1 : zS) => zK S1 (b 0) = 15 ∧ zI S1 240 (b 0) = kd_serial p0 p1 p2 p3 p4 ∧ (kd_serial p0 p1 p2 p3 p4 = 0 → r = p2 + nI (zsbN p4) * p3)) (zPost D y base) (zA base)) args s 7 40013 (zA base)) (F0 m 184 ls [.int od_4]) := by
                      intro od_4 H locs ls hw hl f_5
                      have fod := f_5
                      refine lv_istore (lv' := [(9, .int od_4), (8, .int 9), (0, .ref (b 0)), (1, .int p0), (2, .int p1), (3, .int p2), (4, .int p3), (5, .int p4), (7, .ref q87)]) hx hb dX11_serial_184 hl (by decide) rfl (fun ls hl => ?_)
                      refine lv_aload hx hb dX11_serial_186 (lv_at hl 8 rfl) ?_
                      refine lv_iload_n hx hb dX11_serial_188 rfl (lv_at hl 3 rfl) ?_
                      refine lv_iload hx hb dX11_serial_189 (lv_at hl 1 rfl) ?_
                      refine lv_iload hx hb dX11_serial_191 (lv_at hl 6 rfl) ?_
                      refine lv_imul hx hb dX11_serial_193 ?_
                      refine zrd (x := (nI 9 * p3)) rfl ?_
                      have jn_6 : ∀ (v_7 : Int32) (H : Heap) (locs : List Loc) (ls : Array Slot), zW D y base S2 s H locs → lv_has ls 10 [(9, .int od_4), (8, .int 9), (0, .ref (b 0)), (1, .int p0), (2, .int p1), (3, .int p2), (4, .int p3), (5, .int p4), (7, .ref q87)] → (v_7 = zlS p1 p4 10) → W p l e (headSpec wsX11_serial ({ frames := 3, cells := 7, slots := 40013, locals := 68 })).room s m args below meth c H locs 7 40013 (MQ below (va_Qi (fun (r : Int32) (S1 : zS) => zK S1 (b 0) = 15 ∧ zI S1 240 (b 0) = kd_serial p0 p1 p2 p3 p4 ∧ (kd_serial p0 p1 p2 p3 p4 = 0 → r = p2 + nI (zsbN p4) * p3)) (zPost D y base) (zA base)) args s 7 40013 (zA base)) (F0 m 216 ls [.int v_7, .int (nI 9 * p3), .int p0, .ref q87]) := by
                        intro v_7 H locs ls hw hl f_8
                        have fv := f_8
                        have hEi : zSe S2 q87 (b 0) rw9 sn f p2 (fun j => if j = p0.toNatClampNeg then zlS p1 p4 (9) else 0) (zgd (zlS p1 p4) (ztk p2 p3) (9)) (9) := (by rw [hie] at hE2; exact hE2)
                        refine zcV_v (As := [.int p0, .int (nI 9 * p3), .int v_7]) (rest := []) (n9 := 3) (b := q87) C hw (c_X9_tells l D y base S2 q87 (b 0) rw9 sn (f p0.toNatClampNeg) p2 _ (if p0.toNatClampNeg = p0.toNatClampNeg then zlS p1 p4 (9) else 0) p0 (nI 9 * p3) v_7 hEi.1.1 hEi.1.2.1 hEi.1.2.2.1 hEi.1.2.2.2.1 hEi.1.2.2.2.2.1 hEi.1.2.2.2.2.2.1 hEi.1.2.2.2.2.2.2.2.2.1 rfl hEi.2.1.1 hEi.1.2.2.2.2.2.2.2.2.2.1 hEi.1.2.2.2.2.2.2.2.2.2.2.1 hEi.1.2.2.2.2.2.2.2.2.2.2.2.1 hEi.1.2.2.2.2.2.2.2.2.2.2.2.2 (hEi.2.2.1 _ (z_cl4 hp0)) hp0 (hEi.2.2.2 _ (z_cl4 hp0)).1 (hEi.2.2.2 _ (z_cl4 hp0)).2.1 (hEi.2.2.2 _ (z_cl4 hp0)).2.2.1 (hEi.2.2.2 _ (z_cl4 hp0)).2.2.2.1 (by rw [fv]; exact zlS_01 _) (ztk_nn (m := 9) hp2 hp3 (by decide))) gX11_serial_X9_tells rfl (by decide +kernel) ⟨⟨rfl, rfl⟩, Nat.le_of_ble_eq_true rfl, Nat.le_of_ble_eq_true rfl⟩ hE2.1.1 ⟨by decide, by decide⟩ rfl rfl hl.1 rfl (Nat.le_of_ble_eq_true rfl) ⟨Nat.le_of_ble_eq_true rfl, Nat.le_of_ble_eq_true rfl⟩ dX11_serial_216 (fun S216 H locs hp216 hw => ?_)
                        have hE216 : zSe S216 q87 (b 0) rw9 sn f p2 (fun j => if j = p0.toNatClampNeg then zlS p1 p4 (9 + 1) else 0) (zgd (zlS p1 p4) (ztk p2 p3) (9 + 1)) (9 + 1) := (zSe_one (L := zlS p1 p4) (t := ztk p2 p3) (k := 9) hEi hp0 fv rfl hp216).1
                        refine lv_iinc (v := 10) (lv' := [(8, .int 10), (9, .int od_4), (0, .ref (b 0)), (1, .int p0), (2, .int p1), (3, .int p2), (4, .int p3), (5, .int p4), (7, .ref q87)]) hx hb dX11_serial_219 hl (k := 1) rfl (by decide) (by decide) rfl (fun ls hl => ?_)
                        have hEz : zSe S216 q87 (b 0) rw9 sn f p2 (fun j => if j = p0.toNatClampNeg then zlS p1 p4 (10) else 0) (zgd (zlS p1 p4) (ztk p2 p3) (10)) (10) := hE216
                        refine lv_aload hx hb dX11_serial_222 (lv_at hl 8 rfl) ?_
                        refine lv_iload_n hx hb dX11_serial_224 rfl (lv_at hl 3 rfl) ?_
                        refine lv_iload hx hb dX11_serial_225 (lv_at hl 0 rfl) ?_
                        refine lv_iload hx hb dX11_serial_227 (lv_at hl 6 rfl) ?_
                        refine lv_imul hx hb dX11_serial_229 ?_
                        refine zrd (x := (nI 10 * p3)) rfl ?_
                        refine lv_iconst (v := 1) hx hb dX11_serial_230 (by decide) ?_
                        refine zcV_v (As := [.int p0, .int (nI 10 * p3), .int 1]) (rest := []) (n9 := 3) (b := q87) C hw (c_X9_tells l D y base S216 q87 (b 0) rw9 sn (f p0.toNatClampNeg) p2 _ (if p0.toNatClampNeg = p0.toNatClampNeg then zlS p1 p4 (10) else 0) p0 (nI 10 * p3) 1 hEz.1.1 hEz.1.2.1 hEz.1.2.2.1 hEz.1.2.2.2.1 hEz.1.2.2.2.2.1 hEz.1.2.2.2.2.2.1 hEz.1.2.2.2.2.2.2.2.2.1 rfl hEz.2.1.1 hEz.1.2.2.2.2.2.2.2.2.2.1 hEz.1.2.2.2.2.2.2.2.2.2.2.1 hEz.1.2.2.2.2.2.2.2.2.2.2.2.1 hEz.1.2.2.2.2.2.2.2.2.2.2.2.2 (hEz.2.2.1 _ (z_cl4 hp0)) hp0 (hEz.2.2.2 _ (z_cl4 hp0)).1 (hEz.2.2.2 _ (z_cl4 hp0)).2.1 (hEz.2.2.2 _ (z_cl4 hp0)).2.2.1 (hEz.2.2.2 _ (z_cl4 hp0)).2.2.2.1 (Or.inr rfl) (ztk_nn (m := 10) hp2 hp3 (by decide))) gX11_serial_X9_tells rfl (by decide +kernel) ⟨⟨rfl, rfl⟩, Nat.le_of_ble_eq_true rfl, Nat.le_of_ble_eq_true rfl⟩ hEz.1.1 ⟨by decide, by decide⟩ rfl rfl hl.1 rfl (Nat.le_of_ble_eq_true rfl) ⟨Nat.le_of_ble_eq_true rfl, Nat.le_of_ble_eq_true rfl⟩ dX11_serial_231 (fun S231 H locs hp231 hw => ?_)
                        have hE231 : zSe S231 q87 (b 0) rw9 sn f p2 (fun j => if j = p0.toNatClampNeg then zlS p1 p4 (10 + 1) else 0) (zgd (zlS p1 p4) (ztk p2 p3) (10 + 1)) (10 + 1) := (zSe_one (L := zlS p1 p4) (t := ztk p2 p3) (k := 10) hEz hp0 (hser.2.2.2 c166).2.symm rfl hp231).1
                        refine lv_aload hx hb dX11_serial_234 (lv_at hl 8 rfl) ?_
                        refine lv_iload hx hb dX11_serial_236 (lv_at hl 0 rfl) ?_
                        refine lv_iconst (v := 1) hx hb dX11_serial_238 (by decide) ?_
                        refine lv_iadd hx hb dX11_serial_239 ?_
                        refine zrd (x := 11) (by decide) ?_
                        refine zrd (x := (nI 11)) rfl ?_
                        refine lv_iload hx hb dX11_serial_240 (lv_at hl 6 rfl) ?_
                        refine lv_imul hx hb dX11_serial_242 ?_
                        refine zcV_i (As := [.int ((nI 11) * p3)]) (rest := []) (n9 := 1) (b := q87) C hw (c_X9_ends l D y base S231 q87 (b 0) rw9 f p2 _ ((nI 11) * p3) hE231.1.1 hE231.1.2.1 hE231.1.2.2.2.1 hE231.1.2.2.2.2.1 hE231.1.2.2.2.2.2.1 hE231.1.2.2.2.2.2.2.2.2.1 rfl hE231.1.2.2.2.2.2.2.2.2.2.1 hE231.1.2.2.2.2.2.2.2.2.2.2.1 (hE231.ends (by omega))) gX11_serial_X9_ends rfl (by decide +kernel) ⟨⟨rfl, rfl⟩, Nat.le_of_ble_eq_true rfl, Nat.le_of_ble_eq_true rfl⟩ hE231.1.1 ⟨by decide, by decide⟩ rfl rfl hl.1 rfl (Nat.le_of_ble_eq_true rfl) ⟨Nat.le_of_ble_eq_true rfl, Nat.le_of_ble_eq_true rfl⟩ dX11_serial_243 (fun r243 S243 H locs hp243 hw => ?_)
                        exact zri C hw hr hlocks rfl ⟨hp243.1, zend (G := zgd (zlS p1 p4) (ztk p2 p3) (zsbN p4)) (by rw [show zsbN p4 = 10 + 1 from if_neg c166]; exact hE231.2.1.2) hkg hp243.2.1 (fun q => (hp243.2.2 q).trans (by rw [show zsbN p4 = 10 + 1 from if_neg c166]))⟩ ⟨Nat.le_of_ble_eq_true rfl, Nat.le_of_ble_eq_true rfl⟩ dX11_serial_246
                      refine lv_iload hx hb dX11_serial_194 (lv_at hl 0 rfl) ?_
                      refine lv_iload hx hb dX11_serial_196 (lv_at hl 7 rfl) ?_
                      refine lv_bipush (v := 101) hx hb dX11_serial_198 (by decide) ?_
                      refine lv_icmp_ne (tgt := 207) hx hb dX11_serial_200 (by decide) (fun c200 => ?_) (fun c200 => ?_)
                      · refine lv_iconst (v := 0) hx hb dX11_serial_207 (by decide) ?_
                        refine lv_icmp_ne (tgt := 215) hx hb dX11_serial_208 (by decide) (fun c208 => ?_) (fun c208 => ?_)
                        · refine lv_iconst (v := 0) hx hb dX11_serial_215 (by decide) ?_
                          exact jn_6 0 _ _ _ hw (lv_sub hl [0, 1, 2, 3, 4, 5, 6, 7, 8] rfl) (by rw [(hser.2.2.2 c166).1]; first | exact zpl_t fod (if_pos c200) c208 | exact zpl_t fod (if_neg c200) c208 | exact zpl_f fod (if_pos c200) c208 | exact zpl_f fod (if_neg c200) c208)
                        · refine lv_iconst (v := 1) hx hb dX11_serial_211 (by decide) ?_
                          refine lv_goto (tgt := 216) hx hb dX11_serial_212 (by decide) ?_
                          exact jn_6 1 _ _ _ hw (lv_sub hl [0, 1, 2, 3, 4, 5, 6, 7, 8] rfl) (by rw [(hser.2.2.2 c166).1]; first | exact zpl_t fod (if_pos c200) c208 | exact zpl_t fod (if_neg c200) c208 | exact zpl_f fod (if_pos c200) c208 | exact zpl_f fod (if_neg c200) c208)
                      · refine lv_iconst (v := 1) hx hb dX11_serial_203 (by decide) ?_
                        refine lv_goto (tgt := 208) hx hb dX11_serial_204 (by decide) ?_
                        refine lv_icmp_ne (tgt := 215) hx hb dX11_serial_208 (by decide) (fun c208 => ?_) (fun c208 => ?_)
                        · refine lv_iconst (v := 0) hx hb dX11_serial_215 (by decide) ?_
                          exact jn_6 0 _ _ _ hw (lv_sub hl [0, 1, 2, 3, 4, 5, 6, 7, 8] rfl) (by rw [(hser.2.2.2 c166).1]; first | exact zpl_t fod (if_pos c200) c208 | exact zpl_t fod (if_neg c200) c208 | exact zpl_f fod (if_pos c200) c208 | exact zpl_f fod (if_neg c200) c208)
                        · refine lv_iconst (v := 1) hx hb dX11_serial_211 (by decide) ?_
                          refine lv_goto (tgt := 216) hx hb dX11_serial_212 (by decide) ?_
                          exact jn_6 1 _ _ _ hw (lv_sub hl [0, 1, 2, 3, 4, 5, 6, 7, 8] rfl) (by rw [(hser.2.2.2 c166).1]; first | exact zpl_t fod (if_pos c200) c208 | exact zpl_t fod (if_neg c200) c208 | exact zpl_f fod (if_pos c200) c208 | exact zpl_f fod (if_neg c200) c208)
                    refine lv_iload_n hx hb dX11_serial_169 rfl (lv_at hl 3 rfl) ?_
                    refine zcS_i (As := [.int p1]) (rest := []) (n9 := 1) C hw (c_J6_bitCount_0f7a4 l D y base S2 p1 ) gX11_serial_J6_bitCount_0f7a4 rfl (by decide +kernel) ⟨⟨rfl, rfl⟩, Nat.le_of_ble_eq_true rfl, Nat.le_of_ble_eq_true rfl⟩ rfl hl.1 rfl (Nat.le_of_ble_eq_true rfl) ⟨Nat.le_of_ble_eq_true rfl, Nat.le_of_ble_eq_true rfl⟩ dX11_serial_170 (fun r170 S170 H locs hp170 hw => ?_)
                    obtain ⟨rfl, hS9⟩ := hp170
                    have hS9 := hS9.symm
                    subst hS9
                    refine lv_iconst (v := 2) hx hb dX11_serial_173 (by decide) ?_
                    refine lv_irem hx hb dX11_serial_174 (by decide) ?_
                    refine lv_iconst (v := 1) hx hb dX11_serial_175 (by decide) ?_
                    refine lv_icmp_ne (tgt := 183) hx hb dX11_serial_176 (by decide) (fun c176 => ?_) (fun c176 => ?_)
                    · refine lv_iconst (v := 0) hx hb dX11_serial_183 (by decide) ?_
                      exact jn_3 0 _ _ _ hw (lv_sub hl [0, 1, 2, 3, 4, 5, 6, 7] rfl) (by first | rw [if_pos c176] | rw [if_neg c176])
                    · refine lv_iconst (v := 1) hx hb dX11_serial_179 (by decide) ?_
                      refine lv_goto (tgt := 184) hx hb dX11_serial_180 (by decide) ?_
                      exact jn_3 1 _ _ _ hw (lv_sub hl [0, 1, 2, 3, 4, 5, 6, 7] rfl) (by first | rw [if_pos c176] | rw [if_neg c176])
                · have hi8 := z_lt (n := 8) c121 (by omega) (by omega)
                  refine lv_aload hx hb dX11_serial_124 (lv_at hl 7 rfl) ?_
                  refine lv_iload_n hx hb dX11_serial_126 rfl (lv_at hl 2 rfl) ?_
                  refine lv_iload hx hb dX11_serial_127 (lv_at hl 0 rfl) ?_
                  refine lv_iconst (v := 1) hx hb dX11_serial_129 (by decide) ?_
                  refine lv_iadd hx hb dX11_serial_130 ?_
                  refine zrd (x := (nI (i + 1))) (nI_1 _) ?_
                  refine lv_iload hx hb dX11_serial_131 (lv_at hl 5 rfl) ?_
                  refine lv_imul hx hb dX11_serial_133 ?_
                  refine lv_iload_n hx hb dX11_serial_134 rfl (lv_at hl 3 rfl) ?_
                  refine lv_iload hx hb dX11_serial_135 (lv_at hl 0 rfl) ?_
                  refine lv_ishr hx hb dX11_serial_137 ?_
                  refine lv_iconst (v := 1) hx hb dX11_serial_138 (by decide) ?_
                  refine lv_iand hx hb dX11_serial_139 ?_
                  refine lv_iconst (v := 1) hx hb dX11_serial_140 (by decide) ?_
                  refine lv_icmp_ne (tgt := 148) hx hb dX11_serial_141 (by decide) (fun c141 => ?_) (fun c141 => ?_)
                  · refine lv_iconst (v := 0) hx hb dX11_serial_148 (by decide) ?_
                    refine zrd (x := (zlS p1 p4 (i + 2))) (by rw [hser.2.1 i hi8]; exact zbv_0 c141) ?_
                    refine zcV_v (As := [.int p0, .int ((nI (i + 1)) * p3), .int (zlS p1 p4 (i + 2))]) (rest := []) (n9 := 3) (b := q87) C hw (c_X9_tells l D y base S2 q87 (b 0) rw9 sn (f p0.toNatClampNeg) p2 _ (if p0.toNatClampNeg = p0.toNatClampNeg then zlS p1 p4 (i + 1) else 0) p0 ((nI (i + 1)) * p3) (zlS p1 p4 (i + 2)) hE2.1.1 hE2.1.2.1 hE2.1.2.2.1 hE2.1.2.2.2.1 hE2.1.2.2.2.2.1 hE2.1.2.2.2.2.2.1 hE2.1.2.2.2.2.2.2.2.2.1 rfl hE2.2.1.1 hE2.1.2.2.2.2.2.2.2.2.2.1 hE2.1.2.2.2.2.2.2.2.2.2.2.1 hE2.1.2.2.2.2.2.2.2.2.2.2.2.1 hE2.1.2.2.2.2.2.2.2.2.2.2.2.2 (hE2.2.2.1 _ (z_cl4 hp0)) hp0 (hE2.2.2.2 _ (z_cl4 hp0)).1 (hE2.2.2.2 _ (z_cl4 hp0)).2.1 (hE2.2.2.2 _ (z_cl4 hp0)).2.2.1 (hE2.2.2.2 _ (z_cl4 hp0)).2.2.2.1 (zlS_01 _) (ztk_nn (m := i + 1) hp2 hp3 (by omega))) gX11_serial_X9_tells rfl (by decide +kernel) ⟨⟨rfl, rfl⟩, Nat.le_of_ble_eq_true rfl, Nat.le_of_ble_eq_true rfl⟩ hE2.1.1 ⟨by decide, by decide⟩ rfl rfl hl.1 rfl (Nat.le_of_ble_eq_true rfl) ⟨Nat.le_of_ble_eq_true rfl, Nat.le_of_ble_eq_true rfl⟩ dX11_serial_149 (fun S149 H locs hp149 hw => ?_)
                    have hE149 : zSe S149 q87 (b 0) rw9 sn f p2 (fun j => if j = p0.toNatClampNeg then zlS p1 p4 (i + 1 + 1) else 0) (zgd (zlS p1 p4) (ztk p2 p3) (i + 1 + 1)) (i + 1 + 1) := (zSe_one (L := zlS p1 p4) (t := ztk p2 p3) (k := i + 1) hE2 hp0 rfl rfl hp149).1
                    refine lv_iinc (v := (nI (i + 1))) (lv' := [(8, .int (nI (i + 1))), (0, .ref (b 0)), (1, .int p0), (2, .int p1), (3, .int p2), (4, .int p3), (5, .int p4), (7, .ref q87)]) hx hb dX11_serial_152 hl (k := 0) rfl (nI_1 _) (by decide) rfl (fun ls hl => ?_)
                    refine lv_goto (tgt := 117) hx hb dX11_serial_155 (by decide) ?_
                    exact ih_1 (i + 1) S149 _ _ _ (by omega) (by omega) hE149 hw (lv_sub hl [0, 1, 2, 3, 4, 5, 6, 7] rfl)
                  · refine lv_iconst (v := 1) hx hb dX11_serial_144 (by decide) ?_
                    refine zrd (x := (zlS p1 p4 (i + 2))) (by rw [hser.2.1 i hi8]; exact zbv_1 c141) ?_
                    refine lv_goto (tgt := 149) hx hb dX11_serial_145 (by decide) ?_
                    refine zcV_v (As := [.int p0, .int ((nI (i + 1)) * p3), .int (zlS p1 p4 (i + 2))]) (rest := []) (n9 := 3) (b := q87) C hw (c_X9_tells l D y base S2 q87 (b 0) rw9 sn (f p0.toNatClampNeg) p2 _ (if p0.toNatClampNeg = p0.toNatClampNeg then zlS p1 p4 (i + 1) else 0) p0 ((nI (i + 1)) * p3) (zlS p1 p4 (i + 2)) hE2.1.1 hE2.1.2.1 hE2.1.2.2.1 hE2.1.2.2.2.1 hE2.1.2.2.2.2.1 hE2.1.2.2.2.2.2.1 hE2.1.2.2.2.2.2.2.2.2.1 rfl hE2.2.1.1 hE2.1.2.2.2.2.2.2.2.2.2.1 hE2.1.2.2.2.2.2.2.2.2.2.2.1 hE2.1.2.2.2.2.2.2.2.2.2.2.2.1 hE2.1.2.2.2.2.2.2.2.2.2.2.2.2 (hE2.2.2.1 _ (z_cl4 hp0)) hp0 (hE2.2.2.2 _ (z_cl4 hp0)).1 (hE2.2.2.2 _ (z_cl4 hp0)).2.1 (hE2.2.2.2 _ (z_cl4 hp0)).2.2.1 (hE2.2.2.2 _ (z_cl4 hp0)).2.2.2.1 (zlS_01 _) (ztk_nn (m := i + 1) hp2 hp3 (by omega))) gX11_serial_X9_tells rfl (by decide +kernel) ⟨⟨rfl, rfl⟩, Nat.le_of_ble_eq_true rfl, Nat.le_of_ble_eq_true rfl⟩ hE2.1.1 ⟨by decide, by decide⟩ rfl rfl hl.1 rfl (Nat.le_of_ble_eq_true rfl) ⟨Nat.le_of_ble_eq_true rfl, Nat.le_of_ble_eq_true rfl⟩ dX11_serial_149 (fun S149 H locs hp149 hw => ?_)
                    have hE149 : zSe S149 q87 (b 0) rw9 sn f p2 (fun j => if j = p0.toNatClampNeg then zlS p1 p4 (i + 1 + 1) else 0) (zgd (zlS p1 p4) (ztk p2 p3) (i + 1 + 1)) (i + 1 + 1) := (zSe_one (L := zlS p1 p4) (t := ztk p2 p3) (k := i + 1) hE2 hp0 rfl rfl hp149).1
                    refine lv_iinc (v := (nI (i + 1))) (lv' := [(8, .int (nI (i + 1))), (0, .ref (b 0)), (1, .int p0), (2, .int p1), (3, .int p2), (4, .int p3), (5, .int p4), (7, .ref q87)]) hx hb dX11_serial_152 hl (k := 0) rfl (nI_1 _) (by decide) rfl (fun ls hl => ?_)
                    refine lv_goto (tgt := 117) hx hb dX11_serial_155 (by decide) ?_
                    exact ih_1 (i + 1) S149 _ _ _ (by omega) (by omega) hE149 hw (lv_sub hl [0, 1, 2, 3, 4, 5, 6, 7] rfl)
            exact lp_2 _ 0 S111 _ _ _ (Nat.lt_succ_self _) (Nat.zero_le _) hE111 hw (lv_sub hl [0, 3, 4, 5, 6, 7, 8, 1] rfl)
  · replace c5 := zb1.mp c5
    refine lv_iconst (v := 0) hx hb dX11_serial_8 (by decide) ?_
    exact zri C hw hr hlocks rfl ⟨hM.1, ((zI_s S 240 (b 0) (zb (¬ (0 ≤ p0 ∧ p0 ≤ 3))))).trans (by unfold kd_serial; (try unfold zb); grind), (fun h9 => by first | rfl | (revert h9; unfold kd_serial; (try unfold zb); grind))⟩ ⟨Nat.le_of_ble_eq_true rfl, Nat.le_of_ble_eq_true rfl⟩ dX11_serial_9

