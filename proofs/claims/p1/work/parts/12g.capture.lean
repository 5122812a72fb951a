set_option maxHeartbeats 4000000 in
set_option maxRecDepth 100000 in
/-- X11_capture -/
theorem c_X11_capture (l : Launch) (D : va_G) (y : Nat → ClassId) (base : Nat) (S : zS) (b : Nat → Nat) (p0 : Int32) (p1 : Int32) (p2 : Int32) (p3 : Int32) (hM : zMd S b) (hM0 : zMd0 S b) : zMi l yX11_capture wsX11_capture ({ frames := 2, cells := 2, slots := 404, locals := 46 }) [.ref (b 0), .int p0, .int p1, .int p2, .int p3] D y base S (fun (r : Int32) (S1 : zS) => zK S1 (b 0) = 15 ∧ zI S1 240 (b 0) = kd_capture p0 p1 p2 p3 ∧ (kd_capture p0 p1 p2 p3 = 0 → r = 0)) 2 404 := by
  refine zMet_of (cc := cX11_capture) (maxL := 12) (ret := (some .int)) (own := RX11) (by decide +kernel) rfl rfl (Nat.le_of_ble_eq_true rfl) ?_
  intro p e s m args below meth c ls C hr hlocks hnm hw hl
  have hx := C.1
  have hb := C.2.1
  have hown := C.2.2.2.1
  have hts := C.2.2.2.2
  have hl : lv_has ls 12 [(0, .ref (b 0)), (1, .int p0), (2, .int p1), (3, .int p2), (4, .int p3)] := hl
  have in_X11 : ∀ w ∈ wsX110, w ∈ wsX11_capture := by decide +kernel
  refine lv_aload_n hx hb dX11_capture_0 rfl (lv_at hl 0 rfl) ?_
  refine lv_iload_n hx hb dX11_capture_1 rfl (lv_at hl 1 rfl) ?_
  refine zcV_i (As := [.int p0]) (rest := []) (n9 := 1) (b := (b 0)) C hw (c_X11_noCapture l D y base S (b 0) p0 hM.1) gX11_capture_X11_noCapture rfl (by decide +kernel) ⟨⟨rfl, rfl⟩, Nat.le_of_ble_eq_true rfl, Nat.le_of_ble_eq_true rfl⟩ hM.1 ⟨by decide, by decide⟩ rfl rfl hl.1 rfl (Nat.le_of_ble_eq_true rfl) ⟨Nat.le_of_ble_eq_true rfl, Nat.le_of_ble_eq_true rfl⟩ dX11_capture_2 (fun r2 S2 H locs hp2 hw => ?_)
  obtain ⟨rfl, rfl⟩ := hp2
  refine lv_if_eq (tgt := 10) hx hb dX11_capture_5 (by decide) (fun c5 => ?_) (fun c5 => ?_)
  · replace c5 := zb0.mp c5
    refine lv_iload_n hx hb dX11_capture_10 rfl (lv_at hl 2 rfl) ?_
    refine lv_i2l (v := p1.toInt64) hx hb dX11_capture_11 rfl ?_
    refine lv_lconst (v := ((0 : Int32).toInt64)) hx hb dX11_capture_12 (by decide) ?_
    refine lv_ldc2 (own := RX11) (v := ((9999 : Int32).toInt64)) hx hb hown (hts (.constantLong RX11 60 (9999)) (by decide +kernel)) dX11_capture_13 ?_
    refine zcS_i (As := [.long (p1.toInt64), .long ((0 : Int32).toInt64), .long ((9999 : Int32).toInt64)]) (rest := []) (n9 := 3) C hw (c_X11_in l D y base (zsI S 240 (b 0) (zb (¬ (0 ≤ p0 ∧ p0 ≤ 1)))) p1 (0 : Int32) (9999 : Int32) ) gX11_capture_X11_in rfl (by decide +kernel) ⟨⟨rfl, rfl⟩, Nat.le_of_ble_eq_true rfl, Nat.le_of_ble_eq_true rfl⟩ rfl hl.1 rfl (Nat.le_of_ble_eq_true rfl) ⟨Nat.le_of_ble_eq_true rfl, Nat.le_of_ble_eq_true rfl⟩ dX11_capture_16 (fun r16 S16 H locs hp16 hw => ?_)
    obtain ⟨rfl, hS9⟩ := hp16
    have hS9 := hS9.symm
    subst hS9
    refine lv_if_eq (tgt := 65) hx hb dX11_capture_19 (by decide) (fun c19 => ?_) (fun c19 => ?_)
    · replace c19 := zb0.mp c19
      refine lv_iconst (v := 0) hx hb dX11_capture_65 (by decide) ?_
      refine lv_istore (lv' := [(5, .int 0), (0, .ref (b 0)), (1, .int p0), (2, .int p1), (3, .int p2), (4, .int p3)]) hx hb dX11_capture_66 hl (by decide) rfl (fun ls hl => ?_)
      refine lv_aload_n hx hb dX11_capture_68 rfl (lv_at hl 1 rfl) ?_
      refine lv_iload hx hb dX11_capture_69 (lv_at hl 0 rfl) ?_
      refine lv_if_eq (tgt := 78) hx hb dX11_capture_71 (by decide) (fun _ => ?_) (fun c71 => absurd c71 (by decide))
      refine lv_iconst (v := 2) hx hb dX11_capture_78 (by decide) ?_
      refine p_Mod_thrown (a := (b 0)) (v := 2) C hw hM.1 in_X11 (by decide +kernel) dX11_capture_79 (fun H locs hw => ?_)
      refine lv_aload_n hx hb dX11_capture_82 rfl (lv_at hl 1 rfl) ?_
      refine g_Mod_thrown (a := (b 0)) (v := 2) C hw hM.1 in_X11 (by decide +kernel) (zI_s (zsI S 240 (b 0) (zb (¬ (0 ≤ p0 ∧ p0 ≤ 1)))) 240 (b 0) 2) dX11_capture_83 ?_
      refine lv_if_le (tgt := 91) hx hb dX11_capture_86 (by decide) (fun c86 => absurd c86 (by decide)) (fun _ => ?_)
      refine lv_iconst (v := 0) hx hb dX11_capture_89 (by decide) ?_
      exact zri C hw hr hlocks rfl ⟨hM.1, ((zI_s (zsI S 240 (b 0) (zb (¬ (0 ≤ p0 ∧ p0 ≤ 1)))) 240 (b 0) 2)).trans (by unfold kd_capture; (try unfold zb); grind), (fun h9 => by first | rfl | (revert h9; unfold kd_capture; (try unfold zb); grind))⟩ ⟨Nat.le_of_ble_eq_true rfl, Nat.le_of_ble_eq_true rfl⟩ dX11_capture_90
    · replace c19 := zb1.mp c19
      refine lv_iload_n hx hb dX11_capture_22 rfl (lv_at hl 3 rfl) ?_
      refine lv_i2l (v := p2.toInt64) hx hb dX11_capture_23 rfl ?_
      refine lv_lconst (v := ((1 : Int32).toInt64)) hx hb dX11_capture_24 (by decide) ?_
      refine lv_ldc2 (own := RX11) (v := ((99 : Int32).toInt64)) hx hb hown (hts (.constantLong RX11 75 (99)) (by decide +kernel)) dX11_capture_25 ?_
      refine zcS_i (As := [.long (p2.toInt64), .long ((1 : Int32).toInt64), .long ((99 : Int32).toInt64)]) (rest := []) (n9 := 3) C hw (c_X11_in l D y base (zsI S 240 (b 0) (zb (¬ (0 ≤ p0 ∧ p0 ≤ 1)))) p2 (1 : Int32) (99 : Int32) ) gX11_capture_X11_in rfl (by decide +kernel) ⟨⟨rfl, rfl⟩, Nat.le_of_ble_eq_true rfl, Nat.le_of_ble_eq_true rfl⟩ rfl hl.1 rfl (Nat.le_of_ble_eq_true rfl) ⟨Nat.le_of_ble_eq_true rfl, Nat.le_of_ble_eq_true rfl⟩ dX11_capture_28 (fun r28 S28 H locs hp28 hw => ?_)
      obtain ⟨rfl, hS9⟩ := hp28
      have hS9 := hS9.symm
      subst hS9
      refine lv_if_eq (tgt := 65) hx hb dX11_capture_31 (by decide) (fun c31 => ?_) (fun c31 => ?_)
      · replace c31 := zb0.mp c31
        refine lv_iconst (v := 0) hx hb dX11_capture_65 (by decide) ?_
        refine lv_istore (lv' := [(5, .int 0), (0, .ref (b 0)), (1, .int p0), (2, .int p1), (3, .int p2), (4, .int p3)]) hx hb dX11_capture_66 hl (by decide) rfl (fun ls hl => ?_)
        refine lv_aload_n hx hb dX11_capture_68 rfl (lv_at hl 1 rfl) ?_
        refine lv_iload hx hb dX11_capture_69 (lv_at hl 0 rfl) ?_
        refine lv_if_eq (tgt := 78) hx hb dX11_capture_71 (by decide) (fun _ => ?_) (fun c71 => absurd c71 (by decide))
        refine lv_iconst (v := 2) hx hb dX11_capture_78 (by decide) ?_
        refine p_Mod_thrown (a := (b 0)) (v := 2) C hw hM.1 in_X11 (by decide +kernel) dX11_capture_79 (fun H locs hw => ?_)
        refine lv_aload_n hx hb dX11_capture_82 rfl (lv_at hl 1 rfl) ?_
        refine g_Mod_thrown (a := (b 0)) (v := 2) C hw hM.1 in_X11 (by decide +kernel) (zI_s (zsI S 240 (b 0) (zb (¬ (0 ≤ p0 ∧ p0 ≤ 1)))) 240 (b 0) 2) dX11_capture_83 ?_
        refine lv_if_le (tgt := 91) hx hb dX11_capture_86 (by decide) (fun c86 => absurd c86 (by decide)) (fun _ => ?_)
        refine lv_iconst (v := 0) hx hb dX11_capture_89 (by decide) ?_
        exact zri C hw hr hlocks rfl ⟨hM.1, ((zI_s (zsI S 240 (b 0) (zb (¬ (0 ≤ p0 ∧ p0 ≤ 1)))) 240 (b 0) 2)).trans (by unfold kd_capture; (try unfold zb); grind), (fun h9 => by first | rfl | (revert h9; unfold kd_capture; (try unfold zb); grind))⟩ ⟨Nat.le_of_ble_eq_true rfl, Nat.le_of_ble_eq_true rfl⟩ dX11_capture_90
      · replace c31 := zb1.mp c31
        refine lv_iload hx hb dX11_capture_34 (lv_at hl 4 rfl) ?_
        refine lv_i2l (v := p3.toInt64) hx hb dX11_capture_36 rfl ?_
        refine lv_lconst (v := ((1 : Int32).toInt64)) hx hb dX11_capture_37 (by decide) ?_
        refine lv_ldc2 (own := RX11) (v := ((400 : Int32).toInt64)) hx hb hown (hts (.constantLong RX11 131 (400)) (by decide +kernel)) dX11_capture_38 ?_
        refine zcS_i (As := [.long (p3.toInt64), .long ((1 : Int32).toInt64), .long ((400 : Int32).toInt64)]) (rest := []) (n9 := 3) C hw (c_X11_in l D y base (zsI S 240 (b 0) (zb (¬ (0 ≤ p0 ∧ p0 ≤ 1)))) p3 (1 : Int32) (400 : Int32) ) gX11_capture_X11_in rfl (by decide +kernel) ⟨⟨rfl, rfl⟩, Nat.le_of_ble_eq_true rfl, Nat.le_of_ble_eq_true rfl⟩ rfl hl.1 rfl (Nat.le_of_ble_eq_true rfl) ⟨Nat.le_of_ble_eq_true rfl, Nat.le_of_ble_eq_true rfl⟩ dX11_capture_41 (fun r41 S41 H locs hp41 hw => ?_)
        obtain ⟨rfl, hS9⟩ := hp41
        have hS9 := hS9.symm
        subst hS9
        refine lv_if_eq (tgt := 65) hx hb dX11_capture_44 (by decide) (fun c44 => ?_) (fun c44 => ?_)
        · replace c44 := zb0.mp c44
          refine lv_iconst (v := 0) hx hb dX11_capture_65 (by decide) ?_
          refine lv_istore (lv' := [(5, .int 0), (0, .ref (b 0)), (1, .int p0), (2, .int p1), (3, .int p2), (4, .int p3)]) hx hb dX11_capture_66 hl (by decide) rfl (fun ls hl => ?_)
          refine lv_aload_n hx hb dX11_capture_68 rfl (lv_at hl 1 rfl) ?_
          refine lv_iload hx hb dX11_capture_69 (lv_at hl 0 rfl) ?_
          refine lv_if_eq (tgt := 78) hx hb dX11_capture_71 (by decide) (fun _ => ?_) (fun c71 => absurd c71 (by decide))
          refine lv_iconst (v := 2) hx hb dX11_capture_78 (by decide) ?_
          refine p_Mod_thrown (a := (b 0)) (v := 2) C hw hM.1 in_X11 (by decide +kernel) dX11_capture_79 (fun H locs hw => ?_)
          refine lv_aload_n hx hb dX11_capture_82 rfl (lv_at hl 1 rfl) ?_
          refine g_Mod_thrown (a := (b 0)) (v := 2) C hw hM.1 in_X11 (by decide +kernel) (zI_s (zsI S 240 (b 0) (zb (¬ (0 ≤ p0 ∧ p0 ≤ 1)))) 240 (b 0) 2) dX11_capture_83 ?_
          refine lv_if_le (tgt := 91) hx hb dX11_capture_86 (by decide) (fun c86 => absurd c86 (by decide)) (fun _ => ?_)
          refine lv_iconst (v := 0) hx hb dX11_capture_89 (by decide) ?_
          exact zri C hw hr hlocks rfl ⟨hM.1, ((zI_s (zsI S 240 (b 0) (zb (¬ (0 ≤ p0 ∧ p0 ≤ 1)))) 240 (b 0) 2)).trans (by unfold kd_capture; (try unfold zb); grind), (fun h9 => by first | rfl | (revert h9; unfold kd_capture; (try unfold zb); grind))⟩ ⟨Nat.le_of_ble_eq_true rfl, Nat.le_of_ble_eq_true rfl⟩ dX11_capture_90
        · replace c44 := zb1.mp c44
          refine lv_iload_n hx hb dX11_capture_47 rfl (lv_at hl 2 rfl) ?_
          refine lv_iload hx hb dX11_capture_48 (lv_at hl 4 rfl) ?_
          refine lv_iconst (v := 1) hx hb dX11_capture_50 (by decide) ?_
          refine lv_isub hx hb dX11_capture_51 ?_
          refine lv_iload_n hx hb dX11_capture_52 rfl (lv_at hl 3 rfl) ?_
          refine lv_imul hx hb dX11_capture_53 ?_
          refine lv_iadd hx hb dX11_capture_54 ?_
          refine lv_sipush (v := 9999) hx hb dX11_capture_55 (by decide) ?_
          refine lv_icmp_gt (tgt := 65) hx hb dX11_capture_58 (by decide) (fun c58 => ?_) (fun c58 => ?_)
          · refine lv_iconst (v := 0) hx hb dX11_capture_65 (by decide) ?_
            refine lv_istore (lv' := [(5, .int 0), (0, .ref (b 0)), (1, .int p0), (2, .int p1), (3, .int p2), (4, .int p3)]) hx hb dX11_capture_66 hl (by decide) rfl (fun ls hl => ?_)
            refine lv_aload_n hx hb dX11_capture_68 rfl (lv_at hl 1 rfl) ?_
            refine lv_iload hx hb dX11_capture_69 (lv_at hl 0 rfl) ?_
            refine lv_if_eq (tgt := 78) hx hb dX11_capture_71 (by decide) (fun _ => ?_) (fun c71 => absurd c71 (by decide))
            refine lv_iconst (v := 2) hx hb dX11_capture_78 (by decide) ?_
            refine p_Mod_thrown (a := (b 0)) (v := 2) C hw hM.1 in_X11 (by decide +kernel) dX11_capture_79 (fun H locs hw => ?_)
            refine lv_aload_n hx hb dX11_capture_82 rfl (lv_at hl 1 rfl) ?_
            refine g_Mod_thrown (a := (b 0)) (v := 2) C hw hM.1 in_X11 (by decide +kernel) (zI_s (zsI S 240 (b 0) (zb (¬ (0 ≤ p0 ∧ p0 ≤ 1)))) 240 (b 0) 2) dX11_capture_83 ?_
            refine lv_if_le (tgt := 91) hx hb dX11_capture_86 (by decide) (fun c86 => absurd c86 (by decide)) (fun _ => ?_)
            refine lv_iconst (v := 0) hx hb dX11_capture_89 (by decide) ?_
            exact zri C hw hr hlocks rfl ⟨hM.1, ((zI_s (zsI S 240 (b 0) (zb (¬ (0 ≤ p0 ∧ p0 ≤ 1)))) 240 (b 0) 2)).trans (by unfold kd_capture; (try unfold zb); grind), (fun h9 => by first | rfl | (revert h9; unfold kd_capture; (try unfold zb); grind))⟩ ⟨Nat.le_of_ble_eq_true rfl, Nat.le_of_ble_eq_true rfl⟩ dX11_capture_90
          · refine lv_iconst (v := 1) hx hb dX11_capture_61 (by decide) ?_
            refine lv_goto (tgt := 66) hx hb dX11_capture_62 (by decide) ?_
            refine lv_istore (lv' := [(5, .int 1), (0, .ref (b 0)), (1, .int p0), (2, .int p1), (3, .int p2), (4, .int p3)]) hx hb dX11_capture_66 hl (by decide) rfl (fun ls hl => ?_)
            refine lv_aload_n hx hb dX11_capture_68 rfl (lv_at hl 1 rfl) ?_
            refine lv_iload hx hb dX11_capture_69 (lv_at hl 0 rfl) ?_
            refine lv_if_eq (tgt := 78) hx hb dX11_capture_71 (by decide) (fun c71 => absurd c71 (by decide)) (fun _ => ?_)
            refine lv_iconst (v := 0) hx hb dX11_capture_74 (by decide) ?_
            refine lv_goto (tgt := 79) hx hb dX11_capture_75 (by decide) ?_
            refine p_Mod_thrown (a := (b 0)) (v := 0) C hw hM.1 in_X11 (by decide +kernel) dX11_capture_79 (fun H locs hw => ?_)
            refine lv_aload_n hx hb dX11_capture_82 rfl (lv_at hl 1 rfl) ?_
            refine g_Mod_thrown (a := (b 0)) (v := 0) C hw hM.1 in_X11 (by decide +kernel) (zI_s (zsI S 240 (b 0) (zb (¬ (0 ≤ p0 ∧ p0 ≤ 1)))) 240 (b 0) 0) dX11_capture_83 ?_
            refine lv_if_le (tgt := 91) hx hb dX11_capture_86 (by decide) (fun _ => ?_) (fun c86 => absurd c86 (by decide))
            have hMb : zMd (zsI (zsI S 240 (b 0) (zb (¬ (0 ≤ p0 ∧ p0 ≤ 1)))) 240 (b 0) 0) b := hM
            have hM0b : zMd0 (zsI (zsI S 240 (b 0) (zb (¬ (0 ≤ p0 ∧ p0 ≤ 1)))) 240 (b 0) 0) b := by first | exact zMd0.i hM0 | exact zMd0.i (zMd0.i hM0)
            have hp1 : 0 ≤ p1 ∧ p1 ≤ 9999 := by grind
            have hp2 : 1 ≤ p2 ∧ p2 ≤ 99 := by grind
            have hc0 : 0 ≤ p0 ∧ p0 ≤ 1 := by grind
            obtain ⟨A, hA, eA⟩ := nI_of2 (x := p3) (M := 400) (n := 400) rfl (by grind) (by grind)
            have hcb : ¬ 9999 < p1 + (nI A - 1) * p2 := by rw [← eA]; assumption
            have i240 : zI (zsI (zsI S 240 (b 0) (zb (¬ (0 ≤ p0 ∧ p0 ≤ 1)))) 240 (b 0) 0) 240 (b 0) = 0 := (zI_s (zsI S 240 (b 0) (zb (¬ (0 ≤ p0 ∧ p0 ≤ 1)))) 240 (b 0) 0)
            refine lv_iload hx hb dX11_capture_91 (lv_at hl 5 rfl) ?_
            refine znewI (N := A) C hw (by decide +kernel) (by rw [eA]; exact Int32.not_lt.mpr (nI_pos' (by omega))) (by rw [eA]; exact nI_clamp (by omega)) (by omega) (Nat.le_of_ble_eq_true rfl) (Nat.le_trans (Nat.add_le_add_left hA 0) (Nat.le_of_ble_eq_true rfl)) dX11_capture_93 (fun q93 H kq93 hw => W.widen (k := 1) (n := 400) (Nat.le_refl _) (by omega) ?_)
            have hM93 : zMd (znR (zsI (zsI S 240 (b 0) (zb (¬ (0 ≤ p0 ∧ p0 ≤ 1)))) 240 (b 0) 0) q93 22 A (fun _ => 0)) b := zMd.cls (zCls.gv (zGv.nR kq93) kq93) hMb
            have hM093 : zMd0 (znR (zsI (zsI S 240 (b 0) (zb (¬ (0 ≤ p0 ∧ p0 ≤ 1)))) 240 (b 0) 0) q93 22 A (fun _ => 0)) b := zMd0.cls (zCls.gv (zGv.nR kq93) kq93) hMb hM0b
            refine lv_astore (lv' := [(6, .ref q93), (5, .int 1), (0, .ref (b 0)), (1, .int p0), (2, .int p1), (3, .int p2), (4, .int p3)]) hx hb dX11_capture_95 hl (by decide) rfl (fun ls hl => ?_)
            refine lv_aload_n hx hb dX11_capture_97 rfl (lv_at hl 2 rfl) ?_
            refine g_Mod_idles (a := (b 0)) (v := (b 1)) C hw hM93.1 in_X11 (by decide +kernel) hM93.2.1 dX11_capture_98 ?_
            refine zclone (a := (b 1)) (n := 4) C hw hM93.2.2.2.2.2.2.2.1 hM93.2.2.2.2.2.2.2.2.1 hM093.2.2.2.2.2.1 hl.1 (by decide +kernel) (by decide +kernel) (by decide +kernel) (by decide +kernel) (by decide +kernel) (Nat.le_of_ble_eq_true rfl) (Nat.le_of_ble_eq_true rfl) (Nat.le_of_ble_eq_true rfl) (Nat.le_of_ble_eq_true rfl) dX11_capture_101 (fun q101 H kq101 hw => ?_)
            refine zcastA (a := q101) C hw (zK_nRs (znR (zsI (zsI S 240 (b 0) (zb (¬ (0 ≤ p0 ∧ p0 ≤ 1)))) 240 (b 0) 0) q93 22 A (fun _ => 0)) q101 23 4 (zR (znR (zsI (zsI S 240 (b 0) (zb (¬ (0 ≤ p0 ∧ p0 ≤ 1)))) 240 (b 0) 0) q93 22 A (fun _ => 0)) 23 (b 1))) (by decide +kernel) dX11_capture_104 ?_
            refine lv_astore (lv' := [(7, .ref q101), (6, .ref q93), (5, .int 1), (0, .ref (b 0)), (1, .int p0), (2, .int p1), (3, .int p2), (4, .int p3)]) hx hb dX11_capture_107 hl (by decide) rfl (fun ls hl => ?_)
            obtain ⟨hC, hw101⟩ : zCa (zsI (zsI S 240 (b 0) (zb (¬ (0 ≤ p0 ∧ p0 ≤ 1)))) 240 (b 0) 0) (znR (znR (zsI (zsI S 240 (b 0) (zb (¬ (0 ≤ p0 ∧ p0 ≤ 1)))) 240 (b 0) 0) q93 22 A (fun _ => 0)) q101 23 4 (zR (znR (zsI (zsI S 240 (b 0) (zb (¬ (0 ≤ p0 ∧ p0 ≤ 1)))) 240 (b 0) 0) q93 22 A (fun _ => 0)) 23 (b 1))) q93 q101 A ∧ zK (zsI (zsI S 240 (b 0) (zb (¬ (0 ≤ p0 ∧ p0 ≤ 1)))) 240 (b 0) 0) q101 = 0 := zCa.begin kq93 kq101 hM093.2.2.2.2.2.1
            have hM2 : zMd (znR (znR (zsI (zsI S 240 (b 0) (zb (¬ (0 ≤ p0 ∧ p0 ≤ 1)))) 240 (b 0) 0) q93 22 A (fun _ => 0)) q101 23 4 (zR (znR (zsI (zsI S 240 (b 0) (zb (¬ (0 ≤ p0 ∧ p0 ≤ 1)))) 240 (b 0) 0) q93 22 A (fun _ => 0)) 23 (b 1))) b := zMd.cls (zCls.gv hC.1 kq93) hMb
            have hM02 : zMd0 (znR (znR (zsI (zsI S 240 (b 0) (zb (¬ (0 ≤ p0 ∧ p0 ≤ 1)))) 240 (b 0) 0) q93 22 A (fun _ => 0)) q101 23 4 (zR (znR (zsI (zsI S 240 (b 0) (zb (¬ (0 ≤ p0 ∧ p0 ≤ 1)))) 240 (b 0) 0) q93 22 A (fun _ => 0)) 23 (b 1))) b := zMd0.cls (zCls.gv hC.1 kq93) hMb hM0b
            have h240 : zI (znR (znR (zsI (zsI S 240 (b 0) (zb (¬ (0 ≤ p0 ∧ p0 ≤ 1)))) 240 (b 0) 0) q93 22 A (fun _ => 0)) q101 23 4 (zR (znR (zsI (zsI S 240 (b 0) (zb (¬ (0 ≤ p0 ∧ p0 ≤ 1)))) 240 (b 0) 0) q93 22 A (fun _ => 0)) 23 (b 1))) 240 (b 0) = 0 := ((hC.1 (b 0) (by rw [hMb.1]; decide) (zne kq93 (by rw [hMb.1]; decide))).2.1 240).1.trans i240
            refine lv_iconst (v := 0) hx hb dX11_capture_109 (by decide) ?_
            refine lv_istore (lv' := [(8, .int 0), (7, .ref q101), (6, .ref q93), (5, .int 1), (0, .ref (b 0)), (1, .int p0), (2, .int p1), (3, .int p2), (4, .int p3)]) hx hb dX11_capture_110 hl (by decide) rfl (fun ls hl => ?_)
            refine lv_iconst (v := 0) hx hb dX11_capture_112 (by decide) ?_
            refine lv_istore (lv' := [(9, .int 0), (8, .int 0), (7, .ref q101), (6, .ref q93), (5, .int 1), (0, .ref (b 0)), (1, .int p0), (2, .int p1), (3, .int p2), (4, .int p3)]) hx hb dX11_capture_113 hl (by decide) rfl (fun ls hl => ?_)
            refine lv_iconst (v := 0) hx hb dX11_capture_115 (by decide) ?_
            refine lv_istore (lv' := [(10, .int 0), (9, .int 0), (8, .int 0), (7, .ref q101), (6, .ref q93), (5, .int 1), (0, .ref (b 0)), (1, .int p0), (2, .int p1), (3, .int p2), (4, .int p3)]) hx hb dX11_capture_116 hl (by decide) rfl (fun ls hl => ?_)
            have lp_2 : ∀ (n9 : Nat) (k : Nat) (t : Nat) (S2 : zS) (H : Heap) (locs : List Loc) (ls : Array Slot), A - k < n9 → (k ≤ A) → (t ≤ 10000) → (zCa (zsI (zsI S 240 (b 0) (zb (¬ (0 ≤ p0 ∧ p0 ≤ 1)))) 240 (b 0) 0) S2 q93 q101 A) → zW D y base S2 s H locs → lv_has ls 12 [(10, .int (nI k)), (8, .int (nI t)), (9, .int 0), (0, .ref (b 0)), (1, .int p0), (2, .int p1), (3, .int p2), (4, .int p3), (6, .ref q93), (7, .ref q101)] → W p l e (headSpec wsX11_capture ({ frames := 2, cells := 2, slots := 404, locals := 46 })).room s m args below meth c H locs 2 404 (MQ below (va_Qi (fun (r : Int32) (S1 : zS) => zK S1 (b 0) = 15 ∧ zI S1 240 (b 0) = kd_capture p0 p1 p2 p3 ∧ (kd_capture p0 p1 p2 p3 = 0 → r = 0)) (zPost D y base) (zA base)) args s 2 404 (zA base)) (F0 m 118 ls []) := by
              intro n9
              induction n9 with
              | zero =>
                intro k t S2 H locs ls hn9
                exact absurd hn9 (Nat.not_lt_zero _)
              | succ n9 ih_1 =>
                intro k t S2 H locs ls hn9 hk ht hC hw hl
                have hM2 : zMd S2 b := zMd.cls (zCls.gv hC.1 kq93) hMb
                have hM02 : zMd0 S2 b := zMd0.cls (zCls.gv hC.1 kq93) hMb hM0b
                have h240 : zI S2 240 (b 0) = 0 := ((hC.1 (b 0) (by rw [hMb.1]; decide) (zne kq93 (by rw [hMb.1]; decide))).2.1 240).1.trans i240
                refine lv_iload hx hb dX11_capture_118 (lv_at hl 0 rfl) ?_
                refine lv_iload hx hb dX11_capture_120 (lv_at hl 7 rfl) ?_
                refine lv_icmp_ge (tgt := 260) hx hb dX11_capture_122 (by decide) (fun c122 => ?_) (fun c122 => ?_)
                · refine lv_aload_n hx hb dX11_capture_260 rfl (lv_at hl 3 rfl) ?_
                  refine g_Mod_samples (a := (b 0)) (v := (b 3)) C hw hM2.1 in_X11 (by decide +kernel) hM2.2.2.2.1 dX11_capture_261 ?_
                  refine lv_iload_n hx hb dX11_capture_264 rfl (lv_at hl 4 rfl) ?_
                  refine lv_aload hx hb dX11_capture_265 (lv_at hl 8 rfl) ?_
                  refine zastB (a := (b 3)) (v := q93) (n := 2) C hw hM2.2.2.2.2.2.2.2.2.2.2.2.1 hC.2.1 hM2.2.2.2.2.2.2.2.2.2.2.2.2.1 (zin_of (N := 2) (by decide) (by grind) (by grind)) dX11_capture_267 (fun H locs hw => ?_)
                  refine lv_iload hx hb dX11_capture_268 (lv_at hl 2 rfl) ?_
                  exact zri C hw hr hlocks rfl ⟨hM2.1, (h240).trans (by unfold kd_capture; (try unfold zb); grind), (fun h9 => by first | rfl | (revert h9; unfold kd_capture; (try unfold zb); grind))⟩ ⟨Nat.le_of_ble_eq_true rfl, Nat.le_of_ble_eq_true rfl⟩ dX11_capture_270
                · have lp_4 : ∀ (n9 : Nat) (t : Nat) (S2 : zS) (H : Heap) (locs : List Loc) (ls : Array Slot), 10000 - t < n9 → (t ≤ 10000) → (zCa (zsI (zsI S 240 (b 0) (zb (¬ (0 ≤ p0 ∧ p0 ≤ 1)))) 240 (b 0) 0) S2 q93 q101 A) → zW D y base S2 s H locs → lv_has ls 12 [(8, .int (nI t)), (10, .int (nI k)), (9, .int 0), (0, .ref (b 0)), (1, .int p0), (2, .int p1), (3, .int p2), (4, .int p3), (6, .ref q93), (7, .ref q101)] → W p l e (headSpec wsX11_capture ({ frames := 2, cells := 2, slots := 404, locals := 46 })).room s m args below meth c H locs 2 404 (MQ below (va_Qi (fun (r : Int32) (S1 : zS) => zK S1 (b 0) = 15 ∧ zI S1 240 (b 0) = kd_capture p0 p1 p2 p3 ∧ (kd_capture p0 p1 p2 p3 = 0 → r = 0)) (zPost D y base) (zA base)) args s 2 404 (zA base)) (F0 m 125 ls []) := by
                    intro n9
                    induction n9 with
                    | zero =>
                      intro t S2 H locs ls hn9
                      exact absurd hn9 (Nat.not_lt_zero _)
                    | succ n9 ih_3 =>
                      intro t S2 H locs ls hn9 ht hC hw hl
                      have hM2 : zMd S2 b := zMd.cls (zCls.gv hC.1 kq93) hMb
                      have hM02 : zMd0 S2 b := zMd0.cls (zCls.gv hC.1 kq93) hMb hM0b
                      have h240 : zI S2 240 (b 0) = 0 := ((hC.1 (b 0) (by rw [hMb.1]; decide) (zne kq93 (by rw [hMb.1]; decide))).2.1 240).1.trans i240
                      have hkA : k < A := z_lt (n := A) (by rw [← eA]; exact c122) (by omega) (by omega)
                      obtain ⟨T, hT, eT⟩ := zcapb hp1 hp2 hkA hA hcb
                      refine lv_iload hx hb dX11_capture_125 (lv_at hl 0 rfl) ?_
                      refine lv_iload_n hx hb dX11_capture_127 rfl (lv_at hl 5 rfl) ?_
                      refine lv_iload hx hb dX11_capture_128 (lv_at hl 1 rfl) ?_
                      refine lv_iload_n hx hb dX11_capture_130 rfl (lv_at hl 6 rfl) ?_
                      refine lv_imul hx hb dX11_capture_131 ?_
                      refine lv_iadd hx hb dX11_capture_132 ?_
                      refine lv_icmp_gt (tgt := 185) hx hb dX11_capture_133 (by decide) (fun c133 => ?_) (fun c133 => ?_)
                      · refine lv_iconst (v := 0) hx hb dX11_capture_185 (by decide) ?_
                        refine lv_istore (lv' := [(11, .int 0), (8, .int (nI t)), (10, .int (nI k)), (9, .int 0), (0, .ref (b 0)), (1, .int p0), (2, .int p1), (3, .int p2), (4, .int p3), (6, .ref q93), (7, .ref q101)]) hx hb dX11_capture_186 hl (by decide) rfl (fun ls hl => ?_)
                        refine lv_iload hx hb dX11_capture_188 (lv_at hl 0 rfl) ?_
                        refine lv_iconst (v := 4) hx hb dX11_capture_190 (by decide) ?_
                        refine lv_icmp_ge (tgt := 224) hx hb dX11_capture_191 (by decide) (fun c191 => absurd c191 (by decide)) (fun _ => ?_)
                        refine lv_aload hx hb dX11_capture_194 (lv_at hl 9 rfl) ?_
                        refine lv_iload hx hb dX11_capture_196 (lv_at hl 2 rfl) ?_
                        refine lv_dup2_11 hx hb dX11_capture_198 rfl rfl ?_
                        refine zald_I (a := q93) C hw hC.2.1 hC.2.2.1 (vp_in_nI hkA (by omega)) dX11_capture_199 ?_
                        refine zrd (x := 0) (hC.2.2.2.2.2.2 _) ?_
                        refine lv_aload hx hb dX11_capture_200 (lv_at hl 10 rfl) ?_
                        refine lv_iload hx hb dX11_capture_202 (lv_at hl 0 rfl) ?_
                        refine zald_Z (a := q101) C hw hC.2.2.2.1 hC.2.2.2.2.1 (zin_of (N := 4) (by decide) (by grind) (by grind)) dX11_capture_204 ?_
                        refine zrd (x := 0) (hC.2.2.2.2.2.1 _) ?_
                        refine lv_if_eq (tgt := 215) hx hb dX11_capture_205 (by decide) (fun _ => ?_) (fun c205 => absurd c205 (by decide))
                        refine lv_iconst (v := 0) hx hb dX11_capture_215 (by decide) ?_
                        refine lv_ior hx hb dX11_capture_216 ?_
                        refine zrd (x := 0) (by decide) ?_
                        refine zast_I (a := q93) C hw hC.2.1 hC.2.2.1 (vp_in_nI hkA (by omega)) dX11_capture_217 (fun H locs hw => ?_)
                        refine lv_iinc (v := 1) (lv' := [(11, .int 1), (8, .int (nI t)), (10, .int (nI k)), (9, .int 0), (0, .ref (b 0)), (1, .int p0), (2, .int p1), (3, .int p2), (4, .int p3), (6, .ref q93), (7, .ref q101)]) hx hb dX11_capture_218 hl (k := 0) rfl (by decide) (by decide) rfl (fun ls hl => ?_)
                        refine lv_goto (tgt := 188) hx hb dX11_capture_221 (by decide) ?_
                        have hC := hC.made ((nI k).toNatClampNeg)
                        have hw : zW D y base (zsR S2 22 q93 (upd (zR S2 22 q93) ((nI k).toNatClampNeg) 0)) s _ _ := hw
                        generalize hSS : (zsR S2 22 q93 (upd (zR S2 22 q93) ((nI k).toNatClampNeg) 0)) = S2 at hw hC
                        have hM2 : zMd S2 b := zMd.cls (zCls.gv hC.1 kq93) hMb
                        have hM02 : zMd0 S2 b := zMd0.cls (zCls.gv hC.1 kq93) hMb hM0b
                        have h240 : zI S2 240 (b 0) = 0 := ((hC.1 (b 0) (by rw [hMb.1]; decide) (zne kq93 (by rw [hMb.1]; decide))).2.1 240).1.trans i240
                        refine lv_iload hx hb dX11_capture_188 (lv_at hl 0 rfl) ?_
                        refine lv_iconst (v := 4) hx hb dX11_capture_190 (by decide) ?_
                        refine lv_icmp_ge (tgt := 224) hx hb dX11_capture_191 (by decide) (fun c191 => absurd c191 (by decide)) (fun _ => ?_)
                        refine lv_aload hx hb dX11_capture_194 (lv_at hl 9 rfl) ?_
                        refine lv_iload hx hb dX11_capture_196 (lv_at hl 2 rfl) ?_
                        refine lv_dup2_11 hx hb dX11_capture_198 rfl rfl ?_
                        refine zald_I (a := q93) C hw hC.2.1 hC.2.2.1 (vp_in_nI hkA (by omega)) dX11_capture_199 ?_
                        refine zrd (x := 0) (hC.2.2.2.2.2.2 _) ?_
                        refine lv_aload hx hb dX11_capture_200 (lv_at hl 10 rfl) ?_
                        refine lv_iload hx hb dX11_capture_202 (lv_at hl 0 rfl) ?_
                        refine zald_Z (a := q101) C hw hC.2.2.2.1 hC.2.2.2.2.1 (zin_of (N := 4) (by decide) (by grind) (by grind)) dX11_capture_204 ?_
                        refine zrd (x := 0) (hC.2.2.2.2.2.1 _) ?_
                        refine lv_if_eq (tgt := 215) hx hb dX11_capture_205 (by decide) (fun _ => ?_) (fun c205 => absurd c205 (by decide))
                        refine lv_iconst (v := 0) hx hb dX11_capture_215 (by decide) ?_
                        refine lv_ior hx hb dX11_capture_216 ?_
                        refine zrd (x := 0) (by decide) ?_
                        refine zast_I (a := q93) C hw hC.2.1 hC.2.2.1 (vp_in_nI hkA (by omega)) dX11_capture_217 (fun H locs hw => ?_)
                        refine lv_iinc (v := 2) (lv' := [(11, .int 2), (8, .int (nI t)), (10, .int (nI k)), (9, .int 0), (0, .ref (b 0)), (1, .int p0), (2, .int p1), (3, .int p2), (4, .int p3), (6, .ref q93), (7, .ref q101)]) hx hb dX11_capture_218 hl (k := 0) rfl (by decide) (by decide) rfl (fun ls hl => ?_)
                        refine lv_goto (tgt := 188) hx hb dX11_capture_221 (by decide) ?_
                        have hC := hC.made ((nI k).toNatClampNeg)
                        have hw : zW D y base (zsR S2 22 q93 (upd (zR S2 22 q93) ((nI k).toNatClampNeg) 0)) s _ _ := hw
                        generalize hSS : (zsR S2 22 q93 (upd (zR S2 22 q93) ((nI k).toNatClampNeg) 0)) = S2 at hw hC
                        have hM2 : zMd S2 b := zMd.cls (zCls.gv hC.1 kq93) hMb
                        have hM02 : zMd0 S2 b := zMd0.cls (zCls.gv hC.1 kq93) hMb hM0b
                        have h240 : zI S2 240 (b 0) = 0 := ((hC.1 (b 0) (by rw [hMb.1]; decide) (zne kq93 (by rw [hMb.1]; decide))).2.1 240).1.trans i240
                        refine lv_iload hx hb dX11_capture_188 (lv_at hl 0 rfl) ?_
                        refine lv_iconst (v := 4) hx hb dX11_capture_190 (by decide) ?_
                        refine lv_icmp_ge (tgt := 224) hx hb dX11_capture_191 (by decide) (fun c191 => absurd c191 (by decide)) (fun _ => ?_)
                        refine lv_aload hx hb dX11_capture_194 (lv_at hl 9 rfl) ?_
                        refine lv_iload hx hb dX11_capture_196 (lv_at hl 2 rfl) ?_
                        refine lv_dup2_11 hx hb dX11_capture_198 rfl rfl ?_
                        refine zald_I (a := q93) C hw hC.2.1 hC.2.2.1 (vp_in_nI hkA (by omega)) dX11_capture_199 ?_
                        refine zrd (x := 0) (hC.2.2.2.2.2.2 _) ?_
                        refine lv_aload hx hb dX11_capture_200 (lv_at hl 10 rfl) ?_
                        refine lv_iload hx hb dX11_capture_202 (lv_at hl 0 rfl) ?_
                        refine zald_Z (a := q101) C hw hC.2.2.2.1 hC.2.2.2.2.1 (zin_of (N := 4) (by decide) (by grind) (by grind)) dX11_capture_204 ?_
                        refine zrd (x := 0) (hC.2.2.2.2.2.1 _) ?_
                        refine lv_if_eq (tgt := 215) hx hb dX11_capture_205 (by decide) (fun _ => ?_) (fun c205 => absurd c205 (by decide))
                        refine lv_iconst (v := 0) hx hb dX11_capture_215 (by decide) ?_
                        refine lv_ior hx hb dX11_capture_216 ?_
                        refine zrd (x := 0) (by decide) ?_
                        refine zast_I (a := q93) C hw hC.2.1 hC.2.2.1 (vp_in_nI hkA (by omega)) dX11_capture_217 (fun H locs hw => ?_)
                        refine lv_iinc (v := 3) (lv' := [(11, .int 3), (8, .int (nI t)), (10, .int (nI k)), (9, .int 0), (0, .ref (b 0)), (1, .int p0), (2, .int p1), (3, .int p2), (4, .int p3), (6, .ref q93), (7, .ref q101)]) hx hb dX11_capture_218 hl (k := 0) rfl (by decide) (by decide) rfl (fun ls hl => ?_)
                        refine lv_goto (tgt := 188) hx hb dX11_capture_221 (by decide) ?_
                        have hC := hC.made ((nI k).toNatClampNeg)
                        have hw : zW D y base (zsR S2 22 q93 (upd (zR S2 22 q93) ((nI k).toNatClampNeg) 0)) s _ _ := hw
                        generalize hSS : (zsR S2 22 q93 (upd (zR S2 22 q93) ((nI k).toNatClampNeg) 0)) = S2 at hw hC
                        have hM2 : zMd S2 b := zMd.cls (zCls.gv hC.1 kq93) hMb
                        have hM02 : zMd0 S2 b := zMd0.cls (zCls.gv hC.1 kq93) hMb hM0b
                        have h240 : zI S2 240 (b 0) = 0 := ((hC.1 (b 0) (by rw [hMb.1]; decide) (zne kq93 (by rw [hMb.1]; decide))).2.1 240).1.trans i240
                        refine lv_iload hx hb dX11_capture_188 (lv_at hl 0 rfl) ?_
                        refine lv_iconst (v := 4) hx hb dX11_capture_190 (by decide) ?_
                        refine lv_icmp_ge (tgt := 224) hx hb dX11_capture_191 (by decide) (fun c191 => absurd c191 (by decide)) (fun _ => ?_)
                        refine lv_aload hx hb dX11_capture_194 (lv_at hl 9 rfl) ?_
                        refine lv_iload hx hb dX11_capture_196 (lv_at hl 2 rfl) ?_
                        refine lv_dup2_11 hx hb dX11_capture_198 rfl rfl ?_
                        refine zald_I (a := q93) C hw hC.2.1 hC.2.2.1 (vp_in_nI hkA (by omega)) dX11_capture_199 ?_
                        refine zrd (x := 0) (hC.2.2.2.2.2.2 _) ?_
                        refine lv_aload hx hb dX11_capture_200 (lv_at hl 10 rfl) ?_
                        refine lv_iload hx hb dX11_capture_202 (lv_at hl 0 rfl) ?_
                        refine zald_Z (a := q101) C hw hC.2.2.2.1 hC.2.2.2.2.1 (zin_of (N := 4) (by decide) (by grind) (by grind)) dX11_capture_204 ?_
                        refine zrd (x := 0) (hC.2.2.2.2.2.1 _) ?_
                        refine lv_if_eq (tgt := 215) hx hb dX11_capture_205 (by decide) (fun _ => ?_) (fun c205 => absurd c205 (by decide))
                        refine lv_iconst (v := 0) hx hb dX11_capture_215 (by decide) ?_
                        refine lv_ior hx hb dX11_capture_216 ?_
                        refine zrd (x := 0) (by decide) ?_
                        refine zast_I (a := q93) C hw hC.2.1 hC.2.2.1 (vp_in_nI hkA (by omega)) dX11_capture_217 (fun H locs hw => ?_)
                        refine lv_iinc (v := 4) (lv' := [(11, .int 4), (8, .int (nI t)), (10, .int (nI k)), (9, .int 0), (0, .ref (b 0)), (1, .int p0), (2, .int p1), (3, .int p2), (4, .int p3), (6, .ref q93), (7, .ref q101)]) hx hb dX11_capture_218 hl (k := 0) rfl (by decide) (by decide) rfl (fun ls hl => ?_)
                        refine lv_goto (tgt := 188) hx hb dX11_capture_221 (by decide) ?_
                        have hC := hC.made ((nI k).toNatClampNeg)
                        have hw : zW D y base (zsR S2 22 q93 (upd (zR S2 22 q93) ((nI k).toNatClampNeg) 0)) s _ _ := hw
                        generalize hSS : (zsR S2 22 q93 (upd (zR S2 22 q93) ((nI k).toNatClampNeg) 0)) = S2 at hw hC
                        have hM2 : zMd S2 b := zMd.cls (zCls.gv hC.1 kq93) hMb
                        have hM02 : zMd0 S2 b := zMd0.cls (zCls.gv hC.1 kq93) hMb hM0b
                        have h240 : zI S2 240 (b 0) = 0 := ((hC.1 (b 0) (by rw [hMb.1]; decide) (zne kq93 (by rw [hMb.1]; decide))).2.1 240).1.trans i240
                        refine lv_iload hx hb dX11_capture_188 (lv_at hl 0 rfl) ?_
                        refine lv_iconst (v := 4) hx hb dX11_capture_190 (by decide) ?_
                        refine lv_icmp_ge (tgt := 224) hx hb dX11_capture_191 (by decide) (fun _ => ?_) (fun c191 => absurd c191 (by decide))
                        refine lv_iload hx hb dX11_capture_224 (lv_at hl 3 rfl) ?_
                        refine lv_iload hx hb dX11_capture_226 (lv_at hl 2 rfl) ?_
                        refine lv_if_le (tgt := 250) hx hb dX11_capture_228 (by decide) (fun c228 => ?_) (fun c228 => ?_)
                        · refine lv_iconst (v := 0) hx hb dX11_capture_250 (by decide) ?_
                          refine lv_iadd hx hb dX11_capture_251 ?_
                          refine zrd (x := 0) (by decide) ?_
                          refine lv_istore (lv' := [(9, .int 0), (11, .int 4), (8, .int (nI t)), (10, .int (nI k)), (0, .ref (b 0)), (1, .int p0), (2, .int p1), (3, .int p2), (4, .int p3), (6, .ref q93), (7, .ref q101)]) hx hb dX11_capture_252 hl (by decide) rfl (fun ls hl => ?_)
                          refine lv_iinc (v := (nI (k + 1))) (lv' := [(10, .int (nI (k + 1))), (9, .int 0), (11, .int 4), (8, .int (nI t)), (0, .ref (b 0)), (1, .int p0), (2, .int p1), (3, .int p2), (4, .int p3), (6, .ref q93), (7, .ref q101)]) hx hb dX11_capture_254 hl (k := 3) rfl (nI_1 _) (by decide) rfl (fun ls hl => ?_)
                          refine lv_goto (tgt := 118) hx hb dX11_capture_257 (by decide) ?_
                          exact ih_1 (k + 1) t S2 _ _ _ (by omega) (by omega) ht hC hw (lv_sub hl [0, 3, 1, 4, 5, 6, 7, 8, 9, 10] rfl)
                        · have hk1 : 1 ≤ k := by rcases Nat.eq_zero_or_pos k with e | e; (rw [e] at c228; exact absurd (by decide) c228); exact e
                          refine lv_aload hx hb dX11_capture_231 (lv_at hl 9 rfl) ?_
                          refine lv_iload hx hb dX11_capture_233 (lv_at hl 2 rfl) ?_
                          refine zald_I (a := q93) C hw hC.2.1 hC.2.2.1 (vp_in_nI hkA (by omega)) dX11_capture_235 ?_
                          refine zrd (x := 0) (hC.2.2.2.2.2.2 _) ?_
                          refine lv_aload hx hb dX11_capture_236 (lv_at hl 9 rfl) ?_
                          refine lv_iload hx hb dX11_capture_238 (lv_at hl 2 rfl) ?_
                          refine lv_iconst (v := 1) hx hb dX11_capture_240 (by decide) ?_
                          refine lv_isub hx hb dX11_capture_241 ?_
                          refine zrd (x := (nI (k - 1))) (pk_sub (b := 1) hk1) ?_
                          refine zald_I (a := q93) C hw hC.2.1 hC.2.2.1 (vp_in_nI (by omega) (by omega)) dX11_capture_242 ?_
                          refine zrd (x := 0) (hC.2.2.2.2.2.2 _) ?_
                          refine lv_icmp_eq (tgt := 250) hx hb dX11_capture_243 (by decide) (fun _ => ?_) (fun c243 => absurd c243 (by decide))
                          refine lv_iconst (v := 0) hx hb dX11_capture_250 (by decide) ?_
                          refine lv_iadd hx hb dX11_capture_251 ?_
                          refine zrd (x := 0) (by decide) ?_
                          refine lv_istore (lv' := [(9, .int 0), (11, .int 4), (8, .int (nI t)), (10, .int (nI k)), (0, .ref (b 0)), (1, .int p0), (2, .int p1), (3, .int p2), (4, .int p3), (6, .ref q93), (7, .ref q101)]) hx hb dX11_capture_252 hl (by decide) rfl (fun ls hl => ?_)
                          refine lv_iinc (v := (nI (k + 1))) (lv' := [(10, .int (nI (k + 1))), (9, .int 0), (11, .int 4), (8, .int (nI t)), (0, .ref (b 0)), (1, .int p0), (2, .int p1), (3, .int p2), (4, .int p3), (6, .ref q93), (7, .ref q101)]) hx hb dX11_capture_254 hl (k := 3) rfl (nI_1 _) (by decide) rfl (fun ls hl => ?_)
                          refine lv_goto (tgt := 118) hx hb dX11_capture_257 (by decide) ?_
                          exact ih_1 (k + 1) t S2 _ _ _ (by omega) (by omega) ht hC hw (lv_sub hl [0, 3, 1, 4, 5, 6, 7, 8, 9, 10] rfl)
                      · have htT : t ≤ T := by rcases Nat.lt_or_ge T t with g | g; exact absurd (show p1 + nI k * p2 < nI t by rw [eT]; exact nI_lt g (by omega)) c133; exact g
                        refine lv_iconst (v := 0) hx hb dX11_capture_136 (by decide) ?_
                        refine lv_istore (lv' := [(11, .int 0), (8, .int (nI t)), (10, .int (nI k)), (9, .int 0), (0, .ref (b 0)), (1, .int p0), (2, .int p1), (3, .int p2), (4, .int p3), (6, .ref q93), (7, .ref q101)]) hx hb dX11_capture_137 hl (by decide) rfl (fun ls hl => ?_)
                        refine lv_iload hx hb dX11_capture_139 (lv_at hl 0 rfl) ?_
                        refine lv_iconst (v := 4) hx hb dX11_capture_141 (by decide) ?_
                        refine lv_icmp_ge (tgt := 179) hx hb dX11_capture_142 (by decide) (fun c142 => absurd c142 (by decide)) (fun _ => ?_)
                        refine lv_aload hx hb dX11_capture_145 (lv_at hl 10 rfl) ?_
                        refine lv_iload hx hb dX11_capture_147 (lv_at hl 0 rfl) ?_
                        refine lv_aload hx hb dX11_capture_149 (lv_at hl 10 rfl) ?_
                        refine lv_iload hx hb dX11_capture_151 (lv_at hl 0 rfl) ?_
                        refine zald_Z (a := q101) C hw hC.2.2.2.1 hC.2.2.2.2.1 (zin_of (N := 4) (by decide) (by grind) (by grind)) dX11_capture_153 ?_
                        refine zrd (x := 0) (hC.2.2.2.2.2.1 _) ?_
                        refine lv_aload_n hx hb dX11_capture_154 rfl (lv_at hl 4 rfl) ?_
                        refine g_Mod_flips (a := (b 0)) (v := (b 2)) C hw hM2.1 in_X11 (by decide +kernel) hM2.2.2.1 dX11_capture_155 ?_
                        refine lv_iload hx hb dX11_capture_158 (lv_at hl 0 rfl) ?_
                        obtain ⟨w9, eP9, kW9, nW9, zW9, eW9⟩ := zMd_f hM2 hM02 (p := 0) (by decide)
                        refine zald_P (a := (b 2)) (v := w9) C hw hM2.2.2.2.2.2.2.2.2.2.1 (by decide) (t0 := 8) rfl rfl hM2.2.2.2.2.2.2.2.2.2.2.1 (zin_of (N := 4) (by decide) (by grind) (by grind)) eP9 dX11_capture_160 ?_
                        refine lv_iload hx hb dX11_capture_161 (lv_at hl 1 rfl) ?_
                        refine zald_Z (a := w9) C hw kW9 nW9 (vp_in_nI (by omega) (by decide)) dX11_capture_163 ?_
                        refine zrd (x := 0) (zW9 _) ?_
                        refine lv_icmp_eq (tgt := 171) hx hb dX11_capture_164 (by decide) (fun _ => ?_) (fun c164 => absurd c164 (by decide))
                        refine lv_iconst (v := 0) hx hb dX11_capture_171 (by decide) ?_
                        refine zast_Z (a := q101) C hw hC.2.2.2.1 hC.2.2.2.2.1 (zin_of (N := 4) (by decide) (by grind) (by grind)) dX11_capture_172 (fun H locs hw => ?_)
                        refine lv_iinc (v := 1) (lv' := [(11, .int 1), (8, .int (nI t)), (10, .int (nI k)), (9, .int 0), (0, .ref (b 0)), (1, .int p0), (2, .int p1), (3, .int p2), (4, .int p3), (6, .ref q93), (7, .ref q101)]) hx hb dX11_capture_173 hl (k := 0) rfl (by decide) (by decide) rfl (fun ls hl => ?_)
                        refine lv_goto (tgt := 139) hx hb dX11_capture_176 (by decide) ?_
                        have hC := hC.lev hw101 ((0 : Int32).toNatClampNeg)
                        have hw : zW D y base (zsR S2 23 q101 (upd (zR S2 23 q101) ((0 : Int32).toNatClampNeg) (vp_nar .boolean 0))) s _ _ := hw
                        generalize hSS : (zsR S2 23 q101 (upd (zR S2 23 q101) ((0 : Int32).toNatClampNeg) (vp_nar .boolean 0))) = S2 at hw hC
                        have hM2 : zMd S2 b := zMd.cls (zCls.gv hC.1 kq93) hMb
                        have hM02 : zMd0 S2 b := zMd0.cls (zCls.gv hC.1 kq93) hMb hM0b
                        have h240 : zI S2 240 (b 0) = 0 := ((hC.1 (b 0) (by rw [hMb.1]; decide) (zne kq93 (by rw [hMb.1]; decide))).2.1 240).1.trans i240
                        refine lv_iload hx hb dX11_capture_139 (lv_at hl 0 rfl) ?_
                        refine lv_iconst (v := 4) hx hb dX11_capture_141 (by decide) ?_
                        refine lv_icmp_ge (tgt := 179) hx hb dX11_capture_142 (by decide) (fun c142 => absurd c142 (by decide)) (fun _ => ?_)
                        refine lv_aload hx hb dX11_capture_145 (lv_at hl 10 rfl) ?_
                        refine lv_iload hx hb dX11_capture_147 (lv_at hl 0 rfl) ?_
                        refine lv_aload hx hb dX11_capture_149 (lv_at hl 10 rfl) ?_
                        refine lv_iload hx hb dX11_capture_151 (lv_at hl 0 rfl) ?_
                        refine zald_Z (a := q101) C hw hC.2.2.2.1 hC.2.2.2.2.1 (zin_of (N := 4) (by decide) (by grind) (by grind)) dX11_capture_153 ?_
                        refine zrd (x := 0) (hC.2.2.2.2.2.1 _) ?_
                        refine lv_aload_n hx hb dX11_capture_154 rfl (lv_at hl 4 rfl) ?_
                        refine g_Mod_flips (a := (b 0)) (v := (b 2)) C hw hM2.1 in_X11 (by decide +kernel) hM2.2.2.1 dX11_capture_155 ?_
                        refine lv_iload hx hb dX11_capture_158 (lv_at hl 0 rfl) ?_
                        obtain ⟨w9, eP9, kW9, nW9, zW9, eW9⟩ := zMd_f hM2 hM02 (p := 1) (by decide)
                        refine zald_P (a := (b 2)) (v := w9) C hw hM2.2.2.2.2.2.2.2.2.2.1 (by decide) (t0 := 8) rfl rfl hM2.2.2.2.2.2.2.2.2.2.2.1 (zin_of (N := 4) (by decide) (by grind) (by grind)) eP9 dX11_capture_160 ?_
                        refine lv_iload hx hb dX11_capture_161 (lv_at hl 1 rfl) ?_
                        refine zald_Z (a := w9) C hw kW9 nW9 (vp_in_nI (by omega) (by decide)) dX11_capture_163 ?_
                        refine zrd (x := 0) (zW9 _) ?_
                        refine lv_icmp_eq (tgt := 171) hx hb dX11_capture_164 (by decide) (fun _ => ?_) (fun c164 => absurd c164 (by decide))
                        refine lv_iconst (v := 0) hx hb dX11_capture_171 (by decide) ?_
                        refine zast_Z (a := q101) C hw hC.2.2.2.1 hC.2.2.2.2.1 (zin_of (N := 4) (by decide) (by grind) (by grind)) dX11_capture_172 (fun H locs hw => ?_)
                        refine lv_iinc (v := 2) (lv' := [(11, .int 2), (8, .int (nI t)), (10, .int (nI k)), (9, .int 0), (0, .ref (b 0)), (1, .int p0), (2, .int p1), (3, .int p2), (4, .int p3), (6, .ref q93), (7, .ref q101)]) hx hb dX11_capture_173 hl (k := 0) rfl (by decide) (by decide) rfl (fun ls hl => ?_)
                        refine lv_goto (tgt := 139) hx hb dX11_capture_176 (by decide) ?_
                        have hC := hC.lev hw101 ((1 : Int32).toNatClampNeg)
                        have hw : zW D y base (zsR S2 23 q101 (upd (zR S2 23 q101) ((1 : Int32).toNatClampNeg) (vp_nar .boolean 0))) s _ _ := hw
                        generalize hSS : (zsR S2 23 q101 (upd (zR S2 23 q101) ((1 : Int32).toNatClampNeg) (vp_nar .boolean 0))) = S2 at hw hC
                        have hM2 : zMd S2 b := zMd.cls (zCls.gv hC.1 kq93) hMb
                        have hM02 : zMd0 S2 b := zMd0.cls (zCls.gv hC.1 kq93) hMb hM0b
                        have h240 : zI S2 240 (b 0) = 0 := ((hC.1 (b 0) (by rw [hMb.1]; decide) (zne kq93 (by rw [hMb.1]; decide))).2.1 240).1.trans i240
                        refine lv_iload hx hb dX11_capture_139 (lv_at hl 0 rfl) ?_
                        refine lv_iconst (v := 4) hx hb dX11_capture_141 (by decide) ?_
                        refine lv_icmp_ge (tgt := 179) hx hb dX11_capture_142 (by decide) (fun c142 => absurd c142 (by decide)) (fun _ => ?_)
                        refine lv_aload hx hb dX11_capture_145 (lv_at hl 10 rfl) ?_
                        refine lv_iload hx hb dX11_capture_147 (lv_at hl 0 rfl) ?_
                        refine lv_aload hx hb dX11_capture_149 (lv_at hl 10 rfl) ?_
                        refine lv_iload hx hb dX11_capture_151 (lv_at hl 0 rfl) ?_
                        refine zald_Z (a := q101) C hw hC.2.2.2.1 hC.2.2.2.2.1 (zin_of (N := 4) (by decide) (by grind) (by grind)) dX11_capture_153 ?_
                        refine zrd (x := 0) (hC.2.2.2.2.2.1 _) ?_
                        refine lv_aload_n hx hb dX11_capture_154 rfl (lv_at hl 4 rfl) ?_
                        refine g_Mod_flips (a := (b 0)) (v := (b 2)) C hw hM2.1 in_X11 (by decide +kernel) hM2.2.2.1 dX11_capture_155 ?_
                        refine lv_iload hx hb dX11_capture_158 (lv_at hl 0 rfl) ?_
                        obtain ⟨w9, eP9, kW9, nW9, zW9, eW9⟩ := zMd_f hM2 hM02 (p := 2) (by decide)
                        refine zald_P (a := (b 2)) (v := w9) C hw hM2.2.2.2.2.2.2.2.2.2.1 (by decide) (t0 := 8) rfl rfl hM2.2.2.2.2.2.2.2.2.2.2.1 (zin_of (N := 4) (by decide) (by grind) (by grind)) eP9 dX11_capture_160 ?_
                        refine lv_iload hx hb dX11_capture_161 (lv_at hl 1 rfl) ?_
                        refine zald_Z (a := w9) C hw kW9 nW9 (vp_in_nI (by omega) (by decide)) dX11_capture_163 ?_
                        refine zrd (x := 0) (zW9 _) ?_
                        refine lv_icmp_eq (tgt := 171) hx hb dX11_capture_164 (by decide) (fun _ => ?_) (fun c164 => absurd c164 (by decide))
                        refine lv_iconst (v := 0) hx hb dX11_capture_171 (by decide) ?_
                        refine zast_Z (a := q101) C hw hC.2.2.2.1 hC.2.2.2.2.1 (zin_of (N := 4) (by decide) (by grind) (by grind)) dX11_capture_172 (fun H locs hw => ?_)
                        refine lv_iinc (v := 3) (lv' := [(11, .int 3), (8, .int (nI t)), (10, .int (nI k)), (9, .int 0), (0, .ref (b 0)), (1, .int p0), (2, .int p1), (3, .int p2), (4, .int p3), (6, .ref q93), (7, .ref q101)]) hx hb dX11_capture_173 hl (k := 0) rfl (by decide) (by decide) rfl (fun ls hl => ?_)
                        refine lv_goto (tgt := 139) hx hb dX11_capture_176 (by decide) ?_
                        have hC := hC.lev hw101 ((2 : Int32).toNatClampNeg)
                        have hw : zW D y base (zsR S2 23 q101 (upd (zR S2 23 q101) ((2 : Int32).toNatClampNeg) (vp_nar .boolean 0))) s _ _ := hw
                        generalize hSS : (zsR S2 23 q101 (upd (zR S2 23 q101) ((2 : Int32).toNatClampNeg) (vp_nar .boolean 0))) = S2 at hw hC
                        have hM2 : zMd S2 b := zMd.cls (zCls.gv hC.1 kq93) hMb
                        have hM02 : zMd0 S2 b := zMd0.cls (zCls.gv hC.1 kq93) hMb hM0b
                        have h240 : zI S2 240 (b 0) = 0 := ((hC.1 (b 0) (by rw [hMb.1]; decide) (zne kq93 (by rw [hMb.1]; decide))).2.1 240).1.trans i240
                        refine lv_iload hx hb dX11_capture_139 (lv_at hl 0 rfl) ?_
                        refine lv_iconst (v := 4) hx hb dX11_capture_141 (by decide) ?_
                        refine lv_icmp_ge (tgt := 179) hx hb dX11_capture_142 (by decide) (fun c142 => absurd c142 (by decide)) (fun _ => ?_)
                        refine lv_aload hx hb dX11_capture_145 (lv_at hl 10 rfl) ?_
                        refine lv_iload hx hb dX11_capture_147 (lv_at hl 0 rfl) ?_
                        refine lv_aload hx hb dX11_capture_149 (lv_at hl 10 rfl) ?_
                        refine lv_iload hx hb dX11_capture_151 (lv_at hl 0 rfl) ?_
                        refine zald_Z (a := q101) C hw hC.2.2.2.1 hC.2.2.2.2.1 (zin_of (N := 4) (by decide) (by grind) (by grind)) dX11_capture_153 ?_
                        refine zrd (x := 0) (hC.2.2.2.2.2.1 _) ?_
                        refine lv_aload_n hx hb dX11_capture_154 rfl (lv_at hl 4 rfl) ?_
                        refine g_Mod_flips (a := (b 0)) (v := (b 2)) C hw hM2.1 in_X11 (by decide +kernel) hM2.2.2.1 dX11_capture_155 ?_
                        refine lv_iload hx hb dX11_capture_158 (lv_at hl 0 rfl) ?_
                        obtain ⟨w9, eP9, kW9, nW9, zW9, eW9⟩ := zMd_f hM2 hM02 (p := 3) (by decide)
                        refine zald_P (a := (b 2)) (v := w9) C hw hM2.2.2.2.2.2.2.2.2.2.1 (by decide) (t0 := 8) rfl rfl hM2.2.2.2.2.2.2.2.2.2.2.1 (zin_of (N := 4) (by decide) (by grind) (by grind)) eP9 dX11_capture_160 ?_
                        refine lv_iload hx hb dX11_capture_161 (lv_at hl 1 rfl) ?_
                        refine zald_Z (a := w9) C hw kW9 nW9 (vp_in_nI (by omega) (by decide)) dX11_capture_163 ?_
                        refine zrd (x := 0) (zW9 _) ?_
                        refine lv_icmp_eq (tgt := 171) hx hb dX11_capture_164 (by decide) (fun _ => ?_) (fun c164 => absurd c164 (by decide))
                        refine lv_iconst (v := 0) hx hb dX11_capture_171 (by decide) ?_
                        refine zast_Z (a := q101) C hw hC.2.2.2.1 hC.2.2.2.2.1 (zin_of (N := 4) (by decide) (by grind) (by grind)) dX11_capture_172 (fun H locs hw => ?_)
                        refine lv_iinc (v := 4) (lv' := [(11, .int 4), (8, .int (nI t)), (10, .int (nI k)), (9, .int 0), (0, .ref (b 0)), (1, .int p0), (2, .int p1), (3, .int p2), (4, .int p3), (6, .ref q93), (7, .ref q101)]) hx hb dX11_capture_173 hl (k := 0) rfl (by decide) (by decide) rfl (fun ls hl => ?_)
                        refine lv_goto (tgt := 139) hx hb dX11_capture_176 (by decide) ?_
                        have hC := hC.lev hw101 ((3 : Int32).toNatClampNeg)
                        have hw : zW D y base (zsR S2 23 q101 (upd (zR S2 23 q101) ((3 : Int32).toNatClampNeg) (vp_nar .boolean 0))) s _ _ := hw
                        generalize hSS : (zsR S2 23 q101 (upd (zR S2 23 q101) ((3 : Int32).toNatClampNeg) (vp_nar .boolean 0))) = S2 at hw hC
                        have hM2 : zMd S2 b := zMd.cls (zCls.gv hC.1 kq93) hMb
                        have hM02 : zMd0 S2 b := zMd0.cls (zCls.gv hC.1 kq93) hMb hM0b
                        have h240 : zI S2 240 (b 0) = 0 := ((hC.1 (b 0) (by rw [hMb.1]; decide) (zne kq93 (by rw [hMb.1]; decide))).2.1 240).1.trans i240
                        refine lv_iload hx hb dX11_capture_139 (lv_at hl 0 rfl) ?_
                        refine lv_iconst (v := 4) hx hb dX11_capture_141 (by decide) ?_
                        refine lv_icmp_ge (tgt := 179) hx hb dX11_capture_142 (by decide) (fun _ => ?_) (fun c142 => absurd c142 (by decide))
                        refine lv_iinc (v := (nI (t + 1))) (lv' := [(8, .int (nI (t + 1))), (11, .int 4), (10, .int (nI k)), (9, .int 0), (0, .ref (b 0)), (1, .int p0), (2, .int p1), (3, .int p2), (4, .int p3), (6, .ref q93), (7, .ref q101)]) hx hb dX11_capture_179 hl (k := 1) rfl (nI_1 _) (by decide) rfl (fun ls hl => ?_)
                        refine lv_goto (tgt := 125) hx hb dX11_capture_182 (by decide) ?_
                        exact ih_3 (t + 1) S2 _ _ _ (by omega) (by omega) hC hw (lv_sub hl [0, 2, 3, 4, 5, 6, 7, 8, 9, 10] rfl)
                  exact lp_4 _ t S2 _ _ _ (Nat.lt_succ_self _) ht hC hw (lv_sub hl [1, 0, 2, 3, 4, 5, 6, 7, 8, 9] rfl)
            exact lp_2 _ 0 0 (znR (znR (zsI (zsI S 240 (b 0) (zb (¬ (0 ≤ p0 ∧ p0 ≤ 1)))) 240 (b 0) 0) q93 22 A (fun _ => 0)) q101 23 4 (zR (znR (zsI (zsI S 240 (b 0) (zb (¬ (0 ≤ p0 ∧ p0 ≤ 1)))) 240 (b 0) 0) q93 22 A (fun _ => 0)) 23 (b 1))) _ _ _ (Nat.lt_succ_self _) (Nat.zero_le _) (Nat.zero_le _) hC hw (lv_sub hl [0, 2, 1, 6, 7, 8, 9, 10, 4, 3] rfl)
  · replace c5 := zb1.mp c5
    refine lv_iconst (v := 0) hx hb dX11_capture_8 (by decide) ?_
    exact zri C hw hr hlocks rfl ⟨hM.1, ((zI_s S 240 (b 0) (zb (¬ (0 ≤ p0 ∧ p0 ≤ 1))))).trans (by unfold kd_capture; (try unfold zb); grind), (fun h9 => by first | rfl | (revert h9; unfold kd_capture; (try unfold zb); grind))⟩ ⟨Nat.le_of_ble_eq_true rfl, Nat.le_of_ble_eq_true rfl⟩ dX11_capture_9

