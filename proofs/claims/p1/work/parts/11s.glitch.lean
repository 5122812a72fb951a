set_option maxHeartbeats 4000000 in
set_option maxRecDepth 100000 in
/-- X11_glitch -/
theorem c_X11_glitch (l : Launch) (D : va_G) (y : Nat → ClassId) (base : Nat) (S : zS) (b : Nat → Nat) (p0 : Int32) (p1 : Int32) (p2 : Int32) (hM : zMd S b) (hM0 : zMd0 S b) : zMi l yX11_glitch wsX11_glitch ({ frames := 3, cells := 5, slots := 40004, locals := 66 }) [.ref (b 0), .int p0, .int p1, .int p2] D y base S (fun (r : Int32) (S1 : zS) => zK S1 (b 0) = 15 ∧ zI S1 240 (b 0) = kd_glitch p0 p1 p2 ∧ (kd_glitch p0 p1 p2 = 0 → r = 2)) 5 40004 := by
  refine zMet_of (cc := cX11_glitch) (maxL := 6) (ret := (some .int)) (own := RX11) (by decide +kernel) rfl rfl (Nat.le_of_ble_eq_true rfl) ?_
  intro p e s m args below meth c ls C hr hlocks hnm hw hl
  have hx := C.1
  have hb := C.2.1
  have hown := C.2.2.2.1
  have hts := C.2.2.2.2
  have hl : lv_has ls 6 [(0, .ref (b 0)), (1, .int p0), (2, .int p1), (3, .int p2)] := hl
  have in_X11 : ∀ w ∈ wsX110, w ∈ wsX11_glitch := by decide +kernel
  refine lv_aload_n hx hb dX11_glitch_0 rfl (lv_at hl 0 rfl) ?_
  refine lv_iload_n hx hb dX11_glitch_1 rfl (lv_at hl 1 rfl) ?_
  refine zcV_i (As := [.int p0]) (rest := []) (n9 := 1) (b := (b 0)) C hw (c_X11_noWire l D y base S (b 0) p0 hM.1) gX11_glitch_X11_noWire rfl (by decide +kernel) ⟨⟨rfl, rfl⟩, Nat.le_of_ble_eq_true rfl, Nat.le_of_ble_eq_true rfl⟩ hM.1 ⟨by decide, by decide⟩ rfl rfl hl.1 rfl (Nat.le_of_ble_eq_true rfl) ⟨Nat.le_of_ble_eq_true rfl, Nat.le_of_ble_eq_true rfl⟩ dX11_glitch_2 (fun r2 S2 H locs hp2 hw => ?_)
  obtain ⟨rfl, rfl⟩ := hp2
  refine lv_if_eq (tgt := 10) hx hb dX11_glitch_5 (by decide) (fun c5 => ?_) (fun c5 => ?_)
  · replace c5 := zb0.mp c5
    refine lv_aload_n hx hb dX11_glitch_10 rfl (lv_at hl 0 rfl) ?_
    refine lv_iload_n hx hb dX11_glitch_11 rfl (lv_at hl 2 rfl) ?_
    refine lv_i2l (v := p1.toInt64) hx hb dX11_glitch_12 rfl ?_
    refine lv_lconst (v := ((0 : Int32).toInt64)) hx hb dX11_glitch_13 (by decide) ?_
    refine lv_ldc2 (own := RX11) (v := ((9999 : Int32).toInt64)) hx hb hown (hts (.constantLong RX11 60 (9999)) (by decide +kernel)) dX11_glitch_14 ?_
    refine zcS_i (As := [.long (p1.toInt64), .long ((0 : Int32).toInt64), .long ((9999 : Int32).toInt64)]) (rest := [.ref (b 0)]) (n9 := 3) C hw (c_X11_in l D y base (zsI S 240 (b 0) (zb (¬ (0 ≤ p0 ∧ p0 ≤ 3)))) p1 (0 : Int32) (9999 : Int32) ) gX11_glitch_X11_in rfl (by decide +kernel) ⟨⟨rfl, rfl⟩, Nat.le_of_ble_eq_true rfl, Nat.le_of_ble_eq_true rfl⟩ rfl hl.1 rfl (Nat.le_of_ble_eq_true rfl) ⟨Nat.le_of_ble_eq_true rfl, Nat.le_of_ble_eq_true rfl⟩ dX11_glitch_17 (fun r17 S17 H locs hp17 hw => ?_)
    obtain ⟨rfl, hS9⟩ := hp17
    have hS9 := hS9.symm
    subst hS9
    refine lv_if_eq (tgt := 48) hx hb dX11_glitch_20 (by decide) (fun c20 => ?_) (fun c20 => ?_)
    · replace c20 := zb0.mp c20
      refine lv_iconst (v := 2) hx hb dX11_glitch_48 (by decide) ?_
      refine p_Mod_thrown (a := (b 0)) (v := 2) C hw hM.1 in_X11 (by decide +kernel) dX11_glitch_49 (fun H locs hw => ?_)
      refine lv_aload_n hx hb dX11_glitch_52 rfl (lv_at hl 0 rfl) ?_
      refine g_Mod_thrown (a := (b 0)) (v := 2) C hw hM.1 in_X11 (by decide +kernel) (zI_s (zsI S 240 (b 0) (zb (¬ (0 ≤ p0 ∧ p0 ≤ 3)))) 240 (b 0) 2) dX11_glitch_53 ?_
      refine lv_if_le (tgt := 61) hx hb dX11_glitch_56 (by decide) (fun c56 => absurd c56 (by decide)) (fun _ => ?_)
      refine lv_iconst (v := 0) hx hb dX11_glitch_59 (by decide) ?_
      exact zri C hw hr hlocks rfl ⟨hM.1, ((zI_s (zsI S 240 (b 0) (zb (¬ (0 ≤ p0 ∧ p0 ≤ 3)))) 240 (b 0) 2)).trans (by unfold kd_glitch; (try unfold zb); grind), (fun h9 => by first | rfl | (revert h9; unfold kd_glitch; (try unfold zb); grind))⟩ ⟨Nat.le_of_ble_eq_true rfl, Nat.le_of_ble_eq_true rfl⟩ dX11_glitch_60
    · replace c20 := zb1.mp c20
      refine lv_iload_n hx hb dX11_glitch_23 rfl (lv_at hl 3 rfl) ?_
      refine lv_i2l (v := p2.toInt64) hx hb dX11_glitch_24 rfl ?_
      refine lv_lconst (v := ((1 : Int32).toInt64)) hx hb dX11_glitch_25 (by decide) ?_
      refine lv_ldc2 (own := RX11) (v := ((99 : Int32).toInt64)) hx hb hown (hts (.constantLong RX11 75 (99)) (by decide +kernel)) dX11_glitch_26 ?_
      refine zcS_i (As := [.long (p2.toInt64), .long ((1 : Int32).toInt64), .long ((99 : Int32).toInt64)]) (rest := [.ref (b 0)]) (n9 := 3) C hw (c_X11_in l D y base (zsI S 240 (b 0) (zb (¬ (0 ≤ p0 ∧ p0 ≤ 3)))) p2 (1 : Int32) (99 : Int32) ) gX11_glitch_X11_in rfl (by decide +kernel) ⟨⟨rfl, rfl⟩, Nat.le_of_ble_eq_true rfl, Nat.le_of_ble_eq_true rfl⟩ rfl hl.1 rfl (Nat.le_of_ble_eq_true rfl) ⟨Nat.le_of_ble_eq_true rfl, Nat.le_of_ble_eq_true rfl⟩ dX11_glitch_29 (fun r29 S29 H locs hp29 hw => ?_)
      obtain ⟨rfl, hS9⟩ := hp29
      have hS9 := hS9.symm
      subst hS9
      refine lv_if_eq (tgt := 48) hx hb dX11_glitch_32 (by decide) (fun c32 => ?_) (fun c32 => ?_)
      · replace c32 := zb0.mp c32
        refine lv_iconst (v := 2) hx hb dX11_glitch_48 (by decide) ?_
        refine p_Mod_thrown (a := (b 0)) (v := 2) C hw hM.1 in_X11 (by decide +kernel) dX11_glitch_49 (fun H locs hw => ?_)
        refine lv_aload_n hx hb dX11_glitch_52 rfl (lv_at hl 0 rfl) ?_
        refine g_Mod_thrown (a := (b 0)) (v := 2) C hw hM.1 in_X11 (by decide +kernel) (zI_s (zsI S 240 (b 0) (zb (¬ (0 ≤ p0 ∧ p0 ≤ 3)))) 240 (b 0) 2) dX11_glitch_53 ?_
        refine lv_if_le (tgt := 61) hx hb dX11_glitch_56 (by decide) (fun c56 => absurd c56 (by decide)) (fun _ => ?_)
        refine lv_iconst (v := 0) hx hb dX11_glitch_59 (by decide) ?_
        exact zri C hw hr hlocks rfl ⟨hM.1, ((zI_s (zsI S 240 (b 0) (zb (¬ (0 ≤ p0 ∧ p0 ≤ 3)))) 240 (b 0) 2)).trans (by unfold kd_glitch; (try unfold zb); grind), (fun h9 => by first | rfl | (revert h9; unfold kd_glitch; (try unfold zb); grind))⟩ ⟨Nat.le_of_ble_eq_true rfl, Nat.le_of_ble_eq_true rfl⟩ dX11_glitch_60
      · replace c32 := zb1.mp c32
        refine lv_iload_n hx hb dX11_glitch_35 rfl (lv_at hl 2 rfl) ?_
        refine lv_iload_n hx hb dX11_glitch_36 rfl (lv_at hl 3 rfl) ?_
        refine lv_iadd hx hb dX11_glitch_37 ?_
        refine lv_sipush (v := 9999) hx hb dX11_glitch_38 (by decide) ?_
        refine lv_icmp_gt (tgt := 48) hx hb dX11_glitch_41 (by decide) (fun c41 => ?_) (fun c41 => ?_)
        · refine lv_iconst (v := 2) hx hb dX11_glitch_48 (by decide) ?_
          refine p_Mod_thrown (a := (b 0)) (v := 2) C hw hM.1 in_X11 (by decide +kernel) dX11_glitch_49 (fun H locs hw => ?_)
          refine lv_aload_n hx hb dX11_glitch_52 rfl (lv_at hl 0 rfl) ?_
          refine g_Mod_thrown (a := (b 0)) (v := 2) C hw hM.1 in_X11 (by decide +kernel) (zI_s (zsI S 240 (b 0) (zb (¬ (0 ≤ p0 ∧ p0 ≤ 3)))) 240 (b 0) 2) dX11_glitch_53 ?_
          refine lv_if_le (tgt := 61) hx hb dX11_glitch_56 (by decide) (fun c56 => absurd c56 (by decide)) (fun _ => ?_)
          refine lv_iconst (v := 0) hx hb dX11_glitch_59 (by decide) ?_
          exact zri C hw hr hlocks rfl ⟨hM.1, ((zI_s (zsI S 240 (b 0) (zb (¬ (0 ≤ p0 ∧ p0 ≤ 3)))) 240 (b 0) 2)).trans (by unfold kd_glitch; (try unfold zb); grind), (fun h9 => by first | rfl | (revert h9; unfold kd_glitch; (try unfold zb); grind))⟩ ⟨Nat.le_of_ble_eq_true rfl, Nat.le_of_ble_eq_true rfl⟩ dX11_glitch_60
        · refine lv_iconst (v := 0) hx hb dX11_glitch_44 (by decide) ?_
          refine lv_goto (tgt := 49) hx hb dX11_glitch_45 (by decide) ?_
          refine p_Mod_thrown (a := (b 0)) (v := 0) C hw hM.1 in_X11 (by decide +kernel) dX11_glitch_49 (fun H locs hw => ?_)
          refine lv_aload_n hx hb dX11_glitch_52 rfl (lv_at hl 0 rfl) ?_
          refine g_Mod_thrown (a := (b 0)) (v := 0) C hw hM.1 in_X11 (by decide +kernel) (zI_s (zsI S 240 (b 0) (zb (¬ (0 ≤ p0 ∧ p0 ≤ 3)))) 240 (b 0) 0) dX11_glitch_53 ?_
          refine lv_if_le (tgt := 61) hx hb dX11_glitch_56 (by decide) (fun _ => ?_) (fun c56 => absurd c56 (by decide))
          refine lv_aload_n hx hb dX11_glitch_61 rfl (lv_at hl 0 rfl) ?_
          refine zcV_r (As := []) (rest := []) (n9 := 0) (b := (b 0)) C hw (c_X11_copies l D y base (zsI (zsI S 240 (b 0) (zb (¬ (0 ≤ p0 ∧ p0 ≤ 3)))) 240 (b 0) 0) b hM (by first | exact zMd0.i hM0 | exact zMd0.i (zMd0.i hM0))) gX11_glitch_X11_copies rfl (by decide +kernel) ⟨⟨rfl, rfl⟩, Nat.le_of_ble_eq_true rfl, Nat.le_of_ble_eq_true rfl⟩ hM.1 ⟨by decide, by decide⟩ rfl rfl hl.1 rfl (Nat.le_of_ble_eq_true rfl) ⟨Nat.le_of_ble_eq_true rfl, Nat.le_of_ble_eq_true rfl⟩ dX11_glitch_62 (fun r62 S62 H locs hp62 hw => ?_)
          have hC9 := zCls.gv hp62.2.1 hp62.1
          obtain ⟨f, hf⟩ := hp62.2.2.2.2
          have hM62 := zMd.cls hC9 hM
          refine lv_astore (lv' := [(4, .ref r62), (0, .ref (b 0)), (1, .int p0), (2, .int p1), (3, .int p2)]) hx hb dX11_glitch_65 hl (by decide) rfl (fun ls hl => ?_)
          have hw9 := hf p0.toNatClampNeg (z_cl4 (p := p0) (by first | assumption | grind))
          refine lv_aload hx hb dX11_glitch_67 (lv_at hl 0 rfl) ?_
          refine lv_iload_n hx hb dX11_glitch_69 rfl (lv_at hl 2 rfl) ?_
          refine lv_iload_n hx hb dX11_glitch_70 rfl (lv_at hl 3 rfl) ?_
          refine zcS_i (As := [.ref r62, .int p0, .int p1]) (rest := []) (n9 := 3) C hw (c_X11_turns l D y base S62 r62 (f p0.toNatClampNeg) p0 p1 hp62.2.2.1 hp62.2.2.2.1 (by first | assumption | grind) hw9.1 hw9.2.1 hw9.2.2.1 (by grind)) gX11_glitch_X11_turns rfl (by decide +kernel) ⟨⟨rfl, rfl⟩, Nat.le_of_ble_eq_true rfl, Nat.le_of_ble_eq_true rfl⟩ rfl hl.1 rfl (Nat.le_of_ble_eq_true rfl) ⟨Nat.le_of_ble_eq_true rfl, Nat.le_of_ble_eq_true rfl⟩ dX11_glitch_71 (fun r71 S71 H locs hp71 hw => ?_)
          obtain ⟨-, rfl, hS9⟩ := hp71.resolve_right (fun q => q.1 (by first | assumption | grind))
          subst hS9
          refine lv_if_eq (tgt := 93) hx hb dX11_glitch_74 (by decide) (fun c74 => absurd c74 (by decide)) (fun _ => ?_)
          refine lv_aload hx hb dX11_glitch_77 (lv_at hl 0 rfl) ?_
          refine lv_iload_n hx hb dX11_glitch_79 rfl (lv_at hl 2 rfl) ?_
          refine lv_iload_n hx hb dX11_glitch_80 rfl (lv_at hl 3 rfl) ?_
          refine lv_iload_n hx hb dX11_glitch_81 rfl (lv_at hl 4 rfl) ?_
          refine lv_iadd hx hb dX11_glitch_82 ?_
          refine zcS_i (As := [.ref r62, .int p0, .int (p1 + p2)]) (rest := []) (n9 := 3) C hw (c_X11_turns l D y base (zsR S62 23 (f p0.toNatClampNeg) (upd (zR S62 23 (f p0.toNatClampNeg)) (p1).toNatClampNeg (zno (zR S62 23 (f p0.toNatClampNeg) (p1).toNatClampNeg)))) r62 (f p0.toNatClampNeg) p0 (p1 + p2) hp62.2.2.1 hp62.2.2.2.1 (by first | assumption | grind) hw9.1 hw9.2.1 hw9.2.2.1 (by grind)) gX11_glitch_X11_turns rfl (by decide +kernel) ⟨⟨rfl, rfl⟩, Nat.le_of_ble_eq_true rfl, Nat.le_of_ble_eq_true rfl⟩ rfl hl.1 rfl (Nat.le_of_ble_eq_true rfl) ⟨Nat.le_of_ble_eq_true rfl, Nat.le_of_ble_eq_true rfl⟩ dX11_glitch_83 (fun r83 S83 H locs hp83 hw => ?_)
          obtain ⟨-, rfl, hS9⟩ := hp83.resolve_right (fun q => q.1 (by first | assumption | grind))
          subst hS9
          refine lv_if_eq (tgt := 93) hx hb dX11_glitch_86 (by decide) (fun c86 => absurd c86 (by decide)) (fun _ => ?_)
          refine lv_iconst (v := 1) hx hb dX11_glitch_89 (by decide) ?_
          refine lv_goto (tgt := 94) hx hb dX11_glitch_90 (by decide) ?_
          refine lv_istore (lv' := [(5, .int 1), (4, .ref r62), (0, .ref (b 0)), (1, .int p0), (2, .int p1), (3, .int p2)]) hx hb dX11_glitch_94 hl (by decide) rfl (fun ls hl => ?_)
          refine lv_aload_n hx hb dX11_glitch_96 rfl (lv_at hl 2 rfl) ?_
          refine lv_iload hx hb dX11_glitch_97 (lv_at hl 0 rfl) ?_
          refine lv_if_eq (tgt := 114) hx hb dX11_glitch_99 (by decide) (fun c99 => absurd c99 (by decide)) (fun _ => ?_)
          refine lv_aload hx hb dX11_glitch_102 (lv_at hl 1 rfl) ?_
          refine zcS_i (As := [.ref r62]) (rest := [.ref (b 0)]) (n9 := 1) C hw (c_X11_areFew l D y base (zsR (zsR S62 23 (f p0.toNatClampNeg) (upd (zR S62 23 (f p0.toNatClampNeg)) (p1).toNatClampNeg (zno (zR S62 23 (f p0.toNatClampNeg) (p1).toNatClampNeg)))) 23 (f p0.toNatClampNeg) (upd (zR (zsR S62 23 (f p0.toNatClampNeg) (upd (zR S62 23 (f p0.toNatClampNeg)) (p1).toNatClampNeg (zno (zR S62 23 (f p0.toNatClampNeg) (p1).toNatClampNeg)))) 23 (f p0.toNatClampNeg)) ((p1 + p2)).toNatClampNeg (zno (zR (zsR S62 23 (f p0.toNatClampNeg) (upd (zR S62 23 (f p0.toNatClampNeg)) (p1).toNatClampNeg (zno (zR S62 23 (f p0.toNatClampNeg) (p1).toNatClampNeg)))) 23 (f p0.toNatClampNeg) ((p1 + p2)).toNatClampNeg)))) r62 f hp62.2.2.1 hp62.2.2.2.1 (fun j hj => ⟨(hf j hj).1, (hf j hj).2.1, (hf j hj).2.2.1, by refine Nat.le_trans (zcu_le _ _ _ _ _ _) ?_; refine Nat.le_trans (Nat.succ_le_succ (zcu_le _ _ _ _ _ _)) ?_; rw [zct_none (fun t _ => by rw [decide_eq_true_eq]; exact fun q => q ((hf j hj).2.2.2 t))]; decide⟩)) gX11_glitch_X11_areFew rfl (by decide +kernel) ⟨⟨rfl, rfl⟩, Nat.le_of_ble_eq_true rfl, Nat.le_of_ble_eq_true rfl⟩ rfl hl.1 rfl (Nat.le_of_ble_eq_true rfl) ⟨Nat.le_of_ble_eq_true rfl, Nat.le_of_ble_eq_true rfl⟩ dX11_glitch_104 (fun r104 S104 H locs hp104 hw => ?_)
          obtain ⟨rfl, hS9⟩ := hp104
          have hS9 := hS9.symm
          subst hS9
          refine lv_if_eq (tgt := 114) hx hb dX11_glitch_107 (by decide) (fun c107 => absurd c107 (by decide)) (fun _ => ?_)
          refine lv_iconst (v := 0) hx hb dX11_glitch_110 (by decide) ?_
          refine lv_goto (tgt := 115) hx hb dX11_glitch_111 (by decide) ?_
          refine p_Mod_thrown (a := (b 0)) (v := 0) C hw hM62.1 in_X11 (by decide +kernel) dX11_glitch_115 (fun H locs hw => ?_)
          refine lv_aload_n hx hb dX11_glitch_118 rfl (lv_at hl 2 rfl) ?_
          refine g_Mod_thrown (a := (b 0)) (v := 0) C hw hM62.1 in_X11 (by decide +kernel) (zI_s (zsR (zsR S62 23 (f p0.toNatClampNeg) (upd (zR S62 23 (f p0.toNatClampNeg)) (p1).toNatClampNeg (zno (zR S62 23 (f p0.toNatClampNeg) (p1).toNatClampNeg)))) 23 (f p0.toNatClampNeg) (upd (zR (zsR S62 23 (f p0.toNatClampNeg) (upd (zR S62 23 (f p0.toNatClampNeg)) (p1).toNatClampNeg (zno (zR S62 23 (f p0.toNatClampNeg) (p1).toNatClampNeg)))) 23 (f p0.toNatClampNeg)) ((p1 + p2)).toNatClampNeg (zno (zR (zsR S62 23 (f p0.toNatClampNeg) (upd (zR S62 23 (f p0.toNatClampNeg)) (p1).toNatClampNeg (zno (zR S62 23 (f p0.toNatClampNeg) (p1).toNatClampNeg)))) 23 (f p0.toNatClampNeg) ((p1 + p2)).toNatClampNeg)))) 240 (b 0) 0) dX11_glitch_119 ?_
          refine lv_if_le (tgt := 127) hx hb dX11_glitch_122 (by decide) (fun _ => ?_) (fun c122 => absurd c122 (by decide))
          refine lv_aload_n hx hb dX11_glitch_127 rfl (lv_at hl 2 rfl) ?_
          refine lv_aload hx hb dX11_glitch_128 (lv_at hl 1 rfl) ?_
          refine p_Mod_flips (a := (b 0)) (v := r62) C hw hM62.1 in_X11 (by decide +kernel) dX11_glitch_130 (fun H locs hw => ?_)
          refine lv_aload_n hx hb dX11_glitch_133 rfl (lv_at hl 2 rfl) ?_
          refine lv_iload_n hx hb dX11_glitch_134 rfl (lv_at hl 3 rfl) ?_
          refine zcV_i (As := [.int p0]) (rest := []) (n9 := 1) (b := (b 0)) C hw (c_X11_many l D y base (zsQ (zsI (zsR (zsR S62 23 (f p0.toNatClampNeg) (upd (zR S62 23 (f p0.toNatClampNeg)) (p1).toNatClampNeg (zno (zR S62 23 (f p0.toNatClampNeg) (p1).toNatClampNeg)))) 23 (f p0.toNatClampNeg) (upd (zR (zsR S62 23 (f p0.toNatClampNeg) (upd (zR S62 23 (f p0.toNatClampNeg)) (p1).toNatClampNeg (zno (zR S62 23 (f p0.toNatClampNeg) (p1).toNatClampNeg)))) 23 (f p0.toNatClampNeg)) ((p1 + p2)).toNatClampNeg (zno (zR (zsR S62 23 (f p0.toNatClampNeg) (upd (zR S62 23 (f p0.toNatClampNeg)) (p1).toNatClampNeg (zno (zR S62 23 (f p0.toNatClampNeg) (p1).toNatClampNeg)))) 23 (f p0.toNatClampNeg) ((p1 + p2)).toNatClampNeg)))) 240 (b 0) 0) 242 (b 0) (some r62)) (b 0) r62 (f p0.toNatClampNeg) p0 hM62.1 (zQ_s _ _ _ _) hp62.2.2.1 hp62.2.2.2.1 (by first | assumption | grind) hw9.1 hw9.2.1 hw9.2.2.1) gX11_glitch_X11_many rfl (by decide +kernel) ⟨⟨rfl, rfl⟩, Nat.le_of_ble_eq_true rfl, Nat.le_of_ble_eq_true rfl⟩ hM62.1 ⟨by decide, by decide⟩ rfl rfl hl.1 rfl (Nat.le_of_ble_eq_true rfl) ⟨Nat.le_of_ble_eq_true rfl, Nat.le_of_ble_eq_true rfl⟩ dX11_glitch_135 (fun r135 S135 H locs hp135 hw => ?_)
          obtain ⟨rfl, hS9⟩ := hp135
          have hS9 := hS9.symm
          subst hS9
          refine zrd (x := 2) (zmany2 (S := S62) hw9.2.2.2 (by grind) (by grind) (by grind)) ?_
          exact zri C hw hr hlocks rfl ⟨hM62.1, ((zI_s (zsR (zsR S62 23 (f p0.toNatClampNeg) (upd (zR S62 23 (f p0.toNatClampNeg)) (p1).toNatClampNeg (zno (zR S62 23 (f p0.toNatClampNeg) (p1).toNatClampNeg)))) 23 (f p0.toNatClampNeg) (upd (zR (zsR S62 23 (f p0.toNatClampNeg) (upd (zR S62 23 (f p0.toNatClampNeg)) (p1).toNatClampNeg (zno (zR S62 23 (f p0.toNatClampNeg) (p1).toNatClampNeg)))) 23 (f p0.toNatClampNeg)) ((p1 + p2)).toNatClampNeg (zno (zR (zsR S62 23 (f p0.toNatClampNeg) (upd (zR S62 23 (f p0.toNatClampNeg)) (p1).toNatClampNeg (zno (zR S62 23 (f p0.toNatClampNeg) (p1).toNatClampNeg)))) 23 (f p0.toNatClampNeg) ((p1 + p2)).toNatClampNeg)))) 240 (b 0) 0)).trans (by unfold kd_glitch; (try unfold zb); grind), (fun h9 => by first | rfl | (revert h9; unfold kd_glitch; (try unfold zb); grind))⟩ ⟨Nat.le_of_ble_eq_true rfl, Nat.le_of_ble_eq_true rfl⟩ dX11_glitch_138
  · replace c5 := zb1.mp c5
    refine lv_iconst (v := 0) hx hb dX11_glitch_8 (by decide) ?_
    exact zri C hw hr hlocks rfl ⟨hM.1, ((zI_s S 240 (b 0) (zb (¬ (0 ≤ p0 ∧ p0 ≤ 3))))).trans (by unfold kd_glitch; (try unfold zb); grind), (fun h9 => by first | rfl | (revert h9; unfold kd_glitch; (try unfold zb); grind))⟩ ⟨Nat.le_of_ble_eq_true rfl, Nat.le_of_ble_eq_true rfl⟩ dX11_glitch_9

