set_option maxHeartbeats 4000000 in
set_option maxRecDepth 100000 in
/-- X11_register -/
theorem c_X11_register_2 (l : Launch) (D : va_G) (y : Nat → ClassId) (base : Nat) (S : zS) (b : Nat → Nat) (p0 : Int32) (p1 : Int32) (hM : zMd S b) (hM0 : zMd0 S b) (hreg : kd_register p0 p1 = 0 → ∀ i j, i < 128 → zR S 22 (b (100 + i)) j = 0) : zMi l yX11_register wsX11_register ({ frames := 1, cells := 0, slots := 0, locals := 25 }) [.ref (b 0), .int p0, .int p1] D y base S (fun (r : Int32) (S1 : zS) => zK S1 (b 0) = 15 ∧ zI S1 240 (b 0) = kd_register p0 p1 ∧ (kd_register p0 p1 = 0 → r = 0)) 0 0 := by
  refine zMet_of (cc := cX11_register) (maxL := 3) (ret := (some .int)) (own := RX11) (by decide +kernel) rfl rfl (Nat.le_of_ble_eq_true rfl) ?_
  intro p e s m args below meth c ls C hr hlocks hnm hw hl
  have hx := C.1
  have hb := C.2.1
  have hown := C.2.2.2.1
  have hts := C.2.2.2.2
  have hl : lv_has ls 3 [(0, .ref (b 0)), (1, .int p0), (2, .int p1)] := hl
  have in_X11 : ∀ w ∈ wsX110, w ∈ wsX11_register := by decide +kernel
  refine lv_aload_n hx hb dX11_register_0 rfl (lv_at hl 0 rfl) ?_
  refine lv_iload_n hx hb dX11_register_1 rfl (lv_at hl 1 rfl) ?_
  refine lv_i2l (v := p0.toInt64) hx hb dX11_register_2 rfl ?_
  refine lv_lconst (v := ((0 : Int32).toInt64)) hx hb dX11_register_3 (by decide) ?_
  refine lv_ldc2 (own := RX11) (v := ((127 : Int32).toInt64)) hx hb hown (hts (.constantLong RX11 124 (127)) (by decide +kernel)) dX11_register_4 ?_
  refine zcS_i (As := [.long (p0.toInt64), .long ((0 : Int32).toInt64), .long ((127 : Int32).toInt64)]) (rest := [.ref (b 0)]) (n9 := 3) C hw (c_X11_in l D y base S p0 (0 : Int32) (127 : Int32) ) gX11_register_X11_in rfl (by decide +kernel) ⟨⟨rfl, rfl⟩, Nat.le_of_ble_eq_true rfl, Nat.le_of_ble_eq_true rfl⟩ rfl hl.1 rfl (Nat.le_of_ble_eq_true rfl) ⟨Nat.le_of_ble_eq_true rfl, Nat.le_of_ble_eq_true rfl⟩ dX11_register_7 (fun r7 S7 H locs hp7 hw => ?_)
  obtain ⟨rfl, hS9⟩ := hp7
  have hS9 := hS9.symm
  subst hS9
  refine lv_if_eq (tgt := 29) hx hb dX11_register_10 (by decide) (fun c10 => ?_) (fun c10 => ?_)
  · replace c10 := zb0.mp c10
    refine lv_iconst (v := 1) hx hb dX11_register_29 (by decide) ?_
    refine p_Mod_thrown (a := (b 0)) (v := 1) C hw hM.1 in_X11 (by decide +kernel) dX11_register_30 (fun H locs hw => ?_)
    refine lv_aload_n hx hb dX11_register_33 rfl (lv_at hl 0 rfl) ?_
    refine g_Mod_thrown (a := (b 0)) (v := 1) C hw hM.1 in_X11 (by decide +kernel) (zI_s S 240 (b 0) 1) dX11_register_34 ?_
    refine lv_if_le (tgt := 44) hx hb dX11_register_37 (by decide) (fun c37 => absurd c37 (by decide)) (fun _ => ?_)
    refine lv_iconst (v := 0) hx hb dX11_register_40 (by decide) ?_
    refine lv_goto (tgt := 52) hx hb dX11_register_41 (by decide) ?_
    exact zri C hw hr hlocks rfl ⟨hM.1, ((zI_s S 240 (b 0) 1)).trans (by unfold kd_register; (try unfold zb); grind), (fun h9 => by first | rfl | (revert h9; unfold kd_register; (try unfold zb); grind))⟩ ⟨Nat.le_of_ble_eq_true rfl, Nat.le_of_ble_eq_true rfl⟩ dX11_register_52
  · replace c10 := zb1.mp c10
    refine lv_iload_n hx hb dX11_register_13 rfl (lv_at hl 2 rfl) ?_
    refine lv_i2l (v := p1.toInt64) hx hb dX11_register_14 rfl ?_
    refine lv_lconst (v := ((0 : Int32).toInt64)) hx hb dX11_register_15 (by decide) ?_
    refine lv_ldc2 (own := RX11) (v := ((15 : Int32).toInt64)) hx hb hown (hts (.constantLong RX11 126 (15)) (by decide +kernel)) dX11_register_16 ?_
    refine zcS_i (As := [.long (p1.toInt64), .long ((0 : Int32).toInt64), .long ((15 : Int32).toInt64)]) (rest := [.ref (b 0)]) (n9 := 3) C hw (c_X11_in l D y base S p1 (0 : Int32) (15 : Int32) ) gX11_register_X11_in rfl (by decide +kernel) ⟨⟨rfl, rfl⟩, Nat.le_of_ble_eq_true rfl, Nat.le_of_ble_eq_true rfl⟩ rfl hl.1 rfl (Nat.le_of_ble_eq_true rfl) ⟨Nat.le_of_ble_eq_true rfl, Nat.le_of_ble_eq_true rfl⟩ dX11_register_19 (fun r19 S19 H locs hp19 hw => ?_)
    obtain ⟨rfl, hS9⟩ := hp19
    have hS9 := hS9.symm
    subst hS9
    refine lv_if_eq (tgt := 29) hx hb dX11_register_22 (by decide) (fun c22 => ?_) (fun c22 => ?_)
    · replace c22 := zb0.mp c22
      refine lv_iconst (v := 1) hx hb dX11_register_29 (by decide) ?_
      refine p_Mod_thrown (a := (b 0)) (v := 1) C hw hM.1 in_X11 (by decide +kernel) dX11_register_30 (fun H locs hw => ?_)
      refine lv_aload_n hx hb dX11_register_33 rfl (lv_at hl 0 rfl) ?_
      refine g_Mod_thrown (a := (b 0)) (v := 1) C hw hM.1 in_X11 (by decide +kernel) (zI_s S 240 (b 0) 1) dX11_register_34 ?_
      refine lv_if_le (tgt := 44) hx hb dX11_register_37 (by decide) (fun c37 => absurd c37 (by decide)) (fun _ => ?_)
      refine lv_iconst (v := 0) hx hb dX11_register_40 (by decide) ?_
      refine lv_goto (tgt := 52) hx hb dX11_register_41 (by decide) ?_
      exact zri C hw hr hlocks rfl ⟨hM.1, ((zI_s S 240 (b 0) 1)).trans (by unfold kd_register; (try unfold zb); grind), (fun h9 => by first | rfl | (revert h9; unfold kd_register; (try unfold zb); grind))⟩ ⟨Nat.le_of_ble_eq_true rfl, Nat.le_of_ble_eq_true rfl⟩ dX11_register_52
    · replace c22 := zb1.mp c22
      refine lv_iconst (v := 0) hx hb dX11_register_25 (by decide) ?_
      refine lv_goto (tgt := 30) hx hb dX11_register_26 (by decide) ?_
      refine p_Mod_thrown (a := (b 0)) (v := 0) C hw hM.1 in_X11 (by decide +kernel) dX11_register_30 (fun H locs hw => ?_)
      refine lv_aload_n hx hb dX11_register_33 rfl (lv_at hl 0 rfl) ?_
      refine g_Mod_thrown (a := (b 0)) (v := 0) C hw hM.1 in_X11 (by decide +kernel) (zI_s S 240 (b 0) 0) dX11_register_34 ?_
      refine lv_if_le (tgt := 44) hx hb dX11_register_37 (by decide) (fun _ => ?_) (fun c37 => absurd c37 (by decide))
      refine lv_aload_n hx hb dX11_register_44 rfl (lv_at hl 0 rfl) ?_
      refine g_Mod_registers (a := (b 0)) (v := (b 6)) C hw hM.1 in_X11 (by decide +kernel) hM.2.2.2.2.2.2.1 dX11_register_45 ?_
      refine lv_iload_n hx hb dX11_register_48 rfl (lv_at hl 1 rfl) ?_
      obtain ⟨w1, eP1, kW1, nW1, eW1⟩ := zMd_r hM (p := p0) (by grind)
      refine zald_P (a := (b 6)) (v := w1) C hw hM.2.2.2.2.2.2.2.2.2.2.2.2.2.2.2.1 (by decide) (t0 := 7) rfl rfl hM.2.2.2.2.2.2.2.2.2.2.2.2.2.2.2.2.1 (zin_of (N := 128) (by decide) (by grind) (by grind)) eP1 dX11_register_49 ?_
      refine lv_iload_n hx hb dX11_register_50 rfl (lv_at hl 2 rfl) ?_
      refine zald_I (a := w1) C hw kW1 nW1 (zin_of (N := 16) (by decide) (by grind) (by grind)) dX11_register_51 ?_
      refine zrd (x := 0) (by rw [eW1]; exact hreg (by unfold kd_register; grind) _ _ (z_cl128 (by grind))) ?_
      exact zri C hw hr hlocks rfl ⟨hM.1, ((zI_s S 240 (b 0) 0)).trans (by unfold kd_register; (try unfold zb); grind), (fun h9 => by first | rfl | (revert h9; unfold kd_register; (try unfold zb); grind))⟩ ⟨Nat.le_of_ble_eq_true rfl, Nat.le_of_ble_eq_true rfl⟩ dX11_register_52

