set_option maxHeartbeats 4000000 in
set_option maxRecDepth 100000 in
/-- X7_register -/
theorem c_X7_register_s (l : Launch) (hst : l.stackTraces = false) (D : va_G) (y : Nat → ClassId) (base : Nat) (S : zS) (a : Nat → Nat) (p0 : Int32) (p1 : Int32) (hX : zX S a) (h0 : zX0 S a) : zXi l yX7_register wsX7_register ({ frames := 7, cells := 2, slots := 12, locals := 112 }) [.ref (a 0), .int p0, .int p1] D y base S (fun (r : Int32) (S1 : zS) => r = 0 ∧ kd_register p0 p1 = 0 ∧ S1 = S) (fun (E : String) (S1 : zS) => ((E = "java/lang/IllegalArgumentException" ∧ kd_register p0 p1 = 1)) ∧ zCls S S1) 2 12 := by
  refine zXet_of (cc := cX7_register) (maxL := 3) (ret := (some .int)) (own := RX7) (by decide +kernel) rfl rfl (Nat.le_of_ble_eq_true rfl) ?_
  intro p e s m args below meth c ls C hr hlocks hx0 hw hl
  have hx := C.1
  have hb := C.2.1
  have hown := C.2.2.2.1
  have hts := C.2.2.2.2
  have hl : lv_has ls 3 [(0, .ref (a 0)), (1, .int p0), (2, .int p1)] := hl
  have in_X7 : ∀ w ∈ wsX70, w ∈ wsX7_register := by decide +kernel
  refine lv_iload_n hx hb dX7_register_0 rfl (lv_at hl 1 rfl) ?_
  refine lv_iconst (v := 0) hx hb dX7_register_1 (by decide) ?_
  refine lv_bipush (v := 127) hx hb dX7_register_2 (by decide) ?_
  refine zcS_xv (As := [.int p0, .int 0, .int 127]) (rest := []) (n9 := 3) C hw (c_X7_checkRange l hst D y base S p0 0 127 ) gX7_register_X7_checkRange rfl (by decide +kernel) ⟨⟨rfl, rfl⟩, Nat.le_of_ble_eq_true rfl, Nat.le_of_ble_eq_true rfl⟩ rfl hl.1 rfl (Nat.le_of_ble_eq_true rfl) ⟨Nat.le_of_ble_eq_true rfl, Nat.le_of_ble_eq_true rfl⟩ dX7_register_4 (fun E ce q9 S4 H locs hx4 hw h1 h2 h3 => zxout hw hx0 hlocks h1 h2 h3 (by obtain ⟨rfl, hc9, rfl⟩ := hx4; refine ⟨?_, zCls.rf⟩; first | exact ⟨rfl, (by unfold kd_register; grind)⟩) ⟨Nat.le_of_ble_eq_true rfl, Nat.le_of_ble_eq_true rfl⟩) (fun S4 H locs hp4 hw => ?_)
  obtain ⟨hp4, hS9⟩ := hp4
  have hS9 := hS9.symm
  subst hS9
  refine lv_iload_n hx hb dX7_register_7 rfl (lv_at hl 2 rfl) ?_
  refine lv_iconst (v := 0) hx hb dX7_register_8 (by decide) ?_
  refine lv_bipush (v := 15) hx hb dX7_register_9 (by decide) ?_
  refine zcS_xv (As := [.int p1, .int 0, .int 15]) (rest := []) (n9 := 3) C hw (c_X7_checkRange l hst D y base S p1 0 15 ) gX7_register_X7_checkRange rfl (by decide +kernel) ⟨⟨rfl, rfl⟩, Nat.le_of_ble_eq_true rfl, Nat.le_of_ble_eq_true rfl⟩ rfl hl.1 rfl (Nat.le_of_ble_eq_true rfl) ⟨Nat.le_of_ble_eq_true rfl, Nat.le_of_ble_eq_true rfl⟩ dX7_register_11 (fun E ce q9 S11 H locs hx11 hw h1 h2 h3 => zxout hw hx0 hlocks h1 h2 h3 (by obtain ⟨rfl, hc9, rfl⟩ := hx11; refine ⟨?_, zCls.rf⟩; first | exact ⟨rfl, (by unfold kd_register; grind)⟩) ⟨Nat.le_of_ble_eq_true rfl, Nat.le_of_ble_eq_true rfl⟩) (fun S11 H locs hp11 hw => ?_)
  obtain ⟨hp11, hS9⟩ := hp11
  have hS9 := hS9.symm
  subst hS9
  refine lv_aload_n hx hb dX7_register_14 rfl (lv_at hl 0 rfl) ?_
  refine g_Ph_devices (a := (a 0)) (v := (a 5)) C hw hX.1 in_X7 (by decide +kernel) hX.2.2.2.2.2.1 dX7_register_15 ?_
  refine lv_iload_n hx hb dX7_register_18 rfl (lv_at hl 1 rfl) ?_
  refine lv_iload_n hx hb dX7_register_19 rfl (lv_at hl 2 rfl) ?_
  refine zcV_i (As := [.int p0, .int p1]) (rest := []) (n9 := 2) (b := (a 5)) C hw (c_X1_read l D y base S (a 5) (a 6) p0 p1 hX.2.2.2.2.2.2.2.2.2.2.2.1 h0.2.2.2.2.2.2.2) gX7_register_X1_read rfl (by decide +kernel) ⟨⟨rfl, rfl⟩, Nat.le_of_ble_eq_true rfl, Nat.le_of_ble_eq_true rfl⟩ hX.2.2.2.2.2.2.2.2.2.2.2.1.1 ⟨by decide, by decide⟩ rfl rfl hl.1 rfl (Nat.le_of_ble_eq_true rfl) ⟨Nat.le_of_ble_eq_true rfl, Nat.le_of_ble_eq_true rfl⟩ dX7_register_20 (fun r20 S20 H locs hp20 hw => ?_)
  obtain ⟨rfl, hS9⟩ := hp20
  have hS9 := hS9.symm
  subst hS9
  exact vx_ret (zri C hw hr hlocks rfl ⟨rfl, (by unfold kd_register; grind), rfl⟩ ⟨Nat.le_of_ble_eq_true rfl, Nat.le_of_ble_eq_true rfl⟩ dX7_register_23)

set_option maxHeartbeats 4000000 in
set_option maxRecDepth 100000 in
/-- X11_noSamples -/
theorem c_X11_noSamples (l : Launch) (D : va_G) (y : Nat → ClassId) (base : Nat) (S : zS) (b : Nat → Nat) (p0 : Int32) (p1 : Int32) (hM : zMd S b) : zMi l yX11_noSamples wsX11_noSamples ({ frames := 3, cells := 0, slots := 0, locals := 67 }) [.ref (b 0), .int p0, .int p1] D y base S (fun (r : Int32) (S1 : zS) => zK S1 (b 0) = 15 ∧ zI S1 240 (b 0) = kd_run p0 p1 ∧ r = 1) 0 0 := by
  refine zMet_of (cc := cX11_noSamples) (maxL := 3) (ret := (some .boolean)) (own := RX11) (by decide +kernel) rfl rfl (Nat.le_of_ble_eq_true rfl) ?_
  intro p e s m args below meth c ls C hr hlocks hnm hw hl
  have hx := C.1
  have hb := C.2.1
  have hown := C.2.2.2.1
  have hts := C.2.2.2.2
  have hl : lv_has ls 3 [(0, .ref (b 0)), (1, .int p0), (2, .int p1)] := hl
  have in_X11 : ∀ w ∈ wsX110, w ∈ wsX11_noSamples := by decide +kernel
  refine lv_aload_n hx hb dX11_noSamples_0 rfl (lv_at hl 0 rfl) ?_
  refine lv_iload_n hx hb dX11_noSamples_1 rfl (lv_at hl 1 rfl) ?_
  refine lv_iload_n hx hb dX11_noSamples_2 rfl (lv_at hl 2 rfl) ?_
  refine zcV_i (As := [.int p0, .int p1]) (rest := []) (n9 := 2) (b := (b 0)) C hw (c_X11_noRow l D y base S (b 0) p0 p1 hM.1) gX11_noSamples_X11_noRow rfl (by decide +kernel) ⟨⟨rfl, rfl⟩, Nat.le_of_ble_eq_true rfl, Nat.le_of_ble_eq_true rfl⟩ hM.1 ⟨by decide, by decide⟩ rfl rfl hl.1 rfl (Nat.le_of_ble_eq_true rfl) ⟨Nat.le_of_ble_eq_true rfl, Nat.le_of_ble_eq_true rfl⟩ dX11_noSamples_3 (fun r3 S3 H locs hp3 hw => ?_)
  obtain ⟨rfl, rfl⟩ := hp3
  refine lv_if_ne (tgt := 28) hx hb dX11_noSamples_6 (by decide) (fun c6 => ?_) (fun c6 => ?_)
  · replace c6 := zb1.mp c6
    refine lv_aload_n hx hb dX11_noSamples_28 rfl (lv_at hl 0 rfl) ?_
    refine g_Mod_thrown (a := (b 0)) (v := (zb (¬ ((0 ≤ p0 ∧ p0 ≤ 1) ∧ 0 ≤ p1 ∧ p1 ≤ 3)))) C hw hM.1 in_X11 (by decide +kernel) (zI_s S 240 (b 0) (zb (¬ ((0 ≤ p0 ∧ p0 ≤ 1) ∧ 0 ≤ p1 ∧ p1 ≤ 3)))) dX11_noSamples_29 ?_
    refine lv_if_le (tgt := 39) hx hb dX11_noSamples_32 (by decide) (fun c32 => (show False from (by have h9 := c32; unfold zb at h9; grind)).elim) (fun c32 => ?_)
    refine lv_iconst (v := 1) hx hb dX11_noSamples_35 (by decide) ?_
    refine lv_goto (tgt := 40) hx hb dX11_noSamples_36 (by decide) ?_
    exact zri C hw hr hlocks (by decide) ⟨hM.1, ((zI_s S 240 (b 0) (zb (¬ ((0 ≤ p0 ∧ p0 ≤ 1) ∧ 0 ≤ p1 ∧ p1 ≤ 3))))).trans (by unfold kd_run; (try unfold zb); grind), rfl⟩ ⟨Nat.le_of_ble_eq_true rfl, Nat.le_of_ble_eq_true rfl⟩ dX11_noSamples_40
  · replace c6 := zb0.mp c6
    refine lv_aload_n hx hb dX11_noSamples_9 rfl (lv_at hl 0 rfl) ?_
    refine lv_aload_n hx hb dX11_noSamples_10 rfl (lv_at hl 0 rfl) ?_
    refine g_Mod_samples (a := (b 0)) (v := (b 3)) C hw hM.1 in_X11 (by decide +kernel) hM.2.2.2.1 dX11_noSamples_11 ?_
    refine lv_iload_n hx hb dX11_noSamples_14 rfl (lv_at hl 1 rfl) ?_
    obtain ⟨w1, eP1, kW1, nW1⟩ := zMd_s hM (p := p0) (by first | assumption | grind)
    refine zald_P (a := (b 3)) (v := w1) C hw hM.2.2.2.2.2.2.2.2.2.2.2.1 (by decide) (t0 := 7) rfl rfl hM.2.2.2.2.2.2.2.2.2.2.2.2.1 (zin_of (N := 2) (by decide) (by grind) (by grind)) eP1 dX11_noSamples_15 ?_
    refine zalen (a := w1) (v := 0) C hw kW1 (by decide) (t0 := 1) rfl (zlen nW1 rfl) dX11_noSamples_16 ?_
    refine lv_if_ne (tgt := 24) hx hb dX11_noSamples_17 (by decide) (fun c17 => absurd c17 (by decide)) (fun _ => ?_)
    refine lv_iconst (v := 2) hx hb dX11_noSamples_20 (by decide) ?_
    refine lv_goto (tgt := 25) hx hb dX11_noSamples_21 (by decide) ?_
    refine p_Mod_thrown (a := (b 0)) (v := 2) C hw hM.1 in_X11 (by decide +kernel) dX11_noSamples_25 (fun H locs hw => ?_)
    refine lv_aload_n hx hb dX11_noSamples_28 rfl (lv_at hl 0 rfl) ?_
    refine g_Mod_thrown (a := (b 0)) (v := 2) C hw hM.1 in_X11 (by decide +kernel) (zI_s (zsI S 240 (b 0) (zb (¬ ((0 ≤ p0 ∧ p0 ≤ 1) ∧ 0 ≤ p1 ∧ p1 ≤ 3)))) 240 (b 0) 2) dX11_noSamples_29 ?_
    refine lv_if_le (tgt := 39) hx hb dX11_noSamples_32 (by decide) (fun c32 => absurd c32 (by decide)) (fun _ => ?_)
    refine lv_iconst (v := 1) hx hb dX11_noSamples_35 (by decide) ?_
    refine lv_goto (tgt := 40) hx hb dX11_noSamples_36 (by decide) ?_
    exact zri C hw hr hlocks (by decide) ⟨hM.1, ((zI_s (zsI S 240 (b 0) (zb (¬ ((0 ≤ p0 ∧ p0 ≤ 1) ∧ 0 ≤ p1 ∧ p1 ≤ 3)))) 240 (b 0) 2)).trans (by unfold kd_run; (try unfold zb); grind), rfl⟩ ⟨Nat.le_of_ble_eq_true rfl, Nat.le_of_ble_eq_true rfl⟩ dX11_noSamples_40

