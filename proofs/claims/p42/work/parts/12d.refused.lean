set_option maxHeartbeats 4000000 in
set_option maxRecDepth 100000 in
/-- X7_idle -/
theorem c_X7_idle_r (l : Launch) (hst : l.stackTraces = false) (D : va_G) (y : Nat → ClassId) (base : Nat) (S : zS) (a : Nat → Nat) (p0 : Int32) (p1 : Int32) (hX : zX S a) (h0 : zX0 S a) (hbad : ¬ kd_idle p0 = 0) : zXi l yX7_idle wsX7_idle ({ frames := 7, cells := 1, slots := 6, locals := 110 }) [.ref (a 0), .int p0, .int p1] D y base S (fun (r : Int32) (S1 : zS) => False ∧ S1 = S) (fun (E : String) (S1 : zS) => ((E = "java/lang/IndexOutOfBoundsException" ∧ kd_idle p0 = 1)) ∧ S1 = S) 1 6 := by
  refine zXet_of (cc := cX7_idle) (maxL := 4) (ret := (some .boolean)) (own := RX7) (by decide +kernel) rfl rfl (Nat.le_of_ble_eq_true rfl) ?_
  intro p e s m args below meth c ls C hr hlocks hx0 hw hl
  have hx := C.1
  have hb := C.2.1
  have hown := C.2.2.2.1
  have hts := C.2.2.2.2
  have hl : lv_has ls 4 [(0, .ref (a 0)), (1, .int p0), (2, .int p1)] := hl
  refine lv_iload_n hx hb dX7_idle_0 rfl (lv_at hl 1 rfl) ?_
  refine zcS_xv (As := [.int p0]) (rest := []) (n9 := 1) C hw (c_X7_checkWire l hst D y base S p0 ) gX7_idle_X7_checkWire rfl (by decide +kernel) ⟨⟨rfl, rfl⟩, Nat.le_of_ble_eq_true rfl, Nat.le_of_ble_eq_true rfl⟩ rfl hl.1 rfl (Nat.le_of_ble_eq_true rfl) ⟨Nat.le_of_ble_eq_true rfl, Nat.le_of_ble_eq_true rfl⟩ dX7_idle_1 (fun E ce q9 S1 H locs hx1 hw h1 h2 h3 => zxout hw hx0 hlocks h1 h2 h3 (by obtain ⟨rfl, hc9, rfl⟩ := hx1; refine ⟨?_, rfl⟩; first | exact ⟨rfl, (by unfold kd_idle; grind)⟩) ⟨Nat.le_of_ble_eq_true rfl, Nat.le_of_ble_eq_true rfl⟩) (fun S1 H locs hp1 hw => ?_)
  obtain ⟨hp1, hS9⟩ := hp1
  have hS9 := hS9.symm
  subst hS9
  exact (show False from (hbad (by unfold kd_idle; grind))).elim

set_option maxHeartbeats 4000000 in
set_option maxRecDepth 100000 in
/-- X7_drift -/
theorem c_X7_drift_r (l : Launch) (hst : l.stackTraces = false) (D : va_G) (y : Nat → ClassId) (base : Nat) (S : zS) (a : Nat → Nat) (p0 : Int32) (hX : zX S a) (h0 : zX0 S a) (hbad : ¬ kd_drift p0 = 0) : zXi l yX7_drift wsX7_drift ({ frames := 7, cells := 1, slots := 6, locals := 112 }) [.ref (a 0), .int p0] D y base S (fun (r : Int32) (S1 : zS) => False ∧ S1 = S) (fun (E : String) (S1 : zS) => ((E = "java/lang/IllegalArgumentException" ∧ kd_drift p0 = 1)) ∧ S1 = S) 1 6 := by
  refine zXet_of (cc := cX7_drift) (maxL := 3) (ret := (some .int)) (own := RX7) (by decide +kernel) rfl rfl (Nat.le_of_ble_eq_true rfl) ?_
  intro p e s m args below meth c ls C hr hlocks hx0 hw hl
  have hx := C.1
  have hb := C.2.1
  have hown := C.2.2.2.1
  have hts := C.2.2.2.2
  have hl : lv_has ls 3 [(0, .ref (a 0)), (1, .int p0)] := hl
  refine lv_iload_n hx hb dX7_drift_0 rfl (lv_at hl 1 rfl) ?_
  refine lv_bipush (v := (-50)) hx hb dX7_drift_1 (by decide) ?_
  refine lv_bipush (v := 50) hx hb dX7_drift_3 (by decide) ?_
  refine zcS_xv (As := [.int p0, .int (-50), .int 50]) (rest := []) (n9 := 3) C hw (c_X7_checkRange l hst D y base S p0 (-50) 50 ) gX7_drift_X7_checkRange rfl (by decide +kernel) ⟨⟨rfl, rfl⟩, Nat.le_of_ble_eq_true rfl, Nat.le_of_ble_eq_true rfl⟩ rfl hl.1 rfl (Nat.le_of_ble_eq_true rfl) ⟨Nat.le_of_ble_eq_true rfl, Nat.le_of_ble_eq_true rfl⟩ dX7_drift_5 (fun E ce q9 S5 H locs hx5 hw h1 h2 h3 => zxout hw hx0 hlocks h1 h2 h3 (by obtain ⟨rfl, hc9, rfl⟩ := hx5; refine ⟨?_, rfl⟩; first | exact ⟨rfl, (by unfold kd_drift; grind)⟩) ⟨Nat.le_of_ble_eq_true rfl, Nat.le_of_ble_eq_true rfl⟩) (fun S5 H locs hp5 hw => ?_)
  obtain ⟨hp5, hS9⟩ := hp5
  have hS9 := hS9.symm
  subst hS9
  exact (show False from (hbad (by unfold kd_drift; grind))).elim

set_option maxHeartbeats 4000000 in
set_option maxRecDepth 100000 in
/-- X7_register -/
theorem c_X7_register_r (l : Launch) (hst : l.stackTraces = false) (D : va_G) (y : Nat → ClassId) (base : Nat) (S : zS) (a : Nat → Nat) (p0 : Int32) (p1 : Int32) (hX : zX S a) (h0 : zX0 S a) : zXi l yX7_register wsX7_register ({ frames := 7, cells := 2, slots := 12, locals := 112 }) [.ref (a 0), .int p0, .int p1] D y base S (fun (r : Int32) (S1 : zS) => r = 0 ∧ kd_register p0 p1 = 0 ∧ S1 = S) (fun (E : String) (S1 : zS) => ((E = "java/lang/IllegalArgumentException" ∧ kd_register p0 p1 = 1)) ∧ S1 = S) 2 12 := by
  refine zXet_of (cc := cX7_register) (maxL := 3) (ret := (some .int)) (own := RX7) (by decide +kernel) rfl rfl (Nat.le_of_ble_eq_true rfl) ?_
  intro p e s m args below meth c ls C hr hlocks hx0 hw hl
  have hx := C.1
  have hb := C.2.1
  have hown := C.2.2.2.1
  have hts := C.2.2.2.2
  have hl : lv_has ls 3 [(0, .ref (a 0)), (1, .int p0), (2, .int p1)] := hl
  have in_X7 : ∀ w ∈ wsX70, w ∈ wsX7_register := by decide +kernel
  refine lv_iload_n hx hb dX7_register_0 rfl (lv_at hl 1 rfl) ?_
  refine lv_iconst (v := 0) hx hb dX7_register_1 (by decide) ?_
  refine lv_bipush (v := 127) hx hb dX7_register_2 (by decide) ?_
  refine zcS_xv (As := [.int p0, .int 0, .int 127]) (rest := []) (n9 := 3) C hw (c_X7_checkRange l hst D y base S p0 0 127 ) gX7_register_X7_checkRange rfl (by decide +kernel) ⟨⟨rfl, rfl⟩, Nat.le_of_ble_eq_true rfl, Nat.le_of_ble_eq_true rfl⟩ rfl hl.1 rfl (Nat.le_of_ble_eq_true rfl) ⟨Nat.le_of_ble_eq_true rfl, Nat.le_of_ble_eq_true rfl⟩ dX7_register_4 (fun E ce q9 S4 H locs hx4 hw h1 h2 h3 => zxout hw hx0 hlocks h1 h2 h3 (by obtain ⟨rfl, hc9, rfl⟩ := hx4; refine ⟨?_, rfl⟩; first | exact ⟨rfl, (by unfold kd_register; grind)⟩) ⟨Nat.le_of_ble_eq_true rfl, Nat.le_of_ble_eq_true rfl⟩) (fun S4 H locs hp4 hw => ?_)
  obtain ⟨hp4, hS9⟩ := hp4
  have hS9 := hS9.symm
  subst hS9
  refine lv_iload_n hx hb dX7_register_7 rfl (lv_at hl 2 rfl) ?_
  refine lv_iconst (v := 0) hx hb dX7_register_8 (by decide) ?_
  refine lv_bipush (v := 15) hx hb dX7_register_9 (by decide) ?_
  refine zcS_xv (As := [.int p1, .int 0, .int 15]) (rest := []) (n9 := 3) C hw (c_X7_checkRange l hst D y base S p1 0 15 ) gX7_register_X7_checkRange rfl (by decide +kernel) ⟨⟨rfl, rfl⟩, Nat.le_of_ble_eq_true rfl, Nat.le_of_ble_eq_true rfl⟩ rfl hl.1 rfl (Nat.le_of_ble_eq_true rfl) ⟨Nat.le_of_ble_eq_true rfl, Nat.le_of_ble_eq_true rfl⟩ dX7_register_11 (fun E ce q9 S11 H locs hx11 hw h1 h2 h3 => zxout hw hx0 hlocks h1 h2 h3 (by obtain ⟨rfl, hc9, rfl⟩ := hx11; refine ⟨?_, rfl⟩; first | exact ⟨rfl, (by unfold kd_register; grind)⟩) ⟨Nat.le_of_ble_eq_true rfl, Nat.le_of_ble_eq_true rfl⟩) (fun S11 H locs hp11 hw => ?_)
  obtain ⟨hp11, hS9⟩ := hp11
  have hS9 := hS9.symm
  subst hS9
  refine lv_aload_n hx hb dX7_register_14 rfl (lv_at hl 0 rfl) ?_
  refine g_Ph_devices (a := (a 0)) (v := (a 5)) C hw hX.1 in_X7 (by decide +kernel) hX.2.2.2.2.2.1 dX7_register_15 ?_
  refine lv_iload_n hx hb dX7_register_18 rfl (lv_at hl 1 rfl) ?_
  refine lv_iload_n hx hb dX7_register_19 rfl (lv_at hl 2 rfl) ?_
  refine zcV_i (As := [.int p0, .int p1]) (rest := []) (n9 := 2) (b := (a 5)) C hw (c_X1_read l D y base S (a 5) (a 6) p0 p1 hX.2.2.2.2.2.2.2.2.2.2.2.1 h0.2.2.2.2.2.2.2) gX7_register_X1_read rfl (by decide +kernel) ⟨⟨rfl, rfl⟩, Nat.le_of_ble_eq_true rfl, Nat.le_of_ble_eq_true rfl⟩ hX.2.2.2.2.2.2.2.2.2.2.2.1.1 ⟨by decide, by decide⟩ rfl rfl hl.1 rfl (Nat.le_of_ble_eq_true rfl) ⟨Nat.le_of_ble_eq_true rfl, Nat.le_of_ble_eq_true rfl⟩ dX7_register_20 (fun r20 S20 H locs hp20 hw => ?_)
  obtain ⟨rfl, hS9⟩ := hp20
  have hS9 := hS9.symm
  subst hS9
  exact vx_ret (zri C hw hr hlocks rfl ⟨rfl, (by unfold kd_register; grind), rfl⟩ ⟨Nat.le_of_ble_eq_true rfl, Nat.le_of_ble_eq_true rfl⟩ dX7_register_23)

set_option maxHeartbeats 4000000 in
set_option maxRecDepth 100000 in
/-- X7_flip -/
theorem c_X7_flip_r (l : Launch) (hst : l.stackTraces = false) (D : va_G) (y : Nat → ClassId) (base : Nat) (S : zS) (a : Nat → Nat) (p0 : Int32) (p1 : Int32) (hX : zX S a) (h0 : zX0 S a) (hbad : ¬ kd_flip p0 p1 = 0) : zXi l yX7_flip wsX7_flip ({ frames := 7, cells := 2, slots := 12, locals := 112 }) [.ref (a 0), .int p0, .int p1] D y base S (fun (r : Int32) (S1 : zS) => False ∧ S1 = S) (fun (E : String) (S1 : zS) => ((E = "java/lang/IndexOutOfBoundsException" ∧ kd_flip p0 p1 = 1) ∨ (E = "java/lang/IllegalArgumentException" ∧ kd_flip p0 p1 = 2)) ∧ S1 = S) 2 12 := by
  refine zXet_of (cc := cX7_flip) (maxL := 4) (ret := (some .int)) (own := RX7) (by decide +kernel) rfl rfl (Nat.le_of_ble_eq_true rfl) ?_
  intro p e s m args below meth c ls C hr hlocks hx0 hw hl
  have hx := C.1
  have hb := C.2.1
  have hown := C.2.2.2.1
  have hts := C.2.2.2.2
  have hl : lv_has ls 4 [(0, .ref (a 0)), (1, .int p0), (2, .int p1)] := hl
  refine lv_iload_n hx hb dX7_flip_0 rfl (lv_at hl 1 rfl) ?_
  refine zcS_xv (As := [.int p0]) (rest := []) (n9 := 1) C hw (c_X7_checkWire l hst D y base S p0 ) gX7_flip_X7_checkWire rfl (by decide +kernel) ⟨⟨rfl, rfl⟩, Nat.le_of_ble_eq_true rfl, Nat.le_of_ble_eq_true rfl⟩ rfl hl.1 rfl (Nat.le_of_ble_eq_true rfl) ⟨Nat.le_of_ble_eq_true rfl, Nat.le_of_ble_eq_true rfl⟩ dX7_flip_1 (fun E ce q9 S1 H locs hx1 hw h1 h2 h3 => zxout hw hx0 hlocks h1 h2 h3 (by obtain ⟨rfl, hc9, rfl⟩ := hx1; refine ⟨?_, rfl⟩; first | exact (Or.inl ⟨rfl, (by unfold kd_flip; grind)⟩) | exact (Or.inr ⟨rfl, (by unfold kd_flip; grind)⟩)) ⟨Nat.le_of_ble_eq_true rfl, Nat.le_of_ble_eq_true rfl⟩) (fun S1 H locs hp1 hw => ?_)
  obtain ⟨hp1, hS9⟩ := hp1
  have hS9 := hS9.symm
  subst hS9
  refine lv_iload_n hx hb dX7_flip_4 rfl (lv_at hl 2 rfl) ?_
  refine lv_iconst (v := 0) hx hb dX7_flip_5 (by decide) ?_
  refine lv_sipush (v := 9999) hx hb dX7_flip_6 (by decide) ?_
  refine zcS_xv (As := [.int p1, .int 0, .int 9999]) (rest := []) (n9 := 3) C hw (c_X7_checkRange l hst D y base S p1 0 9999 ) gX7_flip_X7_checkRange rfl (by decide +kernel) ⟨⟨rfl, rfl⟩, Nat.le_of_ble_eq_true rfl, Nat.le_of_ble_eq_true rfl⟩ rfl hl.1 rfl (Nat.le_of_ble_eq_true rfl) ⟨Nat.le_of_ble_eq_true rfl, Nat.le_of_ble_eq_true rfl⟩ dX7_flip_9 (fun E ce q9 S9 H locs hx9 hw h1 h2 h3 => zxout hw hx0 hlocks h1 h2 h3 (by obtain ⟨rfl, hc9, rfl⟩ := hx9; refine ⟨?_, rfl⟩; first | exact (Or.inl ⟨rfl, (by unfold kd_flip; grind)⟩) | exact (Or.inr ⟨rfl, (by unfold kd_flip; grind)⟩)) ⟨Nat.le_of_ble_eq_true rfl, Nat.le_of_ble_eq_true rfl⟩) (fun S9 H locs hp9 hw => ?_)
  obtain ⟨hp9, hS9⟩ := hp9
  have hS9 := hS9.symm
  subst hS9
  exact (show False from (hbad (by unfold kd_flip; grind))).elim

set_option maxHeartbeats 4000000 in
set_option maxRecDepth 100000 in
/-- X7_level -/
theorem c_X7_level_r (l : Launch) (hst : l.stackTraces = false) (D : va_G) (y : Nat → ClassId) (base : Nat) (S : zS) (a : Nat → Nat) (p0 : Int32) (p1 : Int32) (hX : zX S a) (h0 : zX0 S a) (hbad : ¬ kd_flip p0 p1 = 0) : zXi l yX7_level wsX7_level ({ frames := 7, cells := 2, slots := 12, locals := 112 }) [.ref (a 0), .int p0, .int p1] D y base S (fun (r : Int32) (S1 : zS) => False ∧ S1 = S) (fun (E : String) (S1 : zS) => ((E = "java/lang/IndexOutOfBoundsException" ∧ kd_flip p0 p1 = 1) ∨ (E = "java/lang/IllegalArgumentException" ∧ kd_flip p0 p1 = 2)) ∧ S1 = S) 2 12 := by
  refine zXet_of (cc := cX7_level) (maxL := 3) (ret := (some .boolean)) (own := RX7) (by decide +kernel) rfl rfl (Nat.le_of_ble_eq_true rfl) ?_
  intro p e s m args below meth c ls C hr hlocks hx0 hw hl
  have hx := C.1
  have hb := C.2.1
  have hown := C.2.2.2.1
  have hts := C.2.2.2.2
  have hl : lv_has ls 3 [(0, .ref (a 0)), (1, .int p0), (2, .int p1)] := hl
  refine lv_iload_n hx hb dX7_level_0 rfl (lv_at hl 1 rfl) ?_
  refine zcS_xv (As := [.int p0]) (rest := []) (n9 := 1) C hw (c_X7_checkWire l hst D y base S p0 ) gX7_level_X7_checkWire rfl (by decide +kernel) ⟨⟨rfl, rfl⟩, Nat.le_of_ble_eq_true rfl, Nat.le_of_ble_eq_true rfl⟩ rfl hl.1 rfl (Nat.le_of_ble_eq_true rfl) ⟨Nat.le_of_ble_eq_true rfl, Nat.le_of_ble_eq_true rfl⟩ dX7_level_1 (fun E ce q9 S1 H locs hx1 hw h1 h2 h3 => zxout hw hx0 hlocks h1 h2 h3 (by obtain ⟨rfl, hc9, rfl⟩ := hx1; refine ⟨?_, rfl⟩; first | exact (Or.inl ⟨rfl, (by unfold kd_flip; grind)⟩) | exact (Or.inr ⟨rfl, (by unfold kd_flip; grind)⟩)) ⟨Nat.le_of_ble_eq_true rfl, Nat.le_of_ble_eq_true rfl⟩) (fun S1 H locs hp1 hw => ?_)
  obtain ⟨hp1, hS9⟩ := hp1
  have hS9 := hS9.symm
  subst hS9
  refine lv_iload_n hx hb dX7_level_4 rfl (lv_at hl 2 rfl) ?_
  refine lv_iconst (v := 0) hx hb dX7_level_5 (by decide) ?_
  refine lv_sipush (v := 9999) hx hb dX7_level_6 (by decide) ?_
  refine zcS_xv (As := [.int p1, .int 0, .int 9999]) (rest := []) (n9 := 3) C hw (c_X7_checkRange l hst D y base S p1 0 9999 ) gX7_level_X7_checkRange rfl (by decide +kernel) ⟨⟨rfl, rfl⟩, Nat.le_of_ble_eq_true rfl, Nat.le_of_ble_eq_true rfl⟩ rfl hl.1 rfl (Nat.le_of_ble_eq_true rfl) ⟨Nat.le_of_ble_eq_true rfl, Nat.le_of_ble_eq_true rfl⟩ dX7_level_9 (fun E ce q9 S9 H locs hx9 hw h1 h2 h3 => zxout hw hx0 hlocks h1 h2 h3 (by obtain ⟨rfl, hc9, rfl⟩ := hx9; refine ⟨?_, rfl⟩; first | exact (Or.inl ⟨rfl, (by unfold kd_flip; grind)⟩) | exact (Or.inr ⟨rfl, (by unfold kd_flip; grind)⟩)) ⟨Nat.le_of_ble_eq_true rfl, Nat.le_of_ble_eq_true rfl⟩) (fun S9 H locs hp9 hw => ?_)
  obtain ⟨hp9, hS9⟩ := hp9
  have hS9 := hS9.symm
  subst hS9
  exact (show False from (hbad (by unfold kd_flip; grind))).elim

set_option maxHeartbeats 4000000 in
set_option maxRecDepth 100000 in
/-- X7_glitch -/
theorem c_X7_glitch_r (l : Launch) (hst : l.stackTraces = false) (D : va_G) (y : Nat → ClassId) (base : Nat) (S : zS) (a : Nat → Nat) (p0 : Int32) (p1 : Int32) (p2 : Int32) (hX : zX S a) (h0 : zX0 S a) (hbad : ¬ kd_glitch p0 p1 p2 = 0) : zXi l yX7_glitch wsX7_glitch ({ frames := 7, cells := 4, slots := 24, locals := 112 }) [.ref (a 0), .int p0, .int p1, .int p2] D y base S (fun (r : Int32) (S1 : zS) => False ∧ S1 = S) (fun (E : String) (S1 : zS) => ((E = "java/lang/IndexOutOfBoundsException" ∧ kd_glitch p0 p1 p2 = 1) ∨ (E = "java/lang/IllegalArgumentException" ∧ kd_glitch p0 p1 p2 = 2)) ∧ S1 = S) 4 24 := by
  refine zXet_of (cc := cX7_glitch) (maxL := 5) (ret := (some .int)) (own := RX7) (by decide +kernel) rfl rfl (Nat.le_of_ble_eq_true rfl) ?_
  intro p e s m args below meth c ls C hr hlocks hx0 hw hl
  have hx := C.1
  have hb := C.2.1
  have hown := C.2.2.2.1
  have hts := C.2.2.2.2
  have hl : lv_has ls 5 [(0, .ref (a 0)), (1, .int p0), (2, .int p1), (3, .int p2)] := hl
  refine lv_iload_n hx hb dX7_glitch_0 rfl (lv_at hl 1 rfl) ?_
  refine zcS_xv (As := [.int p0]) (rest := []) (n9 := 1) C hw (c_X7_checkWire l hst D y base S p0 ) gX7_glitch_X7_checkWire rfl (by decide +kernel) ⟨⟨rfl, rfl⟩, Nat.le_of_ble_eq_true rfl, Nat.le_of_ble_eq_true rfl⟩ rfl hl.1 rfl (Nat.le_of_ble_eq_true rfl) ⟨Nat.le_of_ble_eq_true rfl, Nat.le_of_ble_eq_true rfl⟩ dX7_glitch_1 (fun E ce q9 S1 H locs hx1 hw h1 h2 h3 => zxout hw hx0 hlocks h1 h2 h3 (by obtain ⟨rfl, hc9, rfl⟩ := hx1; refine ⟨?_, rfl⟩; first | exact (Or.inl ⟨rfl, (by unfold kd_glitch; grind)⟩) | exact (Or.inr ⟨rfl, (by unfold kd_glitch; grind)⟩)) ⟨Nat.le_of_ble_eq_true rfl, Nat.le_of_ble_eq_true rfl⟩) (fun S1 H locs hp1 hw => ?_)
  obtain ⟨hp1, hS9⟩ := hp1
  have hS9 := hS9.symm
  subst hS9
  refine lv_iload_n hx hb dX7_glitch_4 rfl (lv_at hl 2 rfl) ?_
  refine lv_iconst (v := 0) hx hb dX7_glitch_5 (by decide) ?_
  refine lv_sipush (v := 9999) hx hb dX7_glitch_6 (by decide) ?_
  refine zcS_xv (As := [.int p1, .int 0, .int 9999]) (rest := []) (n9 := 3) C hw (c_X7_checkRange l hst D y base S p1 0 9999 ) gX7_glitch_X7_checkRange rfl (by decide +kernel) ⟨⟨rfl, rfl⟩, Nat.le_of_ble_eq_true rfl, Nat.le_of_ble_eq_true rfl⟩ rfl hl.1 rfl (Nat.le_of_ble_eq_true rfl) ⟨Nat.le_of_ble_eq_true rfl, Nat.le_of_ble_eq_true rfl⟩ dX7_glitch_9 (fun E ce q9 S9 H locs hx9 hw h1 h2 h3 => zxout hw hx0 hlocks h1 h2 h3 (by obtain ⟨rfl, hc9, rfl⟩ := hx9; refine ⟨?_, rfl⟩; first | exact (Or.inl ⟨rfl, (by unfold kd_glitch; grind)⟩) | exact (Or.inr ⟨rfl, (by unfold kd_glitch; grind)⟩)) ⟨Nat.le_of_ble_eq_true rfl, Nat.le_of_ble_eq_true rfl⟩) (fun S9 H locs hp9 hw => ?_)
  obtain ⟨hp9, hS9⟩ := hp9
  have hS9 := hS9.symm
  subst hS9
  refine lv_iload_n hx hb dX7_glitch_12 rfl (lv_at hl 3 rfl) ?_
  refine lv_iconst (v := 1) hx hb dX7_glitch_13 (by decide) ?_
  refine lv_bipush (v := 99) hx hb dX7_glitch_14 (by decide) ?_
  refine zcS_xv (As := [.int p2, .int 1, .int 99]) (rest := []) (n9 := 3) C hw (c_X7_checkRange l hst D y base S p2 1 99 ) gX7_glitch_X7_checkRange rfl (by decide +kernel) ⟨⟨rfl, rfl⟩, Nat.le_of_ble_eq_true rfl, Nat.le_of_ble_eq_true rfl⟩ rfl hl.1 rfl (Nat.le_of_ble_eq_true rfl) ⟨Nat.le_of_ble_eq_true rfl, Nat.le_of_ble_eq_true rfl⟩ dX7_glitch_16 (fun E ce q9 S16 H locs hx16 hw h1 h2 h3 => zxout hw hx0 hlocks h1 h2 h3 (by obtain ⟨rfl, hc9, rfl⟩ := hx16; refine ⟨?_, rfl⟩; first | exact (Or.inl ⟨rfl, (by unfold kd_glitch; grind)⟩) | exact (Or.inr ⟨rfl, (by unfold kd_glitch; grind)⟩)) ⟨Nat.le_of_ble_eq_true rfl, Nat.le_of_ble_eq_true rfl⟩) (fun S16 H locs hp16 hw => ?_)
  obtain ⟨hp16, hS9⟩ := hp16
  have hS9 := hS9.symm
  subst hS9
  refine lv_iload_n hx hb dX7_glitch_19 rfl (lv_at hl 2 rfl) ?_
  refine lv_iload_n hx hb dX7_glitch_20 rfl (lv_at hl 3 rfl) ?_
  refine lv_iadd hx hb dX7_glitch_21 ?_
  refine lv_iconst (v := 0) hx hb dX7_glitch_22 (by decide) ?_
  refine lv_sipush (v := 9999) hx hb dX7_glitch_23 (by decide) ?_
  refine zcS_xv (As := [.int (p1 + p2), .int 0, .int 9999]) (rest := []) (n9 := 3) C hw (c_X7_checkRange l hst D y base S (p1 + p2) 0 9999 ) gX7_glitch_X7_checkRange rfl (by decide +kernel) ⟨⟨rfl, rfl⟩, Nat.le_of_ble_eq_true rfl, Nat.le_of_ble_eq_true rfl⟩ rfl hl.1 rfl (Nat.le_of_ble_eq_true rfl) ⟨Nat.le_of_ble_eq_true rfl, Nat.le_of_ble_eq_true rfl⟩ dX7_glitch_26 (fun E ce q9 S26 H locs hx26 hw h1 h2 h3 => zxout hw hx0 hlocks h1 h2 h3 (by obtain ⟨rfl, hc9, rfl⟩ := hx26; refine ⟨?_, rfl⟩; first | exact (Or.inl ⟨rfl, (by unfold kd_glitch; grind)⟩) | exact (Or.inr ⟨rfl, (by unfold kd_glitch; grind)⟩)) ⟨Nat.le_of_ble_eq_true rfl, Nat.le_of_ble_eq_true rfl⟩) (fun S26 H locs hp26 hw => ?_)
  obtain ⟨hp26, hS9⟩ := hp26
  have hS9 := hS9.symm
  subst hS9
  exact (show False from (hbad (by unfold kd_glitch; grind))).elim

set_option maxHeartbeats 4000000 in
set_option maxRecDepth 100000 in
/-- X7_serial -/
theorem c_X7_serial_r (l : Launch) (hst : l.stackTraces = false) (D : va_G) (y : Nat → ClassId) (base : Nat) (S : zS) (a : Nat → Nat) (p0 : Int32) (p1 : Int32) (p2 : Int32) (p3 : Int32) (p4 : Int32) (hX : zX S a) (h0 : zX0 S a) (hbad : ¬ kd_serial p0 p1 p2 p3 p4 = 0 ∧ ¬ kd_serial p0 p1 p2 p3 p4 = 3) : zXi l yX7_serial wsX7_serial ({ frames := 7, cells := 5, slots := 30, locals := 112 }) [.ref (a 0), .int p0, .int p1, .int p2, .int p3, .int p4] D y base S (fun (r : Int32) (S1 : zS) => False ∧ S1 = S) (fun (E : String) (S1 : zS) => ((E = "java/lang/IndexOutOfBoundsException" ∧ kd_serial p0 p1 p2 p3 p4 = 1) ∨ (E = "java/lang/IllegalArgumentException" ∧ kd_serial p0 p1 p2 p3 p4 = 2)) ∧ S1 = S) 5 30 := by
  refine zXet_of (cc := cX7_serial) (maxL := 10) (ret := (some .int)) (own := RX7) (by decide +kernel) rfl rfl (Nat.le_of_ble_eq_true rfl) ?_
  intro p e s m args below meth c ls C hr hlocks hx0 hw hl
  have hx := C.1
  have hb := C.2.1
  have hown := C.2.2.2.1
  have hts := C.2.2.2.2
  have hl : lv_has ls 10 [(0, .ref (a 0)), (1, .int p0), (2, .int p1), (3, .int p2), (4, .int p3), (5, .int p4)] := hl
  refine lv_iload_n hx hb dX7_serial_0 rfl (lv_at hl 1 rfl) ?_
  refine zcS_xv (As := [.int p0]) (rest := []) (n9 := 1) C hw (c_X7_checkWire l hst D y base S p0 ) gX7_serial_X7_checkWire rfl (by decide +kernel) ⟨⟨rfl, rfl⟩, Nat.le_of_ble_eq_true rfl, Nat.le_of_ble_eq_true rfl⟩ rfl hl.1 rfl (Nat.le_of_ble_eq_true rfl) ⟨Nat.le_of_ble_eq_true rfl, Nat.le_of_ble_eq_true rfl⟩ dX7_serial_1 (fun E ce q9 S1 H locs hx1 hw h1 h2 h3 => zxout hw hx0 hlocks h1 h2 h3 (by obtain ⟨rfl, hc9, rfl⟩ := hx1; refine ⟨?_, rfl⟩; first | exact (Or.inl ⟨rfl, (by unfold kd_serial; grind)⟩) | exact (Or.inr ⟨rfl, (by unfold kd_serial; grind)⟩)) ⟨Nat.le_of_ble_eq_true rfl, Nat.le_of_ble_eq_true rfl⟩) (fun S1 H locs hp1 hw => ?_)
  obtain ⟨hp1, hS9⟩ := hp1
  have hS9 := hS9.symm
  subst hS9
  refine lv_iload_n hx hb dX7_serial_4 rfl (lv_at hl 2 rfl) ?_
  refine lv_iconst (v := 0) hx hb dX7_serial_5 (by decide) ?_
  refine lv_sipush (v := 255) hx hb dX7_serial_6 (by decide) ?_
  refine zcS_xv (As := [.int p1, .int 0, .int 255]) (rest := []) (n9 := 3) C hw (c_X7_checkRange l hst D y base S p1 0 255 ) gX7_serial_X7_checkRange rfl (by decide +kernel) ⟨⟨rfl, rfl⟩, Nat.le_of_ble_eq_true rfl, Nat.le_of_ble_eq_true rfl⟩ rfl hl.1 rfl (Nat.le_of_ble_eq_true rfl) ⟨Nat.le_of_ble_eq_true rfl, Nat.le_of_ble_eq_true rfl⟩ dX7_serial_9 (fun E ce q9 S9 H locs hx9 hw h1 h2 h3 => zxout hw hx0 hlocks h1 h2 h3 (by obtain ⟨rfl, hc9, rfl⟩ := hx9; refine ⟨?_, rfl⟩; first | exact (Or.inl ⟨rfl, (by unfold kd_serial; grind)⟩) | exact (Or.inr ⟨rfl, (by unfold kd_serial; grind)⟩)) ⟨Nat.le_of_ble_eq_true rfl, Nat.le_of_ble_eq_true rfl⟩) (fun S9 H locs hp9 hw => ?_)
  obtain ⟨hp9, hS9⟩ := hp9
  have hS9 := hS9.symm
  subst hS9
  refine lv_iload_n hx hb dX7_serial_12 rfl (lv_at hl 3 rfl) ?_
  refine lv_iconst (v := 0) hx hb dX7_serial_13 (by decide) ?_
  refine lv_sipush (v := 9999) hx hb dX7_serial_14 (by decide) ?_
  refine zcS_xv (As := [.int p2, .int 0, .int 9999]) (rest := []) (n9 := 3) C hw (c_X7_checkRange l hst D y base S p2 0 9999 ) gX7_serial_X7_checkRange rfl (by decide +kernel) ⟨⟨rfl, rfl⟩, Nat.le_of_ble_eq_true rfl, Nat.le_of_ble_eq_true rfl⟩ rfl hl.1 rfl (Nat.le_of_ble_eq_true rfl) ⟨Nat.le_of_ble_eq_true rfl, Nat.le_of_ble_eq_true rfl⟩ dX7_serial_17 (fun E ce q9 S17 H locs hx17 hw h1 h2 h3 => zxout hw hx0 hlocks h1 h2 h3 (by obtain ⟨rfl, hc9, rfl⟩ := hx17; refine ⟨?_, rfl⟩; first | exact (Or.inl ⟨rfl, (by unfold kd_serial; grind)⟩) | exact (Or.inr ⟨rfl, (by unfold kd_serial; grind)⟩)) ⟨Nat.le_of_ble_eq_true rfl, Nat.le_of_ble_eq_true rfl⟩) (fun S17 H locs hp17 hw => ?_)
  obtain ⟨hp17, hS9⟩ := hp17
  have hS9 := hS9.symm
  subst hS9
  refine lv_iload hx hb dX7_serial_20 (lv_at hl 4 rfl) ?_
  refine lv_iconst (v := 2) hx hb dX7_serial_22 (by decide) ?_
  refine lv_bipush (v := 50) hx hb dX7_serial_23 (by decide) ?_
  refine zcS_xv (As := [.int p3, .int 2, .int 50]) (rest := []) (n9 := 3) C hw (c_X7_checkRange l hst D y base S p3 2 50 ) gX7_serial_X7_checkRange rfl (by decide +kernel) ⟨⟨rfl, rfl⟩, Nat.le_of_ble_eq_true rfl, Nat.le_of_ble_eq_true rfl⟩ rfl hl.1 rfl (Nat.le_of_ble_eq_true rfl) ⟨Nat.le_of_ble_eq_true rfl, Nat.le_of_ble_eq_true rfl⟩ dX7_serial_25 (fun E ce q9 S25 H locs hx25 hw h1 h2 h3 => zxout hw hx0 hlocks h1 h2 h3 (by obtain ⟨rfl, hc9, rfl⟩ := hx25; refine ⟨?_, rfl⟩; first | exact (Or.inl ⟨rfl, (by unfold kd_serial; grind)⟩) | exact (Or.inr ⟨rfl, (by unfold kd_serial; grind)⟩)) ⟨Nat.le_of_ble_eq_true rfl, Nat.le_of_ble_eq_true rfl⟩) (fun S25 H locs hp25 hw => ?_)
  obtain ⟨hp25, hS9⟩ := hp25
  have hS9 := hS9.symm
  subst hS9
  refine lv_iload hx hb dX7_serial_28 (lv_at hl 5 rfl) ?_
  refine zcS_xv (As := [.int p4]) (rest := []) (n9 := 1) C hw (c_X7_checkParity l hst D y base S p4 ) gX7_serial_X7_checkParity rfl (by decide +kernel) ⟨⟨rfl, rfl⟩, Nat.le_of_ble_eq_true rfl, Nat.le_of_ble_eq_true rfl⟩ rfl hl.1 rfl (Nat.le_of_ble_eq_true rfl) ⟨Nat.le_of_ble_eq_true rfl, Nat.le_of_ble_eq_true rfl⟩ dX7_serial_30 (fun E ce q9 S30 H locs hx30 hw h1 h2 h3 => zxout hw hx0 hlocks h1 h2 h3 (by obtain ⟨rfl, hc9, rfl⟩ := hx30; refine ⟨?_, rfl⟩; first | exact (Or.inl ⟨rfl, (by unfold kd_serial; grind)⟩) | exact (Or.inr ⟨rfl, (by unfold kd_serial; grind)⟩)) ⟨Nat.le_of_ble_eq_true rfl, Nat.le_of_ble_eq_true rfl⟩) (fun S30 H locs hp30 hw => ?_)
  obtain ⟨hp30, hS9⟩ := hp30
  have hS9 := hS9.symm
  subst hS9
  exact (show False from (by have h1 := hbad.1; have h2 := hbad.2; unfold kd_serial at h1 h2; grind)).elim

set_option maxHeartbeats 4000000 in
set_option maxRecDepth 100000 in
/-- X7_twoWires -/
theorem c_X7_twoWires_r (l : Launch) (hst : l.stackTraces = false) (D : va_G) (y : Nat → ClassId) (base : Nat) (S : zS) (a : Nat → Nat) (p0 : Int32) (p1 : Int32) (p2 : Int32) (p3 : Int32) (p4 : Int32) (p5 : Int32) (p6 : Int32) (p7 : Int32) (hX : zX S a) (h0 : zX0 S a) (hz3 : p3 = 0 ∨ p3 = 1) (hbad : ¬ kd_two p0 p1 p2 p3 p4 p5 p6 p7 = 0 ∧ ¬ kd_two p0 p1 p2 p3 p4 p5 p6 p7 = 3) : zXi l yX7_twoWires wsX7_twoWires ({ frames := 7, cells := 8, slots := 48, locals := 112 }) [.ref (a 0), .int p0, .int p1, .int p2, .int p3, .int p4, .int p5, .int p6, .int p7] D y base S (fun (r : Int32) (S1 : zS) => False ∧ S1 = S) (fun (E : String) (S1 : zS) => ((E = "java/lang/IndexOutOfBoundsException" ∧ kd_two p0 p1 p2 p3 p4 p5 p6 p7 = 1) ∨ (E = "java/lang/IllegalArgumentException" ∧ kd_two p0 p1 p2 p3 p4 p5 p6 p7 = 2)) ∧ S1 = S) 8 48 := by
  refine zXet_of (cc := cX7_twoWires) (maxL := 10) (ret := (some .int)) (own := RX7) (by decide +kernel) rfl rfl (Nat.le_of_ble_eq_true rfl) ?_
  intro p e s m args below meth c ls C hr hlocks hx0 hw hl
  have hx := C.1
  have hb := C.2.1
  have hown := C.2.2.2.1
  have hts := C.2.2.2.2
  have hl : lv_has ls 10 [(0, .ref (a 0)), (1, .int p0), (2, .int p1), (3, .int p2), (4, .int p3), (5, .int p4), (6, .int p5), (7, .int p6), (8, .int p7)] := hl
  refine lv_iload_n hx hb dX7_twoWires_0 rfl (lv_at hl 1 rfl) ?_
  refine zcS_xv (As := [.int p0]) (rest := []) (n9 := 1) C hw (c_X7_checkWire l hst D y base S p0 ) gX7_twoWires_X7_checkWire rfl (by decide +kernel) ⟨⟨rfl, rfl⟩, Nat.le_of_ble_eq_true rfl, Nat.le_of_ble_eq_true rfl⟩ rfl hl.1 rfl (Nat.le_of_ble_eq_true rfl) ⟨Nat.le_of_ble_eq_true rfl, Nat.le_of_ble_eq_true rfl⟩ dX7_twoWires_1 (fun E ce q9 S1 H locs hx1 hw h1 h2 h3 => zxout hw hx0 hlocks h1 h2 h3 (by obtain ⟨rfl, hc9, rfl⟩ := hx1; refine ⟨?_, rfl⟩; first | exact (Or.inl ⟨rfl, (by unfold kd_two; grind)⟩) | exact (Or.inr ⟨rfl, (by unfold kd_two; grind)⟩)) ⟨Nat.le_of_ble_eq_true rfl, Nat.le_of_ble_eq_true rfl⟩) (fun S1 H locs hp1 hw => ?_)
  obtain ⟨hp1, hS9⟩ := hp1
  have hS9 := hS9.symm
  subst hS9
  refine lv_iload_n hx hb dX7_twoWires_4 rfl (lv_at hl 2 rfl) ?_
  refine zcS_xv (As := [.int p1]) (rest := []) (n9 := 1) C hw (c_X7_checkWire l hst D y base S p1 ) gX7_twoWires_X7_checkWire rfl (by decide +kernel) ⟨⟨rfl, rfl⟩, Nat.le_of_ble_eq_true rfl, Nat.le_of_ble_eq_true rfl⟩ rfl hl.1 rfl (Nat.le_of_ble_eq_true rfl) ⟨Nat.le_of_ble_eq_true rfl, Nat.le_of_ble_eq_true rfl⟩ dX7_twoWires_5 (fun E ce q9 S5 H locs hx5 hw h1 h2 h3 => zxout hw hx0 hlocks h1 h2 h3 (by obtain ⟨rfl, hc9, rfl⟩ := hx5; refine ⟨?_, rfl⟩; first | exact (Or.inl ⟨rfl, (by unfold kd_two; grind)⟩) | exact (Or.inr ⟨rfl, (by unfold kd_two; grind)⟩)) ⟨Nat.le_of_ble_eq_true rfl, Nat.le_of_ble_eq_true rfl⟩) (fun S5 H locs hp5 hw => ?_)
  obtain ⟨hp5, hS9⟩ := hp5
  have hS9 := hS9.symm
  subst hS9
  refine lv_iload_n hx hb dX7_twoWires_8 rfl (lv_at hl 3 rfl) ?_
  refine lv_iconst (v := 0) hx hb dX7_twoWires_9 (by decide) ?_
  refine lv_bipush (v := 127) hx hb dX7_twoWires_10 (by decide) ?_
  refine zcS_xv (As := [.int p2, .int 0, .int 127]) (rest := []) (n9 := 3) C hw (c_X7_checkRange l hst D y base S p2 0 127 ) gX7_twoWires_X7_checkRange rfl (by decide +kernel) ⟨⟨rfl, rfl⟩, Nat.le_of_ble_eq_true rfl, Nat.le_of_ble_eq_true rfl⟩ rfl hl.1 rfl (Nat.le_of_ble_eq_true rfl) ⟨Nat.le_of_ble_eq_true rfl, Nat.le_of_ble_eq_true rfl⟩ dX7_twoWires_12 (fun E ce q9 S12 H locs hx12 hw h1 h2 h3 => zxout hw hx0 hlocks h1 h2 h3 (by obtain ⟨rfl, hc9, rfl⟩ := hx12; refine ⟨?_, rfl⟩; first | exact (Or.inl ⟨rfl, (by unfold kd_two; grind)⟩) | exact (Or.inr ⟨rfl, (by unfold kd_two; grind)⟩)) ⟨Nat.le_of_ble_eq_true rfl, Nat.le_of_ble_eq_true rfl⟩) (fun S12 H locs hp12 hw => ?_)
  obtain ⟨hp12, hS9⟩ := hp12
  have hS9 := hS9.symm
  subst hS9
  refine lv_iload hx hb dX7_twoWires_15 (lv_at hl 5 rfl) ?_
  refine lv_iconst (v := 0) hx hb dX7_twoWires_17 (by decide) ?_
  refine lv_bipush (v := 15) hx hb dX7_twoWires_18 (by decide) ?_
  refine zcS_xv (As := [.int p4, .int 0, .int 15]) (rest := []) (n9 := 3) C hw (c_X7_checkRange l hst D y base S p4 0 15 ) gX7_twoWires_X7_checkRange rfl (by decide +kernel) ⟨⟨rfl, rfl⟩, Nat.le_of_ble_eq_true rfl, Nat.le_of_ble_eq_true rfl⟩ rfl hl.1 rfl (Nat.le_of_ble_eq_true rfl) ⟨Nat.le_of_ble_eq_true rfl, Nat.le_of_ble_eq_true rfl⟩ dX7_twoWires_20 (fun E ce q9 S20 H locs hx20 hw h1 h2 h3 => zxout hw hx0 hlocks h1 h2 h3 (by obtain ⟨rfl, hc9, rfl⟩ := hx20; refine ⟨?_, rfl⟩; first | exact (Or.inl ⟨rfl, (by unfold kd_two; grind)⟩) | exact (Or.inr ⟨rfl, (by unfold kd_two; grind)⟩)) ⟨Nat.le_of_ble_eq_true rfl, Nat.le_of_ble_eq_true rfl⟩) (fun S20 H locs hp20 hw => ?_)
  obtain ⟨hp20, hS9⟩ := hp20
  have hS9 := hS9.symm
  subst hS9
  refine lv_iload hx hb dX7_twoWires_23 (lv_at hl 6 rfl) ?_
  refine lv_iconst (v := 0) hx hb dX7_twoWires_25 (by decide) ?_
  refine lv_sipush (v := 255) hx hb dX7_twoWires_26 (by decide) ?_
  refine zcS_xv (As := [.int p5, .int 0, .int 255]) (rest := []) (n9 := 3) C hw (c_X7_checkRange l hst D y base S p5 0 255 ) gX7_twoWires_X7_checkRange rfl (by decide +kernel) ⟨⟨rfl, rfl⟩, Nat.le_of_ble_eq_true rfl, Nat.le_of_ble_eq_true rfl⟩ rfl hl.1 rfl (Nat.le_of_ble_eq_true rfl) ⟨Nat.le_of_ble_eq_true rfl, Nat.le_of_ble_eq_true rfl⟩ dX7_twoWires_29 (fun E ce q9 S29 H locs hx29 hw h1 h2 h3 => zxout hw hx0 hlocks h1 h2 h3 (by obtain ⟨rfl, hc9, rfl⟩ := hx29; refine ⟨?_, rfl⟩; first | exact (Or.inl ⟨rfl, (by unfold kd_two; grind)⟩) | exact (Or.inr ⟨rfl, (by unfold kd_two; grind)⟩)) ⟨Nat.le_of_ble_eq_true rfl, Nat.le_of_ble_eq_true rfl⟩) (fun S29 H locs hp29 hw => ?_)
  obtain ⟨hp29, hS9⟩ := hp29
  have hS9 := hS9.symm
  subst hS9
  refine lv_iload hx hb dX7_twoWires_32 (lv_at hl 7 rfl) ?_
  refine lv_iconst (v := 0) hx hb dX7_twoWires_34 (by decide) ?_
  refine lv_sipush (v := 9999) hx hb dX7_twoWires_35 (by decide) ?_
  refine zcS_xv (As := [.int p6, .int 0, .int 9999]) (rest := []) (n9 := 3) C hw (c_X7_checkRange l hst D y base S p6 0 9999 ) gX7_twoWires_X7_checkRange rfl (by decide +kernel) ⟨⟨rfl, rfl⟩, Nat.le_of_ble_eq_true rfl, Nat.le_of_ble_eq_true rfl⟩ rfl hl.1 rfl (Nat.le_of_ble_eq_true rfl) ⟨Nat.le_of_ble_eq_true rfl, Nat.le_of_ble_eq_true rfl⟩ dX7_twoWires_38 (fun E ce q9 S38 H locs hx38 hw h1 h2 h3 => zxout hw hx0 hlocks h1 h2 h3 (by obtain ⟨rfl, hc9, rfl⟩ := hx38; refine ⟨?_, rfl⟩; first | exact (Or.inl ⟨rfl, (by unfold kd_two; grind)⟩) | exact (Or.inr ⟨rfl, (by unfold kd_two; grind)⟩)) ⟨Nat.le_of_ble_eq_true rfl, Nat.le_of_ble_eq_true rfl⟩) (fun S38 H locs hp38 hw => ?_)
  obtain ⟨hp38, hS9⟩ := hp38
  have hS9 := hS9.symm
  subst hS9
  refine lv_iload hx hb dX7_twoWires_41 (lv_at hl 8 rfl) ?_
  refine lv_iconst (v := 1) hx hb dX7_twoWires_43 (by decide) ?_
  refine lv_bipush (v := 50) hx hb dX7_twoWires_44 (by decide) ?_
  refine zcS_xv (As := [.int p7, .int 1, .int 50]) (rest := []) (n9 := 3) C hw (c_X7_checkRange l hst D y base S p7 1 50 ) gX7_twoWires_X7_checkRange rfl (by decide +kernel) ⟨⟨rfl, rfl⟩, Nat.le_of_ble_eq_true rfl, Nat.le_of_ble_eq_true rfl⟩ rfl hl.1 rfl (Nat.le_of_ble_eq_true rfl) ⟨Nat.le_of_ble_eq_true rfl, Nat.le_of_ble_eq_true rfl⟩ dX7_twoWires_46 (fun E ce q9 S46 H locs hx46 hw h1 h2 h3 => zxout hw hx0 hlocks h1 h2 h3 (by obtain ⟨rfl, hc9, rfl⟩ := hx46; refine ⟨?_, rfl⟩; first | exact (Or.inl ⟨rfl, (by unfold kd_two; grind)⟩) | exact (Or.inr ⟨rfl, (by unfold kd_two; grind)⟩)) ⟨Nat.le_of_ble_eq_true rfl, Nat.le_of_ble_eq_true rfl⟩) (fun S46 H locs hp46 hw => ?_)
  obtain ⟨hp46, hS9⟩ := hp46
  have hS9 := hS9.symm
  subst hS9
  refine lv_iload_n hx hb dX7_twoWires_49 rfl (lv_at hl 1 rfl) ?_
  refine lv_iload_n hx hb dX7_twoWires_50 rfl (lv_at hl 2 rfl) ?_
  refine zcS_xv (As := [.int p0, .int p1]) (rest := []) (n9 := 2) C hw (c_X7_checkApart l hst D y base S p0 p1 ) gX7_twoWires_X7_checkApart rfl (by decide +kernel) ⟨⟨rfl, rfl⟩, Nat.le_of_ble_eq_true rfl, Nat.le_of_ble_eq_true rfl⟩ rfl hl.1 rfl (Nat.le_of_ble_eq_true rfl) ⟨Nat.le_of_ble_eq_true rfl, Nat.le_of_ble_eq_true rfl⟩ dX7_twoWires_51 (fun E ce q9 S51 H locs hx51 hw h1 h2 h3 => zxout hw hx0 hlocks h1 h2 h3 (by obtain ⟨rfl, hc9, rfl⟩ := hx51; refine ⟨?_, rfl⟩; first | exact (Or.inl ⟨rfl, (by unfold kd_two; grind)⟩) | exact (Or.inr ⟨rfl, (by unfold kd_two; grind)⟩)) ⟨Nat.le_of_ble_eq_true rfl, Nat.le_of_ble_eq_true rfl⟩) (fun S51 H locs hp51 hw => ?_)
  obtain ⟨hp51, hS9⟩ := hp51
  have hS9 := hS9.symm
  subst hS9
  exact (show False from (by have h1 := hbad.1; have h2 := hbad.2; unfold kd_two at h1 h2; grind)).elim

set_option maxHeartbeats 4000000 in
set_option maxRecDepth 100000 in
/-- X7_fourWires -/
theorem c_X7_fourWires_r (l : Launch) (hst : l.stackTraces = false) (D : va_G) (y : Nat → ClassId) (base : Nat) (S : zS) (a : Nat → Nat) (p0 : Int32) (p1 : Int32) (p2 : Int32) (p3 : Int32) (p4 : Int32) (p5 : Int32) (p6 : Int32) (hX : zX S a) (h0 : zX0 S a) (hbad : ¬ kd_four p0 p1 p2 p3 p4 p5 p6 = 0 ∧ ¬ kd_four p0 p1 p2 p3 p4 p5 p6 = 3) : zXi l yX7_fourWires wsX7_fourWires ({ frames := 8, cells := 10, slots := 60, locals := 133 }) [.ref (a 0), .int p0, .int p1, .int p2, .int p3, .int p4, .int p5, .int p6] D y base S (fun (r : Int32) (S1 : zS) => False ∧ S1 = S) (fun (E : String) (S1 : zS) => ((E = "java/lang/IndexOutOfBoundsException" ∧ kd_four p0 p1 p2 p3 p4 p5 p6 = 1) ∨ (E = "java/lang/IllegalArgumentException" ∧ kd_four p0 p1 p2 p3 p4 p5 p6 = 2)) ∧ S1 = S) 10 60 := by
  refine zXet_of (cc := cX7_fourWires) (maxL := 9) (ret := (some .int)) (own := RX7) (by decide +kernel) rfl rfl (Nat.le_of_ble_eq_true rfl) ?_
  intro p e s m args below meth c ls C hr hlocks hx0 hw hl
  have hx := C.1
  have hb := C.2.1
  have hown := C.2.2.2.1
  have hts := C.2.2.2.2
  have hl : lv_has ls 9 [(0, .ref (a 0)), (1, .int p0), (2, .int p1), (3, .int p2), (4, .int p3), (5, .int p4), (6, .int p5), (7, .int p6)] := hl
  refine lv_iload_n hx hb dX7_fourWires_0 rfl (lv_at hl 1 rfl) ?_
  refine zcS_xv (As := [.int p0]) (rest := []) (n9 := 1) C hw (c_X7_checkWire l hst D y base S p0 ) gX7_fourWires_X7_checkWire rfl (by decide +kernel) ⟨⟨rfl, rfl⟩, Nat.le_of_ble_eq_true rfl, Nat.le_of_ble_eq_true rfl⟩ rfl hl.1 rfl (Nat.le_of_ble_eq_true rfl) ⟨Nat.le_of_ble_eq_true rfl, Nat.le_of_ble_eq_true rfl⟩ dX7_fourWires_1 (fun E ce q9 S1 H locs hx1 hw h1 h2 h3 => zxout hw hx0 hlocks h1 h2 h3 (by obtain ⟨rfl, hc9, rfl⟩ := hx1; refine ⟨?_, rfl⟩; first | exact (Or.inl ⟨rfl, (by unfold kd_four; grind)⟩) | exact (Or.inr ⟨rfl, (by unfold kd_four; grind)⟩)) ⟨Nat.le_of_ble_eq_true rfl, Nat.le_of_ble_eq_true rfl⟩) (fun S1 H locs hp1 hw => ?_)
  obtain ⟨hp1, hS9⟩ := hp1
  have hS9 := hS9.symm
  subst hS9
  refine lv_iload_n hx hb dX7_fourWires_4 rfl (lv_at hl 2 rfl) ?_
  refine zcS_xv (As := [.int p1]) (rest := []) (n9 := 1) C hw (c_X7_checkWire l hst D y base S p1 ) gX7_fourWires_X7_checkWire rfl (by decide +kernel) ⟨⟨rfl, rfl⟩, Nat.le_of_ble_eq_true rfl, Nat.le_of_ble_eq_true rfl⟩ rfl hl.1 rfl (Nat.le_of_ble_eq_true rfl) ⟨Nat.le_of_ble_eq_true rfl, Nat.le_of_ble_eq_true rfl⟩ dX7_fourWires_5 (fun E ce q9 S5 H locs hx5 hw h1 h2 h3 => zxout hw hx0 hlocks h1 h2 h3 (by obtain ⟨rfl, hc9, rfl⟩ := hx5; refine ⟨?_, rfl⟩; first | exact (Or.inl ⟨rfl, (by unfold kd_four; grind)⟩) | exact (Or.inr ⟨rfl, (by unfold kd_four; grind)⟩)) ⟨Nat.le_of_ble_eq_true rfl, Nat.le_of_ble_eq_true rfl⟩) (fun S5 H locs hp5 hw => ?_)
  obtain ⟨hp5, hS9⟩ := hp5
  have hS9 := hS9.symm
  subst hS9
  refine lv_iload_n hx hb dX7_fourWires_8 rfl (lv_at hl 3 rfl) ?_
  refine zcS_xv (As := [.int p2]) (rest := []) (n9 := 1) C hw (c_X7_checkWire l hst D y base S p2 ) gX7_fourWires_X7_checkWire rfl (by decide +kernel) ⟨⟨rfl, rfl⟩, Nat.le_of_ble_eq_true rfl, Nat.le_of_ble_eq_true rfl⟩ rfl hl.1 rfl (Nat.le_of_ble_eq_true rfl) ⟨Nat.le_of_ble_eq_true rfl, Nat.le_of_ble_eq_true rfl⟩ dX7_fourWires_9 (fun E ce q9 S9 H locs hx9 hw h1 h2 h3 => zxout hw hx0 hlocks h1 h2 h3 (by obtain ⟨rfl, hc9, rfl⟩ := hx9; refine ⟨?_, rfl⟩; first | exact (Or.inl ⟨rfl, (by unfold kd_four; grind)⟩) | exact (Or.inr ⟨rfl, (by unfold kd_four; grind)⟩)) ⟨Nat.le_of_ble_eq_true rfl, Nat.le_of_ble_eq_true rfl⟩) (fun S9 H locs hp9 hw => ?_)
  obtain ⟨hp9, hS9⟩ := hp9
  have hS9 := hS9.symm
  subst hS9
  refine lv_iload hx hb dX7_fourWires_12 (lv_at hl 4 rfl) ?_
  refine lv_iconst (v := 0) hx hb dX7_fourWires_14 (by decide) ?_
  refine lv_sipush (v := 255) hx hb dX7_fourWires_15 (by decide) ?_
  refine zcS_xv (As := [.int p3, .int 0, .int 255]) (rest := []) (n9 := 3) C hw (c_X7_checkRange l hst D y base S p3 0 255 ) gX7_fourWires_X7_checkRange rfl (by decide +kernel) ⟨⟨rfl, rfl⟩, Nat.le_of_ble_eq_true rfl, Nat.le_of_ble_eq_true rfl⟩ rfl hl.1 rfl (Nat.le_of_ble_eq_true rfl) ⟨Nat.le_of_ble_eq_true rfl, Nat.le_of_ble_eq_true rfl⟩ dX7_fourWires_18 (fun E ce q9 S18 H locs hx18 hw h1 h2 h3 => zxout hw hx0 hlocks h1 h2 h3 (by obtain ⟨rfl, hc9, rfl⟩ := hx18; refine ⟨?_, rfl⟩; first | exact (Or.inl ⟨rfl, (by unfold kd_four; grind)⟩) | exact (Or.inr ⟨rfl, (by unfold kd_four; grind)⟩)) ⟨Nat.le_of_ble_eq_true rfl, Nat.le_of_ble_eq_true rfl⟩) (fun S18 H locs hp18 hw => ?_)
  obtain ⟨hp18, hS9⟩ := hp18
  have hS9 := hS9.symm
  subst hS9
  refine lv_iload hx hb dX7_fourWires_21 (lv_at hl 5 rfl) ?_
  refine lv_iconst (v := 0) hx hb dX7_fourWires_23 (by decide) ?_
  refine lv_sipush (v := 9999) hx hb dX7_fourWires_24 (by decide) ?_
  refine zcS_xv (As := [.int p4, .int 0, .int 9999]) (rest := []) (n9 := 3) C hw (c_X7_checkRange l hst D y base S p4 0 9999 ) gX7_fourWires_X7_checkRange rfl (by decide +kernel) ⟨⟨rfl, rfl⟩, Nat.le_of_ble_eq_true rfl, Nat.le_of_ble_eq_true rfl⟩ rfl hl.1 rfl (Nat.le_of_ble_eq_true rfl) ⟨Nat.le_of_ble_eq_true rfl, Nat.le_of_ble_eq_true rfl⟩ dX7_fourWires_27 (fun E ce q9 S27 H locs hx27 hw h1 h2 h3 => zxout hw hx0 hlocks h1 h2 h3 (by obtain ⟨rfl, hc9, rfl⟩ := hx27; refine ⟨?_, rfl⟩; first | exact (Or.inl ⟨rfl, (by unfold kd_four; grind)⟩) | exact (Or.inr ⟨rfl, (by unfold kd_four; grind)⟩)) ⟨Nat.le_of_ble_eq_true rfl, Nat.le_of_ble_eq_true rfl⟩) (fun S27 H locs hp27 hw => ?_)
  obtain ⟨hp27, hS9⟩ := hp27
  have hS9 := hS9.symm
  subst hS9
  refine lv_iload hx hb dX7_fourWires_30 (lv_at hl 6 rfl) ?_
  refine lv_iconst (v := 1) hx hb dX7_fourWires_32 (by decide) ?_
  refine lv_bipush (v := 50) hx hb dX7_fourWires_33 (by decide) ?_
  refine zcS_xv (As := [.int p5, .int 1, .int 50]) (rest := []) (n9 := 3) C hw (c_X7_checkRange l hst D y base S p5 1 50 ) gX7_fourWires_X7_checkRange rfl (by decide +kernel) ⟨⟨rfl, rfl⟩, Nat.le_of_ble_eq_true rfl, Nat.le_of_ble_eq_true rfl⟩ rfl hl.1 rfl (Nat.le_of_ble_eq_true rfl) ⟨Nat.le_of_ble_eq_true rfl, Nat.le_of_ble_eq_true rfl⟩ dX7_fourWires_35 (fun E ce q9 S35 H locs hx35 hw h1 h2 h3 => zxout hw hx0 hlocks h1 h2 h3 (by obtain ⟨rfl, hc9, rfl⟩ := hx35; refine ⟨?_, rfl⟩; first | exact (Or.inl ⟨rfl, (by unfold kd_four; grind)⟩) | exact (Or.inr ⟨rfl, (by unfold kd_four; grind)⟩)) ⟨Nat.le_of_ble_eq_true rfl, Nat.le_of_ble_eq_true rfl⟩) (fun S35 H locs hp35 hw => ?_)
  obtain ⟨hp35, hS9⟩ := hp35
  have hS9 := hS9.symm
  subst hS9
  refine lv_iload hx hb dX7_fourWires_38 (lv_at hl 7 rfl) ?_
  refine lv_iconst (v := 0) hx hb dX7_fourWires_40 (by decide) ?_
  refine lv_iconst (v := 3) hx hb dX7_fourWires_41 (by decide) ?_
  refine zcS_xv (As := [.int p6, .int 0, .int 3]) (rest := []) (n9 := 3) C hw (c_X7_checkRange l hst D y base S p6 0 3 ) gX7_fourWires_X7_checkRange rfl (by decide +kernel) ⟨⟨rfl, rfl⟩, Nat.le_of_ble_eq_true rfl, Nat.le_of_ble_eq_true rfl⟩ rfl hl.1 rfl (Nat.le_of_ble_eq_true rfl) ⟨Nat.le_of_ble_eq_true rfl, Nat.le_of_ble_eq_true rfl⟩ dX7_fourWires_42 (fun E ce q9 S42 H locs hx42 hw h1 h2 h3 => zxout hw hx0 hlocks h1 h2 h3 (by obtain ⟨rfl, hc9, rfl⟩ := hx42; refine ⟨?_, rfl⟩; first | exact (Or.inl ⟨rfl, (by unfold kd_four; grind)⟩) | exact (Or.inr ⟨rfl, (by unfold kd_four; grind)⟩)) ⟨Nat.le_of_ble_eq_true rfl, Nat.le_of_ble_eq_true rfl⟩) (fun S42 H locs hp42 hw => ?_)
  obtain ⟨hp42, hS9⟩ := hp42
  have hS9 := hS9.symm
  subst hS9
  refine lv_iload_n hx hb dX7_fourWires_45 rfl (lv_at hl 1 rfl) ?_
  refine lv_iload_n hx hb dX7_fourWires_46 rfl (lv_at hl 2 rfl) ?_
  refine lv_iload_n hx hb dX7_fourWires_47 rfl (lv_at hl 3 rfl) ?_
  refine zcS_xv (As := [.int p0, .int p1, .int p2]) (rest := []) (n9 := 3) C hw (c_X7_checkThreeApart l hst D y base S p0 p1 p2 ) gX7_fourWires_X7_checkThreeApart rfl (by decide +kernel) ⟨⟨rfl, rfl⟩, Nat.le_of_ble_eq_true rfl, Nat.le_of_ble_eq_true rfl⟩ rfl hl.1 rfl (Nat.le_of_ble_eq_true rfl) ⟨Nat.le_of_ble_eq_true rfl, Nat.le_of_ble_eq_true rfl⟩ dX7_fourWires_48 (fun E ce q9 S48 H locs hx48 hw h1 h2 h3 => zxout hw hx0 hlocks h1 h2 h3 (by obtain ⟨rfl, hc9, rfl⟩ := hx48; refine ⟨?_, rfl⟩; first | exact (Or.inl ⟨rfl, (by unfold kd_four; grind)⟩) | exact (Or.inr ⟨rfl, (by unfold kd_four; grind)⟩)) ⟨Nat.le_of_ble_eq_true rfl, Nat.le_of_ble_eq_true rfl⟩) (fun S48 H locs hp48 hw => ?_)
  obtain ⟨hp48, hS9⟩ := hp48
  have hS9 := hS9.symm
  subst hS9
  exact (show False from (by have h1 := hbad.1; have h2 := hbad.2; unfold kd_four at h1 h2; grind)).elim

set_option maxHeartbeats 4000000 in
set_option maxRecDepth 100000 in
/-- X7_capture -/
theorem c_X7_capture_r (l : Launch) (hst : l.stackTraces = false) (D : va_G) (y : Nat → ClassId) (base : Nat) (S : zS) (a : Nat → Nat) (p0 : Int32) (p1 : Int32) (p2 : Int32) (p3 : Int32) (hX : zX S a) (h0 : zX0 S a) (hbad : ¬ kd_capture p0 p1 p2 p3 = 0) : zXi l yX7_capture wsX7_capture ({ frames := 7, cells := 5, slots := 30, locals := 112 }) [.ref (a 0), .int p0, .int p1, .int p2, .int p3] D y base S (fun (r : Int32) (S1 : zS) => False ∧ S1 = S) (fun (E : String) (S1 : zS) => ((E = "java/lang/IndexOutOfBoundsException" ∧ kd_capture p0 p1 p2 p3 = 1) ∨ (E = "java/lang/IllegalArgumentException" ∧ kd_capture p0 p1 p2 p3 = 2)) ∧ S1 = S) 5 30 := by
  refine zXet_of (cc := cX7_capture) (maxL := 7) (ret := (some .int)) (own := RX7) (by decide +kernel) rfl rfl (Nat.le_of_ble_eq_true rfl) ?_
  intro p e s m args below meth c ls C hr hlocks hx0 hw hl
  have hx := C.1
  have hb := C.2.1
  have hown := C.2.2.2.1
  have hts := C.2.2.2.2
  have hl : lv_has ls 7 [(0, .ref (a 0)), (1, .int p0), (2, .int p1), (3, .int p2), (4, .int p3)] := hl
  refine lv_iload_n hx hb dX7_capture_0 rfl (lv_at hl 1 rfl) ?_
  refine zcS_xv (As := [.int p0]) (rest := []) (n9 := 1) C hw (c_X7_checkCapture l hst D y base S p0 ) gX7_capture_X7_checkCapture rfl (by decide +kernel) ⟨⟨rfl, rfl⟩, Nat.le_of_ble_eq_true rfl, Nat.le_of_ble_eq_true rfl⟩ rfl hl.1 rfl (Nat.le_of_ble_eq_true rfl) ⟨Nat.le_of_ble_eq_true rfl, Nat.le_of_ble_eq_true rfl⟩ dX7_capture_1 (fun E ce q9 S1 H locs hx1 hw h1 h2 h3 => zxout hw hx0 hlocks h1 h2 h3 (by obtain ⟨rfl, hc9, rfl⟩ := hx1; refine ⟨?_, rfl⟩; first | exact (Or.inl ⟨rfl, (by unfold kd_capture; grind)⟩) | exact (Or.inr ⟨rfl, (by unfold kd_capture; grind)⟩)) ⟨Nat.le_of_ble_eq_true rfl, Nat.le_of_ble_eq_true rfl⟩) (fun S1 H locs hp1 hw => ?_)
  obtain ⟨hp1, hS9⟩ := hp1
  have hS9 := hS9.symm
  subst hS9
  refine lv_iload_n hx hb dX7_capture_4 rfl (lv_at hl 2 rfl) ?_
  refine lv_iconst (v := 0) hx hb dX7_capture_5 (by decide) ?_
  refine lv_sipush (v := 9999) hx hb dX7_capture_6 (by decide) ?_
  refine zcS_xv (As := [.int p1, .int 0, .int 9999]) (rest := []) (n9 := 3) C hw (c_X7_checkRange l hst D y base S p1 0 9999 ) gX7_capture_X7_checkRange rfl (by decide +kernel) ⟨⟨rfl, rfl⟩, Nat.le_of_ble_eq_true rfl, Nat.le_of_ble_eq_true rfl⟩ rfl hl.1 rfl (Nat.le_of_ble_eq_true rfl) ⟨Nat.le_of_ble_eq_true rfl, Nat.le_of_ble_eq_true rfl⟩ dX7_capture_9 (fun E ce q9 S9 H locs hx9 hw h1 h2 h3 => zxout hw hx0 hlocks h1 h2 h3 (by obtain ⟨rfl, hc9, rfl⟩ := hx9; refine ⟨?_, rfl⟩; first | exact (Or.inl ⟨rfl, (by unfold kd_capture; grind)⟩) | exact (Or.inr ⟨rfl, (by unfold kd_capture; grind)⟩)) ⟨Nat.le_of_ble_eq_true rfl, Nat.le_of_ble_eq_true rfl⟩) (fun S9 H locs hp9 hw => ?_)
  obtain ⟨hp9, hS9⟩ := hp9
  have hS9 := hS9.symm
  subst hS9
  refine lv_iload_n hx hb dX7_capture_12 rfl (lv_at hl 3 rfl) ?_
  refine lv_iconst (v := 1) hx hb dX7_capture_13 (by decide) ?_
  refine lv_bipush (v := 99) hx hb dX7_capture_14 (by decide) ?_
  refine zcS_xv (As := [.int p2, .int 1, .int 99]) (rest := []) (n9 := 3) C hw (c_X7_checkRange l hst D y base S p2 1 99 ) gX7_capture_X7_checkRange rfl (by decide +kernel) ⟨⟨rfl, rfl⟩, Nat.le_of_ble_eq_true rfl, Nat.le_of_ble_eq_true rfl⟩ rfl hl.1 rfl (Nat.le_of_ble_eq_true rfl) ⟨Nat.le_of_ble_eq_true rfl, Nat.le_of_ble_eq_true rfl⟩ dX7_capture_16 (fun E ce q9 S16 H locs hx16 hw h1 h2 h3 => zxout hw hx0 hlocks h1 h2 h3 (by obtain ⟨rfl, hc9, rfl⟩ := hx16; refine ⟨?_, rfl⟩; first | exact (Or.inl ⟨rfl, (by unfold kd_capture; grind)⟩) | exact (Or.inr ⟨rfl, (by unfold kd_capture; grind)⟩)) ⟨Nat.le_of_ble_eq_true rfl, Nat.le_of_ble_eq_true rfl⟩) (fun S16 H locs hp16 hw => ?_)
  obtain ⟨hp16, hS9⟩ := hp16
  have hS9 := hS9.symm
  subst hS9
  refine lv_iload hx hb dX7_capture_19 (lv_at hl 4 rfl) ?_
  refine lv_iconst (v := 1) hx hb dX7_capture_21 (by decide) ?_
  refine lv_sipush (v := 400) hx hb dX7_capture_22 (by decide) ?_
  refine zcS_xv (As := [.int p3, .int 1, .int 400]) (rest := []) (n9 := 3) C hw (c_X7_checkRange l hst D y base S p3 1 400 ) gX7_capture_X7_checkRange rfl (by decide +kernel) ⟨⟨rfl, rfl⟩, Nat.le_of_ble_eq_true rfl, Nat.le_of_ble_eq_true rfl⟩ rfl hl.1 rfl (Nat.le_of_ble_eq_true rfl) ⟨Nat.le_of_ble_eq_true rfl, Nat.le_of_ble_eq_true rfl⟩ dX7_capture_25 (fun E ce q9 S25 H locs hx25 hw h1 h2 h3 => zxout hw hx0 hlocks h1 h2 h3 (by obtain ⟨rfl, hc9, rfl⟩ := hx25; refine ⟨?_, rfl⟩; first | exact (Or.inl ⟨rfl, (by unfold kd_capture; grind)⟩) | exact (Or.inr ⟨rfl, (by unfold kd_capture; grind)⟩)) ⟨Nat.le_of_ble_eq_true rfl, Nat.le_of_ble_eq_true rfl⟩) (fun S25 H locs hp25 hw => ?_)
  obtain ⟨hp25, hS9⟩ := hp25
  have hS9 := hS9.symm
  subst hS9
  refine lv_iload_n hx hb dX7_capture_28 rfl (lv_at hl 2 rfl) ?_
  refine lv_iload_n hx hb dX7_capture_29 rfl (lv_at hl 3 rfl) ?_
  refine lv_iload hx hb dX7_capture_30 (lv_at hl 4 rfl) ?_
  refine lv_iconst (v := 1) hx hb dX7_capture_32 (by decide) ?_
  refine lv_isub hx hb dX7_capture_33 ?_
  refine lv_imul hx hb dX7_capture_34 ?_
  refine lv_iadd hx hb dX7_capture_35 ?_
  refine lv_iconst (v := 0) hx hb dX7_capture_36 (by decide) ?_
  refine lv_sipush (v := 9999) hx hb dX7_capture_37 (by decide) ?_
  refine zcS_xv (As := [.int (p1 + (p2 * (p3 - 1))), .int 0, .int 9999]) (rest := []) (n9 := 3) C hw (c_X7_checkRange l hst D y base S (p1 + (p2 * (p3 - 1))) 0 9999 ) gX7_capture_X7_checkRange rfl (by decide +kernel) ⟨⟨rfl, rfl⟩, Nat.le_of_ble_eq_true rfl, Nat.le_of_ble_eq_true rfl⟩ rfl hl.1 rfl (Nat.le_of_ble_eq_true rfl) ⟨Nat.le_of_ble_eq_true rfl, Nat.le_of_ble_eq_true rfl⟩ dX7_capture_40 (fun E ce q9 S40 H locs hx40 hw h1 h2 h3 => zxout hw hx0 hlocks h1 h2 h3 (by obtain ⟨rfl, hc9, rfl⟩ := hx40; exact ⟨Or.inr ⟨rfl, (by have := zcap_nn hp9 hp16 hp25; unfold kd_capture; grind)⟩, rfl⟩) ⟨Nat.le_of_ble_eq_true rfl, Nat.le_of_ble_eq_true rfl⟩) (fun S40 H locs hp40 hw => ?_)
  obtain ⟨hp40, hS9⟩ := hp40
  have hS9 := hS9.symm
  subst hS9
  exact (show False from (hbad (by unfold kd_capture; grind))).elim

set_option maxHeartbeats 4000000 in
set_option maxRecDepth 100000 in
/-- X7_step -/
theorem c_X7_step_r (l : Launch) (hst : l.stackTraces = false) (D : va_G) (y : Nat → ClassId) (base : Nat) (S : zS) (a : Nat → Nat) (p0 : Int32) (p1 : Int32) (p2 : Int32) (hX : zX S a) (h0 : zX0 S a) (hbad : ¬ kd_step p0 p1 p2 = 0) : zXi l yX7_step wsX7_step ({ frames := 7, cells := 3, slots := 18, locals := 112 }) [.ref (a 0), .int p0, .int p1, .int p2] D y base S (fun (r : Int32) (S1 : zS) => False ∧ S1 = S) (fun (E : String) (S1 : zS) => ((E = "java/lang/IndexOutOfBoundsException" ∧ kd_step p0 p1 p2 = 1) ∨ (E = "java/lang/IllegalArgumentException" ∧ kd_step p0 p1 p2 = 2)) ∧ S1 = S) 3 18 := by
  refine zXet_of (cc := cX7_step) (maxL := 4) (ret := (some .int)) (own := RX7) (by decide +kernel) rfl rfl (Nat.le_of_ble_eq_true rfl) ?_
  intro p e s m args below meth c ls C hr hlocks hx0 hw hl
  have hx := C.1
  have hb := C.2.1
  have hown := C.2.2.2.1
  have hts := C.2.2.2.2
  have hl : lv_has ls 4 [(0, .ref (a 0)), (1, .int p0), (2, .int p1), (3, .int p2)] := hl
  refine lv_iload_n hx hb dX7_step_0 rfl (lv_at hl 1 rfl) ?_
  refine lv_bipush (v := 112) hx hb dX7_step_1 (by decide) ?_
  refine lv_icmp_eq (tgt := 16) hx hb dX7_step_3 (by decide) (fun c3 => ?_) (fun c3 => ?_)
  · refine lv_iload_n hx hb dX7_step_16 rfl (lv_at hl 1 rfl) ?_
    refine zcS_xv (As := [.int p0]) (rest := []) (n9 := 1) C hw (c_X7_checkStepKind l hst D y base S p0 ) gX7_step_X7_checkStepKind rfl (by decide +kernel) ⟨⟨rfl, rfl⟩, Nat.le_of_ble_eq_true rfl, Nat.le_of_ble_eq_true rfl⟩ rfl hl.1 rfl (Nat.le_of_ble_eq_true rfl) ⟨Nat.le_of_ble_eq_true rfl, Nat.le_of_ble_eq_true rfl⟩ dX7_step_17 (fun E ce q9 S17 H locs hx17 hw h1 h2 h3 => zxout hw hx0 hlocks h1 h2 h3 (by obtain ⟨rfl, hc9, rfl⟩ := hx17; refine ⟨?_, rfl⟩; first | exact (Or.inl ⟨rfl, (by unfold kd_step; grind)⟩) | exact (Or.inr ⟨rfl, (by unfold kd_step; grind)⟩)) ⟨Nat.le_of_ble_eq_true rfl, Nat.le_of_ble_eq_true rfl⟩) (fun S17 H locs hp17 hw => ?_)
    obtain ⟨hp17, hS9⟩ := hp17
    have hS9 := hS9.symm
    subst hS9
    refine lv_iload_n hx hb dX7_step_20 rfl (lv_at hl 3 rfl) ?_
    refine lv_iload_n hx hb dX7_step_21 rfl (lv_at hl 1 rfl) ?_
    refine lv_bipush (v := 112) hx hb dX7_step_22 (by decide) ?_
    refine lv_icmp_ne (tgt := 31) hx hb dX7_step_24 (by decide) (fun c24 => ?_) (fun c24 => ?_)
    · refine lv_iconst (v := 1) hx hb dX7_step_31 (by decide) ?_
      refine lv_iload_n hx hb dX7_step_32 rfl (lv_at hl 1 rfl) ?_
      refine lv_bipush (v := 112) hx hb dX7_step_33 (by decide) ?_
      refine lv_icmp_ne (tgt := 43) hx hb dX7_step_35 (by decide) (fun c35 => ?_) (fun c35 => ?_)
      · refine lv_sipush (v := 400) hx hb dX7_step_43 (by decide) ?_
        refine zcS_xv (As := [.int p2, .int 1, .int 400]) (rest := []) (n9 := 3) C hw (c_X7_checkRange l hst D y base S p2 1 400 ) gX7_step_X7_checkRange rfl (by decide +kernel) ⟨⟨rfl, rfl⟩, Nat.le_of_ble_eq_true rfl, Nat.le_of_ble_eq_true rfl⟩ rfl hl.1 rfl (Nat.le_of_ble_eq_true rfl) ⟨Nat.le_of_ble_eq_true rfl, Nat.le_of_ble_eq_true rfl⟩ dX7_step_46 (fun E ce q9 S46 H locs hx46 hw h1 h2 h3 => zxout hw hx0 hlocks h1 h2 h3 (by obtain ⟨rfl, hc9, rfl⟩ := hx46; refine ⟨?_, rfl⟩; first | exact (Or.inl ⟨rfl, (by unfold kd_step; grind)⟩) | exact (Or.inr ⟨rfl, (by unfold kd_step; grind)⟩)) ⟨Nat.le_of_ble_eq_true rfl, Nat.le_of_ble_eq_true rfl⟩) (fun S46 H locs hp46 hw => ?_)
        obtain ⟨hp46, hS9⟩ := hp46
        have hS9 := hS9.symm
        subst hS9
        exact (show False from (hbad (by unfold kd_step; grind))).elim
      · refine lv_bipush (v := 15) hx hb dX7_step_38 (by decide) ?_
        refine lv_goto (tgt := 46) hx hb dX7_step_40 (by decide) ?_
        refine zcS_xv (As := [.int p2, .int 1, .int 15]) (rest := []) (n9 := 3) C hw (c_X7_checkRange l hst D y base S p2 1 15 ) gX7_step_X7_checkRange rfl (by decide +kernel) ⟨⟨rfl, rfl⟩, Nat.le_of_ble_eq_true rfl, Nat.le_of_ble_eq_true rfl⟩ rfl hl.1 rfl (Nat.le_of_ble_eq_true rfl) ⟨Nat.le_of_ble_eq_true rfl, Nat.le_of_ble_eq_true rfl⟩ dX7_step_46 (fun E ce q9 S46 H locs hx46 hw h1 h2 h3 => zxout hw hx0 hlocks h1 h2 h3 (by obtain ⟨rfl, hc9, rfl⟩ := hx46; refine ⟨?_, rfl⟩; first | exact (Or.inl ⟨rfl, (by unfold kd_step; grind)⟩) | exact (Or.inr ⟨rfl, (by unfold kd_step; grind)⟩)) ⟨Nat.le_of_ble_eq_true rfl, Nat.le_of_ble_eq_true rfl⟩) (fun S46 H locs hp46 hw => ?_)
        obtain ⟨hp46, hS9⟩ := hp46
        have hS9 := hS9.symm
        subst hS9
        exact (show False from (hbad (by unfold kd_step; grind))).elim
    · refine lv_iconst (v := 0) hx hb dX7_step_27 (by decide) ?_
      refine lv_goto (tgt := 32) hx hb dX7_step_28 (by decide) ?_
      refine lv_iload_n hx hb dX7_step_32 rfl (lv_at hl 1 rfl) ?_
      refine lv_bipush (v := 112) hx hb dX7_step_33 (by decide) ?_
      refine lv_icmp_ne (tgt := 43) hx hb dX7_step_35 (by decide) (fun c35 => ?_) (fun c35 => ?_)
      · refine lv_sipush (v := 400) hx hb dX7_step_43 (by decide) ?_
        refine zcS_xv (As := [.int p2, .int 0, .int 400]) (rest := []) (n9 := 3) C hw (c_X7_checkRange l hst D y base S p2 0 400 ) gX7_step_X7_checkRange rfl (by decide +kernel) ⟨⟨rfl, rfl⟩, Nat.le_of_ble_eq_true rfl, Nat.le_of_ble_eq_true rfl⟩ rfl hl.1 rfl (Nat.le_of_ble_eq_true rfl) ⟨Nat.le_of_ble_eq_true rfl, Nat.le_of_ble_eq_true rfl⟩ dX7_step_46 (fun E ce q9 S46 H locs hx46 hw h1 h2 h3 => zxout hw hx0 hlocks h1 h2 h3 (by obtain ⟨rfl, hc9, rfl⟩ := hx46; refine ⟨?_, rfl⟩; first | exact (Or.inl ⟨rfl, (by unfold kd_step; grind)⟩) | exact (Or.inr ⟨rfl, (by unfold kd_step; grind)⟩)) ⟨Nat.le_of_ble_eq_true rfl, Nat.le_of_ble_eq_true rfl⟩) (fun S46 H locs hp46 hw => ?_)
        obtain ⟨hp46, hS9⟩ := hp46
        have hS9 := hS9.symm
        subst hS9
        exact (show False from (hbad (by unfold kd_step; grind))).elim
      · refine lv_bipush (v := 15) hx hb dX7_step_38 (by decide) ?_
        refine lv_goto (tgt := 46) hx hb dX7_step_40 (by decide) ?_
        refine zcS_xv (As := [.int p2, .int 0, .int 15]) (rest := []) (n9 := 3) C hw (c_X7_checkRange l hst D y base S p2 0 15 ) gX7_step_X7_checkRange rfl (by decide +kernel) ⟨⟨rfl, rfl⟩, Nat.le_of_ble_eq_true rfl, Nat.le_of_ble_eq_true rfl⟩ rfl hl.1 rfl (Nat.le_of_ble_eq_true rfl) ⟨Nat.le_of_ble_eq_true rfl, Nat.le_of_ble_eq_true rfl⟩ dX7_step_46 (fun E ce q9 S46 H locs hx46 hw h1 h2 h3 => zxout hw hx0 hlocks h1 h2 h3 (by obtain ⟨rfl, hc9, rfl⟩ := hx46; refine ⟨?_, rfl⟩; first | exact (Or.inl ⟨rfl, (by unfold kd_step; grind)⟩) | exact (Or.inr ⟨rfl, (by unfold kd_step; grind)⟩)) ⟨Nat.le_of_ble_eq_true rfl, Nat.le_of_ble_eq_true rfl⟩) (fun S46 H locs hp46 hw => ?_)
        obtain ⟨hp46, hS9⟩ := hp46
        have hS9 := hS9.symm
        subst hS9
        exact (show False from (hbad (by unfold kd_step; grind))).elim
  · refine lv_iload_n hx hb dX7_step_6 rfl (lv_at hl 1 rfl) ?_
    refine lv_bipush (v := 116) hx hb dX7_step_7 (by decide) ?_
    refine lv_icmp_eq (tgt := 16) hx hb dX7_step_9 (by decide) (fun c9 => ?_) (fun c9 => ?_)
    · refine lv_iload_n hx hb dX7_step_16 rfl (lv_at hl 1 rfl) ?_
      refine zcS_xv (As := [.int p0]) (rest := []) (n9 := 1) C hw (c_X7_checkStepKind l hst D y base S p0 ) gX7_step_X7_checkStepKind rfl (by decide +kernel) ⟨⟨rfl, rfl⟩, Nat.le_of_ble_eq_true rfl, Nat.le_of_ble_eq_true rfl⟩ rfl hl.1 rfl (Nat.le_of_ble_eq_true rfl) ⟨Nat.le_of_ble_eq_true rfl, Nat.le_of_ble_eq_true rfl⟩ dX7_step_17 (fun E ce q9 S17 H locs hx17 hw h1 h2 h3 => zxout hw hx0 hlocks h1 h2 h3 (by obtain ⟨rfl, hc9, rfl⟩ := hx17; refine ⟨?_, rfl⟩; first | exact (Or.inl ⟨rfl, (by unfold kd_step; grind)⟩) | exact (Or.inr ⟨rfl, (by unfold kd_step; grind)⟩)) ⟨Nat.le_of_ble_eq_true rfl, Nat.le_of_ble_eq_true rfl⟩) (fun S17 H locs hp17 hw => ?_)
      obtain ⟨hp17, hS9⟩ := hp17
      have hS9 := hS9.symm
      subst hS9
      refine lv_iload_n hx hb dX7_step_20 rfl (lv_at hl 3 rfl) ?_
      refine lv_iload_n hx hb dX7_step_21 rfl (lv_at hl 1 rfl) ?_
      refine lv_bipush (v := 112) hx hb dX7_step_22 (by decide) ?_
      refine lv_icmp_ne (tgt := 31) hx hb dX7_step_24 (by decide) (fun c24 => ?_) (fun c24 => ?_)
      · refine lv_iconst (v := 1) hx hb dX7_step_31 (by decide) ?_
        refine lv_iload_n hx hb dX7_step_32 rfl (lv_at hl 1 rfl) ?_
        refine lv_bipush (v := 112) hx hb dX7_step_33 (by decide) ?_
        refine lv_icmp_ne (tgt := 43) hx hb dX7_step_35 (by decide) (fun c35 => ?_) (fun c35 => ?_)
        · refine lv_sipush (v := 400) hx hb dX7_step_43 (by decide) ?_
          refine zcS_xv (As := [.int p2, .int 1, .int 400]) (rest := []) (n9 := 3) C hw (c_X7_checkRange l hst D y base S p2 1 400 ) gX7_step_X7_checkRange rfl (by decide +kernel) ⟨⟨rfl, rfl⟩, Nat.le_of_ble_eq_true rfl, Nat.le_of_ble_eq_true rfl⟩ rfl hl.1 rfl (Nat.le_of_ble_eq_true rfl) ⟨Nat.le_of_ble_eq_true rfl, Nat.le_of_ble_eq_true rfl⟩ dX7_step_46 (fun E ce q9 S46 H locs hx46 hw h1 h2 h3 => zxout hw hx0 hlocks h1 h2 h3 (by obtain ⟨rfl, hc9, rfl⟩ := hx46; refine ⟨?_, rfl⟩; first | exact (Or.inl ⟨rfl, (by unfold kd_step; grind)⟩) | exact (Or.inr ⟨rfl, (by unfold kd_step; grind)⟩)) ⟨Nat.le_of_ble_eq_true rfl, Nat.le_of_ble_eq_true rfl⟩) (fun S46 H locs hp46 hw => ?_)
          obtain ⟨hp46, hS9⟩ := hp46
          have hS9 := hS9.symm
          subst hS9
          exact (show False from (hbad (by unfold kd_step; grind))).elim
        · refine lv_bipush (v := 15) hx hb dX7_step_38 (by decide) ?_
          refine lv_goto (tgt := 46) hx hb dX7_step_40 (by decide) ?_
          refine zcS_xv (As := [.int p2, .int 1, .int 15]) (rest := []) (n9 := 3) C hw (c_X7_checkRange l hst D y base S p2 1 15 ) gX7_step_X7_checkRange rfl (by decide +kernel) ⟨⟨rfl, rfl⟩, Nat.le_of_ble_eq_true rfl, Nat.le_of_ble_eq_true rfl⟩ rfl hl.1 rfl (Nat.le_of_ble_eq_true rfl) ⟨Nat.le_of_ble_eq_true rfl, Nat.le_of_ble_eq_true rfl⟩ dX7_step_46 (fun E ce q9 S46 H locs hx46 hw h1 h2 h3 => zxout hw hx0 hlocks h1 h2 h3 (by obtain ⟨rfl, hc9, rfl⟩ := hx46; refine ⟨?_, rfl⟩; first | exact (Or.inl ⟨rfl, (by unfold kd_step; grind)⟩) | exact (Or.inr ⟨rfl, (by unfold kd_step; grind)⟩)) ⟨Nat.le_of_ble_eq_true rfl, Nat.le_of_ble_eq_true rfl⟩) (fun S46 H locs hp46 hw => ?_)
          obtain ⟨hp46, hS9⟩ := hp46
          have hS9 := hS9.symm
          subst hS9
          exact (show False from (hbad (by unfold kd_step; grind))).elim
      · refine lv_iconst (v := 0) hx hb dX7_step_27 (by decide) ?_
        refine lv_goto (tgt := 32) hx hb dX7_step_28 (by decide) ?_
        refine lv_iload_n hx hb dX7_step_32 rfl (lv_at hl 1 rfl) ?_
        refine lv_bipush (v := 112) hx hb dX7_step_33 (by decide) ?_
        refine lv_icmp_ne (tgt := 43) hx hb dX7_step_35 (by decide) (fun c35 => ?_) (fun c35 => ?_)
        · refine lv_sipush (v := 400) hx hb dX7_step_43 (by decide) ?_
          refine zcS_xv (As := [.int p2, .int 0, .int 400]) (rest := []) (n9 := 3) C hw (c_X7_checkRange l hst D y base S p2 0 400 ) gX7_step_X7_checkRange rfl (by decide +kernel) ⟨⟨rfl, rfl⟩, Nat.le_of_ble_eq_true rfl, Nat.le_of_ble_eq_true rfl⟩ rfl hl.1 rfl (Nat.le_of_ble_eq_true rfl) ⟨Nat.le_of_ble_eq_true rfl, Nat.le_of_ble_eq_true rfl⟩ dX7_step_46 (fun E ce q9 S46 H locs hx46 hw h1 h2 h3 => zxout hw hx0 hlocks h1 h2 h3 (by obtain ⟨rfl, hc9, rfl⟩ := hx46; refine ⟨?_, rfl⟩; first | exact (Or.inl ⟨rfl, (by unfold kd_step; grind)⟩) | exact (Or.inr ⟨rfl, (by unfold kd_step; grind)⟩)) ⟨Nat.le_of_ble_eq_true rfl, Nat.le_of_ble_eq_true rfl⟩) (fun S46 H locs hp46 hw => ?_)
          obtain ⟨hp46, hS9⟩ := hp46
          have hS9 := hS9.symm
          subst hS9
          exact (show False from (hbad (by unfold kd_step; grind))).elim
        · refine lv_bipush (v := 15) hx hb dX7_step_38 (by decide) ?_
          refine lv_goto (tgt := 46) hx hb dX7_step_40 (by decide) ?_
          refine zcS_xv (As := [.int p2, .int 0, .int 15]) (rest := []) (n9 := 3) C hw (c_X7_checkRange l hst D y base S p2 0 15 ) gX7_step_X7_checkRange rfl (by decide +kernel) ⟨⟨rfl, rfl⟩, Nat.le_of_ble_eq_true rfl, Nat.le_of_ble_eq_true rfl⟩ rfl hl.1 rfl (Nat.le_of_ble_eq_true rfl) ⟨Nat.le_of_ble_eq_true rfl, Nat.le_of_ble_eq_true rfl⟩ dX7_step_46 (fun E ce q9 S46 H locs hx46 hw h1 h2 h3 => zxout hw hx0 hlocks h1 h2 h3 (by obtain ⟨rfl, hc9, rfl⟩ := hx46; refine ⟨?_, rfl⟩; first | exact (Or.inl ⟨rfl, (by unfold kd_step; grind)⟩) | exact (Or.inr ⟨rfl, (by unfold kd_step; grind)⟩)) ⟨Nat.le_of_ble_eq_true rfl, Nat.le_of_ble_eq_true rfl⟩) (fun S46 H locs hp46 hw => ?_)
          obtain ⟨hp46, hS9⟩ := hp46
          have hS9 := hS9.symm
          subst hS9
          exact (show False from (hbad (by unfold kd_step; grind))).elim
    · refine lv_iload_n hx hb dX7_step_12 rfl (lv_at hl 2 rfl) ?_
      refine zcS_xv (As := [.int p1]) (rest := []) (n9 := 1) C hw (c_X7_checkWire l hst D y base S p1 ) gX7_step_X7_checkWire rfl (by decide +kernel) ⟨⟨rfl, rfl⟩, Nat.le_of_ble_eq_true rfl, Nat.le_of_ble_eq_true rfl⟩ rfl hl.1 rfl (Nat.le_of_ble_eq_true rfl) ⟨Nat.le_of_ble_eq_true rfl, Nat.le_of_ble_eq_true rfl⟩ dX7_step_13 (fun E ce q9 S13 H locs hx13 hw h1 h2 h3 => zxout hw hx0 hlocks h1 h2 h3 (by obtain ⟨rfl, hc9, rfl⟩ := hx13; refine ⟨?_, rfl⟩; first | exact (Or.inl ⟨rfl, (by unfold kd_step; grind)⟩) | exact (Or.inr ⟨rfl, (by unfold kd_step; grind)⟩)) ⟨Nat.le_of_ble_eq_true rfl, Nat.le_of_ble_eq_true rfl⟩) (fun S13 H locs hp13 hw => ?_)
      obtain ⟨hp13, hS9⟩ := hp13
      have hS9 := hS9.symm
      subst hS9
      refine lv_iload_n hx hb dX7_step_16 rfl (lv_at hl 1 rfl) ?_
      refine zcS_xv (As := [.int p0]) (rest := []) (n9 := 1) C hw (c_X7_checkStepKind l hst D y base S p0 ) gX7_step_X7_checkStepKind rfl (by decide +kernel) ⟨⟨rfl, rfl⟩, Nat.le_of_ble_eq_true rfl, Nat.le_of_ble_eq_true rfl⟩ rfl hl.1 rfl (Nat.le_of_ble_eq_true rfl) ⟨Nat.le_of_ble_eq_true rfl, Nat.le_of_ble_eq_true rfl⟩ dX7_step_17 (fun E ce q9 S17 H locs hx17 hw h1 h2 h3 => zxout hw hx0 hlocks h1 h2 h3 (by obtain ⟨rfl, hc9, rfl⟩ := hx17; refine ⟨?_, rfl⟩; first | exact (Or.inl ⟨rfl, (by unfold kd_step; grind)⟩) | exact (Or.inr ⟨rfl, (by unfold kd_step; grind)⟩)) ⟨Nat.le_of_ble_eq_true rfl, Nat.le_of_ble_eq_true rfl⟩) (fun S17 H locs hp17 hw => ?_)
      obtain ⟨hp17, hS9⟩ := hp17
      have hS9 := hS9.symm
      subst hS9
      refine lv_iload_n hx hb dX7_step_20 rfl (lv_at hl 3 rfl) ?_
      refine lv_iload_n hx hb dX7_step_21 rfl (lv_at hl 1 rfl) ?_
      refine lv_bipush (v := 112) hx hb dX7_step_22 (by decide) ?_
      refine lv_icmp_ne (tgt := 31) hx hb dX7_step_24 (by decide) (fun c24 => ?_) (fun c24 => ?_)
      · refine lv_iconst (v := 1) hx hb dX7_step_31 (by decide) ?_
        refine lv_iload_n hx hb dX7_step_32 rfl (lv_at hl 1 rfl) ?_
        refine lv_bipush (v := 112) hx hb dX7_step_33 (by decide) ?_
        refine lv_icmp_ne (tgt := 43) hx hb dX7_step_35 (by decide) (fun c35 => ?_) (fun c35 => ?_)
        · refine lv_sipush (v := 400) hx hb dX7_step_43 (by decide) ?_
          refine zcS_xv (As := [.int p2, .int 1, .int 400]) (rest := []) (n9 := 3) C hw (c_X7_checkRange l hst D y base S p2 1 400 ) gX7_step_X7_checkRange rfl (by decide +kernel) ⟨⟨rfl, rfl⟩, Nat.le_of_ble_eq_true rfl, Nat.le_of_ble_eq_true rfl⟩ rfl hl.1 rfl (Nat.le_of_ble_eq_true rfl) ⟨Nat.le_of_ble_eq_true rfl, Nat.le_of_ble_eq_true rfl⟩ dX7_step_46 (fun E ce q9 S46 H locs hx46 hw h1 h2 h3 => zxout hw hx0 hlocks h1 h2 h3 (by obtain ⟨rfl, hc9, rfl⟩ := hx46; refine ⟨?_, rfl⟩; first | exact (Or.inl ⟨rfl, (by unfold kd_step; grind)⟩) | exact (Or.inr ⟨rfl, (by unfold kd_step; grind)⟩)) ⟨Nat.le_of_ble_eq_true rfl, Nat.le_of_ble_eq_true rfl⟩) (fun S46 H locs hp46 hw => ?_)
          obtain ⟨hp46, hS9⟩ := hp46
          have hS9 := hS9.symm
          subst hS9
          exact (show False from (hbad (by unfold kd_step; grind))).elim
        · refine lv_bipush (v := 15) hx hb dX7_step_38 (by decide) ?_
          refine lv_goto (tgt := 46) hx hb dX7_step_40 (by decide) ?_
          refine zcS_xv (As := [.int p2, .int 1, .int 15]) (rest := []) (n9 := 3) C hw (c_X7_checkRange l hst D y base S p2 1 15 ) gX7_step_X7_checkRange rfl (by decide +kernel) ⟨⟨rfl, rfl⟩, Nat.le_of_ble_eq_true rfl, Nat.le_of_ble_eq_true rfl⟩ rfl hl.1 rfl (Nat.le_of_ble_eq_true rfl) ⟨Nat.le_of_ble_eq_true rfl, Nat.le_of_ble_eq_true rfl⟩ dX7_step_46 (fun E ce q9 S46 H locs hx46 hw h1 h2 h3 => zxout hw hx0 hlocks h1 h2 h3 (by obtain ⟨rfl, hc9, rfl⟩ := hx46; refine ⟨?_, rfl⟩; first | exact (Or.inl ⟨rfl, (by unfold kd_step; grind)⟩) | exact (Or.inr ⟨rfl, (by unfold kd_step; grind)⟩)) ⟨Nat.le_of_ble_eq_true rfl, Nat.le_of_ble_eq_true rfl⟩) (fun S46 H locs hp46 hw => ?_)
          obtain ⟨hp46, hS9⟩ := hp46
          have hS9 := hS9.symm
          subst hS9
          exact (show False from (hbad (by unfold kd_step; grind))).elim
      · refine lv_iconst (v := 0) hx hb dX7_step_27 (by decide) ?_
        refine lv_goto (tgt := 32) hx hb dX7_step_28 (by decide) ?_
        refine lv_iload_n hx hb dX7_step_32 rfl (lv_at hl 1 rfl) ?_
        refine lv_bipush (v := 112) hx hb dX7_step_33 (by decide) ?_
        refine lv_icmp_ne (tgt := 43) hx hb dX7_step_35 (by decide) (fun c35 => ?_) (fun c35 => ?_)
        · refine lv_sipush (v := 400) hx hb dX7_step_43 (by decide) ?_
          refine zcS_xv (As := [.int p2, .int 0, .int 400]) (rest := []) (n9 := 3) C hw (c_X7_checkRange l hst D y base S p2 0 400 ) gX7_step_X7_checkRange rfl (by decide +kernel) ⟨⟨rfl, rfl⟩, Nat.le_of_ble_eq_true rfl, Nat.le_of_ble_eq_true rfl⟩ rfl hl.1 rfl (Nat.le_of_ble_eq_true rfl) ⟨Nat.le_of_ble_eq_true rfl, Nat.le_of_ble_eq_true rfl⟩ dX7_step_46 (fun E ce q9 S46 H locs hx46 hw h1 h2 h3 => zxout hw hx0 hlocks h1 h2 h3 (by obtain ⟨rfl, hc9, rfl⟩ := hx46; refine ⟨?_, rfl⟩; first | exact (Or.inl ⟨rfl, (by unfold kd_step; grind)⟩) | exact (Or.inr ⟨rfl, (by unfold kd_step; grind)⟩)) ⟨Nat.le_of_ble_eq_true rfl, Nat.le_of_ble_eq_true rfl⟩) (fun S46 H locs hp46 hw => ?_)
          obtain ⟨hp46, hS9⟩ := hp46
          have hS9 := hS9.symm
          subst hS9
          exact (show False from (hbad (by unfold kd_step; grind))).elim
        · refine lv_bipush (v := 15) hx hb dX7_step_38 (by decide) ?_
          refine lv_goto (tgt := 46) hx hb dX7_step_40 (by decide) ?_
          refine zcS_xv (As := [.int p2, .int 0, .int 15]) (rest := []) (n9 := 3) C hw (c_X7_checkRange l hst D y base S p2 0 15 ) gX7_step_X7_checkRange rfl (by decide +kernel) ⟨⟨rfl, rfl⟩, Nat.le_of_ble_eq_true rfl, Nat.le_of_ble_eq_true rfl⟩ rfl hl.1 rfl (Nat.le_of_ble_eq_true rfl) ⟨Nat.le_of_ble_eq_true rfl, Nat.le_of_ble_eq_true rfl⟩ dX7_step_46 (fun E ce q9 S46 H locs hx46 hw h1 h2 h3 => zxout hw hx0 hlocks h1 h2 h3 (by obtain ⟨rfl, hc9, rfl⟩ := hx46; refine ⟨?_, rfl⟩; first | exact (Or.inl ⟨rfl, (by unfold kd_step; grind)⟩) | exact (Or.inr ⟨rfl, (by unfold kd_step; grind)⟩)) ⟨Nat.le_of_ble_eq_true rfl, Nat.le_of_ble_eq_true rfl⟩) (fun S46 H locs hp46 hw => ?_)
          obtain ⟨hp46, hS9⟩ := hp46
          have hS9 := hS9.symm
          subst hS9
          exact (show False from (hbad (by unfold kd_step; grind))).elim

set_option maxHeartbeats 4000000 in
set_option maxRecDepth 100000 in
/-- X7_decodeTwo -/
theorem c_X7_decodeTwo_r (l : Launch) (hst : l.stackTraces = false) (D : va_G) (y : Nat → ClassId) (base : Nat) (S : zS) (a : Nat → Nat) (p0 : Int32) (p1 : Int32) (p2 : Int32) (hX : zX S a) (h0 : zX0 S a) (hbad : ¬ kd_decodeTwo p0 p1 p2 = 0) : zXi l yX7_decodeTwo wsX7_decodeTwo ({ frames := 7, cells := 4, slots := 24, locals := 111 }) [.ref (a 0), .int p0, .int p1, .int p2] D y base S (fun (r : Int32) (S1 : zS) => False ∧ S1 = S) (fun (E : String) (S1 : zS) => ((E = "java/lang/IndexOutOfBoundsException" ∧ kd_decodeTwo p0 p1 p2 = 1) ∨ (E = "java/lang/IllegalArgumentException" ∧ kd_decodeTwo p0 p1 p2 = 2)) ∧ S1 = S) 4 24 := by
  refine zXet_of (cc := cX7_decodeTwo) (maxL := 7) (ret := (some .int)) (own := RX7) (by decide +kernel) rfl rfl (Nat.le_of_ble_eq_true rfl) ?_
  intro p e s m args below meth c ls C hr hlocks hx0 hw hl
  have hx := C.1
  have hb := C.2.1
  have hown := C.2.2.2.1
  have hts := C.2.2.2.2
  have hl : lv_has ls 7 [(0, .ref (a 0)), (1, .int p0), (2, .int p1), (3, .int p2)] := hl
  refine lv_iload_n hx hb dX7_decodeTwo_0 rfl (lv_at hl 1 rfl) ?_
  refine zcS_xv (As := [.int p0]) (rest := []) (n9 := 1) C hw (c_X7_checkCapture l hst D y base S p0 ) gX7_decodeTwo_X7_checkCapture rfl (by decide +kernel) ⟨⟨rfl, rfl⟩, Nat.le_of_ble_eq_true rfl, Nat.le_of_ble_eq_true rfl⟩ rfl hl.1 rfl (Nat.le_of_ble_eq_true rfl) ⟨Nat.le_of_ble_eq_true rfl, Nat.le_of_ble_eq_true rfl⟩ dX7_decodeTwo_1 (fun E ce q9 S1 H locs hx1 hw h1 h2 h3 => zxout hw hx0 hlocks h1 h2 h3 (by obtain ⟨rfl, hc9, rfl⟩ := hx1; refine ⟨?_, rfl⟩; first | exact (Or.inl ⟨rfl, (by unfold kd_decodeTwo; grind)⟩) | exact (Or.inr ⟨rfl, (by unfold kd_decodeTwo; grind)⟩)) ⟨Nat.le_of_ble_eq_true rfl, Nat.le_of_ble_eq_true rfl⟩) (fun S1 H locs hp1 hw => ?_)
  obtain ⟨hp1, hS9⟩ := hp1
  have hS9 := hS9.symm
  subst hS9
  refine lv_iload_n hx hb dX7_decodeTwo_4 rfl (lv_at hl 2 rfl) ?_
  refine zcS_xv (As := [.int p1]) (rest := []) (n9 := 1) C hw (c_X7_checkWire l hst D y base S p1 ) gX7_decodeTwo_X7_checkWire rfl (by decide +kernel) ⟨⟨rfl, rfl⟩, Nat.le_of_ble_eq_true rfl, Nat.le_of_ble_eq_true rfl⟩ rfl hl.1 rfl (Nat.le_of_ble_eq_true rfl) ⟨Nat.le_of_ble_eq_true rfl, Nat.le_of_ble_eq_true rfl⟩ dX7_decodeTwo_5 (fun E ce q9 S5 H locs hx5 hw h1 h2 h3 => zxout hw hx0 hlocks h1 h2 h3 (by obtain ⟨rfl, hc9, rfl⟩ := hx5; refine ⟨?_, rfl⟩; first | exact (Or.inl ⟨rfl, (by unfold kd_decodeTwo; grind)⟩) | exact (Or.inr ⟨rfl, (by unfold kd_decodeTwo; grind)⟩)) ⟨Nat.le_of_ble_eq_true rfl, Nat.le_of_ble_eq_true rfl⟩) (fun S5 H locs hp5 hw => ?_)
  obtain ⟨hp5, hS9⟩ := hp5
  have hS9 := hS9.symm
  subst hS9
  refine lv_iload_n hx hb dX7_decodeTwo_8 rfl (lv_at hl 3 rfl) ?_
  refine zcS_xv (As := [.int p2]) (rest := []) (n9 := 1) C hw (c_X7_checkWire l hst D y base S p2 ) gX7_decodeTwo_X7_checkWire rfl (by decide +kernel) ⟨⟨rfl, rfl⟩, Nat.le_of_ble_eq_true rfl, Nat.le_of_ble_eq_true rfl⟩ rfl hl.1 rfl (Nat.le_of_ble_eq_true rfl) ⟨Nat.le_of_ble_eq_true rfl, Nat.le_of_ble_eq_true rfl⟩ dX7_decodeTwo_9 (fun E ce q9 S9 H locs hx9 hw h1 h2 h3 => zxout hw hx0 hlocks h1 h2 h3 (by obtain ⟨rfl, hc9, rfl⟩ := hx9; refine ⟨?_, rfl⟩; first | exact (Or.inl ⟨rfl, (by unfold kd_decodeTwo; grind)⟩) | exact (Or.inr ⟨rfl, (by unfold kd_decodeTwo; grind)⟩)) ⟨Nat.le_of_ble_eq_true rfl, Nat.le_of_ble_eq_true rfl⟩) (fun S9 H locs hp9 hw => ?_)
  obtain ⟨hp9, hS9⟩ := hp9
  have hS9 := hS9.symm
  subst hS9
  refine lv_iload_n hx hb dX7_decodeTwo_12 rfl (lv_at hl 2 rfl) ?_
  refine lv_iload_n hx hb dX7_decodeTwo_13 rfl (lv_at hl 3 rfl) ?_
  refine zcS_xv (As := [.int p1, .int p2]) (rest := []) (n9 := 2) C hw (c_X7_checkApart l hst D y base S p1 p2 ) gX7_decodeTwo_X7_checkApart rfl (by decide +kernel) ⟨⟨rfl, rfl⟩, Nat.le_of_ble_eq_true rfl, Nat.le_of_ble_eq_true rfl⟩ rfl hl.1 rfl (Nat.le_of_ble_eq_true rfl) ⟨Nat.le_of_ble_eq_true rfl, Nat.le_of_ble_eq_true rfl⟩ dX7_decodeTwo_14 (fun E ce q9 S14 H locs hx14 hw h1 h2 h3 => zxout hw hx0 hlocks h1 h2 h3 (by obtain ⟨rfl, hc9, rfl⟩ := hx14; refine ⟨?_, rfl⟩; first | exact (Or.inl ⟨rfl, (by unfold kd_decodeTwo; grind)⟩) | exact (Or.inr ⟨rfl, (by unfold kd_decodeTwo; grind)⟩)) ⟨Nat.le_of_ble_eq_true rfl, Nat.le_of_ble_eq_true rfl⟩) (fun S14 H locs hp14 hw => ?_)
  obtain ⟨hp14, hS9⟩ := hp14
  have hS9 := hS9.symm
  subst hS9
  exact (show False from (hbad (by unfold kd_decodeTwo; grind))).elim

set_option maxHeartbeats 4000000 in
set_option maxRecDepth 100000 in
/-- X7_decodeFour -/
theorem c_X7_decodeFour_r (l : Launch) (hst : l.stackTraces = false) (D : va_G) (y : Nat → ClassId) (base : Nat) (S : zS) (a : Nat → Nat) (p0 : Int32) (p1 : Int32) (p2 : Int32) (p3 : Int32) (p4 : Int32) (hX : zX S a) (h0 : zX0 S a) (hbad : ¬ kd_decodeFour p0 p1 p2 p3 p4 = 0) : zXi l yX7_decodeFour wsX7_decodeFour ({ frames := 8, cells := 8, slots := 48, locals := 133 }) [.ref (a 0), .int p0, .int p1, .int p2, .int p3, .int p4] D y base S (fun (r : Int32) (S1 : zS) => False ∧ S1 = S) (fun (E : String) (S1 : zS) => ((E = "java/lang/IndexOutOfBoundsException" ∧ kd_decodeFour p0 p1 p2 p3 p4 = 1) ∨ (E = "java/lang/IllegalArgumentException" ∧ kd_decodeFour p0 p1 p2 p3 p4 = 2)) ∧ S1 = S) 8 48 := by
  refine zXet_of (cc := cX7_decodeFour) (maxL := 10) (ret := (some .int)) (own := RX7) (by decide +kernel) rfl rfl (Nat.le_of_ble_eq_true rfl) ?_
  intro p e s m args below meth c ls C hr hlocks hx0 hw hl
  have hx := C.1
  have hb := C.2.1
  have hown := C.2.2.2.1
  have hts := C.2.2.2.2
  have hl : lv_has ls 10 [(0, .ref (a 0)), (1, .int p0), (2, .int p1), (3, .int p2), (4, .int p3), (5, .int p4)] := hl
  refine lv_iload_n hx hb dX7_decodeFour_0 rfl (lv_at hl 1 rfl) ?_
  refine zcS_xv (As := [.int p0]) (rest := []) (n9 := 1) C hw (c_X7_checkCapture l hst D y base S p0 ) gX7_decodeFour_X7_checkCapture rfl (by decide +kernel) ⟨⟨rfl, rfl⟩, Nat.le_of_ble_eq_true rfl, Nat.le_of_ble_eq_true rfl⟩ rfl hl.1 rfl (Nat.le_of_ble_eq_true rfl) ⟨Nat.le_of_ble_eq_true rfl, Nat.le_of_ble_eq_true rfl⟩ dX7_decodeFour_1 (fun E ce q9 S1 H locs hx1 hw h1 h2 h3 => zxout hw hx0 hlocks h1 h2 h3 (by obtain ⟨rfl, hc9, rfl⟩ := hx1; refine ⟨?_, rfl⟩; first | exact (Or.inl ⟨rfl, (by unfold kd_decodeFour; grind)⟩) | exact (Or.inr ⟨rfl, (by unfold kd_decodeFour; grind)⟩)) ⟨Nat.le_of_ble_eq_true rfl, Nat.le_of_ble_eq_true rfl⟩) (fun S1 H locs hp1 hw => ?_)
  obtain ⟨hp1, hS9⟩ := hp1
  have hS9 := hS9.symm
  subst hS9
  refine lv_iload_n hx hb dX7_decodeFour_4 rfl (lv_at hl 2 rfl) ?_
  refine zcS_xv (As := [.int p1]) (rest := []) (n9 := 1) C hw (c_X7_checkWire l hst D y base S p1 ) gX7_decodeFour_X7_checkWire rfl (by decide +kernel) ⟨⟨rfl, rfl⟩, Nat.le_of_ble_eq_true rfl, Nat.le_of_ble_eq_true rfl⟩ rfl hl.1 rfl (Nat.le_of_ble_eq_true rfl) ⟨Nat.le_of_ble_eq_true rfl, Nat.le_of_ble_eq_true rfl⟩ dX7_decodeFour_5 (fun E ce q9 S5 H locs hx5 hw h1 h2 h3 => zxout hw hx0 hlocks h1 h2 h3 (by obtain ⟨rfl, hc9, rfl⟩ := hx5; refine ⟨?_, rfl⟩; first | exact (Or.inl ⟨rfl, (by unfold kd_decodeFour; grind)⟩) | exact (Or.inr ⟨rfl, (by unfold kd_decodeFour; grind)⟩)) ⟨Nat.le_of_ble_eq_true rfl, Nat.le_of_ble_eq_true rfl⟩) (fun S5 H locs hp5 hw => ?_)
  obtain ⟨hp5, hS9⟩ := hp5
  have hS9 := hS9.symm
  subst hS9
  refine lv_iload_n hx hb dX7_decodeFour_8 rfl (lv_at hl 3 rfl) ?_
  refine zcS_xv (As := [.int p2]) (rest := []) (n9 := 1) C hw (c_X7_checkWire l hst D y base S p2 ) gX7_decodeFour_X7_checkWire rfl (by decide +kernel) ⟨⟨rfl, rfl⟩, Nat.le_of_ble_eq_true rfl, Nat.le_of_ble_eq_true rfl⟩ rfl hl.1 rfl (Nat.le_of_ble_eq_true rfl) ⟨Nat.le_of_ble_eq_true rfl, Nat.le_of_ble_eq_true rfl⟩ dX7_decodeFour_9 (fun E ce q9 S9 H locs hx9 hw h1 h2 h3 => zxout hw hx0 hlocks h1 h2 h3 (by obtain ⟨rfl, hc9, rfl⟩ := hx9; refine ⟨?_, rfl⟩; first | exact (Or.inl ⟨rfl, (by unfold kd_decodeFour; grind)⟩) | exact (Or.inr ⟨rfl, (by unfold kd_decodeFour; grind)⟩)) ⟨Nat.le_of_ble_eq_true rfl, Nat.le_of_ble_eq_true rfl⟩) (fun S9 H locs hp9 hw => ?_)
  obtain ⟨hp9, hS9⟩ := hp9
  have hS9 := hS9.symm
  subst hS9
  refine lv_iload hx hb dX7_decodeFour_12 (lv_at hl 4 rfl) ?_
  refine zcS_xv (As := [.int p3]) (rest := []) (n9 := 1) C hw (c_X7_checkWire l hst D y base S p3 ) gX7_decodeFour_X7_checkWire rfl (by decide +kernel) ⟨⟨rfl, rfl⟩, Nat.le_of_ble_eq_true rfl, Nat.le_of_ble_eq_true rfl⟩ rfl hl.1 rfl (Nat.le_of_ble_eq_true rfl) ⟨Nat.le_of_ble_eq_true rfl, Nat.le_of_ble_eq_true rfl⟩ dX7_decodeFour_14 (fun E ce q9 S14 H locs hx14 hw h1 h2 h3 => zxout hw hx0 hlocks h1 h2 h3 (by obtain ⟨rfl, hc9, rfl⟩ := hx14; refine ⟨?_, rfl⟩; first | exact (Or.inl ⟨rfl, (by unfold kd_decodeFour; grind)⟩) | exact (Or.inr ⟨rfl, (by unfold kd_decodeFour; grind)⟩)) ⟨Nat.le_of_ble_eq_true rfl, Nat.le_of_ble_eq_true rfl⟩) (fun S14 H locs hp14 hw => ?_)
  obtain ⟨hp14, hS9⟩ := hp14
  have hS9 := hS9.symm
  subst hS9
  refine lv_iload_n hx hb dX7_decodeFour_17 rfl (lv_at hl 2 rfl) ?_
  refine lv_iload_n hx hb dX7_decodeFour_18 rfl (lv_at hl 3 rfl) ?_
  refine lv_iload hx hb dX7_decodeFour_19 (lv_at hl 4 rfl) ?_
  refine zcS_xv (As := [.int p1, .int p2, .int p3]) (rest := []) (n9 := 3) C hw (c_X7_checkThreeApart l hst D y base S p1 p2 p3 ) gX7_decodeFour_X7_checkThreeApart rfl (by decide +kernel) ⟨⟨rfl, rfl⟩, Nat.le_of_ble_eq_true rfl, Nat.le_of_ble_eq_true rfl⟩ rfl hl.1 rfl (Nat.le_of_ble_eq_true rfl) ⟨Nat.le_of_ble_eq_true rfl, Nat.le_of_ble_eq_true rfl⟩ dX7_decodeFour_21 (fun E ce q9 S21 H locs hx21 hw h1 h2 h3 => zxout hw hx0 hlocks h1 h2 h3 (by obtain ⟨rfl, hc9, rfl⟩ := hx21; refine ⟨?_, rfl⟩; first | exact (Or.inl ⟨rfl, (by unfold kd_decodeFour; grind)⟩) | exact (Or.inr ⟨rfl, (by unfold kd_decodeFour; grind)⟩)) ⟨Nat.le_of_ble_eq_true rfl, Nat.le_of_ble_eq_true rfl⟩) (fun S21 H locs hp21 hw => ?_)
  obtain ⟨hp21, hS9⟩ := hp21
  have hS9 := hS9.symm
  subst hS9
  refine lv_iload hx hb dX7_decodeFour_24 (lv_at hl 5 rfl) ?_
  refine lv_iconst (v := 0) hx hb dX7_decodeFour_26 (by decide) ?_
  refine lv_iconst (v := 3) hx hb dX7_decodeFour_27 (by decide) ?_
  refine zcS_xv (As := [.int p4, .int 0, .int 3]) (rest := []) (n9 := 3) C hw (c_X7_checkRange l hst D y base S p4 0 3 ) gX7_decodeFour_X7_checkRange rfl (by decide +kernel) ⟨⟨rfl, rfl⟩, Nat.le_of_ble_eq_true rfl, Nat.le_of_ble_eq_true rfl⟩ rfl hl.1 rfl (Nat.le_of_ble_eq_true rfl) ⟨Nat.le_of_ble_eq_true rfl, Nat.le_of_ble_eq_true rfl⟩ dX7_decodeFour_28 (fun E ce q9 S28 H locs hx28 hw h1 h2 h3 => zxout hw hx0 hlocks h1 h2 h3 (by obtain ⟨rfl, hc9, rfl⟩ := hx28; refine ⟨?_, rfl⟩; first | exact (Or.inl ⟨rfl, (by unfold kd_decodeFour; grind)⟩) | exact (Or.inr ⟨rfl, (by unfold kd_decodeFour; grind)⟩)) ⟨Nat.le_of_ble_eq_true rfl, Nat.le_of_ble_eq_true rfl⟩) (fun S28 H locs hp28 hw => ?_)
  obtain ⟨hp28, hS9⟩ := hp28
  have hS9 := hS9.symm
  subst hS9
  exact (show False from (hbad (by unfold kd_decodeFour; grind))).elim

set_option maxHeartbeats 4000000 in
set_option maxRecDepth 100000 in
/-- X7_samples -/
theorem c_X7_samples_r (l : Launch) (hst : l.stackTraces = false) (D : va_G) (y : Nat → ClassId) (base : Nat) (S : zS) (a : Nat → Nat) (p0 : Int32) (hX : zX S a) (h0 : zX0 S a) : zXi l yX7_samples wsX7_samples ({ frames := 7, cells := 1, slots := 6, locals := 110 }) [.ref (a 0), .int p0] D y base S (fun (r : Int32) (S1 : zS) => r = 0 ∧ kd_samples p0 = 0 ∧ S1 = S) (fun (E : String) (S1 : zS) => ((E = "java/lang/IndexOutOfBoundsException" ∧ kd_samples p0 = 1)) ∧ S1 = S) 1 6 := by
  refine zXet_of (cc := cX7_samples) (maxL := 2) (ret := (some .int)) (own := RX7) (by decide +kernel) rfl rfl (Nat.le_of_ble_eq_true rfl) ?_
  intro p e s m args below meth c ls C hr hlocks hx0 hw hl
  have hx := C.1
  have hb := C.2.1
  have hown := C.2.2.2.1
  have hts := C.2.2.2.2
  have hl : lv_has ls 2 [(0, .ref (a 0)), (1, .int p0)] := hl
  have in_X0 : ∀ w ∈ wsX00, w ∈ wsX7_samples := by decide +kernel
  have in_X7 : ∀ w ∈ wsX70, w ∈ wsX7_samples := by decide +kernel
  refine lv_iload_n hx hb dX7_samples_0 rfl (lv_at hl 1 rfl) ?_
  refine zcS_xv (As := [.int p0]) (rest := []) (n9 := 1) C hw (c_X7_checkCapture l hst D y base S p0 ) gX7_samples_X7_checkCapture rfl (by decide +kernel) ⟨⟨rfl, rfl⟩, Nat.le_of_ble_eq_true rfl, Nat.le_of_ble_eq_true rfl⟩ rfl hl.1 rfl (Nat.le_of_ble_eq_true rfl) ⟨Nat.le_of_ble_eq_true rfl, Nat.le_of_ble_eq_true rfl⟩ dX7_samples_1 (fun E ce q9 S1 H locs hx1 hw h1 h2 h3 => zxout hw hx0 hlocks h1 h2 h3 (by obtain ⟨rfl, hc9, rfl⟩ := hx1; refine ⟨?_, rfl⟩; first | exact ⟨rfl, (by unfold kd_samples; grind)⟩) ⟨Nat.le_of_ble_eq_true rfl, Nat.le_of_ble_eq_true rfl⟩) (fun S1 H locs hp1 hw => ?_)
  obtain ⟨hp1, hS9⟩ := hp1
  have hS9 := hS9.symm
  subst hS9
  refine lv_aload_n hx hb dX7_samples_4 rfl (lv_at hl 0 rfl) ?_
  refine g_Ph_captures (a := (a 0)) (v := (a 2)) C hw hX.1 in_X7 (by decide +kernel) hX.2.2.1 dX7_samples_5 ?_
  refine lv_iload_n hx hb dX7_samples_8 rfl (lv_at hl 1 rfl) ?_
  obtain ⟨c1, l1, eP1, hC1, eI1, eZ1⟩ := zX_c hX h0 (p := p0) hp1
  refine zald_P (a := (a 2)) (v := c1) C hw hX.2.2.2.2.2.2.2.2.1 (by decide) (t0 := 2) rfl rfl hX.2.2.2.2.2.2.2.2.2.1 (zin_of (N := 2) (by decide) (by grind) (by grind)) eP1 dX7_samples_9 ?_
  refine g_Cap_count (a := c1) (v := 0) C hw hC1.1 in_X0 (by decide +kernel) eI1 dX7_samples_10 ?_
  exact vx_ret (zri C hw hr hlocks rfl ⟨rfl, (by unfold kd_samples; grind), rfl⟩ ⟨Nat.le_of_ble_eq_true rfl, Nat.le_of_ble_eq_true rfl⟩ dX7_samples_13)

set_option maxHeartbeats 4000000 in
set_option maxRecDepth 100000 in
/-- X7_sample -/
theorem c_X7_sample_r (l : Launch) (hst : l.stackTraces = false) (D : va_G) (y : Nat → ClassId) (base : Nat) (S : zS) (a : Nat → Nat) (p0 : Int32) (p1 : Int32) (hX : zX S a) (h0 : zX0 S a) : zXi l yX7_sample wsX7_sample ({ frames := 7, cells := 2, slots := 12, locals := 110 }) [.ref (a 0), .int p0, .int p1] D y base S (fun (r : Int32) (S1 : zS) => False ∧ S1 = S) (fun (E : String) (S1 : zS) => ((E = "java/lang/IndexOutOfBoundsException" ∧ kd_sample p0 = 1) ∨ (E = "java/util/NoSuchElementException" ∧ kd_sample p0 = 2)) ∧ S1 = S) 2 12 := by
  refine zXet_of (cc := cX7_sample) (maxL := 3) (ret := (some .int)) (own := RX7) (by decide +kernel) rfl rfl (Nat.le_of_ble_eq_true rfl) ?_
  intro p e s m args below meth c ls C hr hlocks hx0 hw hl
  have hx := C.1
  have hb := C.2.1
  have hown := C.2.2.2.1
  have hts := C.2.2.2.2
  have hl : lv_has ls 3 [(0, .ref (a 0)), (1, .int p0), (2, .int p1)] := hl
  have in_X7 : ∀ w ∈ wsX70, w ∈ wsX7_sample := by decide +kernel
  refine lv_iload_n hx hb dX7_sample_0 rfl (lv_at hl 1 rfl) ?_
  refine zcS_xv (As := [.int p0]) (rest := []) (n9 := 1) C hw (c_X7_checkCapture l hst D y base S p0 ) gX7_sample_X7_checkCapture rfl (by decide +kernel) ⟨⟨rfl, rfl⟩, Nat.le_of_ble_eq_true rfl, Nat.le_of_ble_eq_true rfl⟩ rfl hl.1 rfl (Nat.le_of_ble_eq_true rfl) ⟨Nat.le_of_ble_eq_true rfl, Nat.le_of_ble_eq_true rfl⟩ dX7_sample_1 (fun E ce q9 S1 H locs hx1 hw h1 h2 h3 => zxout hw hx0 hlocks h1 h2 h3 (by obtain ⟨rfl, hc9, rfl⟩ := hx1; refine ⟨?_, rfl⟩; first | exact (Or.inl ⟨rfl, (by unfold kd_sample; grind)⟩) | exact (Or.inr ⟨rfl, (by unfold kd_sample; grind)⟩)) ⟨Nat.le_of_ble_eq_true rfl, Nat.le_of_ble_eq_true rfl⟩) (fun S1 H locs hp1 hw => ?_)
  obtain ⟨hp1, hS9⟩ := hp1
  have hS9 := hS9.symm
  subst hS9
  refine lv_aload_n hx hb dX7_sample_4 rfl (lv_at hl 0 rfl) ?_
  refine g_Ph_captures (a := (a 0)) (v := (a 2)) C hw hX.1 in_X7 (by decide +kernel) hX.2.2.1 dX7_sample_5 ?_
  refine lv_iload_n hx hb dX7_sample_8 rfl (lv_at hl 1 rfl) ?_
  obtain ⟨c1, l1, eP1, hC1, eI1, eZ1⟩ := zX_c hX h0 (p := p0) hp1
  refine zald_P (a := (a 2)) (v := c1) C hw hX.2.2.2.2.2.2.2.2.1 (by decide) (t0 := 2) rfl rfl hX.2.2.2.2.2.2.2.2.2.1 (zin_of (N := 2) (by decide) (by grind) (by grind)) eP1 dX7_sample_9 ?_
  refine lv_iload_n hx hb dX7_sample_10 rfl (lv_at hl 2 rfl) ?_
  refine zcV_i (As := [.int p1]) (rest := []) (n9 := 1) (b := c1) C hw (c_X0_has l D y base S c1 l1 p1 hC1) gX7_sample_X0_has rfl (by decide +kernel) ⟨⟨rfl, rfl⟩, Nat.le_of_ble_eq_true rfl, Nat.le_of_ble_eq_true rfl⟩ hC1.1 ⟨by decide, by decide⟩ rfl rfl hl.1 rfl (Nat.le_of_ble_eq_true rfl) ⟨Nat.le_of_ble_eq_true rfl, Nat.le_of_ble_eq_true rfl⟩ dX7_sample_11 (fun r11 S11 H locs hp11 hw => ?_)
  obtain ⟨rfl, hS9⟩ := hp11
  have hS9 := hS9.symm
  subst hS9
  refine zcS_xv (As := [.int (zb (0 ≤ p1 ∧ p1 < zI S 64 c1 ∧ p1 < 400))]) (rest := []) (n9 := 1) C hw (c_X7_checkThere l hst D y base S (zb (0 ≤ p1 ∧ p1 < zI S 64 c1 ∧ p1 < 400)) ) gX7_sample_X7_checkThere rfl (by decide +kernel) ⟨⟨rfl, rfl⟩, Nat.le_of_ble_eq_true rfl, Nat.le_of_ble_eq_true rfl⟩ rfl hl.1 rfl (Nat.le_of_ble_eq_true rfl) ⟨Nat.le_of_ble_eq_true rfl, Nat.le_of_ble_eq_true rfl⟩ dX7_sample_14 (fun E ce q9 S14 H locs hx14 hw h1 h2 h3 => zxout hw hx0 hlocks h1 h2 h3 (by obtain ⟨rfl, hc9, rfl⟩ := hx14; exact ⟨Or.inr ⟨rfl, (by unfold kd_sample; grind)⟩, rfl⟩) ⟨Nat.le_of_ble_eq_true rfl, Nat.le_of_ble_eq_true rfl⟩) (fun S14 H locs hp14 hw => ?_)
  obtain ⟨hp14, hS9⟩ := hp14
  have hS9 := hS9.symm
  subst hS9
  exact (show False from (by have h8 := zb1.mp hp14; rw [eI1] at h8; grind)).elim

set_option maxHeartbeats 4000000 in
set_option maxRecDepth 100000 in
/-- X7_runs -/
theorem c_X7_runs_r (l : Launch) (hst : l.stackTraces = false) (D : va_G) (y : Nat → ClassId) (base : Nat) (S : zS) (a : Nat → Nat) (p0 : Int32) (p1 : Int32) (hX : zX S a) (h0 : zX0 S a) : zXi l yX7_runs wsX7_runs ({ frames := 7, cells := 2, slots := 12, locals := 110 }) [.ref (a 0), .int p0, .int p1] D y base S (fun (r : Int32) (S1 : zS) => r = 0 ∧ kd_runs p0 p1 = 0 ∧ S1 = S) (fun (E : String) (S1 : zS) => ((E = "java/lang/IndexOutOfBoundsException" ∧ kd_runs p0 p1 = 1)) ∧ S1 = S) 2 12 := by
  refine zXet_of (cc := cX7_runs) (maxL := 3) (ret := (some .int)) (own := RX7) (by decide +kernel) rfl rfl (Nat.le_of_ble_eq_true rfl) ?_
  intro p e s m args below meth c ls C hr hlocks hx0 hw hl
  have hx := C.1
  have hb := C.2.1
  have hown := C.2.2.2.1
  have hts := C.2.2.2.2
  have hl : lv_has ls 3 [(0, .ref (a 0)), (1, .int p0), (2, .int p1)] := hl
  have in_X7 : ∀ w ∈ wsX70, w ∈ wsX7_runs := by decide +kernel
  refine lv_iload_n hx hb dX7_runs_0 rfl (lv_at hl 1 rfl) ?_
  refine zcS_xv (As := [.int p0]) (rest := []) (n9 := 1) C hw (c_X7_checkCapture l hst D y base S p0 ) gX7_runs_X7_checkCapture rfl (by decide +kernel) ⟨⟨rfl, rfl⟩, Nat.le_of_ble_eq_true rfl, Nat.le_of_ble_eq_true rfl⟩ rfl hl.1 rfl (Nat.le_of_ble_eq_true rfl) ⟨Nat.le_of_ble_eq_true rfl, Nat.le_of_ble_eq_true rfl⟩ dX7_runs_1 (fun E ce q9 S1 H locs hx1 hw h1 h2 h3 => zxout hw hx0 hlocks h1 h2 h3 (by obtain ⟨rfl, hc9, rfl⟩ := hx1; refine ⟨?_, rfl⟩; first | exact ⟨rfl, (by unfold kd_runs; grind)⟩) ⟨Nat.le_of_ble_eq_true rfl, Nat.le_of_ble_eq_true rfl⟩) (fun S1 H locs hp1 hw => ?_)
  obtain ⟨hp1, hS9⟩ := hp1
  have hS9 := hS9.symm
  subst hS9
  refine lv_iload_n hx hb dX7_runs_4 rfl (lv_at hl 2 rfl) ?_
  refine zcS_xv (As := [.int p1]) (rest := []) (n9 := 1) C hw (c_X7_checkWire l hst D y base S p1 ) gX7_runs_X7_checkWire rfl (by decide +kernel) ⟨⟨rfl, rfl⟩, Nat.le_of_ble_eq_true rfl, Nat.le_of_ble_eq_true rfl⟩ rfl hl.1 rfl (Nat.le_of_ble_eq_true rfl) ⟨Nat.le_of_ble_eq_true rfl, Nat.le_of_ble_eq_true rfl⟩ dX7_runs_5 (fun E ce q9 S5 H locs hx5 hw h1 h2 h3 => zxout hw hx0 hlocks h1 h2 h3 (by obtain ⟨rfl, hc9, rfl⟩ := hx5; refine ⟨?_, rfl⟩; first | exact ⟨rfl, (by unfold kd_runs; grind)⟩) ⟨Nat.le_of_ble_eq_true rfl, Nat.le_of_ble_eq_true rfl⟩) (fun S5 H locs hp5 hw => ?_)
  obtain ⟨hp5, hS9⟩ := hp5
  have hS9 := hS9.symm
  subst hS9
  refine lv_aload_n hx hb dX7_runs_8 rfl (lv_at hl 0 rfl) ?_
  refine g_Ph_captures (a := (a 0)) (v := (a 2)) C hw hX.1 in_X7 (by decide +kernel) hX.2.2.1 dX7_runs_9 ?_
  refine lv_iload_n hx hb dX7_runs_12 rfl (lv_at hl 1 rfl) ?_
  obtain ⟨c1, l1, eP1, hC1, eI1, eZ1⟩ := zX_c hX h0 (p := p0) hp1
  refine zald_P (a := (a 2)) (v := c1) C hw hX.2.2.2.2.2.2.2.2.1 (by decide) (t0 := 2) rfl rfl hX.2.2.2.2.2.2.2.2.2.1 (zin_of (N := 2) (by decide) (by grind) (by grind)) eP1 dX7_runs_13 ?_
  refine lv_iload_n hx hb dX7_runs_14 rfl (lv_at hl 2 rfl) ?_
  refine zcV_i (As := [.int p1]) (rest := []) (n9 := 1) (b := c1) C hw (c_X0_runCount l D y base S c1 l1 p1 hC1 eI1) gX7_runs_X0_runCount rfl (by decide +kernel) ⟨⟨rfl, rfl⟩, Nat.le_of_ble_eq_true rfl, Nat.le_of_ble_eq_true rfl⟩ hC1.1 ⟨by decide, by decide⟩ rfl rfl hl.1 rfl (Nat.le_of_ble_eq_true rfl) ⟨Nat.le_of_ble_eq_true rfl, Nat.le_of_ble_eq_true rfl⟩ dX7_runs_15 (fun r15 S15 H locs hp15 hw => ?_)
  obtain ⟨rfl, hS9⟩ := hp15
  have hS9 := hS9.symm
  subst hS9
  exact vx_ret (zri C hw hr hlocks rfl ⟨rfl, (by unfold kd_runs; grind), rfl⟩ ⟨Nat.le_of_ble_eq_true rfl, Nat.le_of_ble_eq_true rfl⟩ dX7_runs_18)

set_option maxHeartbeats 4000000 in
set_option maxRecDepth 100000 in
/-- X7_run -/
theorem c_X7_run_r (l : Launch) (hst : l.stackTraces = false) (D : va_G) (y : Nat → ClassId) (base : Nat) (S : zS) (a : Nat → Nat) (p0 : Int32) (p1 : Int32) (p2 : Int32) (hX : zX S a) (h0 : zX0 S a) : zXi l yX7_run wsX7_run ({ frames := 7, cells := 3, slots := 18, locals := 110 }) [.ref (a 0), .int p0, .int p1, .int p2] D y base S (fun (r : Int32) (S1 : zS) => False ∧ S1 = S) (fun (E : String) (S1 : zS) => ((E = "java/lang/IndexOutOfBoundsException" ∧ kd_run p0 p1 = 1) ∨ (E = "java/util/NoSuchElementException" ∧ kd_run p0 p1 = 2)) ∧ S1 = S) 3 18 := by
  refine zXet_of (cc := cX7_run) (maxL := 5) (ret := (some .int)) (own := RX7) (by decide +kernel) rfl rfl (Nat.le_of_ble_eq_true rfl) ?_
  intro p e s m args below meth c ls C hr hlocks hx0 hw hl
  have hx := C.1
  have hb := C.2.1
  have hown := C.2.2.2.1
  have hts := C.2.2.2.2
  have hl : lv_has ls 5 [(0, .ref (a 0)), (1, .int p0), (2, .int p1), (3, .int p2)] := hl
  have in_X7 : ∀ w ∈ wsX70, w ∈ wsX7_run := by decide +kernel
  refine lv_iload_n hx hb dX7_run_0 rfl (lv_at hl 1 rfl) ?_
  refine zcS_xv (As := [.int p0]) (rest := []) (n9 := 1) C hw (c_X7_checkCapture l hst D y base S p0 ) gX7_run_X7_checkCapture rfl (by decide +kernel) ⟨⟨rfl, rfl⟩, Nat.le_of_ble_eq_true rfl, Nat.le_of_ble_eq_true rfl⟩ rfl hl.1 rfl (Nat.le_of_ble_eq_true rfl) ⟨Nat.le_of_ble_eq_true rfl, Nat.le_of_ble_eq_true rfl⟩ dX7_run_1 (fun E ce q9 S1 H locs hx1 hw h1 h2 h3 => zxout hw hx0 hlocks h1 h2 h3 (by obtain ⟨rfl, hc9, rfl⟩ := hx1; refine ⟨?_, rfl⟩; first | exact (Or.inl ⟨rfl, (by unfold kd_run; grind)⟩) | exact (Or.inr ⟨rfl, (by unfold kd_run; grind)⟩)) ⟨Nat.le_of_ble_eq_true rfl, Nat.le_of_ble_eq_true rfl⟩) (fun S1 H locs hp1 hw => ?_)
  obtain ⟨hp1, hS9⟩ := hp1
  have hS9 := hS9.symm
  subst hS9
  refine lv_iload_n hx hb dX7_run_4 rfl (lv_at hl 2 rfl) ?_
  refine zcS_xv (As := [.int p1]) (rest := []) (n9 := 1) C hw (c_X7_checkWire l hst D y base S p1 ) gX7_run_X7_checkWire rfl (by decide +kernel) ⟨⟨rfl, rfl⟩, Nat.le_of_ble_eq_true rfl, Nat.le_of_ble_eq_true rfl⟩ rfl hl.1 rfl (Nat.le_of_ble_eq_true rfl) ⟨Nat.le_of_ble_eq_true rfl, Nat.le_of_ble_eq_true rfl⟩ dX7_run_5 (fun E ce q9 S5 H locs hx5 hw h1 h2 h3 => zxout hw hx0 hlocks h1 h2 h3 (by obtain ⟨rfl, hc9, rfl⟩ := hx5; refine ⟨?_, rfl⟩; first | exact (Or.inl ⟨rfl, (by unfold kd_run; grind)⟩) | exact (Or.inr ⟨rfl, (by unfold kd_run; grind)⟩)) ⟨Nat.le_of_ble_eq_true rfl, Nat.le_of_ble_eq_true rfl⟩) (fun S5 H locs hp5 hw => ?_)
  obtain ⟨hp5, hS9⟩ := hp5
  have hS9 := hS9.symm
  subst hS9
  refine lv_aload_n hx hb dX7_run_8 rfl (lv_at hl 0 rfl) ?_
  refine g_Ph_captures (a := (a 0)) (v := (a 2)) C hw hX.1 in_X7 (by decide +kernel) hX.2.2.1 dX7_run_9 ?_
  refine lv_iload_n hx hb dX7_run_12 rfl (lv_at hl 1 rfl) ?_
  obtain ⟨c1, l1, eP1, hC1, eI1, eZ1⟩ := zX_c hX h0 (p := p0) hp1
  refine zald_P (a := (a 2)) (v := c1) C hw hX.2.2.2.2.2.2.2.2.1 (by decide) (t0 := 2) rfl rfl hX.2.2.2.2.2.2.2.2.2.1 (zin_of (N := 2) (by decide) (by grind) (by grind)) eP1 dX7_run_13 ?_
  refine lv_iload_n hx hb dX7_run_14 rfl (lv_at hl 2 rfl) ?_
  refine lv_iload_n hx hb dX7_run_15 rfl (lv_at hl 3 rfl) ?_
  refine zcV_i (As := [.int p1, .int p2]) (rest := []) (n9 := 2) (b := c1) C hw (c_X0_runLength l D y base S c1 l1 p1 p2 hC1 eI1) gX7_run_X0_runLength rfl (by decide +kernel) ⟨⟨rfl, rfl⟩, Nat.le_of_ble_eq_true rfl, Nat.le_of_ble_eq_true rfl⟩ hC1.1 ⟨by decide, by decide⟩ rfl rfl hl.1 rfl (Nat.le_of_ble_eq_true rfl) ⟨Nat.le_of_ble_eq_true rfl, Nat.le_of_ble_eq_true rfl⟩ dX7_run_16 (fun r16 S16 H locs hp16 hw => ?_)
  obtain ⟨rfl, hS9⟩ := hp16
  have hS9 := hS9.symm
  subst hS9
  refine lv_istore (lv' := [(4, .int 0), (0, .ref (a 0)), (1, .int p0), (2, .int p1), (3, .int p2)]) hx hb dX7_run_19 hl (by decide) rfl (fun ls hl => ?_)
  refine lv_iload hx hb dX7_run_21 (lv_at hl 0 rfl) ?_
  refine lv_if_le (tgt := 30) hx hb dX7_run_23 (by decide) (fun _ => ?_) (fun c23 => absurd c23 (by decide))
  refine lv_iconst (v := 0) hx hb dX7_run_30 (by decide) ?_
  refine zcS_xv (As := [.int 0]) (rest := []) (n9 := 1) C hw (c_X7_checkThere l hst D y base S 0 ) gX7_run_X7_checkThere rfl (by decide +kernel) ⟨⟨rfl, rfl⟩, Nat.le_of_ble_eq_true rfl, Nat.le_of_ble_eq_true rfl⟩ rfl hl.1 rfl (Nat.le_of_ble_eq_true rfl) ⟨Nat.le_of_ble_eq_true rfl, Nat.le_of_ble_eq_true rfl⟩ dX7_run_31 (fun E ce q9 S31 H locs hx31 hw h1 h2 h3 => zxout hw hx0 hlocks h1 h2 h3 (by obtain ⟨rfl, hc9, rfl⟩ := hx31; exact ⟨Or.inr ⟨rfl, (by unfold kd_run; grind)⟩, rfl⟩) ⟨Nat.le_of_ble_eq_true rfl, Nat.le_of_ble_eq_true rfl⟩) (fun S31 H locs hp31 hw => ?_)
  obtain ⟨hp31, hS9⟩ := hp31
  have hS9 := hS9.symm
  subst hS9
  exact (show False from (hp31 rfl)).elim

set_option maxHeartbeats 4000000 in
set_option maxRecDepth 100000 in
/-- X7_shortestRunOf -/
theorem c_X7_shortestRunOf_r (l : Launch) (hst : l.stackTraces = false) (D : va_G) (y : Nat → ClassId) (base : Nat) (S : zS) (a : Nat → Nat) (p0 : Int32) (p1 : Int32) (hX : zX S a) (h0 : zX0 S a) : zXi l yX7_shortestRunOf wsX7_shortestRunOf ({ frames := 7, cells := 3, slots := 18, locals := 110 }) [.ref (a 0), .int p0, .int p1] D y base S (fun (r : Int32) (S1 : zS) => False ∧ S1 = S) (fun (E : String) (S1 : zS) => ((E = "java/lang/IndexOutOfBoundsException" ∧ kd_run p0 p1 = 1) ∨ (E = "java/util/NoSuchElementException" ∧ kd_run p0 p1 = 2)) ∧ S1 = S) 3 18 := by
  refine zXet_of (cc := cX7_shortestRunOf) (maxL := 4) (ret := (some .int)) (own := RX7) (by decide +kernel) rfl rfl (Nat.le_of_ble_eq_true rfl) ?_
  intro p e s m args below meth c ls C hr hlocks hx0 hw hl
  have hx := C.1
  have hb := C.2.1
  have hown := C.2.2.2.1
  have hts := C.2.2.2.2
  have hl : lv_has ls 4 [(0, .ref (a 0)), (1, .int p0), (2, .int p1)] := hl
  have in_X7 : ∀ w ∈ wsX70, w ∈ wsX7_shortestRunOf := by decide +kernel
  refine lv_iload_n hx hb dX7_shortestRunOf_0 rfl (lv_at hl 1 rfl) ?_
  refine zcS_xv (As := [.int p0]) (rest := []) (n9 := 1) C hw (c_X7_checkCapture l hst D y base S p0 ) gX7_shortestRunOf_X7_checkCapture rfl (by decide +kernel) ⟨⟨rfl, rfl⟩, Nat.le_of_ble_eq_true rfl, Nat.le_of_ble_eq_true rfl⟩ rfl hl.1 rfl (Nat.le_of_ble_eq_true rfl) ⟨Nat.le_of_ble_eq_true rfl, Nat.le_of_ble_eq_true rfl⟩ dX7_shortestRunOf_1 (fun E ce q9 S1 H locs hx1 hw h1 h2 h3 => zxout hw hx0 hlocks h1 h2 h3 (by obtain ⟨rfl, hc9, rfl⟩ := hx1; refine ⟨?_, rfl⟩; first | exact (Or.inl ⟨rfl, (by unfold kd_run; grind)⟩) | exact (Or.inr ⟨rfl, (by unfold kd_run; grind)⟩)) ⟨Nat.le_of_ble_eq_true rfl, Nat.le_of_ble_eq_true rfl⟩) (fun S1 H locs hp1 hw => ?_)
  obtain ⟨hp1, hS9⟩ := hp1
  have hS9 := hS9.symm
  subst hS9
  refine lv_iload_n hx hb dX7_shortestRunOf_4 rfl (lv_at hl 2 rfl) ?_
  refine zcS_xv (As := [.int p1]) (rest := []) (n9 := 1) C hw (c_X7_checkWire l hst D y base S p1 ) gX7_shortestRunOf_X7_checkWire rfl (by decide +kernel) ⟨⟨rfl, rfl⟩, Nat.le_of_ble_eq_true rfl, Nat.le_of_ble_eq_true rfl⟩ rfl hl.1 rfl (Nat.le_of_ble_eq_true rfl) ⟨Nat.le_of_ble_eq_true rfl, Nat.le_of_ble_eq_true rfl⟩ dX7_shortestRunOf_5 (fun E ce q9 S5 H locs hx5 hw h1 h2 h3 => zxout hw hx0 hlocks h1 h2 h3 (by obtain ⟨rfl, hc9, rfl⟩ := hx5; refine ⟨?_, rfl⟩; first | exact (Or.inl ⟨rfl, (by unfold kd_run; grind)⟩) | exact (Or.inr ⟨rfl, (by unfold kd_run; grind)⟩)) ⟨Nat.le_of_ble_eq_true rfl, Nat.le_of_ble_eq_true rfl⟩) (fun S5 H locs hp5 hw => ?_)
  obtain ⟨hp5, hS9⟩ := hp5
  have hS9 := hS9.symm
  subst hS9
  refine lv_aload_n hx hb dX7_shortestRunOf_8 rfl (lv_at hl 0 rfl) ?_
  refine g_Ph_captures (a := (a 0)) (v := (a 2)) C hw hX.1 in_X7 (by decide +kernel) hX.2.2.1 dX7_shortestRunOf_9 ?_
  refine lv_iload_n hx hb dX7_shortestRunOf_12 rfl (lv_at hl 1 rfl) ?_
  obtain ⟨c1, l1, eP1, hC1, eI1, eZ1⟩ := zX_c hX h0 (p := p0) hp1
  refine zald_P (a := (a 2)) (v := c1) C hw hX.2.2.2.2.2.2.2.2.1 (by decide) (t0 := 2) rfl rfl hX.2.2.2.2.2.2.2.2.2.1 (zin_of (N := 2) (by decide) (by grind) (by grind)) eP1 dX7_shortestRunOf_13 ?_
  refine lv_iload_n hx hb dX7_shortestRunOf_14 rfl (lv_at hl 2 rfl) ?_
  refine zcV_i (As := [.int p1]) (rest := []) (n9 := 1) (b := c1) C hw (c_X0_shortestInner l D y base S c1 l1 p1 hC1 eI1) gX7_shortestRunOf_X0_shortestInner rfl (by decide +kernel) ⟨⟨rfl, rfl⟩, Nat.le_of_ble_eq_true rfl, Nat.le_of_ble_eq_true rfl⟩ hC1.1 ⟨by decide, by decide⟩ rfl rfl hl.1 rfl (Nat.le_of_ble_eq_true rfl) ⟨Nat.le_of_ble_eq_true rfl, Nat.le_of_ble_eq_true rfl⟩ dX7_shortestRunOf_15 (fun r15 S15 H locs hp15 hw => ?_)
  obtain ⟨rfl, hS9⟩ := hp15
  have hS9 := hS9.symm
  subst hS9
  refine lv_istore_n (lv' := [(3, .int 0), (0, .ref (a 0)), (1, .int p0), (2, .int p1)]) hx hb dX7_shortestRunOf_18 rfl hl (by decide) rfl (fun ls hl => ?_)
  refine lv_iload_n hx hb dX7_shortestRunOf_19 rfl (lv_at hl 0 rfl) ?_
  refine lv_if_le (tgt := 27) hx hb dX7_shortestRunOf_20 (by decide) (fun _ => ?_) (fun c20 => absurd c20 (by decide))
  refine lv_iconst (v := 0) hx hb dX7_shortestRunOf_27 (by decide) ?_
  refine zcS_xv (As := [.int 0]) (rest := []) (n9 := 1) C hw (c_X7_checkThere l hst D y base S 0 ) gX7_shortestRunOf_X7_checkThere rfl (by decide +kernel) ⟨⟨rfl, rfl⟩, Nat.le_of_ble_eq_true rfl, Nat.le_of_ble_eq_true rfl⟩ rfl hl.1 rfl (Nat.le_of_ble_eq_true rfl) ⟨Nat.le_of_ble_eq_true rfl, Nat.le_of_ble_eq_true rfl⟩ dX7_shortestRunOf_28 (fun E ce q9 S28 H locs hx28 hw h1 h2 h3 => zxout hw hx0 hlocks h1 h2 h3 (by obtain ⟨rfl, hc9, rfl⟩ := hx28; exact ⟨Or.inr ⟨rfl, (by unfold kd_run; grind)⟩, rfl⟩) ⟨Nat.le_of_ble_eq_true rfl, Nat.le_of_ble_eq_true rfl⟩) (fun S28 H locs hp28 hw => ?_)
  obtain ⟨hp28, hS9⟩ := hp28
  have hS9 := hS9.symm
  subst hS9
  exact (show False from (hp28 rfl)).elim

set_option maxHeartbeats 4000000 in
set_option maxRecDepth 100000 in
/-- X7_shortest -/
theorem c_X7_shortest_r (l : Launch) (hst : l.stackTraces = false) (D : va_G) (y : Nat → ClassId) (base : Nat) (S : zS) (a : Nat → Nat) (p0 : Int32) (p1 : Int32) (hX : zX S a) (h0 : zX0 S a) : zXi l yX7_shortest wsX7_shortest ({ frames := 8, cells := 3, slots := 18, locals := 133 }) [.ref (a 0), .int p0, .int p1] D y base S (fun (r : Int32) (S1 : zS) => False ∧ S1 = S) (fun (E : String) (S1 : zS) => ((E = "java/lang/IndexOutOfBoundsException" ∧ kd_run p0 p1 = 1) ∨ (E = "java/util/NoSuchElementException" ∧ kd_run p0 p1 = 2)) ∧ S1 = S) 3 18 := by
  refine zXet_of (cc := cX7_shortest) (maxL := 3) (ret := (some .int)) (own := RX7) (by decide +kernel) rfl rfl (Nat.le_of_ble_eq_true rfl) ?_
  intro p e s m args below meth c ls C hr hlocks hx0 hw hl
  have hx := C.1
  have hb := C.2.1
  have hown := C.2.2.2.1
  have hts := C.2.2.2.2
  have hl : lv_has ls 3 [(0, .ref (a 0)), (1, .int p0), (2, .int p1)] := hl
  refine lv_aload_n hx hb dX7_shortest_0 rfl (lv_at hl 0 rfl) ?_
  refine lv_iload_n hx hb dX7_shortest_1 rfl (lv_at hl 1 rfl) ?_
  refine lv_iload_n hx hb dX7_shortest_2 rfl (lv_at hl 2 rfl) ?_
  refine zcV_xi (As := [.int p0, .int p1]) (rest := []) (n9 := 2) (b := (a 0)) C hw (c_X7_shortestRunOf_r l hst D y base S a p0 p1 hX (by first | assumption | decide | grind)) gX7_shortest_X7_shortestRunOf rfl (by decide +kernel) ⟨⟨rfl, rfl⟩, Nat.le_of_ble_eq_true rfl, Nat.le_of_ble_eq_true rfl⟩ hX.1 ⟨by decide, by decide⟩ rfl rfl hl.1 rfl (Nat.le_of_ble_eq_true rfl) ⟨Nat.le_of_ble_eq_true rfl, Nat.le_of_ble_eq_true rfl⟩ dX7_shortest_3 (fun E ce q9 S3 H locs hx3 hw h1 h2 h3 => zxout hw hx0 hlocks h1 h2 h3 hx3 ⟨Nat.le_of_ble_eq_true rfl, Nat.le_of_ble_eq_true rfl⟩) (fun r3 S3 H locs hp3 hw => ?_)
  obtain ⟨hp3, hS9⟩ := hp3
  have hS9 := hS9.symm
  subst hS9
  exact (show False from hp3).elim

set_option maxHeartbeats 4000000 in
set_option maxRecDepth 100000 in
/-- X7_rate -/
theorem c_X7_rate_r (l : Launch) (hst : l.stackTraces = false) (D : va_G) (y : Nat → ClassId) (base : Nat) (S : zS) (a : Nat → Nat) (p0 : Int32) (p1 : Int32) (hX : zX S a) (h0 : zX0 S a) : zXi l yX7_rate wsX7_rate ({ frames := 8, cells := 3, slots := 18, locals := 133 }) [.ref (a 0), .int p0, .int p1] D y base S (fun (r : Int32) (S1 : zS) => False ∧ S1 = S) (fun (E : String) (S1 : zS) => ((E = "java/lang/IndexOutOfBoundsException" ∧ kd_run p0 p1 = 1) ∨ (E = "java/util/NoSuchElementException" ∧ kd_run p0 p1 = 2)) ∧ S1 = S) 3 18 := by
  refine zXet_of (cc := cX7_rate) (maxL := 3) (ret := (some .int)) (own := RX7) (by decide +kernel) rfl rfl (Nat.le_of_ble_eq_true rfl) ?_
  intro p e s m args below meth c ls C hr hlocks hx0 hw hl
  have hx := C.1
  have hb := C.2.1
  have hown := C.2.2.2.1
  have hts := C.2.2.2.2
  have hl : lv_has ls 3 [(0, .ref (a 0)), (1, .int p0), (2, .int p1)] := hl
  refine lv_bipush (v := 10) hx hb dX7_rate_0 (by decide) ?_
  refine lv_aload_n hx hb dX7_rate_2 rfl (lv_at hl 0 rfl) ?_
  refine lv_iload_n hx hb dX7_rate_3 rfl (lv_at hl 1 rfl) ?_
  refine lv_iload_n hx hb dX7_rate_4 rfl (lv_at hl 2 rfl) ?_
  refine zcV_xi (As := [.int p0, .int p1]) (rest := [.int 10]) (n9 := 2) (b := (a 0)) C hw (c_X7_shortestRunOf_r l hst D y base S a p0 p1 hX (by first | assumption | decide | grind)) gX7_rate_X7_shortestRunOf rfl (by decide +kernel) ⟨⟨rfl, rfl⟩, Nat.le_of_ble_eq_true rfl, Nat.le_of_ble_eq_true rfl⟩ hX.1 ⟨by decide, by decide⟩ rfl rfl hl.1 rfl (Nat.le_of_ble_eq_true rfl) ⟨Nat.le_of_ble_eq_true rfl, Nat.le_of_ble_eq_true rfl⟩ dX7_rate_5 (fun E ce q9 S5 H locs hx5 hw h1 h2 h3 => zxout hw hx0 hlocks h1 h2 h3 hx5 ⟨Nat.le_of_ble_eq_true rfl, Nat.le_of_ble_eq_true rfl⟩) (fun r5 S5 H locs hp5 hw => ?_)
  obtain ⟨hp5, hS9⟩ := hp5
  have hS9 := hS9.symm
  subst hS9
  exact (show False from hp5).elim

set_option maxHeartbeats 4000000 in
set_option maxRecDepth 100000 in
/-- X7_block -/
theorem c_X7_block_r (l : Launch) (hst : l.stackTraces = false) (D : va_G) (y : Nat → ClassId) (base : Nat) (S : zS) (a : Nat → Nat) (p0 : Int32) (p1 : Int32) (p2 : Int32) (p3 : Int32) (hX : zX S a) (h0 : zX0 S a) : zXi l yX7_block wsX7_block ({ frames := 7, cells := 4, slots := 24, locals := 112 }) [.ref (a 0), .int p0, .int p1, .int p2, .int p3] D y base S (fun (r : Int32) (S1 : zS) => False ∧ S1 = S) (fun (E : String) (S1 : zS) => ((E = "java/lang/IndexOutOfBoundsException" ∧ kd_block p0 p1 p2 = 1) ∨ (E = "java/lang/IllegalArgumentException" ∧ kd_block p0 p1 p2 = 2) ∨ (E = "java/util/NoSuchElementException" ∧ kd_block p0 p1 p2 = 3)) ∧ S1 = S) 4 24 := by
  refine zXet_of (cc := cX7_block) (maxL := 6) (ret := (some .char)) (own := RX7) (by decide +kernel) rfl rfl (Nat.le_of_ble_eq_true rfl) ?_
  intro p e s m args below meth c ls C hr hlocks hx0 hw hl
  have hx := C.1
  have hb := C.2.1
  have hown := C.2.2.2.1
  have hts := C.2.2.2.2
  have hl : lv_has ls 6 [(0, .ref (a 0)), (1, .int p0), (2, .int p1), (3, .int p2), (4, .int p3)] := hl
  have in_X7 : ∀ w ∈ wsX70, w ∈ wsX7_block := by decide +kernel
  refine lv_iload_n hx hb dX7_block_0 rfl (lv_at hl 1 rfl) ?_
  refine zcS_xv (As := [.int p0]) (rest := []) (n9 := 1) C hw (c_X7_checkCapture l hst D y base S p0 ) gX7_block_X7_checkCapture rfl (by decide +kernel) ⟨⟨rfl, rfl⟩, Nat.le_of_ble_eq_true rfl, Nat.le_of_ble_eq_true rfl⟩ rfl hl.1 rfl (Nat.le_of_ble_eq_true rfl) ⟨Nat.le_of_ble_eq_true rfl, Nat.le_of_ble_eq_true rfl⟩ dX7_block_1 (fun E ce q9 S1 H locs hx1 hw h1 h2 h3 => zxout hw hx0 hlocks h1 h2 h3 (by obtain ⟨rfl, hc9, rfl⟩ := hx1; refine ⟨?_, rfl⟩; first | exact (Or.inl ⟨rfl, (by unfold kd_block; grind)⟩) | exact (Or.inr (Or.inl ⟨rfl, (by unfold kd_block; grind)⟩)) | exact (Or.inr (Or.inr ⟨rfl, (by unfold kd_block; grind)⟩))) ⟨Nat.le_of_ble_eq_true rfl, Nat.le_of_ble_eq_true rfl⟩) (fun S1 H locs hp1 hw => ?_)
  obtain ⟨hp1, hS9⟩ := hp1
  have hS9 := hS9.symm
  subst hS9
  refine lv_iload_n hx hb dX7_block_4 rfl (lv_at hl 2 rfl) ?_
  refine zcS_xv (As := [.int p1]) (rest := []) (n9 := 1) C hw (c_X7_checkWire l hst D y base S p1 ) gX7_block_X7_checkWire rfl (by decide +kernel) ⟨⟨rfl, rfl⟩, Nat.le_of_ble_eq_true rfl, Nat.le_of_ble_eq_true rfl⟩ rfl hl.1 rfl (Nat.le_of_ble_eq_true rfl) ⟨Nat.le_of_ble_eq_true rfl, Nat.le_of_ble_eq_true rfl⟩ dX7_block_5 (fun E ce q9 S5 H locs hx5 hw h1 h2 h3 => zxout hw hx0 hlocks h1 h2 h3 (by obtain ⟨rfl, hc9, rfl⟩ := hx5; refine ⟨?_, rfl⟩; first | exact (Or.inl ⟨rfl, (by unfold kd_block; grind)⟩) | exact (Or.inr (Or.inl ⟨rfl, (by unfold kd_block; grind)⟩)) | exact (Or.inr (Or.inr ⟨rfl, (by unfold kd_block; grind)⟩))) ⟨Nat.le_of_ble_eq_true rfl, Nat.le_of_ble_eq_true rfl⟩) (fun S5 H locs hp5 hw => ?_)
  obtain ⟨hp5, hS9⟩ := hp5
  have hS9 := hS9.symm
  subst hS9
  refine lv_iload_n hx hb dX7_block_8 rfl (lv_at hl 3 rfl) ?_
  refine lv_iconst (v := 0) hx hb dX7_block_9 (by decide) ?_
  refine lv_bipush (v := 9) hx hb dX7_block_10 (by decide) ?_
  refine zcS_xv (As := [.int p2, .int 0, .int 9]) (rest := []) (n9 := 3) C hw (c_X7_checkRange l hst D y base S p2 0 9 ) gX7_block_X7_checkRange rfl (by decide +kernel) ⟨⟨rfl, rfl⟩, Nat.le_of_ble_eq_true rfl, Nat.le_of_ble_eq_true rfl⟩ rfl hl.1 rfl (Nat.le_of_ble_eq_true rfl) ⟨Nat.le_of_ble_eq_true rfl, Nat.le_of_ble_eq_true rfl⟩ dX7_block_12 (fun E ce q9 S12 H locs hx12 hw h1 h2 h3 => zxout hw hx0 hlocks h1 h2 h3 (by obtain ⟨rfl, hc9, rfl⟩ := hx12; refine ⟨?_, rfl⟩; first | exact (Or.inl ⟨rfl, (by unfold kd_block; grind)⟩) | exact (Or.inr (Or.inl ⟨rfl, (by unfold kd_block; grind)⟩)) | exact (Or.inr (Or.inr ⟨rfl, (by unfold kd_block; grind)⟩))) ⟨Nat.le_of_ble_eq_true rfl, Nat.le_of_ble_eq_true rfl⟩) (fun S12 H locs hp12 hw => ?_)
  obtain ⟨hp12, hS9⟩ := hp12
  have hS9 := hS9.symm
  subst hS9
  refine lv_aload_n hx hb dX7_block_15 rfl (lv_at hl 0 rfl) ?_
  refine g_Ph_captures (a := (a 0)) (v := (a 2)) C hw hX.1 in_X7 (by decide +kernel) hX.2.2.1 dX7_block_16 ?_
  refine lv_iload_n hx hb dX7_block_19 rfl (lv_at hl 1 rfl) ?_
  obtain ⟨c1, l1, eP1, hC1, eI1, eZ1⟩ := zX_c hX h0 (p := p0) hp1
  refine zald_P (a := (a 2)) (v := c1) C hw hX.2.2.2.2.2.2.2.2.1 (by decide) (t0 := 2) rfl rfl hX.2.2.2.2.2.2.2.2.2.1 (zin_of (N := 2) (by decide) (by grind) (by grind)) eP1 dX7_block_20 ?_
  refine lv_astore (lv' := [(5, .ref c1), (0, .ref (a 0)), (1, .int p0), (2, .int p1), (3, .int p2), (4, .int p3)]) hx hb dX7_block_21 hl (by decide) rfl (fun ls hl => ?_)
  refine lv_iload hx hb dX7_block_23 (lv_at hl 5 rfl) ?_
  refine lv_if_lt (tgt := 43) hx hb dX7_block_25 (by decide) (fun c25 => ?_) (fun c25 => ?_)
  · refine lv_iconst (v := 0) hx hb dX7_block_43 (by decide) ?_
    refine zcS_xv (As := [.int 0]) (rest := []) (n9 := 1) C hw (c_X7_checkThere l hst D y base S 0 ) gX7_block_X7_checkThere rfl (by decide +kernel) ⟨⟨rfl, rfl⟩, Nat.le_of_ble_eq_true rfl, Nat.le_of_ble_eq_true rfl⟩ rfl hl.1 rfl (Nat.le_of_ble_eq_true rfl) ⟨Nat.le_of_ble_eq_true rfl, Nat.le_of_ble_eq_true rfl⟩ dX7_block_44 (fun E ce q9 S44 H locs hx44 hw h1 h2 h3 => zxout hw hx0 hlocks h1 h2 h3 (by obtain ⟨rfl, hc9, rfl⟩ := hx44; exact ⟨Or.inr (Or.inr ⟨rfl, (by unfold kd_block; grind)⟩), rfl⟩) ⟨Nat.le_of_ble_eq_true rfl, Nat.le_of_ble_eq_true rfl⟩) (fun S44 H locs hp44 hw => ?_)
    obtain ⟨hp44, hS9⟩ := hp44
    have hS9 := hS9.symm
    subst hS9
    exact (show False from (hp44 rfl)).elim
  · refine lv_iload hx hb dX7_block_28 (lv_at hl 5 rfl) ?_
    refine lv_aload hx hb dX7_block_30 (lv_at hl 0 rfl) ?_
    refine lv_iload_n hx hb dX7_block_32 rfl (lv_at hl 4 rfl) ?_
    refine zcV_i (As := [.int p2]) (rest := [.int p3]) (n9 := 1) (b := c1) C hw (c_X0_blockCount l D y base S c1 l1 p2 hC1 eI1 hp12) gX7_block_X0_blockCount rfl (by decide +kernel) ⟨⟨rfl, rfl⟩, Nat.le_of_ble_eq_true rfl, Nat.le_of_ble_eq_true rfl⟩ hC1.1 ⟨by decide, by decide⟩ rfl rfl hl.1 rfl (Nat.le_of_ble_eq_true rfl) ⟨Nat.le_of_ble_eq_true rfl, Nat.le_of_ble_eq_true rfl⟩ dX7_block_33 (fun r33 S33 H locs hp33 hw => ?_)
    obtain ⟨rfl, hS9⟩ := hp33
    have hS9 := hS9.symm
    subst hS9
    refine lv_icmp_ge (tgt := 43) hx hb dX7_block_36 (by decide) (fun c36 => ?_) (fun c36 => (show False from (by grind)).elim)
    refine lv_iconst (v := 0) hx hb dX7_block_43 (by decide) ?_
    refine zcS_xv (As := [.int 0]) (rest := []) (n9 := 1) C hw (c_X7_checkThere l hst D y base S 0 ) gX7_block_X7_checkThere rfl (by decide +kernel) ⟨⟨rfl, rfl⟩, Nat.le_of_ble_eq_true rfl, Nat.le_of_ble_eq_true rfl⟩ rfl hl.1 rfl (Nat.le_of_ble_eq_true rfl) ⟨Nat.le_of_ble_eq_true rfl, Nat.le_of_ble_eq_true rfl⟩ dX7_block_44 (fun E ce q9 S44 H locs hx44 hw h1 h2 h3 => zxout hw hx0 hlocks h1 h2 h3 (by obtain ⟨rfl, hc9, rfl⟩ := hx44; exact ⟨Or.inr (Or.inr ⟨rfl, (by unfold kd_block; grind)⟩), rfl⟩) ⟨Nat.le_of_ble_eq_true rfl, Nat.le_of_ble_eq_true rfl⟩) (fun S44 H locs hp44 hw => ?_)
    obtain ⟨hp44, hS9⟩ := hp44
    have hS9 := hS9.symm
    subst hS9
    exact (show False from (hp44 rfl)).elim

set_option maxHeartbeats 4000000 in
set_option maxRecDepth 100000 in
/-- X7_highShare -/
theorem c_X7_highShare_r (l : Launch) (hst : l.stackTraces = false) (D : va_G) (y : Nat → ClassId) (base : Nat) (S : zS) (a : Nat → Nat) (p0 : Int32) (p1 : Int32) (hX : zX S a) (h0 : zX0 S a) : zXf l yX7_highShare wsX7_highShare ({ frames := 7, cells := 3, slots := 18, locals := 110 }) [.ref (a 0), .int p0, .int p1] D y base S (fun (r : UInt32) (S1 : zS) => False ∧ S1 = S) (fun (E : String) (S1 : zS) => ((E = "java/lang/IndexOutOfBoundsException" ∧ kd_run p0 p1 = 1) ∨ (E = "java/util/NoSuchElementException" ∧ kd_run p0 p1 = 2)) ∧ S1 = S) 3 18 := by
  refine zXet_of (cc := cX7_highShare) (maxL := 4) (ret := (some .float)) (own := RX7) (by decide +kernel) rfl rfl (Nat.le_of_ble_eq_true rfl) ?_
  intro p e s m args below meth c ls C hr hlocks hx0 hw hl
  have hx := C.1
  have hb := C.2.1
  have hown := C.2.2.2.1
  have hts := C.2.2.2.2
  have hl : lv_has ls 4 [(0, .ref (a 0)), (1, .int p0), (2, .int p1)] := hl
  have in_X0 : ∀ w ∈ wsX00, w ∈ wsX7_highShare := by decide +kernel
  have in_X7 : ∀ w ∈ wsX70, w ∈ wsX7_highShare := by decide +kernel
  refine lv_iload_n hx hb dX7_highShare_0 rfl (lv_at hl 1 rfl) ?_
  refine zcS_xv (As := [.int p0]) (rest := []) (n9 := 1) C hw (c_X7_checkCapture l hst D y base S p0 ) gX7_highShare_X7_checkCapture rfl (by decide +kernel) ⟨⟨rfl, rfl⟩, Nat.le_of_ble_eq_true rfl, Nat.le_of_ble_eq_true rfl⟩ rfl hl.1 rfl (Nat.le_of_ble_eq_true rfl) ⟨Nat.le_of_ble_eq_true rfl, Nat.le_of_ble_eq_true rfl⟩ dX7_highShare_1 (fun E ce q9 S1 H locs hx1 hw h1 h2 h3 => zxout hw hx0 hlocks h1 h2 h3 (by obtain ⟨rfl, hc9, rfl⟩ := hx1; refine ⟨?_, rfl⟩; first | exact (Or.inl ⟨rfl, (by unfold kd_run; grind)⟩) | exact (Or.inr ⟨rfl, (by unfold kd_run; grind)⟩)) ⟨Nat.le_of_ble_eq_true rfl, Nat.le_of_ble_eq_true rfl⟩) (fun S1 H locs hp1 hw => ?_)
  obtain ⟨hp1, hS9⟩ := hp1
  have hS9 := hS9.symm
  subst hS9
  refine lv_iload_n hx hb dX7_highShare_4 rfl (lv_at hl 2 rfl) ?_
  refine zcS_xv (As := [.int p1]) (rest := []) (n9 := 1) C hw (c_X7_checkWire l hst D y base S p1 ) gX7_highShare_X7_checkWire rfl (by decide +kernel) ⟨⟨rfl, rfl⟩, Nat.le_of_ble_eq_true rfl, Nat.le_of_ble_eq_true rfl⟩ rfl hl.1 rfl (Nat.le_of_ble_eq_true rfl) ⟨Nat.le_of_ble_eq_true rfl, Nat.le_of_ble_eq_true rfl⟩ dX7_highShare_5 (fun E ce q9 S5 H locs hx5 hw h1 h2 h3 => zxout hw hx0 hlocks h1 h2 h3 (by obtain ⟨rfl, hc9, rfl⟩ := hx5; refine ⟨?_, rfl⟩; first | exact (Or.inl ⟨rfl, (by unfold kd_run; grind)⟩) | exact (Or.inr ⟨rfl, (by unfold kd_run; grind)⟩)) ⟨Nat.le_of_ble_eq_true rfl, Nat.le_of_ble_eq_true rfl⟩) (fun S5 H locs hp5 hw => ?_)
  obtain ⟨hp5, hS9⟩ := hp5
  have hS9 := hS9.symm
  subst hS9
  refine lv_aload_n hx hb dX7_highShare_8 rfl (lv_at hl 0 rfl) ?_
  refine g_Ph_captures (a := (a 0)) (v := (a 2)) C hw hX.1 in_X7 (by decide +kernel) hX.2.2.1 dX7_highShare_9 ?_
  refine lv_iload_n hx hb dX7_highShare_12 rfl (lv_at hl 1 rfl) ?_
  obtain ⟨c1, l1, eP1, hC1, eI1, eZ1⟩ := zX_c hX h0 (p := p0) hp1
  refine zald_P (a := (a 2)) (v := c1) C hw hX.2.2.2.2.2.2.2.2.1 (by decide) (t0 := 2) rfl rfl hX.2.2.2.2.2.2.2.2.2.1 (zin_of (N := 2) (by decide) (by grind) (by grind)) eP1 dX7_highShare_13 ?_
  refine lv_astore_n (lv' := [(3, .ref c1), (0, .ref (a 0)), (1, .int p0), (2, .int p1)]) hx hb dX7_highShare_14 rfl hl (by decide) rfl (fun ls hl => ?_)
  refine lv_aload_n hx hb dX7_highShare_15 rfl (lv_at hl 0 rfl) ?_
  refine g_Cap_count (a := c1) (v := 0) C hw hC1.1 in_X0 (by decide +kernel) eI1 dX7_highShare_16 ?_
  refine lv_if_le (tgt := 26) hx hb dX7_highShare_19 (by decide) (fun _ => ?_) (fun c19 => absurd c19 (by decide))
  refine lv_iconst (v := 0) hx hb dX7_highShare_26 (by decide) ?_
  refine zcS_xv (As := [.int 0]) (rest := []) (n9 := 1) C hw (c_X7_checkThere l hst D y base S 0 ) gX7_highShare_X7_checkThere rfl (by decide +kernel) ⟨⟨rfl, rfl⟩, Nat.le_of_ble_eq_true rfl, Nat.le_of_ble_eq_true rfl⟩ rfl hl.1 rfl (Nat.le_of_ble_eq_true rfl) ⟨Nat.le_of_ble_eq_true rfl, Nat.le_of_ble_eq_true rfl⟩ dX7_highShare_27 (fun E ce q9 S27 H locs hx27 hw h1 h2 h3 => zxout hw hx0 hlocks h1 h2 h3 (by obtain ⟨rfl, hc9, rfl⟩ := hx27; exact ⟨Or.inr ⟨rfl, (by unfold kd_run; grind)⟩, rfl⟩) ⟨Nat.le_of_ble_eq_true rfl, Nat.le_of_ble_eq_true rfl⟩) (fun S27 H locs hp27 hw => ?_)
  obtain ⟨hp27, hS9⟩ := hp27
  have hS9 := hS9.symm
  subst hS9
  exact (show False from (hp27 rfl)).elim

set_option maxHeartbeats 4000000 in
set_option maxRecDepth 100000 in
/-- X7_meanRun -/
theorem c_X7_meanRun_r (l : Launch) (hst : l.stackTraces = false) (D : va_G) (y : Nat → ClassId) (base : Nat) (S : zS) (a : Nat → Nat) (p0 : Int32) (p1 : Int32) (hX : zX S a) (h0 : zX0 S a) : zXd l yX7_meanRun wsX7_meanRun ({ frames := 7, cells := 3, slots := 18, locals := 110 }) [.ref (a 0), .int p0, .int p1] D y base S (fun (r : UInt64) (S1 : zS) => False ∧ S1 = S) (fun (E : String) (S1 : zS) => ((E = "java/lang/IndexOutOfBoundsException" ∧ kd_run p0 p1 = 1) ∨ (E = "java/util/NoSuchElementException" ∧ kd_run p0 p1 = 2)) ∧ S1 = S) 3 18 := by
  refine zXet_of (cc := cX7_meanRun) (maxL := 5) (ret := (some .double)) (own := RX7) (by decide +kernel) rfl rfl (Nat.le_of_ble_eq_true rfl) ?_
  intro p e s m args below meth c ls C hr hlocks hx0 hw hl
  have hx := C.1
  have hb := C.2.1
  have hown := C.2.2.2.1
  have hts := C.2.2.2.2
  have hl : lv_has ls 5 [(0, .ref (a 0)), (1, .int p0), (2, .int p1)] := hl
  have in_X7 : ∀ w ∈ wsX70, w ∈ wsX7_meanRun := by decide +kernel
  refine lv_iload_n hx hb dX7_meanRun_0 rfl (lv_at hl 1 rfl) ?_
  refine zcS_xv (As := [.int p0]) (rest := []) (n9 := 1) C hw (c_X7_checkCapture l hst D y base S p0 ) gX7_meanRun_X7_checkCapture rfl (by decide +kernel) ⟨⟨rfl, rfl⟩, Nat.le_of_ble_eq_true rfl, Nat.le_of_ble_eq_true rfl⟩ rfl hl.1 rfl (Nat.le_of_ble_eq_true rfl) ⟨Nat.le_of_ble_eq_true rfl, Nat.le_of_ble_eq_true rfl⟩ dX7_meanRun_1 (fun E ce q9 S1 H locs hx1 hw h1 h2 h3 => zxout hw hx0 hlocks h1 h2 h3 (by obtain ⟨rfl, hc9, rfl⟩ := hx1; refine ⟨?_, rfl⟩; first | exact (Or.inl ⟨rfl, (by unfold kd_run; grind)⟩) | exact (Or.inr ⟨rfl, (by unfold kd_run; grind)⟩)) ⟨Nat.le_of_ble_eq_true rfl, Nat.le_of_ble_eq_true rfl⟩) (fun S1 H locs hp1 hw => ?_)
  obtain ⟨hp1, hS9⟩ := hp1
  have hS9 := hS9.symm
  subst hS9
  refine lv_iload_n hx hb dX7_meanRun_4 rfl (lv_at hl 2 rfl) ?_
  refine zcS_xv (As := [.int p1]) (rest := []) (n9 := 1) C hw (c_X7_checkWire l hst D y base S p1 ) gX7_meanRun_X7_checkWire rfl (by decide +kernel) ⟨⟨rfl, rfl⟩, Nat.le_of_ble_eq_true rfl, Nat.le_of_ble_eq_true rfl⟩ rfl hl.1 rfl (Nat.le_of_ble_eq_true rfl) ⟨Nat.le_of_ble_eq_true rfl, Nat.le_of_ble_eq_true rfl⟩ dX7_meanRun_5 (fun E ce q9 S5 H locs hx5 hw h1 h2 h3 => zxout hw hx0 hlocks h1 h2 h3 (by obtain ⟨rfl, hc9, rfl⟩ := hx5; refine ⟨?_, rfl⟩; first | exact (Or.inl ⟨rfl, (by unfold kd_run; grind)⟩) | exact (Or.inr ⟨rfl, (by unfold kd_run; grind)⟩)) ⟨Nat.le_of_ble_eq_true rfl, Nat.le_of_ble_eq_true rfl⟩) (fun S5 H locs hp5 hw => ?_)
  obtain ⟨hp5, hS9⟩ := hp5
  have hS9 := hS9.symm
  subst hS9
  refine lv_aload_n hx hb dX7_meanRun_8 rfl (lv_at hl 0 rfl) ?_
  refine g_Ph_captures (a := (a 0)) (v := (a 2)) C hw hX.1 in_X7 (by decide +kernel) hX.2.2.1 dX7_meanRun_9 ?_
  refine lv_iload_n hx hb dX7_meanRun_12 rfl (lv_at hl 1 rfl) ?_
  obtain ⟨c1, l1, eP1, hC1, eI1, eZ1⟩ := zX_c hX h0 (p := p0) hp1
  refine zald_P (a := (a 2)) (v := c1) C hw hX.2.2.2.2.2.2.2.2.1 (by decide) (t0 := 2) rfl rfl hX.2.2.2.2.2.2.2.2.2.1 (zin_of (N := 2) (by decide) (by grind) (by grind)) eP1 dX7_meanRun_13 ?_
  refine lv_astore_n (lv' := [(3, .ref c1), (0, .ref (a 0)), (1, .int p0), (2, .int p1)]) hx hb dX7_meanRun_14 rfl hl (by decide) rfl (fun ls hl => ?_)
  refine lv_aload_n hx hb dX7_meanRun_15 rfl (lv_at hl 0 rfl) ?_
  refine lv_iload_n hx hb dX7_meanRun_16 rfl (lv_at hl 3 rfl) ?_
  refine zcV_i (As := [.int p1]) (rest := []) (n9 := 1) (b := c1) C hw (c_X0_runCount l D y base S c1 l1 p1 hC1 eI1) gX7_meanRun_X0_runCount rfl (by decide +kernel) ⟨⟨rfl, rfl⟩, Nat.le_of_ble_eq_true rfl, Nat.le_of_ble_eq_true rfl⟩ hC1.1 ⟨by decide, by decide⟩ rfl rfl hl.1 rfl (Nat.le_of_ble_eq_true rfl) ⟨Nat.le_of_ble_eq_true rfl, Nat.le_of_ble_eq_true rfl⟩ dX7_meanRun_17 (fun r17 S17 H locs hp17 hw => ?_)
  obtain ⟨rfl, hS9⟩ := hp17
  have hS9 := hS9.symm
  subst hS9
  refine lv_istore (lv' := [(4, .int 0), (3, .ref c1), (0, .ref (a 0)), (1, .int p0), (2, .int p1)]) hx hb dX7_meanRun_20 hl (by decide) rfl (fun ls hl => ?_)
  refine lv_iload hx hb dX7_meanRun_22 (lv_at hl 0 rfl) ?_
  refine lv_if_le (tgt := 31) hx hb dX7_meanRun_24 (by decide) (fun _ => ?_) (fun c24 => absurd c24 (by decide))
  refine lv_iconst (v := 0) hx hb dX7_meanRun_31 (by decide) ?_
  refine zcS_xv (As := [.int 0]) (rest := []) (n9 := 1) C hw (c_X7_checkThere l hst D y base S 0 ) gX7_meanRun_X7_checkThere rfl (by decide +kernel) ⟨⟨rfl, rfl⟩, Nat.le_of_ble_eq_true rfl, Nat.le_of_ble_eq_true rfl⟩ rfl hl.1 rfl (Nat.le_of_ble_eq_true rfl) ⟨Nat.le_of_ble_eq_true rfl, Nat.le_of_ble_eq_true rfl⟩ dX7_meanRun_32 (fun E ce q9 S32 H locs hx32 hw h1 h2 h3 => zxout hw hx0 hlocks h1 h2 h3 (by obtain ⟨rfl, hc9, rfl⟩ := hx32; exact ⟨Or.inr ⟨rfl, (by unfold kd_run; grind)⟩, rfl⟩) ⟨Nat.le_of_ble_eq_true rfl, Nat.le_of_ble_eq_true rfl⟩) (fun S32 H locs hp32 hw => ?_)
  obtain ⟨hp32, hS9⟩ := hp32
  have hS9 := hS9.symm
  subst hS9
  exact (show False from (hp32 rfl)).elim

set_option maxHeartbeats 4000000 in
set_option maxRecDepth 100000 in
/-- X7_trigger -/
theorem c_X7_trigger_r (l : Launch) (hst : l.stackTraces = false) (D : va_G) (y : Nat → ClassId) (base : Nat) (S : zS) (a : Nat → Nat) (p0 : Int32) (hX : zX S a) (h0 : zX0 S a) : zXi l yX7_trigger wsX7_trigger ({ frames := 7, cells := 2, slots := 12, locals := 110 }) [.ref (a 0), .int p0] D y base S (fun (r : Int32) (S1 : zS) => False ∧ S1 = S) (fun (E : String) (S1 : zS) => ((E = "java/lang/IndexOutOfBoundsException" ∧ kd_sample p0 = 1) ∨ (E = "java/lang/UnsupportedOperationException" ∧ kd_sample p0 = 2)) ∧ S1 = S) 2 12 := by
  refine zXet_of (cc := cX7_trigger) (maxL := 3) (ret := (some .int)) (own := RX7) (by decide +kernel) rfl rfl (Nat.le_of_ble_eq_true rfl) ?_
  intro p e s m args below meth c ls C hr hlocks hx0 hw hl
  have hx := C.1
  have hb := C.2.1
  have hown := C.2.2.2.1
  have hts := C.2.2.2.2
  have hl : lv_has ls 3 [(0, .ref (a 0)), (1, .int p0)] := hl
  have in_X4 : ∀ w ∈ wsX40, w ∈ wsX7_trigger := by decide +kernel
  have in_X7 : ∀ w ∈ wsX70, w ∈ wsX7_trigger := by decide +kernel
  refine lv_iload_n hx hb dX7_trigger_0 rfl (lv_at hl 1 rfl) ?_
  refine zcS_xv (As := [.int p0]) (rest := []) (n9 := 1) C hw (c_X7_checkCapture l hst D y base S p0 ) gX7_trigger_X7_checkCapture rfl (by decide +kernel) ⟨⟨rfl, rfl⟩, Nat.le_of_ble_eq_true rfl, Nat.le_of_ble_eq_true rfl⟩ rfl hl.1 rfl (Nat.le_of_ble_eq_true rfl) ⟨Nat.le_of_ble_eq_true rfl, Nat.le_of_ble_eq_true rfl⟩ dX7_trigger_1 (fun E ce q9 S1 H locs hx1 hw h1 h2 h3 => zxout hw hx0 hlocks h1 h2 h3 (by obtain ⟨rfl, hc9, rfl⟩ := hx1; refine ⟨?_, rfl⟩; first | exact (Or.inl ⟨rfl, (by unfold kd_sample; grind)⟩) | exact (Or.inr ⟨rfl, (by unfold kd_sample; grind)⟩)) ⟨Nat.le_of_ble_eq_true rfl, Nat.le_of_ble_eq_true rfl⟩) (fun S1 H locs hp1 hw => ?_)
  obtain ⟨hp1, hS9⟩ := hp1
  have hS9 := hS9.symm
  subst hS9
  refine lv_aload_n hx hb dX7_trigger_4 rfl (lv_at hl 0 rfl) ?_
  refine g_Ph_program (a := (a 0)) (v := (a 3)) C hw hX.1 in_X7 (by decide +kernel) hX.2.2.2.1 dX7_trigger_5 ?_
  refine g_Trig_count (a := (a 3)) (v := 0) C hw hX.2.2.2.2.2.2.2.2.2.2.2.2.1.1 in_X4 (by decide +kernel) h0.2.2.1 dX7_trigger_8 ?_
  refine lv_if_le (tgt := 18) hx hb dX7_trigger_11 (by decide) (fun _ => ?_) (fun c11 => absurd c11 (by decide))
  refine lv_iconst (v := 0) hx hb dX7_trigger_18 (by decide) ?_
  refine zcS_xv (As := [.int 0]) (rest := []) (n9 := 1) C hw (c_X7_checkUse l hst D y base S 0 ) gX7_trigger_X7_checkUse rfl (by decide +kernel) ⟨⟨rfl, rfl⟩, Nat.le_of_ble_eq_true rfl, Nat.le_of_ble_eq_true rfl⟩ rfl hl.1 rfl (Nat.le_of_ble_eq_true rfl) ⟨Nat.le_of_ble_eq_true rfl, Nat.le_of_ble_eq_true rfl⟩ dX7_trigger_19 (fun E ce q9 S19 H locs hx19 hw h1 h2 h3 => zxout hw hx0 hlocks h1 h2 h3 (by obtain ⟨rfl, hc9, rfl⟩ := hx19; exact ⟨Or.inr ⟨rfl, (by unfold kd_sample; grind)⟩, rfl⟩) ⟨Nat.le_of_ble_eq_true rfl, Nat.le_of_ble_eq_true rfl⟩) (fun S19 H locs hp19 hw => ?_)
  obtain ⟨hp19, hS9⟩ := hp19
  have hS9 := hS9.symm
  subst hS9
  exact (show False from (hp19 rfl)).elim

set_option maxHeartbeats 4000000 in
set_option maxRecDepth 100000 in
/-- X7_checkNote -/
theorem c_X7_checkNote_r (l : Launch) (hst : l.stackTraces = false) (D : va_G) (y : Nat → ClassId) (base : Nat) (S : zS) (a : Nat → Nat) (p0 : Int32) (hX : zX S a) (h0 : zX0 S a) : zXv l yX7_checkNote wsX7_checkNote ({ frames := 6, cells := 1, slots := 6, locals := 90 }) [.ref (a 0), .int p0] D y base S (fun (S1 : zS) => False ∧ S1 = S) (fun (E : String) (S1 : zS) => E = "java/lang/IndexOutOfBoundsException" ∧ S1 = S) 1 6 := by
  refine zXet_of (cc := cX7_checkNote) (maxL := 2) (ret := none) (own := RX7) (by decide +kernel) rfl rfl (Nat.le_of_ble_eq_true rfl) ?_
  intro p e s m args below meth c ls C hr hlocks hx0 hw hl
  have hx := C.1
  have hb := C.2.1
  have hown := C.2.2.2.1
  have hts := C.2.2.2.2
  have hl : lv_has ls 2 [(0, .ref (a 0)), (1, .int p0)] := hl
  have in_X3 : ∀ w ∈ wsX30, w ∈ wsX7_checkNote := by decide +kernel
  have in_X7 : ∀ w ∈ wsX70, w ∈ wsX7_checkNote := by decide +kernel
  refine lv_iload_n hx hb dX7_checkNote_0 rfl (lv_at hl 1 rfl) ?_
  refine lv_if_lt (tgt := 22) hx hb dX7_checkNote_1 (by decide) (fun c1 => ?_) (fun c1 => ?_)
  · exact zthrow (cls := "java/lang/IndexOutOfBoundsException") (text := "no such note") (names := ["java/lang/RuntimeException", "java/lang/Exception"]) (ik := 284) (is := 293) (ic := 288) C hw hx0 hlocks hst (by decide +kernel) (by decide +kernel) (by decide +kernel) (by decide +kernel) (by decide +kernel) (by decide +kernel) (by decide +kernel) hl.1 dX7_checkNote_22 dX7_checkNote_25 dX7_checkNote_26 dX7_checkNote_29 dX7_checkNote_32 (Nat.le_of_ble_eq_true rfl) (Nat.le_of_ble_eq_true rfl) ⟨Nat.le_of_ble_eq_true rfl, Nat.le_of_ble_eq_true rfl⟩ ⟨rfl, rfl⟩ ⟨Nat.le_of_ble_eq_true rfl, Nat.le_of_ble_eq_true rfl⟩
  · refine lv_iload_n hx hb dX7_checkNote_4 rfl (lv_at hl 1 rfl) ?_
    refine lv_aload_n hx hb dX7_checkNote_5 rfl (lv_at hl 0 rfl) ?_
    refine g_Ph_told (a := (a 0)) (v := (a 4)) C hw hX.1 in_X7 (by decide +kernel) hX.2.2.2.2.1 dX7_checkNote_6 ?_
    refine g_Notes_count (a := (a 4)) (v := 0) C hw hX.2.2.2.2.2.2.2.2.2.2.1 in_X3 (by decide +kernel) h0.2.2.2.1 dX7_checkNote_9 ?_
    refine lv_icmp_ge (tgt := 22) hx hb dX7_checkNote_12 (by decide) (fun c12 => ?_) (fun c12 => (show False from (by grind)).elim)
    exact zthrow (cls := "java/lang/IndexOutOfBoundsException") (text := "no such note") (names := ["java/lang/RuntimeException", "java/lang/Exception"]) (ik := 284) (is := 293) (ic := 288) C hw hx0 hlocks hst (by decide +kernel) (by decide +kernel) (by decide +kernel) (by decide +kernel) (by decide +kernel) (by decide +kernel) (by decide +kernel) hl.1 dX7_checkNote_22 dX7_checkNote_25 dX7_checkNote_26 dX7_checkNote_29 dX7_checkNote_32 (Nat.le_of_ble_eq_true rfl) (Nat.le_of_ble_eq_true rfl) ⟨Nat.le_of_ble_eq_true rfl, Nat.le_of_ble_eq_true rfl⟩ ⟨rfl, rfl⟩ ⟨Nat.le_of_ble_eq_true rfl, Nat.le_of_ble_eq_true rfl⟩

set_option maxHeartbeats 4000000 in
set_option maxRecDepth 100000 in
/-- X7_kind -/
theorem c_X7_kind_r (l : Launch) (hst : l.stackTraces = false) (D : va_G) (y : Nat → ClassId) (base : Nat) (S : zS) (a : Nat → Nat) (p0 : Int32) (hX : zX S a) (h0 : zX0 S a) : zXi l yX7_kind wsX7_kind ({ frames := 7, cells := 1, slots := 6, locals := 111 }) [.ref (a 0), .int p0] D y base S (fun (r : Int32) (S1 : zS) => False ∧ S1 = S) (fun (E : String) (S1 : zS) => ((E = "java/lang/IndexOutOfBoundsException" ∧ 1 = 1)) ∧ S1 = S) 1 6 := by
  refine zXet_of (cc := cX7_kind) (maxL := 2) (ret := (some .char)) (own := RX7) (by decide +kernel) rfl rfl (Nat.le_of_ble_eq_true rfl) ?_
  intro p e s m args below meth c ls C hr hlocks hx0 hw hl
  have hx := C.1
  have hb := C.2.1
  have hown := C.2.2.2.1
  have hts := C.2.2.2.2
  have hl : lv_has ls 2 [(0, .ref (a 0)), (1, .int p0)] := hl
  refine lv_aload_n hx hb dX7_kind_0 rfl (lv_at hl 0 rfl) ?_
  refine lv_iload_n hx hb dX7_kind_1 rfl (lv_at hl 1 rfl) ?_
  refine zcV_xv (As := [.int p0]) (rest := []) (n9 := 1) (b := (a 0)) C hw (c_X7_checkNote_r l hst D y base S a p0 hX (by first | assumption | decide | grind)) gX7_kind_X7_checkNote rfl (by decide +kernel) ⟨⟨rfl, rfl⟩, Nat.le_of_ble_eq_true rfl, Nat.le_of_ble_eq_true rfl⟩ hX.1 ⟨by decide, by decide⟩ rfl rfl hl.1 rfl (Nat.le_of_ble_eq_true rfl) ⟨Nat.le_of_ble_eq_true rfl, Nat.le_of_ble_eq_true rfl⟩ dX7_kind_2 (fun E ce q9 S2 H locs hx2 hw h1 h2 h3 => zxout hw hx0 hlocks h1 h2 h3 (by obtain ⟨rfl, rfl⟩ := hx2; exact ⟨⟨rfl, rfl⟩, rfl⟩) ⟨Nat.le_of_ble_eq_true rfl, Nat.le_of_ble_eq_true rfl⟩) (fun S2 H locs hp2 hw => ?_)
  obtain ⟨hp2, hS9⟩ := hp2
  have hS9 := hS9.symm
  subst hS9
  exact (show False from hp2).elim

set_option maxHeartbeats 4000000 in
set_option maxRecDepth 100000 in
/-- X7_follows -/
theorem c_X7_follows_r (l : Launch) (hst : l.stackTraces = false) (D : va_G) (y : Nat → ClassId) (base : Nat) (S : zS) (a : Nat → Nat) (p0 : Int32) (p1 : Int32) (hX : zX S a) (h0 : zX0 S a) : zXi l yX7_follows wsX7_follows ({ frames := 7, cells := 2, slots := 12, locals := 112 }) [.ref (a 0), .int p0, .int p1] D y base S (fun (r : Int32) (S1 : zS) => r = 0 ∧ kd_follows p0 p1 = 0 ∧ S1 = S) (fun (E : String) (S1 : zS) => ((E = "java/lang/IllegalArgumentException" ∧ kd_follows p0 p1 = 1)) ∧ S1 = S) 2 12 := by
  refine zXet_of (cc := cX7_follows) (maxL := 3) (ret := (some .int)) (own := RX7) (by decide +kernel) rfl rfl (Nat.le_of_ble_eq_true rfl) ?_
  intro p e s m args below meth c ls C hr hlocks hx0 hw hl
  have hx := C.1
  have hb := C.2.1
  have hown := C.2.2.2.1
  have hts := C.2.2.2.2
  have hl : lv_has ls 3 [(0, .ref (a 0)), (1, .int p0), (2, .int p1)] := hl
  have in_X7 : ∀ w ∈ wsX70, w ∈ wsX7_follows := by decide +kernel
  refine lv_iload_n hx hb dX7_follows_0 rfl (lv_at hl 1 rfl) ?_
  refine lv_iconst (v := 0) hx hb dX7_follows_1 (by decide) ?_
  refine lv_sipush (v := 255) hx hb dX7_follows_2 (by decide) ?_
  refine zcS_xv (As := [.int p0, .int 0, .int 255]) (rest := []) (n9 := 3) C hw (c_X7_checkRange l hst D y base S p0 0 255 ) gX7_follows_X7_checkRange rfl (by decide +kernel) ⟨⟨rfl, rfl⟩, Nat.le_of_ble_eq_true rfl, Nat.le_of_ble_eq_true rfl⟩ rfl hl.1 rfl (Nat.le_of_ble_eq_true rfl) ⟨Nat.le_of_ble_eq_true rfl, Nat.le_of_ble_eq_true rfl⟩ dX7_follows_5 (fun E ce q9 S5 H locs hx5 hw h1 h2 h3 => zxout hw hx0 hlocks h1 h2 h3 (by obtain ⟨rfl, hc9, rfl⟩ := hx5; refine ⟨?_, rfl⟩; first | exact ⟨rfl, (by unfold kd_follows; grind)⟩) ⟨Nat.le_of_ble_eq_true rfl, Nat.le_of_ble_eq_true rfl⟩) (fun S5 H locs hp5 hw => ?_)
  obtain ⟨hp5, hS9⟩ := hp5
  have hS9 := hS9.symm
  subst hS9
  refine lv_iload_n hx hb dX7_follows_8 rfl (lv_at hl 2 rfl) ?_
  refine lv_iconst (v := 0) hx hb dX7_follows_9 (by decide) ?_
  refine lv_sipush (v := 255) hx hb dX7_follows_10 (by decide) ?_
  refine zcS_xv (As := [.int p1, .int 0, .int 255]) (rest := []) (n9 := 3) C hw (c_X7_checkRange l hst D y base S p1 0 255 ) gX7_follows_X7_checkRange rfl (by decide +kernel) ⟨⟨rfl, rfl⟩, Nat.le_of_ble_eq_true rfl, Nat.le_of_ble_eq_true rfl⟩ rfl hl.1 rfl (Nat.le_of_ble_eq_true rfl) ⟨Nat.le_of_ble_eq_true rfl, Nat.le_of_ble_eq_true rfl⟩ dX7_follows_13 (fun E ce q9 S13 H locs hx13 hw h1 h2 h3 => zxout hw hx0 hlocks h1 h2 h3 (by obtain ⟨rfl, hc9, rfl⟩ := hx13; refine ⟨?_, rfl⟩; first | exact ⟨rfl, (by unfold kd_follows; grind)⟩) ⟨Nat.le_of_ble_eq_true rfl, Nat.le_of_ble_eq_true rfl⟩) (fun S13 H locs hp13 hw => ?_)
  obtain ⟨hp13, hS9⟩ := hp13
  have hS9 := hS9.symm
  subst hS9
  refine lv_aload_n hx hb dX7_follows_16 rfl (lv_at hl 0 rfl) ?_
  refine g_Ph_told (a := (a 0)) (v := (a 4)) C hw hX.1 in_X7 (by decide +kernel) hX.2.2.2.2.1 dX7_follows_17 ?_
  refine lv_iload_n hx hb dX7_follows_20 rfl (lv_at hl 1 rfl) ?_
  refine lv_iload_n hx hb dX7_follows_21 rfl (lv_at hl 2 rfl) ?_
  refine zcV_i (As := [.int p0, .int p1]) (rest := []) (n9 := 2) (b := (a 4)) C hw (c_X3_pairCount l D y base S (a 4) p0 p1 hX.2.2.2.2.2.2.2.2.2.2.1 h0.2.2.2.1) gX7_follows_X3_pairCount rfl (by decide +kernel) ⟨⟨rfl, rfl⟩, Nat.le_of_ble_eq_true rfl, Nat.le_of_ble_eq_true rfl⟩ hX.2.2.2.2.2.2.2.2.2.2.1 ⟨by decide, by decide⟩ rfl rfl hl.1 rfl (Nat.le_of_ble_eq_true rfl) ⟨Nat.le_of_ble_eq_true rfl, Nat.le_of_ble_eq_true rfl⟩ dX7_follows_22 (fun r22 S22 H locs hp22 hw => ?_)
  obtain ⟨rfl, hS9⟩ := hp22
  have hS9 := hS9.symm
  subst hS9
  exact vx_ret (zri C hw hr hlocks rfl ⟨rfl, (by unfold kd_follows; grind), rfl⟩ ⟨Nat.le_of_ble_eq_true rfl, Nat.le_of_ble_eq_true rfl⟩ dX7_follows_25)

set_option maxHeartbeats 4000000 in
set_option maxRecDepth 100000 in
/-- X7_alike -/
theorem c_X7_alike_r (l : Launch) (hst : l.stackTraces = false) (D : va_G) (y : Nat → ClassId) (base : Nat) (S : zS) (a : Nat → Nat) (p0 : Int32) (hX : zX S a) (h0 : zX0 S a) : zXi l yX7_alike wsX7_alike ({ frames := 7, cells := 1, slots := 6, locals := 112 }) [.ref (a 0), .int p0] D y base S (fun (r : Int32) (S1 : zS) => r = 0 ∧ kd_alike p0 = 0 ∧ S1 = S) (fun (E : String) (S1 : zS) => ((E = "java/lang/IllegalArgumentException" ∧ kd_alike p0 = 1)) ∧ S1 = S) 1 6 := by
  refine zXet_of (cc := cX7_alike) (maxL := 2) (ret := (some .int)) (own := RX7) (by decide +kernel) rfl rfl (Nat.le_of_ble_eq_true rfl) ?_
  intro p e s m args below meth c ls C hr hlocks hx0 hw hl
  have hx := C.1
  have hb := C.2.1
  have hown := C.2.2.2.1
  have hts := C.2.2.2.2
  have hl : lv_has ls 2 [(0, .ref (a 0)), (1, .int p0)] := hl
  refine lv_iload_n hx hb dX7_alike_0 rfl (lv_at hl 1 rfl) ?_
  refine lv_sipush (v := (-399)) hx hb dX7_alike_1 (by decide) ?_
  refine lv_sipush (v := 399) hx hb dX7_alike_4 (by decide) ?_
  refine zcS_xv (As := [.int p0, .int (-399), .int 399]) (rest := []) (n9 := 3) C hw (c_X7_checkRange l hst D y base S p0 (-399) 399 ) gX7_alike_X7_checkRange rfl (by decide +kernel) ⟨⟨rfl, rfl⟩, Nat.le_of_ble_eq_true rfl, Nat.le_of_ble_eq_true rfl⟩ rfl hl.1 rfl (Nat.le_of_ble_eq_true rfl) ⟨Nat.le_of_ble_eq_true rfl, Nat.le_of_ble_eq_true rfl⟩ dX7_alike_7 (fun E ce q9 S7 H locs hx7 hw h1 h2 h3 => zxout hw hx0 hlocks h1 h2 h3 (by obtain ⟨rfl, hc9, rfl⟩ := hx7; refine ⟨?_, rfl⟩; first | exact ⟨rfl, (by unfold kd_alike; grind)⟩) ⟨Nat.le_of_ble_eq_true rfl, Nat.le_of_ble_eq_true rfl⟩) (fun S7 H locs hp7 hw => ?_)
  obtain ⟨hp7, hS9⟩ := hp7
  have hS9 := hS9.symm
  subst hS9
  refine lv_aload_n hx hb dX7_alike_10 rfl (lv_at hl 0 rfl) ?_
  refine lv_iload_n hx hb dX7_alike_11 rfl (lv_at hl 1 rfl) ?_
  refine zcV_i (As := [.int p0]) (rest := []) (n9 := 1) (b := (a 0)) C hw (c_X7_alikeCount l D y base S a p0 hX (by first | assumption | decide | grind)) gX7_alike_X7_alikeCount rfl (by decide +kernel) ⟨⟨rfl, rfl⟩, Nat.le_of_ble_eq_true rfl, Nat.le_of_ble_eq_true rfl⟩ hX.1 ⟨by decide, by decide⟩ rfl rfl hl.1 rfl (Nat.le_of_ble_eq_true rfl) ⟨Nat.le_of_ble_eq_true rfl, Nat.le_of_ble_eq_true rfl⟩ dX7_alike_12 (fun r12 S12 H locs hp12 hw => ?_)
  obtain ⟨rfl, hS9⟩ := hp12
  have hS9 := hS9.symm
  subst hS9
  exact vx_ret (zri C hw hr hlocks rfl ⟨rfl, (by unfold kd_alike; grind), rfl⟩ ⟨Nat.le_of_ble_eq_true rfl, Nat.le_of_ble_eq_true rfl⟩ dX7_alike_15)

set_option maxHeartbeats 4000000 in
set_option maxRecDepth 100000 in
/-- X7_differs -/
theorem c_X7_differs_r (l : Launch) (hst : l.stackTraces = false) (D : va_G) (y : Nat → ClassId) (base : Nat) (S : zS) (a : Nat → Nat) (p0 : Int32) (hX : zX S a) (h0 : zX0 S a) : zXi l yX7_differs wsX7_differs ({ frames := 7, cells := 2, slots := 12, locals := 112 }) [.ref (a 0), .int p0] D y base S (fun (r : Int32) (S1 : zS) => False ∧ S1 = S) (fun (E : String) (S1 : zS) => ((E = "java/lang/IllegalArgumentException" ∧ kd_differs p0 = 1) ∨ (E = "java/util/NoSuchElementException" ∧ kd_differs p0 = 2)) ∧ S1 = S) 2 12 := by
  refine zXet_of (cc := cX7_differs) (maxL := 3) (ret := (some .int)) (own := RX7) (by decide +kernel) rfl rfl (Nat.le_of_ble_eq_true rfl) ?_
  intro p e s m args below meth c ls C hr hlocks hx0 hw hl
  have hx := C.1
  have hb := C.2.1
  have hown := C.2.2.2.1
  have hts := C.2.2.2.2
  have hl : lv_has ls 3 [(0, .ref (a 0)), (1, .int p0)] := hl
  refine lv_iload_n hx hb dX7_differs_0 rfl (lv_at hl 1 rfl) ?_
  refine lv_sipush (v := (-399)) hx hb dX7_differs_1 (by decide) ?_
  refine lv_sipush (v := 399) hx hb dX7_differs_4 (by decide) ?_
  refine zcS_xv (As := [.int p0, .int (-399), .int 399]) (rest := []) (n9 := 3) C hw (c_X7_checkRange l hst D y base S p0 (-399) 399 ) gX7_differs_X7_checkRange rfl (by decide +kernel) ⟨⟨rfl, rfl⟩, Nat.le_of_ble_eq_true rfl, Nat.le_of_ble_eq_true rfl⟩ rfl hl.1 rfl (Nat.le_of_ble_eq_true rfl) ⟨Nat.le_of_ble_eq_true rfl, Nat.le_of_ble_eq_true rfl⟩ dX7_differs_7 (fun E ce q9 S7 H locs hx7 hw h1 h2 h3 => zxout hw hx0 hlocks h1 h2 h3 (by obtain ⟨rfl, hc9, rfl⟩ := hx7; refine ⟨?_, rfl⟩; first | exact (Or.inl ⟨rfl, (by unfold kd_differs; grind)⟩) | exact (Or.inr ⟨rfl, (by unfold kd_differs; grind)⟩)) ⟨Nat.le_of_ble_eq_true rfl, Nat.le_of_ble_eq_true rfl⟩) (fun S7 H locs hp7 hw => ?_)
  obtain ⟨hp7, hS9⟩ := hp7
  have hS9 := hS9.symm
  subst hS9
  refine lv_aload_n hx hb dX7_differs_10 rfl (lv_at hl 0 rfl) ?_
  refine lv_iload_n hx hb dX7_differs_11 rfl (lv_at hl 1 rfl) ?_
  refine zcV_i (As := [.int p0]) (rest := []) (n9 := 1) (b := (a 0)) C hw (c_X7_firstUnlike l D y base S a p0 hX (by first | assumption | decide | grind)) gX7_differs_X7_firstUnlike rfl (by decide +kernel) ⟨⟨rfl, rfl⟩, Nat.le_of_ble_eq_true rfl, Nat.le_of_ble_eq_true rfl⟩ hX.1 ⟨by decide, by decide⟩ rfl rfl hl.1 rfl (Nat.le_of_ble_eq_true rfl) ⟨Nat.le_of_ble_eq_true rfl, Nat.le_of_ble_eq_true rfl⟩ dX7_differs_12 (fun r12 S12 H locs hp12 hw => ?_)
  obtain ⟨rfl, hS9⟩ := hp12
  have hS9 := hS9.symm
  subst hS9
  refine lv_istore_n (lv' := [(2, .int (-1)), (0, .ref (a 0)), (1, .int p0)]) hx hb dX7_differs_15 rfl hl (by decide) rfl (fun ls hl => ?_)
  refine lv_iload_n hx hb dX7_differs_16 rfl (lv_at hl 0 rfl) ?_
  refine lv_if_lt (tgt := 24) hx hb dX7_differs_17 (by decide) (fun _ => ?_) (fun c17 => absurd c17 (by decide))
  refine lv_iconst (v := 0) hx hb dX7_differs_24 (by decide) ?_
  refine zcS_xv (As := [.int 0]) (rest := []) (n9 := 1) C hw (c_X7_checkThere l hst D y base S 0 ) gX7_differs_X7_checkThere rfl (by decide +kernel) ⟨⟨rfl, rfl⟩, Nat.le_of_ble_eq_true rfl, Nat.le_of_ble_eq_true rfl⟩ rfl hl.1 rfl (Nat.le_of_ble_eq_true rfl) ⟨Nat.le_of_ble_eq_true rfl, Nat.le_of_ble_eq_true rfl⟩ dX7_differs_25 (fun E ce q9 S25 H locs hx25 hw h1 h2 h3 => zxout hw hx0 hlocks h1 h2 h3 (by obtain ⟨rfl, hc9, rfl⟩ := hx25; exact ⟨Or.inr ⟨rfl, (by unfold kd_differs; grind)⟩, rfl⟩) ⟨Nat.le_of_ble_eq_true rfl, Nat.le_of_ble_eq_true rfl⟩) (fun S25 H locs hp25 hw => ?_)
  obtain ⟨hp25, hS9⟩ := hp25
  have hS9 := hS9.symm
  subst hS9
  exact (show False from (hp25 rfl)).elim

set_option maxHeartbeats 4000000 in
set_option maxRecDepth 100000 in
/-- X7_best -/
theorem c_X7_best_r (l : Launch) (hst : l.stackTraces = false) (D : va_G) (y : Nat → ClassId) (base : Nat) (S : zS) (a : Nat → Nat) (p0 : Int32) (hX : zX S a) (h0 : zX0 S a) : zXi l yX7_best wsX7_best ({ frames := 7, cells := 2, slots := 12, locals := 112 }) [.ref (a 0), .int p0] D y base S (fun (r : Int32) (S1 : zS) => False ∧ S1 = S) (fun (E : String) (S1 : zS) => ((E = "java/lang/IllegalArgumentException" ∧ kd_best p0 = 1) ∨ (E = "java/lang/UnsupportedOperationException" ∧ kd_best p0 = 2)) ∧ S1 = S) 2 12 := by
  refine zXet_of (cc := cX7_best) (maxL := 7) (ret := (some .int)) (own := RX7) (by decide +kernel) rfl rfl (Nat.le_of_ble_eq_true rfl) ?_
  intro p e s m args below meth c ls C hr hlocks hx0 hw hl
  have hx := C.1
  have hb := C.2.1
  have hown := C.2.2.2.1
  have hts := C.2.2.2.2
  have hl : lv_has ls 7 [(0, .ref (a 0)), (1, .int p0)] := hl
  have in_X0 : ∀ w ∈ wsX00, w ∈ wsX7_best := by decide +kernel
  have in_X7 : ∀ w ∈ wsX70, w ∈ wsX7_best := by decide +kernel
  refine lv_iload_n hx hb dX7_best_0 rfl (lv_at hl 1 rfl) ?_
  refine lv_iconst (v := 0) hx hb dX7_best_1 (by decide) ?_
  refine lv_bipush (v := 99) hx hb dX7_best_2 (by decide) ?_
  refine zcS_xv (As := [.int p0, .int 0, .int 99]) (rest := []) (n9 := 3) C hw (c_X7_checkRange l hst D y base S p0 0 99 ) gX7_best_X7_checkRange rfl (by decide +kernel) ⟨⟨rfl, rfl⟩, Nat.le_of_ble_eq_true rfl, Nat.le_of_ble_eq_true rfl⟩ rfl hl.1 rfl (Nat.le_of_ble_eq_true rfl) ⟨Nat.le_of_ble_eq_true rfl, Nat.le_of_ble_eq_true rfl⟩ dX7_best_4 (fun E ce q9 S4 H locs hx4 hw h1 h2 h3 => zxout hw hx0 hlocks h1 h2 h3 (by obtain ⟨rfl, hc9, rfl⟩ := hx4; refine ⟨?_, rfl⟩; first | exact (Or.inl ⟨rfl, (by unfold kd_best; grind)⟩) | exact (Or.inr ⟨rfl, (by unfold kd_best; grind)⟩)) ⟨Nat.le_of_ble_eq_true rfl, Nat.le_of_ble_eq_true rfl⟩) (fun S4 H locs hp4 hw => ?_)
  obtain ⟨hp4, hS9⟩ := hp4
  have hS9 := hS9.symm
  subst hS9
  refine lv_aload_n hx hb dX7_best_7 rfl (lv_at hl 0 rfl) ?_
  refine g_Ph_captures (a := (a 0)) (v := (a 2)) C hw hX.1 in_X7 (by decide +kernel) hX.2.2.1 dX7_best_8 ?_
  refine lv_iconst (v := 0) hx hb dX7_best_11 (by decide) ?_
  obtain ⟨c1, l1, eP1, hC1, eI1, eZ1⟩ := zX_c hX h0 (p := 0) (by decide)
  refine zald_P (a := (a 2)) (v := c1) C hw hX.2.2.2.2.2.2.2.2.1 (by decide) (t0 := 2) rfl rfl hX.2.2.2.2.2.2.2.2.2.1 (zin_of (N := 2) (by decide) (by grind) (by grind)) eP1 dX7_best_12 ?_
  refine g_Cap_count (a := c1) (v := 0) C hw hC1.1 in_X0 (by decide +kernel) eI1 dX7_best_13 ?_
  refine lv_if_le (tgt := 35) hx hb dX7_best_16 (by decide) (fun _ => ?_) (fun c16 => absurd c16 (by decide))
  refine lv_iconst (v := 0) hx hb dX7_best_35 (by decide) ?_
  refine zcS_xv (As := [.int 0]) (rest := []) (n9 := 1) C hw (c_X7_checkUse l hst D y base S 0 ) gX7_best_X7_checkUse rfl (by decide +kernel) ⟨⟨rfl, rfl⟩, Nat.le_of_ble_eq_true rfl, Nat.le_of_ble_eq_true rfl⟩ rfl hl.1 rfl (Nat.le_of_ble_eq_true rfl) ⟨Nat.le_of_ble_eq_true rfl, Nat.le_of_ble_eq_true rfl⟩ dX7_best_36 (fun E ce q9 S36 H locs hx36 hw h1 h2 h3 => zxout hw hx0 hlocks h1 h2 h3 (by obtain ⟨rfl, hc9, rfl⟩ := hx36; exact ⟨Or.inr ⟨rfl, (by unfold kd_best; grind)⟩, rfl⟩) ⟨Nat.le_of_ble_eq_true rfl, Nat.le_of_ble_eq_true rfl⟩) (fun S36 H locs hp36 hw => ?_)
  obtain ⟨hp36, hS9⟩ := hp36
  have hS9 := hS9.symm
  subst hS9
  exact (show False from (hp36 rfl)).elim

set_option maxHeartbeats 4000000 in
set_option maxRecDepth 100000 in
/-- X7_notes -/
theorem c_X7_notes_r (l : Launch) (D : va_G) (y : Nat → ClassId) (base : Nat) (S : zS) (a : Nat → Nat) (hX : zX S a) (h0 : zX0 S a) : zMi l yX7_notes wsX7_notes ({ frames := 0, cells := 0, slots := 0, locals := 0 }) [.ref (a 0)] D y base S (fun (r : Int32) (S1 : zS) => r = 0 ∧ S1 = S) 0 0 := by
  refine zMet_of (cc := cX7_notes) (maxL := 1) (ret := (some .int)) (own := RX7) (by decide +kernel) rfl rfl (Nat.le_of_ble_eq_true rfl) ?_
  intro p e s m args below meth c ls C hr hlocks hnm hw hl
  have hx := C.1
  have hb := C.2.1
  have hown := C.2.2.2.1
  have hts := C.2.2.2.2
  have hl : lv_has ls 1 [(0, .ref (a 0))] := hl
  have in_X3 : ∀ w ∈ wsX30, w ∈ wsX7_notes := by decide +kernel
  have in_X7 : ∀ w ∈ wsX70, w ∈ wsX7_notes := by decide +kernel
  refine lv_aload_n hx hb dX7_notes_0 rfl (lv_at hl 0 rfl) ?_
  refine g_Ph_told (a := (a 0)) (v := (a 4)) C hw hX.1 in_X7 (by decide +kernel) hX.2.2.2.2.1 dX7_notes_1 ?_
  refine g_Notes_count (a := (a 4)) (v := 0) C hw hX.2.2.2.2.2.2.2.2.2.2.1 in_X3 (by decide +kernel) h0.2.2.2.1 dX7_notes_4 ?_
  exact zri C hw hr hlocks rfl ⟨rfl, rfl⟩ ⟨Nat.le_of_ble_eq_true rfl, Nat.le_of_ble_eq_true rfl⟩ dX7_notes_7

set_option maxHeartbeats 4000000 in
set_option maxRecDepth 100000 in
/-- X7_checksum -/
theorem c_X7_checksum_r (l : Launch) (D : va_G) (y : Nat → ClassId) (base : Nat) (S : zS) (a : Nat → Nat) (hX : zX S a) (h0 : zX0 S a) : zMl l yX7_checksum wsX7_checksum ({ frames := 0, cells := 0, slots := 0, locals := 0 }) [.ref (a 0)] D y base S (fun (r : Int64) (S1 : zS) => r = ((7 : Int32).toInt64) ∧ S1 = S) 0 0 := by
  refine zMet_of (cc := cX7_checksum) (maxL := 5) (ret := (some .long)) (own := RX7) (by decide +kernel) rfl rfl (Nat.le_of_ble_eq_true rfl) ?_
  intro p e s m args below meth c ls C hr hlocks hnm hw hl
  have hx := C.1
  have hb := C.2.1
  have hown := C.2.2.2.1
  have hts := C.2.2.2.2
  have hl : lv_has ls 5 [(0, .ref (a 0))] := hl
  have in_X0 : ∀ w ∈ wsX00, w ∈ wsX7_checksum := by decide +kernel
  have in_X3 : ∀ w ∈ wsX30, w ∈ wsX7_checksum := by decide +kernel
  have in_X7 : ∀ w ∈ wsX70, w ∈ wsX7_checksum := by decide +kernel
  refine lv_ldc2 (own := RX7) (v := ((7 : Int32).toInt64)) hx hb hown (hts (.constantLong RX7 268 (7)) (by decide +kernel)) dX7_checksum_0 ?_
  refine lv_lstore_n (lv' := [(1, .long ((7 : Int32).toInt64)), (0, .ref (a 0))]) hx hb dX7_checksum_3 rfl hl (by decide) rfl (fun ls hl => ?_)
  refine lv_iconst (v := 0) hx hb dX7_checksum_4 (by decide) ?_
  refine lv_istore_n (lv' := [(3, .int 0), (1, .long ((7 : Int32).toInt64)), (0, .ref (a 0))]) hx hb dX7_checksum_5 rfl hl (by decide) rfl (fun ls hl => ?_)
  refine lv_iload_n hx hb dX7_checksum_6 rfl (lv_at hl 0 rfl) ?_
  refine lv_aload_n hx hb dX7_checksum_7 rfl (lv_at hl 2 rfl) ?_
  refine g_Ph_captures (a := (a 0)) (v := (a 2)) C hw hX.1 in_X7 (by decide +kernel) hX.2.2.1 dX7_checksum_8 ?_
  refine zalen (a := (a 2)) (v := 2) C hw hX.2.2.2.2.2.2.2.2.1 (by decide) (t0 := 2) rfl (zlen hX.2.2.2.2.2.2.2.2.2.1 rfl) dX7_checksum_11 ?_
  refine lv_icmp_ge (tgt := 63) hx hb dX7_checksum_12 (by decide) (fun c12 => absurd c12 (by decide)) (fun _ => ?_)
  refine lv_iconst (v := 0) hx hb dX7_checksum_15 (by decide) ?_
  refine lv_istore (lv' := [(4, .int 0), (3, .int 0), (1, .long ((7 : Int32).toInt64)), (0, .ref (a 0))]) hx hb dX7_checksum_16 hl (by decide) rfl (fun ls hl => ?_)
  refine lv_iload hx hb dX7_checksum_18 (lv_at hl 0 rfl) ?_
  refine lv_aload_n hx hb dX7_checksum_20 rfl (lv_at hl 3 rfl) ?_
  refine g_Ph_captures (a := (a 0)) (v := (a 2)) C hw hX.1 in_X7 (by decide +kernel) hX.2.2.1 dX7_checksum_21 ?_
  refine lv_iload_n hx hb dX7_checksum_24 rfl (lv_at hl 1 rfl) ?_
  obtain ⟨c0, l0, eP0, hC0, eI0, eZ0⟩ := zX_c hX h0 (p := 0) (by decide)
  refine zald_P (a := (a 2)) (v := c0) C hw hX.2.2.2.2.2.2.2.2.1 (by decide) (t0 := 2) rfl rfl hX.2.2.2.2.2.2.2.2.2.1 (zin_of (N := 2) (by decide) (by grind) (by grind)) eP0 dX7_checksum_25 ?_
  refine g_Cap_count (a := c0) (v := 0) C hw hC0.1 in_X0 (by decide +kernel) eI0 dX7_checksum_26 ?_
  refine lv_icmp_ge (tgt := 57) hx hb dX7_checksum_29 (by decide) (fun _ => ?_) (fun c29 => absurd c29 (by decide))
  refine lv_iinc (v := 1) (lv' := [(3, .int 1), (4, .int 0), (1, .long ((7 : Int32).toInt64)), (0, .ref (a 0))]) hx hb dX7_checksum_57 hl (k := 1) rfl (by decide) (by decide) rfl (fun ls hl => ?_)
  refine lv_goto (tgt := 6) hx hb dX7_checksum_60 (by decide) ?_
  refine lv_iload_n hx hb dX7_checksum_6 rfl (lv_at hl 0 rfl) ?_
  refine lv_aload_n hx hb dX7_checksum_7 rfl (lv_at hl 3 rfl) ?_
  refine g_Ph_captures (a := (a 0)) (v := (a 2)) C hw hX.1 in_X7 (by decide +kernel) hX.2.2.1 dX7_checksum_8 ?_
  refine zalen (a := (a 2)) (v := 2) C hw hX.2.2.2.2.2.2.2.2.1 (by decide) (t0 := 2) rfl (zlen hX.2.2.2.2.2.2.2.2.2.1 rfl) dX7_checksum_11 ?_
  refine lv_icmp_ge (tgt := 63) hx hb dX7_checksum_12 (by decide) (fun c12 => absurd c12 (by decide)) (fun _ => ?_)
  refine lv_iconst (v := 0) hx hb dX7_checksum_15 (by decide) ?_
  refine lv_istore (lv' := [(4, .int 0), (3, .int 1), (1, .long ((7 : Int32).toInt64)), (0, .ref (a 0))]) hx hb dX7_checksum_16 hl (by decide) rfl (fun ls hl => ?_)
  refine lv_iload hx hb dX7_checksum_18 (lv_at hl 0 rfl) ?_
  refine lv_aload_n hx hb dX7_checksum_20 rfl (lv_at hl 3 rfl) ?_
  refine g_Ph_captures (a := (a 0)) (v := (a 2)) C hw hX.1 in_X7 (by decide +kernel) hX.2.2.1 dX7_checksum_21 ?_
  refine lv_iload_n hx hb dX7_checksum_24 rfl (lv_at hl 1 rfl) ?_
  obtain ⟨c1, l1, eP1, hC1, eI1, eZ1⟩ := zX_c hX h0 (p := 1) (by decide)
  refine zald_P (a := (a 2)) (v := c1) C hw hX.2.2.2.2.2.2.2.2.1 (by decide) (t0 := 2) rfl rfl hX.2.2.2.2.2.2.2.2.2.1 (zin_of (N := 2) (by decide) (by grind) (by grind)) eP1 dX7_checksum_25 ?_
  refine g_Cap_count (a := c1) (v := 0) C hw hC1.1 in_X0 (by decide +kernel) eI1 dX7_checksum_26 ?_
  refine lv_icmp_ge (tgt := 57) hx hb dX7_checksum_29 (by decide) (fun _ => ?_) (fun c29 => absurd c29 (by decide))
  refine lv_iinc (v := 2) (lv' := [(3, .int 2), (4, .int 0), (1, .long ((7 : Int32).toInt64)), (0, .ref (a 0))]) hx hb dX7_checksum_57 hl (k := 1) rfl (by decide) (by decide) rfl (fun ls hl => ?_)
  refine lv_goto (tgt := 6) hx hb dX7_checksum_60 (by decide) ?_
  refine lv_iload_n hx hb dX7_checksum_6 rfl (lv_at hl 0 rfl) ?_
  refine lv_aload_n hx hb dX7_checksum_7 rfl (lv_at hl 3 rfl) ?_
  refine g_Ph_captures (a := (a 0)) (v := (a 2)) C hw hX.1 in_X7 (by decide +kernel) hX.2.2.1 dX7_checksum_8 ?_
  refine zalen (a := (a 2)) (v := 2) C hw hX.2.2.2.2.2.2.2.2.1 (by decide) (t0 := 2) rfl (zlen hX.2.2.2.2.2.2.2.2.2.1 rfl) dX7_checksum_11 ?_
  refine lv_icmp_ge (tgt := 63) hx hb dX7_checksum_12 (by decide) (fun _ => ?_) (fun c12 => absurd c12 (by decide))
  refine lv_iconst (v := 0) hx hb dX7_checksum_63 (by decide) ?_
  refine lv_istore_n (lv' := [(3, .int 0), (4, .int 0), (1, .long ((7 : Int32).toInt64)), (0, .ref (a 0))]) hx hb dX7_checksum_64 rfl hl (by decide) rfl (fun ls hl => ?_)
  refine lv_iload_n hx hb dX7_checksum_65 rfl (lv_at hl 0 rfl) ?_
  refine lv_aload_n hx hb dX7_checksum_66 rfl (lv_at hl 3 rfl) ?_
  refine g_Ph_told (a := (a 0)) (v := (a 4)) C hw hX.1 in_X7 (by decide +kernel) hX.2.2.2.2.1 dX7_checksum_67 ?_
  refine g_Notes_count (a := (a 4)) (v := 0) C hw hX.2.2.2.2.2.2.2.2.2.2.1 in_X3 (by decide +kernel) h0.2.2.2.1 dX7_checksum_70 ?_
  refine lv_icmp_ge (tgt := 123) hx hb dX7_checksum_73 (by decide) (fun _ => ?_) (fun c73 => absurd c73 (by decide))
  refine lv_lload_n hx hb dX7_checksum_123 rfl (lv_at hl 2 rfl) ?_
  exact zrl C hw hr hlocks ⟨rfl, rfl⟩ ⟨Nat.le_of_ble_eq_true rfl, Nat.le_of_ble_eq_true rfl⟩ dX7_checksum_124

set_option maxHeartbeats 4000000 in
set_option maxRecDepth 100000 in
/-- X7_decodeSerial -/
theorem c_X7_decodeSerial_r (l : Launch) (hst : l.stackTraces = false) (D : va_G) (y : Nat → ClassId) (base : Nat) (S : zS) (a : Nat → Nat) (p0 : Int32) (p1 : Int32) (p2 : Int32) (p3 : Int32) (hX : zX S a) (h0 : zX0 S a) : zXi l yX7_decodeSerial wsX7_decodeSerial ({ frames := 7, cells := 4, slots := 24, locals := 112 }) [.ref (a 0), .int p0, .int p1, .int p2, .int p3] D y base S (fun (r : Int32) (S1 : zS) => r = 0 ∧ kd_decodeSerial p0 p1 p2 p3 = 0 ∧ S1 = zsI S 112 (a 4) 0) (fun (E : String) (S1 : zS) => ((E = "java/lang/IndexOutOfBoundsException" ∧ kd_decodeSerial p0 p1 p2 p3 = 1) ∨ (E = "java/lang/IllegalArgumentException" ∧ kd_decodeSerial p0 p1 p2 p3 = 2)) ∧ S1 = S) 4 24 := by
  refine zXet_of (cc := cX7_decodeSerial) (maxL := 8) (ret := (some .int)) (own := RX7) (by decide +kernel) rfl rfl (Nat.le_of_ble_eq_true rfl) ?_
  intro p e s m args below meth c ls C hr hlocks hx0 hw hl
  have hx := C.1
  have hb := C.2.1
  have hown := C.2.2.2.1
  have hts := C.2.2.2.2
  have hl : lv_has ls 8 [(0, .ref (a 0)), (1, .int p0), (2, .int p1), (3, .int p2), (4, .int p3)] := hl
  have in_X0 : ∀ w ∈ wsX00, w ∈ wsX7_decodeSerial := by decide +kernel
  have in_X3 : ∀ w ∈ wsX30, w ∈ wsX7_decodeSerial := by decide +kernel
  have in_X7 : ∀ w ∈ wsX70, w ∈ wsX7_decodeSerial := by decide +kernel
  refine lv_iload_n hx hb dX7_decodeSerial_0 rfl (lv_at hl 1 rfl) ?_
  refine zcS_xv (As := [.int p0]) (rest := []) (n9 := 1) C hw (c_X7_checkCapture l hst D y base S p0 ) gX7_decodeSerial_X7_checkCapture rfl (by decide +kernel) ⟨⟨rfl, rfl⟩, Nat.le_of_ble_eq_true rfl, Nat.le_of_ble_eq_true rfl⟩ rfl hl.1 rfl (Nat.le_of_ble_eq_true rfl) ⟨Nat.le_of_ble_eq_true rfl, Nat.le_of_ble_eq_true rfl⟩ dX7_decodeSerial_1 (fun E ce q9 S1 H locs hx1 hw h1 h2 h3 => zxout hw hx0 hlocks h1 h2 h3 (by obtain ⟨rfl, hc9, rfl⟩ := hx1; refine ⟨?_, rfl⟩; first | exact (Or.inl ⟨rfl, (by unfold kd_decodeSerial; grind)⟩) | exact (Or.inr ⟨rfl, (by unfold kd_decodeSerial; grind)⟩)) ⟨Nat.le_of_ble_eq_true rfl, Nat.le_of_ble_eq_true rfl⟩) (fun S1 H locs hp1 hw => ?_)
  obtain ⟨hp1, hS9⟩ := hp1
  have hS9 := hS9.symm
  subst hS9
  refine lv_iload_n hx hb dX7_decodeSerial_4 rfl (lv_at hl 2 rfl) ?_
  refine zcS_xv (As := [.int p1]) (rest := []) (n9 := 1) C hw (c_X7_checkWire l hst D y base S p1 ) gX7_decodeSerial_X7_checkWire rfl (by decide +kernel) ⟨⟨rfl, rfl⟩, Nat.le_of_ble_eq_true rfl, Nat.le_of_ble_eq_true rfl⟩ rfl hl.1 rfl (Nat.le_of_ble_eq_true rfl) ⟨Nat.le_of_ble_eq_true rfl, Nat.le_of_ble_eq_true rfl⟩ dX7_decodeSerial_5 (fun E ce q9 S5 H locs hx5 hw h1 h2 h3 => zxout hw hx0 hlocks h1 h2 h3 (by obtain ⟨rfl, hc9, rfl⟩ := hx5; refine ⟨?_, rfl⟩; first | exact (Or.inl ⟨rfl, (by unfold kd_decodeSerial; grind)⟩) | exact (Or.inr ⟨rfl, (by unfold kd_decodeSerial; grind)⟩)) ⟨Nat.le_of_ble_eq_true rfl, Nat.le_of_ble_eq_true rfl⟩) (fun S5 H locs hp5 hw => ?_)
  obtain ⟨hp5, hS9⟩ := hp5
  have hS9 := hS9.symm
  subst hS9
  refine lv_iload_n hx hb dX7_decodeSerial_8 rfl (lv_at hl 3 rfl) ?_
  refine lv_bipush (v := 10) hx hb dX7_decodeSerial_9 (by decide) ?_
  refine lv_sipush (v := 999) hx hb dX7_decodeSerial_11 (by decide) ?_
  refine zcS_xv (As := [.int p2, .int 10, .int 999]) (rest := []) (n9 := 3) C hw (c_X7_checkRange l hst D y base S p2 10 999 ) gX7_decodeSerial_X7_checkRange rfl (by decide +kernel) ⟨⟨rfl, rfl⟩, Nat.le_of_ble_eq_true rfl, Nat.le_of_ble_eq_true rfl⟩ rfl hl.1 rfl (Nat.le_of_ble_eq_true rfl) ⟨Nat.le_of_ble_eq_true rfl, Nat.le_of_ble_eq_true rfl⟩ dX7_decodeSerial_14 (fun E ce q9 S14 H locs hx14 hw h1 h2 h3 => zxout hw hx0 hlocks h1 h2 h3 (by obtain ⟨rfl, hc9, rfl⟩ := hx14; refine ⟨?_, rfl⟩; first | exact (Or.inl ⟨rfl, (by unfold kd_decodeSerial; grind)⟩) | exact (Or.inr ⟨rfl, (by unfold kd_decodeSerial; grind)⟩)) ⟨Nat.le_of_ble_eq_true rfl, Nat.le_of_ble_eq_true rfl⟩) (fun S14 H locs hp14 hw => ?_)
  obtain ⟨hp14, hS9⟩ := hp14
  have hS9 := hS9.symm
  subst hS9
  refine lv_iload hx hb dX7_decodeSerial_17 (lv_at hl 4 rfl) ?_
  refine zcS_xv (As := [.int p3]) (rest := []) (n9 := 1) C hw (c_X7_checkParity l hst D y base S p3 ) gX7_decodeSerial_X7_checkParity rfl (by decide +kernel) ⟨⟨rfl, rfl⟩, Nat.le_of_ble_eq_true rfl, Nat.le_of_ble_eq_true rfl⟩ rfl hl.1 rfl (Nat.le_of_ble_eq_true rfl) ⟨Nat.le_of_ble_eq_true rfl, Nat.le_of_ble_eq_true rfl⟩ dX7_decodeSerial_19 (fun E ce q9 S19 H locs hx19 hw h1 h2 h3 => zxout hw hx0 hlocks h1 h2 h3 (by obtain ⟨rfl, hc9, rfl⟩ := hx19; refine ⟨?_, rfl⟩; first | exact (Or.inl ⟨rfl, (by unfold kd_decodeSerial; grind)⟩) | exact (Or.inr ⟨rfl, (by unfold kd_decodeSerial; grind)⟩)) ⟨Nat.le_of_ble_eq_true rfl, Nat.le_of_ble_eq_true rfl⟩) (fun S19 H locs hp19 hw => ?_)
  obtain ⟨hp19, hS9⟩ := hp19
  have hS9 := hS9.symm
  subst hS9
  refine lv_aload_n hx hb dX7_decodeSerial_22 rfl (lv_at hl 0 rfl) ?_
  refine g_Ph_told (a := (a 0)) (v := (a 4)) C hw hX.1 in_X7 (by decide +kernel) hX.2.2.2.2.1 dX7_decodeSerial_23 ?_
  refine lv_iconst (v := 0) hx hb dX7_decodeSerial_26 (by decide) ?_
  refine p_Notes_count (a := (a 4)) (v := 0) C hw hX.2.2.2.2.2.2.2.2.2.2.1 in_X3 (by decide +kernel) dX7_decodeSerial_27 (fun H locs hw => ?_)
  refine lv_aload_n hx hb dX7_decodeSerial_30 rfl (lv_at hl 0 rfl) ?_
  refine g_Ph_captures (a := (a 0)) (v := (a 2)) C hw hX.1 in_X7 (by decide +kernel) hX.2.2.1 dX7_decodeSerial_31 ?_
  refine lv_iload_n hx hb dX7_decodeSerial_34 rfl (lv_at hl 1 rfl) ?_
  obtain ⟨c1, l1, eP1, hC1, eI1, eZ1⟩ := zX_c hX h0 (p := p0) hp1
  refine zald_P (a := (a 2)) (v := c1) C hw hX.2.2.2.2.2.2.2.2.1 (by decide) (t0 := 2) rfl rfl hX.2.2.2.2.2.2.2.2.2.1 (zin_of (N := 2) (by decide) (by grind) (by grind)) eP1 dX7_decodeSerial_35 ?_
  refine lv_astore (lv' := [(5, .ref c1), (0, .ref (a 0)), (1, .int p0), (2, .int p1), (3, .int p2), (4, .int p3)]) hx hb dX7_decodeSerial_36 hl (by decide) rfl (fun ls hl => ?_)
  refine lv_iconst (v := 1) hx hb dX7_decodeSerial_38 (by decide) ?_
  refine lv_istore (lv' := [(6, .int 1), (5, .ref c1), (0, .ref (a 0)), (1, .int p0), (2, .int p1), (3, .int p2), (4, .int p3)]) hx hb dX7_decodeSerial_39 hl (by decide) rfl (fun ls hl => ?_)
  refine lv_iconst (v := 1) hx hb dX7_decodeSerial_41 (by decide) ?_
  refine lv_istore (lv' := [(7, .int 1), (6, .int 1), (5, .ref c1), (0, .ref (a 0)), (1, .int p0), (2, .int p1), (3, .int p2), (4, .int p3)]) hx hb dX7_decodeSerial_42 hl (by decide) rfl (fun ls hl => ?_)
  refine lv_iload hx hb dX7_decodeSerial_44 (lv_at hl 0 rfl) ?_
  refine lv_aload hx hb dX7_decodeSerial_46 (lv_at hl 2 rfl) ?_
  refine g_Cap_count (a := c1) (v := 0) C hw hC1.1 in_X0 (by decide +kernel) eI1 dX7_decodeSerial_48 ?_
  refine lv_icmp_ge (tgt := 92) hx hb dX7_decodeSerial_51 (by decide) (fun _ => ?_) (fun c51 => absurd c51 (by decide))
  refine lv_aload_n hx hb dX7_decodeSerial_92 rfl (lv_at hl 3 rfl) ?_
  refine g_Ph_told (a := (a 0)) (v := (a 4)) C hw hX.1 in_X7 (by decide +kernel) hX.2.2.2.2.1 dX7_decodeSerial_93 ?_
  refine g_Notes_count (a := (a 4)) (v := 0) C hw hX.2.2.2.2.2.2.2.2.2.2.1 in_X3 (by decide +kernel) (zI_s S 112 (a 4) 0) dX7_decodeSerial_96 ?_
  exact vx_ret (zri C hw hr hlocks rfl ⟨rfl, (by unfold kd_decodeSerial; grind), rfl⟩ ⟨Nat.le_of_ble_eq_true rfl, Nat.le_of_ble_eq_true rfl⟩ dX7_decodeSerial_99)

