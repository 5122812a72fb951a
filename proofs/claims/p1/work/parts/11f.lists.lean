set_option maxHeartbeats 4000000 in
set_option maxRecDepth 100000 in
/-- Jxd2413_init_da8c8 -/
theorem c_Jxd2413_init_da8c8 (l : Launch) (D : va_G) (y : Nat → ClassId) (base : Nat) (S : zS) (x0 : Nat)  : zMv l yJxd2413_init_da8c8 wsJxd2413_init_da8c8 ({ frames := 1, cells := 0, slots := 0, locals := 12 }) [.ref x0] D y base S (fun (S1 : zS) => S1 = S) 0 0 := by
  refine zMet_of (cc := cJxd2413_init_da8c8) (maxL := 1) (ret := none) (own := RJxd2413) (by decide +kernel) rfl rfl (Nat.le_of_ble_eq_true rfl) ?_
  intro p e s m args below meth c ls C hr hlocks hnm hw hl
  have hx := C.1
  have hb := C.2.1
  have hown := C.2.2.2.1
  have hts := C.2.2.2.2
  have hl : lv_has ls 1 [(0, .ref x0)] := hl
  refine lv_aload_n hx hb dJxd2413_init_da8c8_0 rfl (lv_at hl 0 rfl) ?_
  refine W.objInit hx hb hown (hts (.methodLink RJxd2413 1 objectInit) (by decide +kernel)) (hts (.instanceMethod objectInit) (by decide +kernel)) (hts (.code objectInit ⟨#[0xb1]⟩ 1 none) (by decide +kernel)) rfl (by rw [C.2.2.1]; exact hl.1) rfl dJxd2413_init_da8c8_1 (Nat.le_of_ble_eq_true rfl) (Nat.le_of_ble_eq_true rfl) ?_
  refine W.eq (g2 := F0 m 4 ls []) rfl ?_
  exact zrv C hw hr hlocks rfl ⟨Nat.le_of_ble_eq_true rfl, Nat.le_of_ble_eq_true rfl⟩ dJxd2413_init_da8c8_4

set_option maxHeartbeats 4000000 in
set_option maxRecDepth 100000 in
/-- Jxa1e45_init_da8c8 -/
theorem c_Jxa1e45_init_da8c8 (l : Launch) (D : va_G) (y : Nat → ClassId) (base : Nat) (S : zS) (x0 : Nat)  : zMv l yJxa1e45_init_da8c8 wsJxa1e45_init_da8c8 ({ frames := 1, cells := 0, slots := 0, locals := 12 }) [.ref x0] D y base S (fun (S1 : zS) => S1 = S) 0 0 := by
  refine zMet_of (cc := cJxa1e45_init_da8c8) (maxL := 1) (ret := none) (own := RJxa1e45) (by decide +kernel) rfl rfl (Nat.le_of_ble_eq_true rfl) ?_
  intro p e s m args below meth c ls C hr hlocks hnm hw hl
  have hx := C.1
  have hb := C.2.1
  have hown := C.2.2.2.1
  have hts := C.2.2.2.2
  have hl : lv_has ls 1 [(0, .ref x0)] := hl
  refine lv_aload_n hx hb dJxa1e45_init_da8c8_0 rfl (lv_at hl 0 rfl) ?_
  refine W.objInit hx hb hown (hts (.methodLink RJxa1e45 1 objectInit) (by decide +kernel)) (hts (.instanceMethod objectInit) (by decide +kernel)) (hts (.code objectInit ⟨#[0xb1]⟩ 1 none) (by decide +kernel)) rfl (by rw [C.2.2.1]; exact hl.1) rfl dJxa1e45_init_da8c8_1 (Nat.le_of_ble_eq_true rfl) (Nat.le_of_ble_eq_true rfl) ?_
  refine W.eq (g2 := F0 m 4 ls []) rfl ?_
  exact zrv C hw hr hlocks rfl ⟨Nat.le_of_ble_eq_true rfl, Nat.le_of_ble_eq_true rfl⟩ dJxa1e45_init_da8c8_4

set_option maxHeartbeats 4000000 in
set_option maxRecDepth 100000 in
/-- Jxc12de_init_da8c8 -/
theorem c_Jxc12de_init_da8c8 (l : Launch) (D : va_G) (y : Nat → ClassId) (base : Nat) (S : zS) (x0 : Nat) (hk : zK S x0 = 3) : zMv l yJxc12de_init_da8c8 wsJxc12de_init_da8c8 ({ frames := 2, cells := 0, slots := 0, locals := 32 }) [.ref x0] D y base S (fun (S1 : zS) => S1 = zsI S 48 x0 0) 0 0 := by
  refine zMet_of (cc := cJxc12de_init_da8c8) (maxL := 1) (ret := none) (own := RJxc12de) (by decide +kernel) rfl rfl (Nat.le_of_ble_eq_true rfl) ?_
  intro p e s m args below meth c ls C hr hlocks hnm hw hl
  have hx := C.1
  have hb := C.2.1
  have hown := C.2.2.2.1
  have hts := C.2.2.2.2
  have hl : lv_has ls 1 [(0, .ref x0)] := hl
  have in_Jx4a65c : ∀ w ∈ wsJx4a65c0, w ∈ wsJxc12de_init_da8c8 := by decide +kernel
  refine lv_aload_n hx hb dJxc12de_init_da8c8_0 rfl (lv_at hl 0 rfl) ?_
  refine zcI_v (As := []) (rest := []) (n9 := 0) (b := x0) C hw (c_Jxa1e45_init_da8c8 l D y base S x0 ) gJxc12de_init_da8c8_Jxa1e45_init_da8c8 rfl (by decide +kernel) (by decide +kernel) (by decide +kernel) rfl (by decide +kernel) ⟨⟨rfl, rfl⟩, Nat.le_of_ble_eq_true rfl, Nat.le_of_ble_eq_true rfl⟩ rfl hl.1 rfl (Nat.le_of_ble_eq_true rfl) ⟨Nat.le_of_ble_eq_true rfl, Nat.le_of_ble_eq_true rfl⟩ dJxc12de_init_da8c8_1 (fun S1 H locs hp1 hw => ?_)
  have hS9 := hp1
  have hS9 := hS9.symm
  subst hS9
  refine lv_aload_n hx hb dJxc12de_init_da8c8_4 rfl (lv_at hl 0 rfl) ?_
  refine lv_iconst (v := 0) hx hb dJxc12de_init_da8c8_5 (by decide) ?_
  refine p_AList_modCount (a := x0) (v := 0) C hw hk in_Jx4a65c (ref := "java/util/AbstractList") (by decide +kernel) (fun _ h => h) dJxc12de_init_da8c8_6 (fun H locs hw => ?_)
  exact zrv C hw hr hlocks rfl ⟨Nat.le_of_ble_eq_true rfl, Nat.le_of_ble_eq_true rfl⟩ dJxc12de_init_da8c8_9

set_option maxHeartbeats 4000000 in
set_option maxRecDepth 100000 in
/-- Jx4a65c_init_da8c8 -/
theorem c_Jx4a65c_init_da8c8 (l : Launch) (D : va_G) (y : Nat → ClassId) (base : Nat) (S : zS) (x0 : Nat) (hk : zK S x0 = 3) : zMv l yJx4a65c_init_da8c8 wsJx4a65c_init_da8c8 ({ frames := 3, cells := 0, slots := 0, locals := 52 }) [.ref x0] D y base S (fun (S1 : zS) => S1 = zsQ (zsI S 48 x0 0) 49 x0 (some (y 92))) 0 0 := by
  refine zMet_of (cc := cJx4a65c_init_da8c8) (maxL := 1) (ret := none) (own := RJx4a65c) (by decide +kernel) rfl rfl (Nat.le_of_ble_eq_true rfl) ?_
  intro p e s m args below meth c ls C hr hlocks hnm hw hl
  have hx := C.1
  have hb := C.2.1
  have hown := C.2.2.2.1
  have hts := C.2.2.2.2
  have hl : lv_has ls 1 [(0, .ref x0)] := hl
  have in_Jx4a65c : ∀ w ∈ wsJx4a65c0, w ∈ wsJx4a65c_init_da8c8 := by decide +kernel
  refine lv_aload_n hx hb dJx4a65c_init_da8c8_0 rfl (lv_at hl 0 rfl) ?_
  refine zcI_v (As := []) (rest := []) (n9 := 0) (b := x0) C hw (c_Jxc12de_init_da8c8 l D y base S x0 hk) gJx4a65c_init_da8c8_Jxc12de_init_da8c8 rfl (by decide +kernel) (by decide +kernel) (by decide +kernel) rfl (by decide +kernel) ⟨⟨rfl, rfl⟩, Nat.le_of_ble_eq_true rfl, Nat.le_of_ble_eq_true rfl⟩ rfl hl.1 rfl (Nat.le_of_ble_eq_true rfl) ⟨Nat.le_of_ble_eq_true rfl, Nat.le_of_ble_eq_true rfl⟩ dJx4a65c_init_da8c8_1 (fun S1 H locs hp1 hw => ?_)
  obtain rfl := hp1
  refine lv_aload_n hx hb dJx4a65c_init_da8c8_4 rfl (lv_at hl 0 rfl) ?_
  refine zgetE C hw (by decide +kernel) dJx4a65c_init_da8c8_5 ?_
  refine p_AList_elementData (a := x0) (v := (y 92)) C hw hk in_Jx4a65c (by decide +kernel) dJx4a65c_init_da8c8_8 (fun H locs hw => ?_)
  exact zrv C hw hr hlocks rfl ⟨Nat.le_of_ble_eq_true rfl, Nat.le_of_ble_eq_true rfl⟩ dJx4a65c_init_da8c8_11

set_option maxHeartbeats 4000000 in
set_option maxRecDepth 100000 in
/-- X11_runsOf -/
theorem c_X11_runsOf (l : Launch) (D : va_G) (y : Nat → ClassId) (base : Nat) (S : zS) (b : Nat → Nat) (p0 : Int32) (p1 : Int32) (hM : zMd S b) (hp : 0 ≤ p0 ∧ p0 ≤ 1) : zMr l yX11_runsOf wsX11_runsOf ({ frames := 4, cells := 1, slots := 3, locals := 72 }) [.ref (b 0), .int p0, .int p1] D y base S (fun (r : Nat) (S1 : zS) => zK S1 r = 3 ∧ zI S1 50 r = 0 ∧ zCls S S1) 1 3 := by
  refine zMet_of (cc := cX11_runsOf) (maxL := 6) (ret := (some (.object "java/util/ArrayList"))) (own := RX11) (by decide +kernel) rfl rfl (Nat.le_of_ble_eq_true rfl) ?_
  intro p e s m args below meth c ls C hr hlocks hnm hw hl
  have hx := C.1
  have hb := C.2.1
  have hown := C.2.2.2.1
  have hts := C.2.2.2.2
  have hl : lv_has ls 6 [(0, .ref (b 0)), (1, .int p0), (2, .int p1)] := hl
  have in_Jx4a65c : ∀ w ∈ wsJx4a65c0, w ∈ wsX11_runsOf := by decide +kernel
  have in_X11 : ∀ w ∈ wsX110, w ∈ wsX11_runsOf := by decide +kernel
  refine znew (k := 3) (Cn := RJx4a65c) (T := TJx4a65c) (N := 3) C hw (by decide) (by decide) rfl in_Jx4a65c tyJx4a65c tyJx4a65c_ok (by decide +kernel) (by decide +kernel) (by decide +kernel) (zdfJx4a65c) (Nat.le_of_ble_eq_true rfl) (Nat.le_of_ble_eq_true rfl) dX11_runsOf_0 (fun q0 H kq0 hw => ?_)
  refine lv_dup hx hb dX11_runsOf_3 rfl ?_
  refine zcI_v (As := []) (rest := [.ref q0]) (n9 := 0) (b := q0) C hw (c_Jx4a65c_init_da8c8 l D y base (znO S q0 3) q0 (zK_nOs _ _ _)) gX11_runsOf_Jx4a65c_init_da8c8 rfl (by decide +kernel) (by decide +kernel) (by decide +kernel) rfl (by decide +kernel) ⟨⟨rfl, rfl⟩, Nat.le_of_ble_eq_true rfl, Nat.le_of_ble_eq_true rfl⟩ rfl hl.1 rfl (Nat.le_of_ble_eq_true rfl) ⟨Nat.le_of_ble_eq_true rfl, Nat.le_of_ble_eq_true rfl⟩ dX11_runsOf_4 (fun S4 H locs hp4 hw => ?_)
  obtain rfl := hp4
  refine lv_astore_n (lv' := [(3, .ref q0), (0, .ref (b 0)), (1, .int p0), (2, .int p1)]) hx hb dX11_runsOf_7 rfl hl (by decide) rfl (fun ls hl => ?_)
  refine lv_iconst (v := 0) hx hb dX11_runsOf_8 (by decide) ?_
  refine lv_istore (lv' := [(4, .int 0), (3, .ref q0), (0, .ref (b 0)), (1, .int p0), (2, .int p1)]) hx hb dX11_runsOf_9 hl (by decide) rfl (fun ls hl => ?_)
  refine lv_iload hx hb dX11_runsOf_11 (lv_at hl 0 rfl) ?_
  refine lv_aload_n hx hb dX11_runsOf_13 rfl (lv_at hl 2 rfl) ?_
  refine g_Mod_samples (a := (b 0)) (v := (b 3)) C hw (zK_nO (k := 3) (zne kq0 (fun e9 => absurd (Eq.trans (Eq.symm hM.1) e9) (by decide))) hM.1) in_X11 (by decide +kernel) (zQ_t (S := (zsI (znO S q0 3) 48 q0 0)) (t := 49) (a := q0) (v := some (y 92)) (t' := 246) (a' := (b 0)) (u := some (b 3)) (by decide) (zQ_nO (k := 3) (zne kq0 (fun e9 => absurd (Eq.trans (Eq.symm hM.1) e9) (by decide))) hM.2.2.2.1)) dX11_runsOf_14 ?_
  refine lv_iload_n hx hb dX11_runsOf_17 rfl (lv_at hl 3 rfl) ?_
  obtain ⟨w1, eP1, kW1, nW1⟩ := zMd_s hM (p := p0) hp
  refine zald_P (a := (b 3)) (v := w1) C hw (zK_nO (k := 3) (zne kq0 (fun e9 => absurd (Eq.trans (Eq.symm hM.2.2.2.2.2.2.2.2.2.2.2.1) e9) (by decide))) hM.2.2.2.2.2.2.2.2.2.2.2.1) (by decide) (t0 := 7) rfl rfl hM.2.2.2.2.2.2.2.2.2.2.2.2.1 (zin_of (N := 2) (by decide) (by grind) (by grind)) eP1 dX11_runsOf_18 ?_
  refine zalen (a := w1) (v := 0) C hw (zK_nO (k := 3) (zne kq0 (fun e9 => absurd (Eq.trans (Eq.symm kW1) e9) (by decide))) kW1) (by decide) (t0 := 1) rfl (zlen nW1 rfl) dX11_runsOf_19 ?_
  refine lv_icmp_ge (tgt := 96) hx hb dX11_runsOf_20 (by decide) (fun _ => ?_) (fun c20 => absurd c20 (by decide))
  refine lv_aload_n hx hb dX11_runsOf_96 rfl (lv_at hl 1 rfl) ?_
  exact zrr C hw hr (Or.inl ⟨_, rfl⟩) hlocks ⟨(zK_nOs S q0 3), (show zI (zsI (znO S q0 3) 48 q0 0) 50 q0 = 0 from zI_t (by decide) (zI_nOs _ _ _ _)), zCls.gv (v := q0) ((zGv.nO kq0).tr (zGv.I.tr zGv.Q)) kq0⟩ ⟨Nat.le_of_ble_eq_true rfl, Nat.le_of_ble_eq_true rfl⟩ dX11_runsOf_97

