set_option maxHeartbeats 4000000 in
set_option maxRecDepth 100000 in
/-- Jx4a65c_clear_da8c8 -/
theorem c_Jx4a65c_clear_da8c8 (l : Launch) (D : va_G) (y : Nat → ClassId) (base : Nat) (S : zS) (x0 : Nat) (e0 : Nat) (hk : zK S x0 = 3) (h50 : zI S 50 x0 = 0) (he : zQ S 49 x0 = some e0) : zMv l yJx4a65c_clear_da8c8 wsJx4a65c_clear_da8c8 ({ frames := 0, cells := 0, slots := 0, locals := 0 }) [.ref x0] D y base S (fun (S1 : zS) => ∃ v, S1 = zsI (zsI S 48 x0 v) 50 x0 0) 0 0 := by
  refine zMet_of (cc := cJx4a65c_clear_da8c8) (maxL := 4) (ret := none) (own := RJx4a65c) (by decide +kernel) rfl rfl (Nat.le_of_ble_eq_true rfl) ?_
  intro p e s m args below meth c ls C hr hlocks hnm hw hl
  have hx := C.1
  have hb := C.2.1
  have hown := C.2.2.2.1
  have hts := C.2.2.2.2
  have hl : lv_has ls 4 [(0, .ref x0)] := hl
  have in_Jx4a65c : ∀ w ∈ wsJx4a65c0, w ∈ wsJx4a65c_clear_da8c8 := by decide +kernel
  refine lv_aload_n hx hb dJx4a65c_clear_da8c8_0 rfl (lv_at hl 0 rfl) ?_
  refine lv_dup hx hb dJx4a65c_clear_da8c8_1 rfl ?_
  refine g_AList_modCount (a := x0) (v := (zI S 48 x0)) C hw hk in_Jx4a65c (ref := "java/util/ArrayList") (by decide +kernel) (u_same (hts (.sameField "java/util/ArrayList" "java/util/AbstractList" "modCount" "I") (by decide +kernel))) rfl dJx4a65c_clear_da8c8_2 ?_
  refine lv_iconst (v := 1) hx hb dJx4a65c_clear_da8c8_5 (by decide) ?_
  refine lv_iadd hx hb dJx4a65c_clear_da8c8_6 ?_
  refine lv_topi (fun x7 ex7 => ?_)
  refine p_AList_modCount (a := x0) (v := x7) C hw hk in_Jx4a65c (ref := "java/util/ArrayList") (by decide +kernel) (u_same (hts (.sameField "java/util/ArrayList" "java/util/AbstractList" "modCount" "I") (by decide +kernel))) dJx4a65c_clear_da8c8_7 (fun H locs hw => ?_)
  refine lv_aload_n hx hb dJx4a65c_clear_da8c8_10 rfl (lv_at hl 0 rfl) ?_
  refine g_AList_elementData (a := x0) (v := e0) C hw hk in_Jx4a65c (by decide +kernel) he dJx4a65c_clear_da8c8_11 ?_
  refine lv_astore_n (lv' := [(1, .ref e0), (0, .ref x0)]) hx hb dJx4a65c_clear_da8c8_14 rfl hl (by decide) rfl (fun ls hl => ?_)
  refine lv_aload_n hx hb dJx4a65c_clear_da8c8_15 rfl (lv_at hl 1 rfl) ?_
  refine g_AList_size (a := x0) (v := 0) C hw hk in_Jx4a65c (by decide +kernel) (zI_t (S := S) (t := 48) (a := x0) (v := x7) (t' := 50) (a' := x0) (u := 0) (by decide) h50) dJx4a65c_clear_da8c8_16 ?_
  refine lv_istore_n (lv' := [(2, .int 0), (1, .ref e0), (0, .ref x0)]) hx hb dJx4a65c_clear_da8c8_19 rfl hl (by decide) rfl (fun ls hl => ?_)
  refine lv_aload_n hx hb dJx4a65c_clear_da8c8_20 rfl (lv_at hl 2 rfl) ?_
  refine lv_iconst (v := 0) hx hb dJx4a65c_clear_da8c8_21 (by decide) ?_
  refine lv_dup_x1 hx hb dJx4a65c_clear_da8c8_22 rfl rfl ?_
  refine p_AList_size (a := x0) (v := 0) C hw hk in_Jx4a65c (by decide +kernel) dJx4a65c_clear_da8c8_23 (fun H locs hw => ?_)
  refine lv_istore_n (lv' := [(3, .int 0), (2, .int 0), (1, .ref e0), (0, .ref x0)]) hx hb dJx4a65c_clear_da8c8_26 rfl hl (by decide) rfl (fun ls hl => ?_)
  refine lv_iload_n hx hb dJx4a65c_clear_da8c8_27 rfl (lv_at hl 0 rfl) ?_
  refine lv_iload_n hx hb dJx4a65c_clear_da8c8_28 rfl (lv_at hl 1 rfl) ?_
  refine lv_icmp_ge (tgt := 42) hx hb dJx4a65c_clear_da8c8_29 (by decide) (fun _ => ?_) (fun c29 => absurd c29 (by decide))
  exact zrv C hw hr hlocks ⟨_, rfl⟩ ⟨Nat.le_of_ble_eq_true rfl, Nat.le_of_ble_eq_true rfl⟩ dJx4a65c_clear_da8c8_42

set_option maxHeartbeats 4000000 in
set_option maxRecDepth 100000 in
/-- X11_isParity -/
theorem c_X11_isParity (l : Launch) (D : va_G) (y : Nat → ClassId) (base : Nat) (S : zS) (p0 : Int32)  : zMi l yX11_isParity wsX11_isParity ({ frames := 0, cells := 0, slots := 0, locals := 0 }) [.int p0] D y base S (fun (r : Int32) (S1 : zS) => r = zb (p0 = 110 ∨ p0 = 101 ∨ p0 = 111) ∧ S1 = S) 0 0 := by
  refine zMet_of (cc := cX11_isParity) (maxL := 1) (ret := (some .boolean)) (own := RX11) (by decide +kernel) rfl rfl (Nat.le_of_ble_eq_true rfl) ?_
  intro p e s m args below meth c ls C hr hlocks hnm hw hl
  have hx := C.1
  have hb := C.2.1
  have hown := C.2.2.2.1
  have hts := C.2.2.2.2
  have hl : lv_has ls 1 [(0, .int p0)] := hl
  refine lv_iload_n hx hb dX11_isParity_0 rfl (lv_at hl 0 rfl) ?_
  refine lv_bipush (v := 110) hx hb dX11_isParity_1 (by decide) ?_
  refine lv_icmp_eq (tgt := 18) hx hb dX11_isParity_3 (by decide) (fun c3 => ?_) (fun c3 => ?_)
  · refine lv_iconst (v := 1) hx hb dX11_isParity_18 (by decide) ?_
    refine lv_goto (tgt := 23) hx hb dX11_isParity_19 (by decide) ?_
    exact zri C hw hr hlocks (by decide) ⟨zb_t (by grind), rfl⟩ ⟨Nat.le_of_ble_eq_true rfl, Nat.le_of_ble_eq_true rfl⟩ dX11_isParity_23
  · refine lv_iload_n hx hb dX11_isParity_6 rfl (lv_at hl 0 rfl) ?_
    refine lv_bipush (v := 101) hx hb dX11_isParity_7 (by decide) ?_
    refine lv_icmp_eq (tgt := 18) hx hb dX11_isParity_9 (by decide) (fun c9 => ?_) (fun c9 => ?_)
    · refine lv_iconst (v := 1) hx hb dX11_isParity_18 (by decide) ?_
      refine lv_goto (tgt := 23) hx hb dX11_isParity_19 (by decide) ?_
      exact zri C hw hr hlocks (by decide) ⟨zb_t (by grind), rfl⟩ ⟨Nat.le_of_ble_eq_true rfl, Nat.le_of_ble_eq_true rfl⟩ dX11_isParity_23
    · refine lv_iload_n hx hb dX11_isParity_12 rfl (lv_at hl 0 rfl) ?_
      refine lv_bipush (v := 111) hx hb dX11_isParity_13 (by decide) ?_
      refine lv_icmp_ne (tgt := 22) hx hb dX11_isParity_15 (by decide) (fun c15 => ?_) (fun c15 => ?_)
      · refine lv_iconst (v := 0) hx hb dX11_isParity_22 (by decide) ?_
        exact zri C hw hr hlocks (by decide) ⟨zb_f (by grind), rfl⟩ ⟨Nat.le_of_ble_eq_true rfl, Nat.le_of_ble_eq_true rfl⟩ dX11_isParity_23
      · refine lv_iconst (v := 1) hx hb dX11_isParity_18 (by decide) ?_
        refine lv_goto (tgt := 23) hx hb dX11_isParity_19 (by decide) ?_
        exact zri C hw hr hlocks (by decide) ⟨zb_t (by grind), rfl⟩ ⟨Nat.le_of_ble_eq_true rfl, Nat.le_of_ble_eq_true rfl⟩ dX11_isParity_23

set_option maxHeartbeats 4000000 in
set_option maxRecDepth 100000 in
/-- X11_reset -/
theorem c_X11_reset (l : Launch) (D : va_G) (y : Nat → ClassId) (base : Nat) (S : zS) (b : Nat → Nat) (hM : zMd S b) (hM0 : zMd0 S b) (hE : zMdE S b) : zMi l yX11_reset wsX11_reset ({ frames := 1, cells := 0, slots := 0, locals := 23 }) [.ref (b 0)] D y base S (fun (r : Int32) (S1 : zS) => zK S1 (b 0) = 15 ∧ r = 0) 0 0 := by
  refine zMet_of (cc := cX11_reset) (maxL := 2) (ret := (some .int)) (own := RX11) (by decide +kernel) rfl rfl (Nat.le_of_ble_eq_true rfl) ?_
  intro p e s m args below meth c ls C hr hlocks hnm hw hl
  have hx := C.1
  have hb := C.2.1
  have hown := C.2.2.2.1
  have hts := C.2.2.2.2
  have hl : lv_has ls 2 [(0, .ref (b 0))] := hl
  have in_X11 : ∀ w ∈ wsX110, w ∈ wsX11_reset := by decide +kernel
  obtain ⟨⟨e4, hE4⟩, e5, hE5⟩ := hE
  refine lv_aload_n hx hb dX11_reset_0 rfl (lv_at hl 0 rfl) ?_
  refine lv_iconst (v := 0) hx hb dX11_reset_1 (by decide) ?_
  refine p_Mod_thrown (a := (b 0)) (v := 0) C hw hM.1 in_X11 (by decide +kernel) dX11_reset_2 (fun H locs hw => ?_)
  refine lv_aload_n hx hb dX11_reset_5 rfl (lv_at hl 0 rfl) ?_
  refine g_Mod_steps (a := (b 0)) (v := (b 4)) C hw hM.1 in_X11 (by decide +kernel) hM.2.2.2.2.1 dX11_reset_6 ?_
  refine zcV_i (As := []) (rest := []) (n9 := 0) (b := (b 4)) C hw (c_Jx4a65c_size_8abf5 l D y base (zsI S 240 (b 0) 0) (b 4) hM.2.2.2.2.2.2.2.2.2.2.2.2.2.1 (zI_t (S := S) (t := 240) (a := (b 0)) (v := 0) (t' := 50) (a' := (b 4)) (u := 0) (by decide) hM0.2.2.2.1)) gX11_reset_Jx4a65c_size_8abf5 rfl (by decide +kernel) ⟨⟨rfl, rfl⟩, Nat.le_of_ble_eq_true rfl, Nat.le_of_ble_eq_true rfl⟩ hM.2.2.2.2.2.2.2.2.2.2.2.2.2.1 ⟨by decide, by decide⟩ rfl rfl hl.1 rfl (Nat.le_of_ble_eq_true rfl) ⟨Nat.le_of_ble_eq_true rfl, Nat.le_of_ble_eq_true rfl⟩ dX11_reset_9 (fun r9 S9 H locs hp9 hw => ?_)
  obtain ⟨rfl, hS9⟩ := hp9
  have hS9 := hS9.symm
  subst hS9
  refine lv_istore_n (lv' := [(1, .int 0), (0, .ref (b 0))]) hx hb dX11_reset_12 rfl hl (by decide) rfl (fun ls hl => ?_)
  refine lv_aload_n hx hb dX11_reset_13 rfl (lv_at hl 1 rfl) ?_
  refine g_Mod_steps (a := (b 0)) (v := (b 4)) C hw hM.1 in_X11 (by decide +kernel) hM.2.2.2.2.1 dX11_reset_14 ?_
  refine zcV_v (As := []) (rest := []) (n9 := 0) (b := (b 4)) C hw (c_Jx4a65c_clear_da8c8 l D y base (zsI S 240 (b 0) 0) (b 4) e4 hM.2.2.2.2.2.2.2.2.2.2.2.2.2.1 (zI_t (by decide) hM0.2.2.2.1) hE4) gX11_reset_Jx4a65c_clear_da8c8 rfl (by decide +kernel) ⟨⟨rfl, rfl⟩, Nat.le_of_ble_eq_true rfl, Nat.le_of_ble_eq_true rfl⟩ hM.2.2.2.2.2.2.2.2.2.2.2.2.2.1 ⟨by decide, by decide⟩ rfl rfl hl.1 rfl (Nat.le_of_ble_eq_true rfl) ⟨Nat.le_of_ble_eq_true rfl, Nat.le_of_ble_eq_true rfl⟩ dX11_reset_17 (fun S17 H locs hp17 hw => ?_)
  obtain ⟨v17, rfl⟩ := hp17
  refine lv_iload_n hx hb dX11_reset_20 rfl (lv_at hl 0 rfl) ?_
  exact zri C hw hr hlocks rfl ⟨hM.1, (by first | rfl | exact rfl | ((try unfold zb); grind))⟩ ⟨Nat.le_of_ble_eq_true rfl, Nat.le_of_ble_eq_true rfl⟩ dX11_reset_21

set_option maxHeartbeats 4000000 in
set_option maxRecDepth 100000 in
/-- X11_decodeSerial -/
theorem c_X11_decodeSerial (l : Launch) (D : va_G) (y : Nat → ClassId) (base : Nat) (S : zS) (b : Nat → Nat) (p0 : Int32) (p1 : Int32) (p2 : Int32) (p3 : Int32) (hM : zMd S b) (hM0 : zMd0 S b) (hE : zMdE S b) : zMi l yX11_decodeSerial wsX11_decodeSerial ({ frames := 3, cells := 0, slots := 0, locals := 67 }) [.ref (b 0), .int p0, .int p1, .int p2, .int p3] D y base S (fun (r : Int32) (S1 : zS) => zK S1 (b 0) = 15 ∧ zI S1 240 (b 0) = kd_decodeSerial p0 p1 p2 p3 ∧ (kd_decodeSerial p0 p1 p2 p3 = 0 → r = 0)) 0 0 := by
  refine zMet_of (cc := cX11_decodeSerial) (maxL := 14) (ret := (some .int)) (own := RX11) (by decide +kernel) rfl rfl (Nat.le_of_ble_eq_true rfl) ?_
  intro p e s m args below meth c ls C hr hlocks hnm hw hl
  have hx := C.1
  have hb := C.2.1
  have hown := C.2.2.2.1
  have hts := C.2.2.2.2
  have hl : lv_has ls 14 [(0, .ref (b 0)), (1, .int p0), (2, .int p1), (3, .int p2), (4, .int p3)] := hl
  have in_X11 : ∀ w ∈ wsX110, w ∈ wsX11_decodeSerial := by decide +kernel
  obtain ⟨⟨e4, hE4⟩, e5, hE5⟩ := hE
  refine lv_aload_n hx hb dX11_decodeSerial_0 rfl (lv_at hl 0 rfl) ?_
  refine lv_iload_n hx hb dX11_decodeSerial_1 rfl (lv_at hl 1 rfl) ?_
  refine lv_iload_n hx hb dX11_decodeSerial_2 rfl (lv_at hl 2 rfl) ?_
  refine zcV_i (As := [.int p0, .int p1]) (rest := []) (n9 := 2) (b := (b 0)) C hw (c_X11_noRow l D y base S (b 0) p0 p1 hM.1) gX11_decodeSerial_X11_noRow rfl (by decide +kernel) ⟨⟨rfl, rfl⟩, Nat.le_of_ble_eq_true rfl, Nat.le_of_ble_eq_true rfl⟩ hM.1 ⟨by decide, by decide⟩ rfl rfl hl.1 rfl (Nat.le_of_ble_eq_true rfl) ⟨Nat.le_of_ble_eq_true rfl, Nat.le_of_ble_eq_true rfl⟩ dX11_decodeSerial_3 (fun r3 S3 H locs hp3 hw => ?_)
  obtain ⟨rfl, rfl⟩ := hp3
  refine lv_if_eq (tgt := 11) hx hb dX11_decodeSerial_6 (by decide) (fun c6 => ?_) (fun c6 => ?_)
  · replace c6 := zb0.mp c6
    refine lv_aload_n hx hb dX11_decodeSerial_11 rfl (lv_at hl 0 rfl) ?_
    refine lv_iload_n hx hb dX11_decodeSerial_12 rfl (lv_at hl 3 rfl) ?_
    refine lv_i2l (v := p2.toInt64) hx hb dX11_decodeSerial_13 rfl ?_
    refine lv_ldc2 (own := RX11) (v := ((10 : Int32).toInt64)) hx hb hown (hts (.constantLong RX11 237 (10)) (by decide +kernel)) dX11_decodeSerial_14 ?_
    refine lv_ldc2 (own := RX11) (v := ((999 : Int32).toInt64)) hx hb hown (hts (.constantLong RX11 239 (999)) (by decide +kernel)) dX11_decodeSerial_17 ?_
    refine zcS_i (As := [.long (p2.toInt64), .long ((10 : Int32).toInt64), .long ((999 : Int32).toInt64)]) (rest := [.ref (b 0)]) (n9 := 3) C hw (c_X11_in l D y base (zsI S 240 (b 0) (zb (¬ ((0 ≤ p0 ∧ p0 ≤ 1) ∧ 0 ≤ p1 ∧ p1 ≤ 3)))) p2 (10 : Int32) (999 : Int32) ) gX11_decodeSerial_X11_in rfl (by decide +kernel) ⟨⟨rfl, rfl⟩, Nat.le_of_ble_eq_true rfl, Nat.le_of_ble_eq_true rfl⟩ rfl hl.1 rfl (Nat.le_of_ble_eq_true rfl) ⟨Nat.le_of_ble_eq_true rfl, Nat.le_of_ble_eq_true rfl⟩ dX11_decodeSerial_20 (fun r20 S20 H locs hp20 hw => ?_)
    obtain ⟨rfl, hS9⟩ := hp20
    have hS9 := hS9.symm
    subst hS9
    refine lv_if_eq (tgt := 38) hx hb dX11_decodeSerial_23 (by decide) (fun c23 => ?_) (fun c23 => ?_)
    · replace c23 := zb0.mp c23
      refine lv_iconst (v := 2) hx hb dX11_decodeSerial_38 (by decide) ?_
      refine p_Mod_thrown (a := (b 0)) (v := 2) C hw hM.1 in_X11 (by decide +kernel) dX11_decodeSerial_39 (fun H locs hw => ?_)
      refine lv_aload_n hx hb dX11_decodeSerial_42 rfl (lv_at hl 0 rfl) ?_
      refine g_Mod_thrown (a := (b 0)) (v := 2) C hw hM.1 in_X11 (by decide +kernel) (zI_s (zsI S 240 (b 0) (zb (¬ ((0 ≤ p0 ∧ p0 ≤ 1) ∧ 0 ≤ p1 ∧ p1 ≤ 3)))) 240 (b 0) 2) dX11_decodeSerial_43 ?_
      refine lv_if_le (tgt := 51) hx hb dX11_decodeSerial_46 (by decide) (fun c46 => absurd c46 (by decide)) (fun _ => ?_)
      refine lv_iconst (v := 0) hx hb dX11_decodeSerial_49 (by decide) ?_
      exact zri C hw hr hlocks rfl ⟨hM.1, ((zI_s (zsI S 240 (b 0) (zb (¬ ((0 ≤ p0 ∧ p0 ≤ 1) ∧ 0 ≤ p1 ∧ p1 ≤ 3)))) 240 (b 0) 2)).trans (by unfold kd_decodeSerial; (try unfold zb); grind), (fun h9 => by first | rfl | (revert h9; unfold kd_decodeSerial; (try unfold zb); grind))⟩ ⟨Nat.le_of_ble_eq_true rfl, Nat.le_of_ble_eq_true rfl⟩ dX11_decodeSerial_50
    · replace c23 := zb1.mp c23
      refine lv_iload hx hb dX11_decodeSerial_26 (lv_at hl 4 rfl) ?_
      refine zcS_i (As := [.int p3]) (rest := [.ref (b 0)]) (n9 := 1) C hw (c_X11_isParity l D y base (zsI S 240 (b 0) (zb (¬ ((0 ≤ p0 ∧ p0 ≤ 1) ∧ 0 ≤ p1 ∧ p1 ≤ 3)))) p3 ) gX11_decodeSerial_X11_isParity rfl (by decide +kernel) ⟨⟨rfl, rfl⟩, Nat.le_of_ble_eq_true rfl, Nat.le_of_ble_eq_true rfl⟩ rfl hl.1 rfl (Nat.le_of_ble_eq_true rfl) ⟨Nat.le_of_ble_eq_true rfl, Nat.le_of_ble_eq_true rfl⟩ dX11_decodeSerial_28 (fun r28 S28 H locs hp28 hw => ?_)
      obtain ⟨rfl, hS9⟩ := hp28
      have hS9 := hS9.symm
      subst hS9
      refine lv_if_eq (tgt := 38) hx hb dX11_decodeSerial_31 (by decide) (fun c31 => ?_) (fun c31 => ?_)
      · replace c31 := zb0.mp c31
        refine lv_iconst (v := 2) hx hb dX11_decodeSerial_38 (by decide) ?_
        refine p_Mod_thrown (a := (b 0)) (v := 2) C hw hM.1 in_X11 (by decide +kernel) dX11_decodeSerial_39 (fun H locs hw => ?_)
        refine lv_aload_n hx hb dX11_decodeSerial_42 rfl (lv_at hl 0 rfl) ?_
        refine g_Mod_thrown (a := (b 0)) (v := 2) C hw hM.1 in_X11 (by decide +kernel) (zI_s (zsI S 240 (b 0) (zb (¬ ((0 ≤ p0 ∧ p0 ≤ 1) ∧ 0 ≤ p1 ∧ p1 ≤ 3)))) 240 (b 0) 2) dX11_decodeSerial_43 ?_
        refine lv_if_le (tgt := 51) hx hb dX11_decodeSerial_46 (by decide) (fun c46 => absurd c46 (by decide)) (fun _ => ?_)
        refine lv_iconst (v := 0) hx hb dX11_decodeSerial_49 (by decide) ?_
        exact zri C hw hr hlocks rfl ⟨hM.1, ((zI_s (zsI S 240 (b 0) (zb (¬ ((0 ≤ p0 ∧ p0 ≤ 1) ∧ 0 ≤ p1 ∧ p1 ≤ 3)))) 240 (b 0) 2)).trans (by unfold kd_decodeSerial; (try unfold zb); grind), (fun h9 => by first | rfl | (revert h9; unfold kd_decodeSerial; (try unfold zb); grind))⟩ ⟨Nat.le_of_ble_eq_true rfl, Nat.le_of_ble_eq_true rfl⟩ dX11_decodeSerial_50
      · replace c31 := zb1.mp c31
        refine lv_iconst (v := 0) hx hb dX11_decodeSerial_34 (by decide) ?_
        refine lv_goto (tgt := 39) hx hb dX11_decodeSerial_35 (by decide) ?_
        refine p_Mod_thrown (a := (b 0)) (v := 0) C hw hM.1 in_X11 (by decide +kernel) dX11_decodeSerial_39 (fun H locs hw => ?_)
        refine lv_aload_n hx hb dX11_decodeSerial_42 rfl (lv_at hl 0 rfl) ?_
        refine g_Mod_thrown (a := (b 0)) (v := 0) C hw hM.1 in_X11 (by decide +kernel) (zI_s (zsI S 240 (b 0) (zb (¬ ((0 ≤ p0 ∧ p0 ≤ 1) ∧ 0 ≤ p1 ∧ p1 ≤ 3)))) 240 (b 0) 0) dX11_decodeSerial_43 ?_
        refine lv_if_le (tgt := 51) hx hb dX11_decodeSerial_46 (by decide) (fun _ => ?_) (fun c46 => absurd c46 (by decide))
        refine lv_aload_n hx hb dX11_decodeSerial_51 rfl (lv_at hl 0 rfl) ?_
        refine g_Mod_notes (a := (b 0)) (v := (b 5)) C hw hM.1 in_X11 (by decide +kernel) hM.2.2.2.2.2.1 dX11_decodeSerial_52 ?_
        refine zcV_v (As := []) (rest := []) (n9 := 0) (b := (b 5)) C hw (c_Jx4a65c_clear_da8c8 l D y base (zsI (zsI S 240 (b 0) (zb (¬ ((0 ≤ p0 ∧ p0 ≤ 1) ∧ 0 ≤ p1 ∧ p1 ≤ 3)))) 240 (b 0) 0) (b 5) e5 hM.2.2.2.2.2.2.2.2.2.2.2.2.2.2.1 (zI_t (by decide) (zI_t (by decide) hM0.2.2.2.2.1)) hE5) gX11_decodeSerial_Jx4a65c_clear_da8c8 rfl (by decide +kernel) ⟨⟨rfl, rfl⟩, Nat.le_of_ble_eq_true rfl, Nat.le_of_ble_eq_true rfl⟩ hM.2.2.2.2.2.2.2.2.2.2.2.2.2.2.1 ⟨by decide, by decide⟩ rfl rfl hl.1 rfl (Nat.le_of_ble_eq_true rfl) ⟨Nat.le_of_ble_eq_true rfl, Nat.le_of_ble_eq_true rfl⟩ dX11_decodeSerial_55 (fun S55 H locs hp55 hw => ?_)
        obtain ⟨v55, rfl⟩ := hp55
        refine lv_aload_n hx hb dX11_decodeSerial_58 rfl (lv_at hl 0 rfl) ?_
        refine g_Mod_samples (a := (b 0)) (v := (b 3)) C hw hM.1 in_X11 (by decide +kernel) hM.2.2.2.1 dX11_decodeSerial_59 ?_
        refine lv_iload_n hx hb dX11_decodeSerial_62 rfl (lv_at hl 1 rfl) ?_
        obtain ⟨w1, eP1, kW1, nW1⟩ := zMd_s hM (p := p0) (by first | assumption | grind)
        refine zald_P (a := (b 3)) (v := w1) C hw hM.2.2.2.2.2.2.2.2.2.2.2.1 (by decide) (t0 := 7) rfl rfl hM.2.2.2.2.2.2.2.2.2.2.2.2.1 (zin_of (N := 2) (by decide) (by grind) (by grind)) eP1 dX11_decodeSerial_63 ?_
        refine zalen (a := w1) (v := 0) C hw kW1 (by decide) (t0 := 1) rfl (zlen nW1 rfl) dX11_decodeSerial_64 ?_
        refine lv_istore (lv' := [(5, .int 0), (0, .ref (b 0)), (1, .int p0), (2, .int p1), (3, .int p2), (4, .int p3)]) hx hb dX11_decodeSerial_65 hl (by decide) rfl (fun ls hl => ?_)
        refine lv_iload hx hb dX11_decodeSerial_67 (lv_at hl 5 rfl) ?_
        refine lv_bipush (v := 110) hx hb dX11_decodeSerial_69 (by decide) ?_
        refine lv_icmp_ne (tgt := 79) hx hb dX11_decodeSerial_71 (by decide) (fun c71 => ?_) (fun c71 => ?_)
        · refine lv_bipush (v := 11) hx hb dX11_decodeSerial_79 (by decide) ?_
          refine lv_istore (lv' := [(6, .int 11), (5, .int 0), (0, .ref (b 0)), (1, .int p0), (2, .int p1), (3, .int p2), (4, .int p3)]) hx hb dX11_decodeSerial_81 hl (by decide) rfl (fun ls hl => ?_)
          refine lv_iconst (v := 1) hx hb dX11_decodeSerial_83 (by decide) ?_
          refine lv_istore (lv' := [(7, .int 1), (6, .int 11), (5, .int 0), (0, .ref (b 0)), (1, .int p0), (2, .int p1), (3, .int p2), (4, .int p3)]) hx hb dX11_decodeSerial_84 hl (by decide) rfl (fun ls hl => ?_)
          refine lv_iload hx hb dX11_decodeSerial_86 (lv_at hl 0 rfl) ?_
          refine lv_iload hx hb dX11_decodeSerial_88 (lv_at hl 2 rfl) ?_
          refine lv_icmp_ge (tgt := 326) hx hb dX11_decodeSerial_90 (by decide) (fun _ => ?_) (fun c90 => absurd c90 (by decide))
          refine lv_aload_n hx hb dX11_decodeSerial_326 rfl (lv_at hl 3 rfl) ?_
          refine g_Mod_notes (a := (b 0)) (v := (b 5)) C hw hM.1 in_X11 (by decide +kernel) hM.2.2.2.2.2.1 dX11_decodeSerial_327 ?_
          refine zcV_i (As := []) (rest := []) (n9 := 0) (b := (b 5)) C hw (c_Jx4a65c_size_8abf5 l D y base (zsI (zsI (zsI (zsI S 240 (b 0) (zb (¬ ((0 ≤ p0 ∧ p0 ≤ 1) ∧ 0 ≤ p1 ∧ p1 ≤ 3)))) 240 (b 0) 0) 48 (b 5) v55) 50 (b 5) 0) (b 5) hM.2.2.2.2.2.2.2.2.2.2.2.2.2.2.1 (zI_s (zsI (zsI (zsI S 240 (b 0) (zb (¬ ((0 ≤ p0 ∧ p0 ≤ 1) ∧ 0 ≤ p1 ∧ p1 ≤ 3)))) 240 (b 0) 0) 48 (b 5) v55) 50 (b 5) 0)) gX11_decodeSerial_Jx4a65c_size_8abf5 rfl (by decide +kernel) ⟨⟨rfl, rfl⟩, Nat.le_of_ble_eq_true rfl, Nat.le_of_ble_eq_true rfl⟩ hM.2.2.2.2.2.2.2.2.2.2.2.2.2.2.1 ⟨by decide, by decide⟩ rfl rfl hl.1 rfl (Nat.le_of_ble_eq_true rfl) ⟨Nat.le_of_ble_eq_true rfl, Nat.le_of_ble_eq_true rfl⟩ dX11_decodeSerial_330 (fun r330 S330 H locs hp330 hw => ?_)
          obtain ⟨rfl, hS9⟩ := hp330
          have hS9 := hS9.symm
          subst hS9
          exact zri C hw hr hlocks rfl ⟨hM.1, ((zI_t (S := (zsI (zsI (zsI S 240 (b 0) (zb (¬ ((0 ≤ p0 ∧ p0 ≤ 1) ∧ 0 ≤ p1 ∧ p1 ≤ 3)))) 240 (b 0) 0) 48 (b 5) v55)) (t := 50) (a := (b 5)) (v := 0) (t' := 240) (a' := (b 0)) (u := 0) (by decide) (zI_t (S := (zsI (zsI S 240 (b 0) (zb (¬ ((0 ≤ p0 ∧ p0 ≤ 1) ∧ 0 ≤ p1 ∧ p1 ≤ 3)))) 240 (b 0) 0)) (t := 48) (a := (b 5)) (v := v55) (t' := 240) (a' := (b 0)) (u := 0) (by decide) (zI_s (zsI S 240 (b 0) (zb (¬ ((0 ≤ p0 ∧ p0 ≤ 1) ∧ 0 ≤ p1 ∧ p1 ≤ 3)))) 240 (b 0) 0)))).trans (by unfold kd_decodeSerial; (try unfold zb); grind), (fun h9 => by first | rfl | (revert h9; unfold kd_decodeSerial; (try unfold zb); grind))⟩ ⟨Nat.le_of_ble_eq_true rfl, Nat.le_of_ble_eq_true rfl⟩ dX11_decodeSerial_333
        · refine lv_bipush (v := 10) hx hb dX11_decodeSerial_74 (by decide) ?_
          refine lv_goto (tgt := 81) hx hb dX11_decodeSerial_76 (by decide) ?_
          refine lv_istore (lv' := [(6, .int 10), (5, .int 0), (0, .ref (b 0)), (1, .int p0), (2, .int p1), (3, .int p2), (4, .int p3)]) hx hb dX11_decodeSerial_81 hl (by decide) rfl (fun ls hl => ?_)
          refine lv_iconst (v := 1) hx hb dX11_decodeSerial_83 (by decide) ?_
          refine lv_istore (lv' := [(7, .int 1), (6, .int 10), (5, .int 0), (0, .ref (b 0)), (1, .int p0), (2, .int p1), (3, .int p2), (4, .int p3)]) hx hb dX11_decodeSerial_84 hl (by decide) rfl (fun ls hl => ?_)
          refine lv_iload hx hb dX11_decodeSerial_86 (lv_at hl 0 rfl) ?_
          refine lv_iload hx hb dX11_decodeSerial_88 (lv_at hl 2 rfl) ?_
          refine lv_icmp_ge (tgt := 326) hx hb dX11_decodeSerial_90 (by decide) (fun _ => ?_) (fun c90 => absurd c90 (by decide))
          refine lv_aload_n hx hb dX11_decodeSerial_326 rfl (lv_at hl 3 rfl) ?_
          refine g_Mod_notes (a := (b 0)) (v := (b 5)) C hw hM.1 in_X11 (by decide +kernel) hM.2.2.2.2.2.1 dX11_decodeSerial_327 ?_
          refine zcV_i (As := []) (rest := []) (n9 := 0) (b := (b 5)) C hw (c_Jx4a65c_size_8abf5 l D y base (zsI (zsI (zsI (zsI S 240 (b 0) (zb (¬ ((0 ≤ p0 ∧ p0 ≤ 1) ∧ 0 ≤ p1 ∧ p1 ≤ 3)))) 240 (b 0) 0) 48 (b 5) v55) 50 (b 5) 0) (b 5) hM.2.2.2.2.2.2.2.2.2.2.2.2.2.2.1 (zI_s (zsI (zsI (zsI S 240 (b 0) (zb (¬ ((0 ≤ p0 ∧ p0 ≤ 1) ∧ 0 ≤ p1 ∧ p1 ≤ 3)))) 240 (b 0) 0) 48 (b 5) v55) 50 (b 5) 0)) gX11_decodeSerial_Jx4a65c_size_8abf5 rfl (by decide +kernel) ⟨⟨rfl, rfl⟩, Nat.le_of_ble_eq_true rfl, Nat.le_of_ble_eq_true rfl⟩ hM.2.2.2.2.2.2.2.2.2.2.2.2.2.2.1 ⟨by decide, by decide⟩ rfl rfl hl.1 rfl (Nat.le_of_ble_eq_true rfl) ⟨Nat.le_of_ble_eq_true rfl, Nat.le_of_ble_eq_true rfl⟩ dX11_decodeSerial_330 (fun r330 S330 H locs hp330 hw => ?_)
          obtain ⟨rfl, hS9⟩ := hp330
          have hS9 := hS9.symm
          subst hS9
          exact zri C hw hr hlocks rfl ⟨hM.1, ((zI_t (S := (zsI (zsI (zsI S 240 (b 0) (zb (¬ ((0 ≤ p0 ∧ p0 ≤ 1) ∧ 0 ≤ p1 ∧ p1 ≤ 3)))) 240 (b 0) 0) 48 (b 5) v55)) (t := 50) (a := (b 5)) (v := 0) (t' := 240) (a' := (b 0)) (u := 0) (by decide) (zI_t (S := (zsI (zsI S 240 (b 0) (zb (¬ ((0 ≤ p0 ∧ p0 ≤ 1) ∧ 0 ≤ p1 ∧ p1 ≤ 3)))) 240 (b 0) 0)) (t := 48) (a := (b 5)) (v := v55) (t' := 240) (a' := (b 0)) (u := 0) (by decide) (zI_s (zsI S 240 (b 0) (zb (¬ ((0 ≤ p0 ∧ p0 ≤ 1) ∧ 0 ≤ p1 ∧ p1 ≤ 3)))) 240 (b 0) 0)))).trans (by unfold kd_decodeSerial; (try unfold zb); grind), (fun h9 => by first | rfl | (revert h9; unfold kd_decodeSerial; (try unfold zb); grind))⟩ ⟨Nat.le_of_ble_eq_true rfl, Nat.le_of_ble_eq_true rfl⟩ dX11_decodeSerial_333
  · replace c6 := zb1.mp c6
    refine lv_iconst (v := 0) hx hb dX11_decodeSerial_9 (by decide) ?_
    exact zri C hw hr hlocks rfl ⟨hM.1, ((zI_s S 240 (b 0) (zb (¬ ((0 ≤ p0 ∧ p0 ≤ 1) ∧ 0 ≤ p1 ∧ p1 ≤ 3))))).trans (by unfold kd_decodeSerial; (try unfold zb); grind), (fun h9 => by first | rfl | (revert h9; unfold kd_decodeSerial; (try unfold zb); grind))⟩ ⟨Nat.le_of_ble_eq_true rfl, Nat.le_of_ble_eq_true rfl⟩ dX11_decodeSerial_10

set_option maxHeartbeats 4000000 in
set_option maxRecDepth 100000 in
/-- X11_decodeTwo -/
theorem c_X11_decodeTwo (l : Launch) (D : va_G) (y : Nat → ClassId) (base : Nat) (S : zS) (b : Nat → Nat) (p0 : Int32) (p1 : Int32) (p2 : Int32) (hM : zMd S b) (hM0 : zMd0 S b) (hE : zMdE S b) : zMi l yX11_decodeTwo wsX11_decodeTwo ({ frames := 2, cells := 0, slots := 0, locals := 45 }) [.ref (b 0), .int p0, .int p1, .int p2] D y base S (fun (r : Int32) (S1 : zS) => zK S1 (b 0) = 15 ∧ zI S1 240 (b 0) = kd_decodeTwo p0 p1 p2 ∧ (kd_decodeTwo p0 p1 p2 = 0 → r = 0)) 0 0 := by
  refine zMet_of (cc := cX11_decodeTwo) (maxL := 15) (ret := (some .int)) (own := RX11) (by decide +kernel) rfl rfl (Nat.le_of_ble_eq_true rfl) ?_
  intro p e s m args below meth c ls C hr hlocks hnm hw hl
  have hx := C.1
  have hb := C.2.1
  have hown := C.2.2.2.1
  have hts := C.2.2.2.2
  have hl : lv_has ls 15 [(0, .ref (b 0)), (1, .int p0), (2, .int p1), (3, .int p2)] := hl
  have in_X11 : ∀ w ∈ wsX110, w ∈ wsX11_decodeTwo := by decide +kernel
  obtain ⟨⟨e4, hE4⟩, e5, hE5⟩ := hE
  refine lv_aload_n hx hb dX11_decodeTwo_0 rfl (lv_at hl 0 rfl) ?_
  refine lv_iload_n hx hb dX11_decodeTwo_1 rfl (lv_at hl 1 rfl) ?_
  refine lv_i2l (v := p0.toInt64) hx hb dX11_decodeTwo_2 rfl ?_
  refine lv_lconst (v := ((0 : Int32).toInt64)) hx hb dX11_decodeTwo_3 (by decide) ?_
  refine lv_lconst (v := ((1 : Int32).toInt64)) hx hb dX11_decodeTwo_4 (by decide) ?_
  refine zcS_i (As := [.long (p0.toInt64), .long ((0 : Int32).toInt64), .long ((1 : Int32).toInt64)]) (rest := [.ref (b 0)]) (n9 := 3) C hw (c_X11_in l D y base S p0 (0 : Int32) (1 : Int32) ) gX11_decodeTwo_X11_in rfl (by decide +kernel) ⟨⟨rfl, rfl⟩, Nat.le_of_ble_eq_true rfl, Nat.le_of_ble_eq_true rfl⟩ rfl hl.1 rfl (Nat.le_of_ble_eq_true rfl) ⟨Nat.le_of_ble_eq_true rfl, Nat.le_of_ble_eq_true rfl⟩ dX11_decodeTwo_5 (fun r5 S5 H locs hp5 hw => ?_)
  obtain ⟨rfl, hS9⟩ := hp5
  have hS9 := hS9.symm
  subst hS9
  refine lv_if_eq (tgt := 29) hx hb dX11_decodeTwo_8 (by decide) (fun c8 => ?_) (fun c8 => ?_)
  · replace c8 := zb0.mp c8
    refine lv_iconst (v := 1) hx hb dX11_decodeTwo_29 (by decide) ?_
    refine p_Mod_thrown (a := (b 0)) (v := 1) C hw hM.1 in_X11 (by decide +kernel) dX11_decodeTwo_30 (fun H locs hw => ?_)
    refine lv_aload_n hx hb dX11_decodeTwo_33 rfl (lv_at hl 0 rfl) ?_
    refine g_Mod_thrown (a := (b 0)) (v := 1) C hw hM.1 in_X11 (by decide +kernel) (zI_s S 240 (b 0) 1) dX11_decodeTwo_34 ?_
    refine lv_if_le (tgt := 42) hx hb dX11_decodeTwo_37 (by decide) (fun c37 => absurd c37 (by decide)) (fun _ => ?_)
    refine lv_iconst (v := 0) hx hb dX11_decodeTwo_40 (by decide) ?_
    exact zri C hw hr hlocks rfl ⟨hM.1, ((zI_s S 240 (b 0) 1)).trans (by unfold kd_decodeTwo; (try unfold zb); grind), (fun h9 => by first | rfl | (revert h9; unfold kd_decodeTwo; (try unfold zb); grind))⟩ ⟨Nat.le_of_ble_eq_true rfl, Nat.le_of_ble_eq_true rfl⟩ dX11_decodeTwo_41
  · replace c8 := zb1.mp c8
    refine lv_iload_n hx hb dX11_decodeTwo_11 rfl (lv_at hl 2 rfl) ?_
    refine zcS_i (As := [.int p1]) (rest := [.ref (b 0)]) (n9 := 1) C hw (c_X11_isWire l D y base S p1 ) gX11_decodeTwo_X11_isWire rfl (by decide +kernel) ⟨⟨rfl, rfl⟩, Nat.le_of_ble_eq_true rfl, Nat.le_of_ble_eq_true rfl⟩ rfl hl.1 rfl (Nat.le_of_ble_eq_true rfl) ⟨Nat.le_of_ble_eq_true rfl, Nat.le_of_ble_eq_true rfl⟩ dX11_decodeTwo_12 (fun r12 S12 H locs hp12 hw => ?_)
    obtain ⟨rfl, hS9⟩ := hp12
    have hS9 := hS9.symm
    subst hS9
    refine lv_if_eq (tgt := 29) hx hb dX11_decodeTwo_15 (by decide) (fun c15 => ?_) (fun c15 => ?_)
    · replace c15 := zb0.mp c15
      refine lv_iconst (v := 1) hx hb dX11_decodeTwo_29 (by decide) ?_
      refine p_Mod_thrown (a := (b 0)) (v := 1) C hw hM.1 in_X11 (by decide +kernel) dX11_decodeTwo_30 (fun H locs hw => ?_)
      refine lv_aload_n hx hb dX11_decodeTwo_33 rfl (lv_at hl 0 rfl) ?_
      refine g_Mod_thrown (a := (b 0)) (v := 1) C hw hM.1 in_X11 (by decide +kernel) (zI_s S 240 (b 0) 1) dX11_decodeTwo_34 ?_
      refine lv_if_le (tgt := 42) hx hb dX11_decodeTwo_37 (by decide) (fun c37 => absurd c37 (by decide)) (fun _ => ?_)
      refine lv_iconst (v := 0) hx hb dX11_decodeTwo_40 (by decide) ?_
      exact zri C hw hr hlocks rfl ⟨hM.1, ((zI_s S 240 (b 0) 1)).trans (by unfold kd_decodeTwo; (try unfold zb); grind), (fun h9 => by first | rfl | (revert h9; unfold kd_decodeTwo; (try unfold zb); grind))⟩ ⟨Nat.le_of_ble_eq_true rfl, Nat.le_of_ble_eq_true rfl⟩ dX11_decodeTwo_41
    · replace c15 := zb1.mp c15
      refine lv_iload_n hx hb dX11_decodeTwo_18 rfl (lv_at hl 3 rfl) ?_
      refine zcS_i (As := [.int p2]) (rest := [.ref (b 0)]) (n9 := 1) C hw (c_X11_isWire l D y base S p2 ) gX11_decodeTwo_X11_isWire rfl (by decide +kernel) ⟨⟨rfl, rfl⟩, Nat.le_of_ble_eq_true rfl, Nat.le_of_ble_eq_true rfl⟩ rfl hl.1 rfl (Nat.le_of_ble_eq_true rfl) ⟨Nat.le_of_ble_eq_true rfl, Nat.le_of_ble_eq_true rfl⟩ dX11_decodeTwo_19 (fun r19 S19 H locs hp19 hw => ?_)
      obtain ⟨rfl, hS9⟩ := hp19
      have hS9 := hS9.symm
      subst hS9
      refine lv_if_eq (tgt := 29) hx hb dX11_decodeTwo_22 (by decide) (fun c22 => ?_) (fun c22 => ?_)
      · replace c22 := zb0.mp c22
        refine lv_iconst (v := 1) hx hb dX11_decodeTwo_29 (by decide) ?_
        refine p_Mod_thrown (a := (b 0)) (v := 1) C hw hM.1 in_X11 (by decide +kernel) dX11_decodeTwo_30 (fun H locs hw => ?_)
        refine lv_aload_n hx hb dX11_decodeTwo_33 rfl (lv_at hl 0 rfl) ?_
        refine g_Mod_thrown (a := (b 0)) (v := 1) C hw hM.1 in_X11 (by decide +kernel) (zI_s S 240 (b 0) 1) dX11_decodeTwo_34 ?_
        refine lv_if_le (tgt := 42) hx hb dX11_decodeTwo_37 (by decide) (fun c37 => absurd c37 (by decide)) (fun _ => ?_)
        refine lv_iconst (v := 0) hx hb dX11_decodeTwo_40 (by decide) ?_
        exact zri C hw hr hlocks rfl ⟨hM.1, ((zI_s S 240 (b 0) 1)).trans (by unfold kd_decodeTwo; (try unfold zb); grind), (fun h9 => by first | rfl | (revert h9; unfold kd_decodeTwo; (try unfold zb); grind))⟩ ⟨Nat.le_of_ble_eq_true rfl, Nat.le_of_ble_eq_true rfl⟩ dX11_decodeTwo_41
      · replace c22 := zb1.mp c22
        refine lv_iconst (v := 0) hx hb dX11_decodeTwo_25 (by decide) ?_
        refine lv_goto (tgt := 30) hx hb dX11_decodeTwo_26 (by decide) ?_
        refine p_Mod_thrown (a := (b 0)) (v := 0) C hw hM.1 in_X11 (by decide +kernel) dX11_decodeTwo_30 (fun H locs hw => ?_)
        refine lv_aload_n hx hb dX11_decodeTwo_33 rfl (lv_at hl 0 rfl) ?_
        refine g_Mod_thrown (a := (b 0)) (v := 0) C hw hM.1 in_X11 (by decide +kernel) (zI_s S 240 (b 0) 0) dX11_decodeTwo_34 ?_
        refine lv_if_le (tgt := 42) hx hb dX11_decodeTwo_37 (by decide) (fun _ => ?_) (fun c37 => absurd c37 (by decide))
        refine lv_aload_n hx hb dX11_decodeTwo_42 rfl (lv_at hl 0 rfl) ?_
        refine lv_iload_n hx hb dX11_decodeTwo_43 rfl (lv_at hl 2 rfl) ?_
        refine lv_iload_n hx hb dX11_decodeTwo_44 rfl (lv_at hl 3 rfl) ?_
        refine lv_icmp_eq (tgt := 52) hx hb dX11_decodeTwo_45 (by decide) (fun c45 => ?_) (fun c45 => ?_)
        · refine lv_iconst (v := 2) hx hb dX11_decodeTwo_52 (by decide) ?_
          refine p_Mod_thrown (a := (b 0)) (v := 2) C hw hM.1 in_X11 (by decide +kernel) dX11_decodeTwo_53 (fun H locs hw => ?_)
          refine lv_aload_n hx hb dX11_decodeTwo_56 rfl (lv_at hl 0 rfl) ?_
          refine g_Mod_thrown (a := (b 0)) (v := 2) C hw hM.1 in_X11 (by decide +kernel) (zI_s (zsI S 240 (b 0) 0) 240 (b 0) 2) dX11_decodeTwo_57 ?_
          refine lv_if_le (tgt := 65) hx hb dX11_decodeTwo_60 (by decide) (fun c60 => absurd c60 (by decide)) (fun _ => ?_)
          refine lv_iconst (v := 0) hx hb dX11_decodeTwo_63 (by decide) ?_
          exact zri C hw hr hlocks rfl ⟨hM.1, ((zI_s (zsI S 240 (b 0) 0) 240 (b 0) 2)).trans (by unfold kd_decodeTwo; (try unfold zb); grind), (fun h9 => by first | rfl | (revert h9; unfold kd_decodeTwo; (try unfold zb); grind))⟩ ⟨Nat.le_of_ble_eq_true rfl, Nat.le_of_ble_eq_true rfl⟩ dX11_decodeTwo_64
        · refine lv_iconst (v := 0) hx hb dX11_decodeTwo_48 (by decide) ?_
          refine lv_goto (tgt := 53) hx hb dX11_decodeTwo_49 (by decide) ?_
          refine p_Mod_thrown (a := (b 0)) (v := 0) C hw hM.1 in_X11 (by decide +kernel) dX11_decodeTwo_53 (fun H locs hw => ?_)
          refine lv_aload_n hx hb dX11_decodeTwo_56 rfl (lv_at hl 0 rfl) ?_
          refine g_Mod_thrown (a := (b 0)) (v := 0) C hw hM.1 in_X11 (by decide +kernel) (zI_s (zsI S 240 (b 0) 0) 240 (b 0) 0) dX11_decodeTwo_57 ?_
          refine lv_if_le (tgt := 65) hx hb dX11_decodeTwo_60 (by decide) (fun _ => ?_) (fun c60 => absurd c60 (by decide))
          refine lv_aload_n hx hb dX11_decodeTwo_65 rfl (lv_at hl 0 rfl) ?_
          refine g_Mod_notes (a := (b 0)) (v := (b 5)) C hw hM.1 in_X11 (by decide +kernel) hM.2.2.2.2.2.1 dX11_decodeTwo_66 ?_
          refine zcV_v (As := []) (rest := []) (n9 := 0) (b := (b 5)) C hw (c_Jx4a65c_clear_da8c8 l D y base (zsI (zsI S 240 (b 0) 0) 240 (b 0) 0) (b 5) e5 hM.2.2.2.2.2.2.2.2.2.2.2.2.2.2.1 (zI_t (by decide) (zI_t (by decide) hM0.2.2.2.2.1)) hE5) gX11_decodeTwo_Jx4a65c_clear_da8c8 rfl (by decide +kernel) ⟨⟨rfl, rfl⟩, Nat.le_of_ble_eq_true rfl, Nat.le_of_ble_eq_true rfl⟩ hM.2.2.2.2.2.2.2.2.2.2.2.2.2.2.1 ⟨by decide, by decide⟩ rfl rfl hl.1 rfl (Nat.le_of_ble_eq_true rfl) ⟨Nat.le_of_ble_eq_true rfl, Nat.le_of_ble_eq_true rfl⟩ dX11_decodeTwo_69 (fun S69 H locs hp69 hw => ?_)
          obtain ⟨v69, rfl⟩ := hp69
          refine lv_iconst (v := 0) hx hb dX11_decodeTwo_72 (by decide) ?_
          refine lv_istore (lv' := [(4, .int 0), (0, .ref (b 0)), (1, .int p0), (2, .int p1), (3, .int p2)]) hx hb dX11_decodeTwo_73 hl (by decide) rfl (fun ls hl => ?_)
          refine lv_iconst (v := 0) hx hb dX11_decodeTwo_75 (by decide) ?_
          refine lv_istore (lv' := [(5, .int 0), (4, .int 0), (0, .ref (b 0)), (1, .int p0), (2, .int p1), (3, .int p2)]) hx hb dX11_decodeTwo_76 hl (by decide) rfl (fun ls hl => ?_)
          refine lv_iconst (v := 0) hx hb dX11_decodeTwo_78 (by decide) ?_
          refine lv_istore (lv' := [(6, .int 0), (5, .int 0), (4, .int 0), (0, .ref (b 0)), (1, .int p0), (2, .int p1), (3, .int p2)]) hx hb dX11_decodeTwo_79 hl (by decide) rfl (fun ls hl => ?_)
          refine lv_iconst (v := 0) hx hb dX11_decodeTwo_81 (by decide) ?_
          refine lv_istore (lv' := [(7, .int 0), (6, .int 0), (5, .int 0), (4, .int 0), (0, .ref (b 0)), (1, .int p0), (2, .int p1), (3, .int p2)]) hx hb dX11_decodeTwo_82 hl (by decide) rfl (fun ls hl => ?_)
          refine lv_iconst (v := 0) hx hb dX11_decodeTwo_84 (by decide) ?_
          refine lv_istore (lv' := [(8, .int 0), (7, .int 0), (6, .int 0), (5, .int 0), (4, .int 0), (0, .ref (b 0)), (1, .int p0), (2, .int p1), (3, .int p2)]) hx hb dX11_decodeTwo_85 hl (by decide) rfl (fun ls hl => ?_)
          refine lv_iconst (v := 0) hx hb dX11_decodeTwo_87 (by decide) ?_
          refine lv_istore (lv' := [(9, .int 0), (8, .int 0), (7, .int 0), (6, .int 0), (5, .int 0), (4, .int 0), (0, .ref (b 0)), (1, .int p0), (2, .int p1), (3, .int p2)]) hx hb dX11_decodeTwo_88 hl (by decide) rfl (fun ls hl => ?_)
          refine lv_iconst (v := 0) hx hb dX11_decodeTwo_90 (by decide) ?_
          refine lv_istore (lv' := [(10, .int 0), (9, .int 0), (8, .int 0), (7, .int 0), (6, .int 0), (5, .int 0), (4, .int 0), (0, .ref (b 0)), (1, .int p0), (2, .int p1), (3, .int p2)]) hx hb dX11_decodeTwo_91 hl (by decide) rfl (fun ls hl => ?_)
          refine lv_iconst (v := 1) hx hb dX11_decodeTwo_93 (by decide) ?_
          refine lv_istore (lv' := [(11, .int 1), (10, .int 0), (9, .int 0), (8, .int 0), (7, .int 0), (6, .int 0), (5, .int 0), (4, .int 0), (0, .ref (b 0)), (1, .int p0), (2, .int p1), (3, .int p2)]) hx hb dX11_decodeTwo_94 hl (by decide) rfl (fun ls hl => ?_)
          refine lv_iconst (v := 1) hx hb dX11_decodeTwo_96 (by decide) ?_
          refine lv_istore (lv' := [(12, .int 1), (11, .int 1), (10, .int 0), (9, .int 0), (8, .int 0), (7, .int 0), (6, .int 0), (5, .int 0), (4, .int 0), (0, .ref (b 0)), (1, .int p0), (2, .int p1), (3, .int p2)]) hx hb dX11_decodeTwo_97 hl (by decide) rfl (fun ls hl => ?_)
          refine lv_iload hx hb dX11_decodeTwo_99 (lv_at hl 0 rfl) ?_
          refine lv_aload_n hx hb dX11_decodeTwo_101 rfl (lv_at hl 9 rfl) ?_
          refine g_Mod_samples (a := (b 0)) (v := (b 3)) C hw hM.1 in_X11 (by decide +kernel) hM.2.2.2.1 dX11_decodeTwo_102 ?_
          refine lv_iload_n hx hb dX11_decodeTwo_105 rfl (lv_at hl 10 rfl) ?_
          obtain ⟨w1, eP1, kW1, nW1⟩ := zMd_s hM (p := p0) (by first | assumption | grind)
          refine zald_P (a := (b 3)) (v := w1) C hw hM.2.2.2.2.2.2.2.2.2.2.2.1 (by decide) (t0 := 7) rfl rfl hM.2.2.2.2.2.2.2.2.2.2.2.2.1 (zin_of (N := 2) (by decide) (by grind) (by grind)) eP1 dX11_decodeTwo_106 ?_
          refine zalen (a := w1) (v := 0) C hw kW1 (by decide) (t0 := 1) rfl (zlen nW1 rfl) dX11_decodeTwo_107 ?_
          refine lv_icmp_ge (tgt := 419) hx hb dX11_decodeTwo_108 (by decide) (fun _ => ?_) (fun c108 => absurd c108 (by decide))
          refine lv_aload_n hx hb dX11_decodeTwo_419 rfl (lv_at hl 9 rfl) ?_
          refine g_Mod_notes (a := (b 0)) (v := (b 5)) C hw hM.1 in_X11 (by decide +kernel) hM.2.2.2.2.2.1 dX11_decodeTwo_420 ?_
          refine zcV_i (As := []) (rest := []) (n9 := 0) (b := (b 5)) C hw (c_Jx4a65c_size_8abf5 l D y base (zsI (zsI (zsI (zsI S 240 (b 0) 0) 240 (b 0) 0) 48 (b 5) v69) 50 (b 5) 0) (b 5) hM.2.2.2.2.2.2.2.2.2.2.2.2.2.2.1 (zI_s (zsI (zsI (zsI S 240 (b 0) 0) 240 (b 0) 0) 48 (b 5) v69) 50 (b 5) 0)) gX11_decodeTwo_Jx4a65c_size_8abf5 rfl (by decide +kernel) ⟨⟨rfl, rfl⟩, Nat.le_of_ble_eq_true rfl, Nat.le_of_ble_eq_true rfl⟩ hM.2.2.2.2.2.2.2.2.2.2.2.2.2.2.1 ⟨by decide, by decide⟩ rfl rfl hl.1 rfl (Nat.le_of_ble_eq_true rfl) ⟨Nat.le_of_ble_eq_true rfl, Nat.le_of_ble_eq_true rfl⟩ dX11_decodeTwo_423 (fun r423 S423 H locs hp423 hw => ?_)
          obtain ⟨rfl, hS9⟩ := hp423
          have hS9 := hS9.symm
          subst hS9
          exact zri C hw hr hlocks rfl ⟨hM.1, ((zI_t (S := (zsI (zsI (zsI S 240 (b 0) 0) 240 (b 0) 0) 48 (b 5) v69)) (t := 50) (a := (b 5)) (v := 0) (t' := 240) (a' := (b 0)) (u := 0) (by decide) (zI_t (S := (zsI (zsI S 240 (b 0) 0) 240 (b 0) 0)) (t := 48) (a := (b 5)) (v := v69) (t' := 240) (a' := (b 0)) (u := 0) (by decide) (zI_s (zsI S 240 (b 0) 0) 240 (b 0) 0)))).trans (by unfold kd_decodeTwo; (try unfold zb); grind), (fun h9 => by first | rfl | (revert h9; unfold kd_decodeTwo; (try unfold zb); grind))⟩ ⟨Nat.le_of_ble_eq_true rfl, Nat.le_of_ble_eq_true rfl⟩ dX11_decodeTwo_426

set_option maxHeartbeats 4000000 in
set_option maxRecDepth 100000 in
/-- X11_decodeFour -/
theorem c_X11_decodeFour (l : Launch) (D : va_G) (y : Nat → ClassId) (base : Nat) (S : zS) (b : Nat → Nat) (p0 : Int32) (p1 : Int32) (p2 : Int32) (p3 : Int32) (p4 : Int32) (hM : zMd S b) (hM0 : zMd0 S b) (hE : zMdE S b) : zMi l yX11_decodeFour wsX11_decodeFour ({ frames := 2, cells := 0, slots := 0, locals := 45 }) [.ref (b 0), .int p0, .int p1, .int p2, .int p3, .int p4] D y base S (fun (r : Int32) (S1 : zS) => zK S1 (b 0) = 15 ∧ zI S1 240 (b 0) = kd_decodeFour p0 p1 p2 p3 p4 ∧ (kd_decodeFour p0 p1 p2 p3 p4 = 0 → r = 0)) 0 0 := by
  refine zMet_of (cc := cX11_decodeFour) (maxL := 13) (ret := (some .int)) (own := RX11) (by decide +kernel) rfl rfl (Nat.le_of_ble_eq_true rfl) ?_
  intro p e s m args below meth c ls C hr hlocks hnm hw hl
  have hx := C.1
  have hb := C.2.1
  have hown := C.2.2.2.1
  have hts := C.2.2.2.2
  have hl : lv_has ls 13 [(0, .ref (b 0)), (1, .int p0), (2, .int p1), (3, .int p2), (4, .int p3), (5, .int p4)] := hl
  have in_X11 : ∀ w ∈ wsX110, w ∈ wsX11_decodeFour := by decide +kernel
  obtain ⟨⟨e4, hE4⟩, e5, hE5⟩ := hE
  refine lv_aload_n hx hb dX11_decodeFour_0 rfl (lv_at hl 0 rfl) ?_
  refine lv_iload_n hx hb dX11_decodeFour_1 rfl (lv_at hl 1 rfl) ?_
  refine lv_i2l (v := p0.toInt64) hx hb dX11_decodeFour_2 rfl ?_
  refine lv_lconst (v := ((0 : Int32).toInt64)) hx hb dX11_decodeFour_3 (by decide) ?_
  refine lv_lconst (v := ((1 : Int32).toInt64)) hx hb dX11_decodeFour_4 (by decide) ?_
  refine zcS_i (As := [.long (p0.toInt64), .long ((0 : Int32).toInt64), .long ((1 : Int32).toInt64)]) (rest := [.ref (b 0)]) (n9 := 3) C hw (c_X11_in l D y base S p0 (0 : Int32) (1 : Int32) ) gX11_decodeFour_X11_in rfl (by decide +kernel) ⟨⟨rfl, rfl⟩, Nat.le_of_ble_eq_true rfl, Nat.le_of_ble_eq_true rfl⟩ rfl hl.1 rfl (Nat.le_of_ble_eq_true rfl) ⟨Nat.le_of_ble_eq_true rfl, Nat.le_of_ble_eq_true rfl⟩ dX11_decodeFour_5 (fun r5 S5 H locs hp5 hw => ?_)
  obtain ⟨rfl, hS9⟩ := hp5
  have hS9 := hS9.symm
  subst hS9
  refine lv_if_eq (tgt := 37) hx hb dX11_decodeFour_8 (by decide) (fun c8 => ?_) (fun c8 => ?_)
  · replace c8 := zb0.mp c8
    refine lv_iconst (v := 1) hx hb dX11_decodeFour_37 (by decide) ?_
    refine p_Mod_thrown (a := (b 0)) (v := 1) C hw hM.1 in_X11 (by decide +kernel) dX11_decodeFour_38 (fun H locs hw => ?_)
    refine lv_aload_n hx hb dX11_decodeFour_41 rfl (lv_at hl 0 rfl) ?_
    refine g_Mod_thrown (a := (b 0)) (v := 1) C hw hM.1 in_X11 (by decide +kernel) (zI_s S 240 (b 0) 1) dX11_decodeFour_42 ?_
    refine lv_if_le (tgt := 50) hx hb dX11_decodeFour_45 (by decide) (fun c45 => absurd c45 (by decide)) (fun _ => ?_)
    refine lv_iconst (v := 0) hx hb dX11_decodeFour_48 (by decide) ?_
    exact zri C hw hr hlocks rfl ⟨hM.1, ((zI_s S 240 (b 0) 1)).trans (by unfold kd_decodeFour; (try unfold zb); grind), (fun h9 => by first | rfl | (revert h9; unfold kd_decodeFour; (try unfold zb); grind))⟩ ⟨Nat.le_of_ble_eq_true rfl, Nat.le_of_ble_eq_true rfl⟩ dX11_decodeFour_49
  · replace c8 := zb1.mp c8
    refine lv_iload_n hx hb dX11_decodeFour_11 rfl (lv_at hl 2 rfl) ?_
    refine zcS_i (As := [.int p1]) (rest := [.ref (b 0)]) (n9 := 1) C hw (c_X11_isWire l D y base S p1 ) gX11_decodeFour_X11_isWire rfl (by decide +kernel) ⟨⟨rfl, rfl⟩, Nat.le_of_ble_eq_true rfl, Nat.le_of_ble_eq_true rfl⟩ rfl hl.1 rfl (Nat.le_of_ble_eq_true rfl) ⟨Nat.le_of_ble_eq_true rfl, Nat.le_of_ble_eq_true rfl⟩ dX11_decodeFour_12 (fun r12 S12 H locs hp12 hw => ?_)
    obtain ⟨rfl, hS9⟩ := hp12
    have hS9 := hS9.symm
    subst hS9
    refine lv_if_eq (tgt := 37) hx hb dX11_decodeFour_15 (by decide) (fun c15 => ?_) (fun c15 => ?_)
    · replace c15 := zb0.mp c15
      refine lv_iconst (v := 1) hx hb dX11_decodeFour_37 (by decide) ?_
      refine p_Mod_thrown (a := (b 0)) (v := 1) C hw hM.1 in_X11 (by decide +kernel) dX11_decodeFour_38 (fun H locs hw => ?_)
      refine lv_aload_n hx hb dX11_decodeFour_41 rfl (lv_at hl 0 rfl) ?_
      refine g_Mod_thrown (a := (b 0)) (v := 1) C hw hM.1 in_X11 (by decide +kernel) (zI_s S 240 (b 0) 1) dX11_decodeFour_42 ?_
      refine lv_if_le (tgt := 50) hx hb dX11_decodeFour_45 (by decide) (fun c45 => absurd c45 (by decide)) (fun _ => ?_)
      refine lv_iconst (v := 0) hx hb dX11_decodeFour_48 (by decide) ?_
      exact zri C hw hr hlocks rfl ⟨hM.1, ((zI_s S 240 (b 0) 1)).trans (by unfold kd_decodeFour; (try unfold zb); grind), (fun h9 => by first | rfl | (revert h9; unfold kd_decodeFour; (try unfold zb); grind))⟩ ⟨Nat.le_of_ble_eq_true rfl, Nat.le_of_ble_eq_true rfl⟩ dX11_decodeFour_49
    · replace c15 := zb1.mp c15
      refine lv_iload_n hx hb dX11_decodeFour_18 rfl (lv_at hl 3 rfl) ?_
      refine zcS_i (As := [.int p2]) (rest := [.ref (b 0)]) (n9 := 1) C hw (c_X11_isWire l D y base S p2 ) gX11_decodeFour_X11_isWire rfl (by decide +kernel) ⟨⟨rfl, rfl⟩, Nat.le_of_ble_eq_true rfl, Nat.le_of_ble_eq_true rfl⟩ rfl hl.1 rfl (Nat.le_of_ble_eq_true rfl) ⟨Nat.le_of_ble_eq_true rfl, Nat.le_of_ble_eq_true rfl⟩ dX11_decodeFour_19 (fun r19 S19 H locs hp19 hw => ?_)
      obtain ⟨rfl, hS9⟩ := hp19
      have hS9 := hS9.symm
      subst hS9
      refine lv_if_eq (tgt := 37) hx hb dX11_decodeFour_22 (by decide) (fun c22 => ?_) (fun c22 => ?_)
      · replace c22 := zb0.mp c22
        refine lv_iconst (v := 1) hx hb dX11_decodeFour_37 (by decide) ?_
        refine p_Mod_thrown (a := (b 0)) (v := 1) C hw hM.1 in_X11 (by decide +kernel) dX11_decodeFour_38 (fun H locs hw => ?_)
        refine lv_aload_n hx hb dX11_decodeFour_41 rfl (lv_at hl 0 rfl) ?_
        refine g_Mod_thrown (a := (b 0)) (v := 1) C hw hM.1 in_X11 (by decide +kernel) (zI_s S 240 (b 0) 1) dX11_decodeFour_42 ?_
        refine lv_if_le (tgt := 50) hx hb dX11_decodeFour_45 (by decide) (fun c45 => absurd c45 (by decide)) (fun _ => ?_)
        refine lv_iconst (v := 0) hx hb dX11_decodeFour_48 (by decide) ?_
        exact zri C hw hr hlocks rfl ⟨hM.1, ((zI_s S 240 (b 0) 1)).trans (by unfold kd_decodeFour; (try unfold zb); grind), (fun h9 => by first | rfl | (revert h9; unfold kd_decodeFour; (try unfold zb); grind))⟩ ⟨Nat.le_of_ble_eq_true rfl, Nat.le_of_ble_eq_true rfl⟩ dX11_decodeFour_49
      · replace c22 := zb1.mp c22
        refine lv_iload hx hb dX11_decodeFour_25 (lv_at hl 4 rfl) ?_
        refine zcS_i (As := [.int p3]) (rest := [.ref (b 0)]) (n9 := 1) C hw (c_X11_isWire l D y base S p3 ) gX11_decodeFour_X11_isWire rfl (by decide +kernel) ⟨⟨rfl, rfl⟩, Nat.le_of_ble_eq_true rfl, Nat.le_of_ble_eq_true rfl⟩ rfl hl.1 rfl (Nat.le_of_ble_eq_true rfl) ⟨Nat.le_of_ble_eq_true rfl, Nat.le_of_ble_eq_true rfl⟩ dX11_decodeFour_27 (fun r27 S27 H locs hp27 hw => ?_)
        obtain ⟨rfl, hS9⟩ := hp27
        have hS9 := hS9.symm
        subst hS9
        refine lv_if_eq (tgt := 37) hx hb dX11_decodeFour_30 (by decide) (fun c30 => ?_) (fun c30 => ?_)
        · replace c30 := zb0.mp c30
          refine lv_iconst (v := 1) hx hb dX11_decodeFour_37 (by decide) ?_
          refine p_Mod_thrown (a := (b 0)) (v := 1) C hw hM.1 in_X11 (by decide +kernel) dX11_decodeFour_38 (fun H locs hw => ?_)
          refine lv_aload_n hx hb dX11_decodeFour_41 rfl (lv_at hl 0 rfl) ?_
          refine g_Mod_thrown (a := (b 0)) (v := 1) C hw hM.1 in_X11 (by decide +kernel) (zI_s S 240 (b 0) 1) dX11_decodeFour_42 ?_
          refine lv_if_le (tgt := 50) hx hb dX11_decodeFour_45 (by decide) (fun c45 => absurd c45 (by decide)) (fun _ => ?_)
          refine lv_iconst (v := 0) hx hb dX11_decodeFour_48 (by decide) ?_
          exact zri C hw hr hlocks rfl ⟨hM.1, ((zI_s S 240 (b 0) 1)).trans (by unfold kd_decodeFour; (try unfold zb); grind), (fun h9 => by first | rfl | (revert h9; unfold kd_decodeFour; (try unfold zb); grind))⟩ ⟨Nat.le_of_ble_eq_true rfl, Nat.le_of_ble_eq_true rfl⟩ dX11_decodeFour_49
        · replace c30 := zb1.mp c30
          refine lv_iconst (v := 0) hx hb dX11_decodeFour_33 (by decide) ?_
          refine lv_goto (tgt := 38) hx hb dX11_decodeFour_34 (by decide) ?_
          refine p_Mod_thrown (a := (b 0)) (v := 0) C hw hM.1 in_X11 (by decide +kernel) dX11_decodeFour_38 (fun H locs hw => ?_)
          refine lv_aload_n hx hb dX11_decodeFour_41 rfl (lv_at hl 0 rfl) ?_
          refine g_Mod_thrown (a := (b 0)) (v := 0) C hw hM.1 in_X11 (by decide +kernel) (zI_s S 240 (b 0) 0) dX11_decodeFour_42 ?_
          refine lv_if_le (tgt := 50) hx hb dX11_decodeFour_45 (by decide) (fun _ => ?_) (fun c45 => absurd c45 (by decide))
          refine lv_iload_n hx hb dX11_decodeFour_50 rfl (lv_at hl 2 rfl) ?_
          refine lv_iload_n hx hb dX11_decodeFour_51 rfl (lv_at hl 3 rfl) ?_
          refine lv_icmp_eq (tgt := 71) hx hb dX11_decodeFour_52 (by decide) (fun c52 => ?_) (fun c52 => ?_)
          · refine lv_iconst (v := 0) hx hb dX11_decodeFour_71 (by decide) ?_
            refine lv_istore (lv' := [(6, .int 0), (0, .ref (b 0)), (1, .int p0), (2, .int p1), (3, .int p2), (4, .int p3), (5, .int p4)]) hx hb dX11_decodeFour_72 hl (by decide) rfl (fun ls hl => ?_)
            refine lv_aload_n hx hb dX11_decodeFour_74 rfl (lv_at hl 1 rfl) ?_
            refine lv_iload hx hb dX11_decodeFour_75 (lv_at hl 0 rfl) ?_
            refine lv_if_eq (tgt := 97) hx hb dX11_decodeFour_77 (by decide) (fun _ => ?_) (fun c77 => absurd c77 (by decide))
            refine lv_iconst (v := 2) hx hb dX11_decodeFour_97 (by decide) ?_
            refine p_Mod_thrown (a := (b 0)) (v := 2) C hw hM.1 in_X11 (by decide +kernel) dX11_decodeFour_98 (fun H locs hw => ?_)
            refine lv_aload_n hx hb dX11_decodeFour_101 rfl (lv_at hl 1 rfl) ?_
            refine g_Mod_thrown (a := (b 0)) (v := 2) C hw hM.1 in_X11 (by decide +kernel) (zI_s (zsI S 240 (b 0) 0) 240 (b 0) 2) dX11_decodeFour_102 ?_
            refine lv_if_le (tgt := 110) hx hb dX11_decodeFour_105 (by decide) (fun c105 => absurd c105 (by decide)) (fun _ => ?_)
            refine lv_iconst (v := 0) hx hb dX11_decodeFour_108 (by decide) ?_
            exact zri C hw hr hlocks rfl ⟨hM.1, ((zI_s (zsI S 240 (b 0) 0) 240 (b 0) 2)).trans (by unfold kd_decodeFour; (try unfold zb); grind), (fun h9 => by first | rfl | (revert h9; unfold kd_decodeFour; (try unfold zb); grind))⟩ ⟨Nat.le_of_ble_eq_true rfl, Nat.le_of_ble_eq_true rfl⟩ dX11_decodeFour_109
          · refine lv_iload_n hx hb dX11_decodeFour_55 rfl (lv_at hl 2 rfl) ?_
            refine lv_iload hx hb dX11_decodeFour_56 (lv_at hl 4 rfl) ?_
            refine lv_icmp_eq (tgt := 71) hx hb dX11_decodeFour_58 (by decide) (fun c58 => ?_) (fun c58 => ?_)
            · refine lv_iconst (v := 0) hx hb dX11_decodeFour_71 (by decide) ?_
              refine lv_istore (lv' := [(6, .int 0), (0, .ref (b 0)), (1, .int p0), (2, .int p1), (3, .int p2), (4, .int p3), (5, .int p4)]) hx hb dX11_decodeFour_72 hl (by decide) rfl (fun ls hl => ?_)
              refine lv_aload_n hx hb dX11_decodeFour_74 rfl (lv_at hl 1 rfl) ?_
              refine lv_iload hx hb dX11_decodeFour_75 (lv_at hl 0 rfl) ?_
              refine lv_if_eq (tgt := 97) hx hb dX11_decodeFour_77 (by decide) (fun _ => ?_) (fun c77 => absurd c77 (by decide))
              refine lv_iconst (v := 2) hx hb dX11_decodeFour_97 (by decide) ?_
              refine p_Mod_thrown (a := (b 0)) (v := 2) C hw hM.1 in_X11 (by decide +kernel) dX11_decodeFour_98 (fun H locs hw => ?_)
              refine lv_aload_n hx hb dX11_decodeFour_101 rfl (lv_at hl 1 rfl) ?_
              refine g_Mod_thrown (a := (b 0)) (v := 2) C hw hM.1 in_X11 (by decide +kernel) (zI_s (zsI S 240 (b 0) 0) 240 (b 0) 2) dX11_decodeFour_102 ?_
              refine lv_if_le (tgt := 110) hx hb dX11_decodeFour_105 (by decide) (fun c105 => absurd c105 (by decide)) (fun _ => ?_)
              refine lv_iconst (v := 0) hx hb dX11_decodeFour_108 (by decide) ?_
              exact zri C hw hr hlocks rfl ⟨hM.1, ((zI_s (zsI S 240 (b 0) 0) 240 (b 0) 2)).trans (by unfold kd_decodeFour; (try unfold zb); grind), (fun h9 => by first | rfl | (revert h9; unfold kd_decodeFour; (try unfold zb); grind))⟩ ⟨Nat.le_of_ble_eq_true rfl, Nat.le_of_ble_eq_true rfl⟩ dX11_decodeFour_109
            · refine lv_iload_n hx hb dX11_decodeFour_61 rfl (lv_at hl 3 rfl) ?_
              refine lv_iload hx hb dX11_decodeFour_62 (lv_at hl 4 rfl) ?_
              refine lv_icmp_eq (tgt := 71) hx hb dX11_decodeFour_64 (by decide) (fun c64 => ?_) (fun c64 => ?_)
              · refine lv_iconst (v := 0) hx hb dX11_decodeFour_71 (by decide) ?_
                refine lv_istore (lv' := [(6, .int 0), (0, .ref (b 0)), (1, .int p0), (2, .int p1), (3, .int p2), (4, .int p3), (5, .int p4)]) hx hb dX11_decodeFour_72 hl (by decide) rfl (fun ls hl => ?_)
                refine lv_aload_n hx hb dX11_decodeFour_74 rfl (lv_at hl 1 rfl) ?_
                refine lv_iload hx hb dX11_decodeFour_75 (lv_at hl 0 rfl) ?_
                refine lv_if_eq (tgt := 97) hx hb dX11_decodeFour_77 (by decide) (fun _ => ?_) (fun c77 => absurd c77 (by decide))
                refine lv_iconst (v := 2) hx hb dX11_decodeFour_97 (by decide) ?_
                refine p_Mod_thrown (a := (b 0)) (v := 2) C hw hM.1 in_X11 (by decide +kernel) dX11_decodeFour_98 (fun H locs hw => ?_)
                refine lv_aload_n hx hb dX11_decodeFour_101 rfl (lv_at hl 1 rfl) ?_
                refine g_Mod_thrown (a := (b 0)) (v := 2) C hw hM.1 in_X11 (by decide +kernel) (zI_s (zsI S 240 (b 0) 0) 240 (b 0) 2) dX11_decodeFour_102 ?_
                refine lv_if_le (tgt := 110) hx hb dX11_decodeFour_105 (by decide) (fun c105 => absurd c105 (by decide)) (fun _ => ?_)
                refine lv_iconst (v := 0) hx hb dX11_decodeFour_108 (by decide) ?_
                exact zri C hw hr hlocks rfl ⟨hM.1, ((zI_s (zsI S 240 (b 0) 0) 240 (b 0) 2)).trans (by unfold kd_decodeFour; (try unfold zb); grind), (fun h9 => by first | rfl | (revert h9; unfold kd_decodeFour; (try unfold zb); grind))⟩ ⟨Nat.le_of_ble_eq_true rfl, Nat.le_of_ble_eq_true rfl⟩ dX11_decodeFour_109
              · refine lv_iconst (v := 1) hx hb dX11_decodeFour_67 (by decide) ?_
                refine lv_goto (tgt := 72) hx hb dX11_decodeFour_68 (by decide) ?_
                refine lv_istore (lv' := [(6, .int 1), (0, .ref (b 0)), (1, .int p0), (2, .int p1), (3, .int p2), (4, .int p3), (5, .int p4)]) hx hb dX11_decodeFour_72 hl (by decide) rfl (fun ls hl => ?_)
                refine lv_aload_n hx hb dX11_decodeFour_74 rfl (lv_at hl 1 rfl) ?_
                refine lv_iload hx hb dX11_decodeFour_75 (lv_at hl 0 rfl) ?_
                refine lv_if_eq (tgt := 97) hx hb dX11_decodeFour_77 (by decide) (fun c77 => absurd c77 (by decide)) (fun _ => ?_)
                refine lv_iload hx hb dX11_decodeFour_80 (lv_at hl 6 rfl) ?_
                refine lv_i2l (v := p4.toInt64) hx hb dX11_decodeFour_82 rfl ?_
                refine lv_lconst (v := ((0 : Int32).toInt64)) hx hb dX11_decodeFour_83 (by decide) ?_
                refine lv_ldc2 (own := RX11) (v := ((3 : Int32).toInt64)) hx hb hown (hts (.constantLong RX11 47 (3)) (by decide +kernel)) dX11_decodeFour_84 ?_
                refine zcS_i (As := [.long (p4.toInt64), .long ((0 : Int32).toInt64), .long ((3 : Int32).toInt64)]) (rest := [.ref (b 0)]) (n9 := 3) C hw (c_X11_in l D y base (zsI S 240 (b 0) 0) p4 (0 : Int32) (3 : Int32) ) gX11_decodeFour_X11_in rfl (by decide +kernel) ⟨⟨rfl, rfl⟩, Nat.le_of_ble_eq_true rfl, Nat.le_of_ble_eq_true rfl⟩ rfl hl.1 rfl (Nat.le_of_ble_eq_true rfl) ⟨Nat.le_of_ble_eq_true rfl, Nat.le_of_ble_eq_true rfl⟩ dX11_decodeFour_87 (fun r87 S87 H locs hp87 hw => ?_)
                obtain ⟨rfl, hS9⟩ := hp87
                have hS9 := hS9.symm
                subst hS9
                refine lv_if_eq (tgt := 97) hx hb dX11_decodeFour_90 (by decide) (fun c90 => ?_) (fun c90 => ?_)
                · replace c90 := zb0.mp c90
                  refine lv_iconst (v := 2) hx hb dX11_decodeFour_97 (by decide) ?_
                  refine p_Mod_thrown (a := (b 0)) (v := 2) C hw hM.1 in_X11 (by decide +kernel) dX11_decodeFour_98 (fun H locs hw => ?_)
                  refine lv_aload_n hx hb dX11_decodeFour_101 rfl (lv_at hl 1 rfl) ?_
                  refine g_Mod_thrown (a := (b 0)) (v := 2) C hw hM.1 in_X11 (by decide +kernel) (zI_s (zsI S 240 (b 0) 0) 240 (b 0) 2) dX11_decodeFour_102 ?_
                  refine lv_if_le (tgt := 110) hx hb dX11_decodeFour_105 (by decide) (fun c105 => absurd c105 (by decide)) (fun _ => ?_)
                  refine lv_iconst (v := 0) hx hb dX11_decodeFour_108 (by decide) ?_
                  exact zri C hw hr hlocks rfl ⟨hM.1, ((zI_s (zsI S 240 (b 0) 0) 240 (b 0) 2)).trans (by unfold kd_decodeFour; (try unfold zb); grind), (fun h9 => by first | rfl | (revert h9; unfold kd_decodeFour; (try unfold zb); grind))⟩ ⟨Nat.le_of_ble_eq_true rfl, Nat.le_of_ble_eq_true rfl⟩ dX11_decodeFour_109
                · replace c90 := zb1.mp c90
                  refine lv_iconst (v := 0) hx hb dX11_decodeFour_93 (by decide) ?_
                  refine lv_goto (tgt := 98) hx hb dX11_decodeFour_94 (by decide) ?_
                  refine p_Mod_thrown (a := (b 0)) (v := 0) C hw hM.1 in_X11 (by decide +kernel) dX11_decodeFour_98 (fun H locs hw => ?_)
                  refine lv_aload_n hx hb dX11_decodeFour_101 rfl (lv_at hl 1 rfl) ?_
                  refine g_Mod_thrown (a := (b 0)) (v := 0) C hw hM.1 in_X11 (by decide +kernel) (zI_s (zsI S 240 (b 0) 0) 240 (b 0) 0) dX11_decodeFour_102 ?_
                  refine lv_if_le (tgt := 110) hx hb dX11_decodeFour_105 (by decide) (fun _ => ?_) (fun c105 => absurd c105 (by decide))
                  refine lv_aload_n hx hb dX11_decodeFour_110 rfl (lv_at hl 1 rfl) ?_
                  refine g_Mod_notes (a := (b 0)) (v := (b 5)) C hw hM.1 in_X11 (by decide +kernel) hM.2.2.2.2.2.1 dX11_decodeFour_111 ?_
                  refine zcV_v (As := []) (rest := []) (n9 := 0) (b := (b 5)) C hw (c_Jx4a65c_clear_da8c8 l D y base (zsI (zsI S 240 (b 0) 0) 240 (b 0) 0) (b 5) e5 hM.2.2.2.2.2.2.2.2.2.2.2.2.2.2.1 (zI_t (by decide) (zI_t (by decide) hM0.2.2.2.2.1)) hE5) gX11_decodeFour_Jx4a65c_clear_da8c8 rfl (by decide +kernel) ⟨⟨rfl, rfl⟩, Nat.le_of_ble_eq_true rfl, Nat.le_of_ble_eq_true rfl⟩ hM.2.2.2.2.2.2.2.2.2.2.2.2.2.2.1 ⟨by decide, by decide⟩ rfl rfl hl.1 rfl (Nat.le_of_ble_eq_true rfl) ⟨Nat.le_of_ble_eq_true rfl, Nat.le_of_ble_eq_true rfl⟩ dX11_decodeFour_114 (fun S114 H locs hp114 hw => ?_)
                  obtain ⟨v114, rfl⟩ := hp114
                  refine lv_iconst (v := 0) hx hb dX11_decodeFour_117 (by decide) ?_
                  refine lv_istore (lv' := [(7, .int 0), (6, .int 1), (0, .ref (b 0)), (1, .int p0), (2, .int p1), (3, .int p2), (4, .int p3), (5, .int p4)]) hx hb dX11_decodeFour_118 hl (by decide) rfl (fun ls hl => ?_)
                  refine lv_iconst (v := 0) hx hb dX11_decodeFour_120 (by decide) ?_
                  refine lv_istore (lv' := [(8, .int 0), (7, .int 0), (6, .int 1), (0, .ref (b 0)), (1, .int p0), (2, .int p1), (3, .int p2), (4, .int p3), (5, .int p4)]) hx hb dX11_decodeFour_121 hl (by decide) rfl (fun ls hl => ?_)
                  refine lv_iconst (v := 0) hx hb dX11_decodeFour_123 (by decide) ?_
                  refine lv_istore (lv' := [(9, .int 0), (8, .int 0), (7, .int 0), (6, .int 1), (0, .ref (b 0)), (1, .int p0), (2, .int p1), (3, .int p2), (4, .int p3), (5, .int p4)]) hx hb dX11_decodeFour_124 hl (by decide) rfl (fun ls hl => ?_)
                  refine lv_iconst (v := 1) hx hb dX11_decodeFour_126 (by decide) ?_
                  refine lv_istore (lv' := [(10, .int 1), (9, .int 0), (8, .int 0), (7, .int 0), (6, .int 1), (0, .ref (b 0)), (1, .int p0), (2, .int p1), (3, .int p2), (4, .int p3), (5, .int p4)]) hx hb dX11_decodeFour_127 hl (by decide) rfl (fun ls hl => ?_)
                  refine lv_iload hx hb dX11_decodeFour_129 (lv_at hl 0 rfl) ?_
                  refine lv_aload_n hx hb dX11_decodeFour_131 rfl (lv_at hl 5 rfl) ?_
                  refine g_Mod_samples (a := (b 0)) (v := (b 3)) C hw hM.1 in_X11 (by decide +kernel) hM.2.2.2.1 dX11_decodeFour_132 ?_
                  refine lv_iload_n hx hb dX11_decodeFour_135 rfl (lv_at hl 6 rfl) ?_
                  obtain ⟨w1, eP1, kW1, nW1⟩ := zMd_s hM (p := p0) (by first | assumption | grind)
                  refine zald_P (a := (b 3)) (v := w1) C hw hM.2.2.2.2.2.2.2.2.2.2.2.1 (by decide) (t0 := 7) rfl rfl hM.2.2.2.2.2.2.2.2.2.2.2.2.1 (zin_of (N := 2) (by decide) (by grind) (by grind)) eP1 dX11_decodeFour_136 ?_
                  refine zalen (a := w1) (v := 0) C hw kW1 (by decide) (t0 := 1) rfl (zlen nW1 rfl) dX11_decodeFour_137 ?_
                  refine lv_icmp_ge (tgt := 329) hx hb dX11_decodeFour_138 (by decide) (fun _ => ?_) (fun c138 => absurd c138 (by decide))
                  refine lv_aload_n hx hb dX11_decodeFour_329 rfl (lv_at hl 5 rfl) ?_
                  refine g_Mod_notes (a := (b 0)) (v := (b 5)) C hw hM.1 in_X11 (by decide +kernel) hM.2.2.2.2.2.1 dX11_decodeFour_330 ?_
                  refine zcV_i (As := []) (rest := []) (n9 := 0) (b := (b 5)) C hw (c_Jx4a65c_size_8abf5 l D y base (zsI (zsI (zsI (zsI S 240 (b 0) 0) 240 (b 0) 0) 48 (b 5) v114) 50 (b 5) 0) (b 5) hM.2.2.2.2.2.2.2.2.2.2.2.2.2.2.1 (zI_s (zsI (zsI (zsI S 240 (b 0) 0) 240 (b 0) 0) 48 (b 5) v114) 50 (b 5) 0)) gX11_decodeFour_Jx4a65c_size_8abf5 rfl (by decide +kernel) ⟨⟨rfl, rfl⟩, Nat.le_of_ble_eq_true rfl, Nat.le_of_ble_eq_true rfl⟩ hM.2.2.2.2.2.2.2.2.2.2.2.2.2.2.1 ⟨by decide, by decide⟩ rfl rfl hl.1 rfl (Nat.le_of_ble_eq_true rfl) ⟨Nat.le_of_ble_eq_true rfl, Nat.le_of_ble_eq_true rfl⟩ dX11_decodeFour_333 (fun r333 S333 H locs hp333 hw => ?_)
                  obtain ⟨rfl, hS9⟩ := hp333
                  have hS9 := hS9.symm
                  subst hS9
                  exact zri C hw hr hlocks rfl ⟨hM.1, ((zI_t (S := (zsI (zsI (zsI S 240 (b 0) 0) 240 (b 0) 0) 48 (b 5) v114)) (t := 50) (a := (b 5)) (v := 0) (t' := 240) (a' := (b 0)) (u := 0) (by decide) (zI_t (S := (zsI (zsI S 240 (b 0) 0) 240 (b 0) 0)) (t := 48) (a := (b 5)) (v := v114) (t' := 240) (a' := (b 0)) (u := 0) (by decide) (zI_s (zsI S 240 (b 0) 0) 240 (b 0) 0)))).trans (by unfold kd_decodeFour; (try unfold zb); grind), (fun h9 => by first | rfl | (revert h9; unfold kd_decodeFour; (try unfold zb); grind))⟩ ⟨Nat.le_of_ble_eq_true rfl, Nat.le_of_ble_eq_true rfl⟩ dX11_decodeFour_336

