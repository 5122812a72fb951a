set_option maxHeartbeats 4000000 in
set_option maxRecDepth 100000 in
/-- X11_in -/
theorem c_X11_in (l : Launch) (D : va_G) (y : Nat → ClassId) (base : Nat) (S : zS) (p0 : Int32) (p1 : Int32) (p2 : Int32)  : zMi l yX11_in wsX11_in ({ frames := 0, cells := 0, slots := 0, locals := 0 }) [.long (p0.toInt64), .long (p1.toInt64), .long (p2.toInt64)] D y base S (fun (r : Int32) (S1 : zS) => r = zb (p1 ≤ p0 ∧ p0 ≤ p2) ∧ S1 = S) 0 0 := by
  refine zMet_of (cc := cX11_in) (maxL := 6) (ret := (some .boolean)) (own := RX11) (by decide +kernel) rfl rfl (Nat.le_of_ble_eq_true rfl) ?_
  intro p e s m args below meth c ls C hr hlocks hnm hw hl
  have hx := C.1
  have hb := C.2.1
  have hown := C.2.2.2.1
  have hts := C.2.2.2.2
  have hl : lv_has ls 6 [(0, .long (p0.toInt64)), (2, .long (p1.toInt64)), (4, .long (p2.toInt64))] := hl
  refine lv_lload_n hx hb dX11_in_0 rfl (lv_at hl 0 rfl) ?_
  refine lv_lload_n hx hb dX11_in_1 rfl (lv_at hl 1 rfl) ?_
  refine W.lcmp hx hb dX11_in_2 ?_
  refine lv_if_lt (tgt := 17) hx hb dX11_in_3 (by decide) (fun c3 => ?_) (fun c3 => ?_)
  · refine lv_iconst (v := 0) hx hb dX11_in_17 (by decide) ?_
    exact zri C hw hr hlocks (by decide) ⟨zb_f (by first | (rw [zlg_gt] at c10; grind) | (rw [zlg_lt] at c3; grind)), rfl⟩ ⟨Nat.le_of_ble_eq_true rfl, Nat.le_of_ble_eq_true rfl⟩ dX11_in_18
  · refine lv_lload_n hx hb dX11_in_6 rfl (lv_at hl 0 rfl) ?_
    refine lv_lload hx hb dX11_in_7 (lv_at hl 2 rfl) ?_
    refine W.lcmp hx hb dX11_in_9 ?_
    refine lv_if_gt (tgt := 17) hx hb dX11_in_10 (by decide) (fun c10 => ?_) (fun c10 => ?_)
    · refine lv_iconst (v := 0) hx hb dX11_in_17 (by decide) ?_
      exact zri C hw hr hlocks (by decide) ⟨zb_f (by first | (rw [zlg_gt] at c10; grind) | (rw [zlg_lt] at c3; grind)), rfl⟩ ⟨Nat.le_of_ble_eq_true rfl, Nat.le_of_ble_eq_true rfl⟩ dX11_in_18
    · refine lv_iconst (v := 1) hx hb dX11_in_13 (by decide) ?_
      refine lv_goto (tgt := 18) hx hb dX11_in_14 (by decide) ?_
      exact zri C hw hr hlocks (by decide) ⟨zb_t (by rw [zlg_lt] at c3; rw [zlg_gt] at c10; grind), rfl⟩ ⟨Nat.le_of_ble_eq_true rfl, Nat.le_of_ble_eq_true rfl⟩ dX11_in_18

set_option maxHeartbeats 4000000 in
set_option maxRecDepth 100000 in
/-- X11_isWire -/
theorem c_X11_isWire (l : Launch) (D : va_G) (y : Nat → ClassId) (base : Nat) (S : zS) (p0 : Int32)  : zMi l yX11_isWire wsX11_isWire ({ frames := 1, cells := 0, slots := 0, locals := 25 }) [.int p0] D y base S (fun (r : Int32) (S1 : zS) => r = zb (0 ≤ p0 ∧ p0 ≤ 3) ∧ S1 = S) 0 0 := by
  refine zMet_of (cc := cX11_isWire) (maxL := 1) (ret := (some .boolean)) (own := RX11) (by decide +kernel) rfl rfl (Nat.le_of_ble_eq_true rfl) ?_
  intro p e s m args below meth c ls C hr hlocks hnm hw hl
  have hx := C.1
  have hb := C.2.1
  have hown := C.2.2.2.1
  have hts := C.2.2.2.2
  have hl : lv_has ls 1 [(0, .int p0)] := hl
  refine lv_iload_n hx hb dX11_isWire_0 rfl (lv_at hl 0 rfl) ?_
  refine lv_i2l (v := p0.toInt64) hx hb dX11_isWire_1 rfl ?_
  refine lv_lconst (v := ((0 : Int32).toInt64)) hx hb dX11_isWire_2 (by decide) ?_
  refine lv_ldc2 (own := RX11) (v := ((3 : Int32).toInt64)) hx hb hown (hts (.constantLong RX11 47 (3)) (by decide +kernel)) dX11_isWire_3 ?_
  refine zcS_i (As := [.long (p0.toInt64), .long ((0 : Int32).toInt64), .long ((3 : Int32).toInt64)]) (rest := []) (n9 := 3) C hw (c_X11_in l D y base S p0 (0 : Int32) (3 : Int32) ) gX11_isWire_X11_in rfl (by decide +kernel) ⟨⟨rfl, rfl⟩, Nat.le_of_ble_eq_true rfl, Nat.le_of_ble_eq_true rfl⟩ rfl hl.1 rfl (Nat.le_of_ble_eq_true rfl) ⟨Nat.le_of_ble_eq_true rfl, Nat.le_of_ble_eq_true rfl⟩ dX11_isWire_6 (fun r6 S6 H locs hp6 hw => ?_)
  obtain ⟨rfl, hS9⟩ := hp6
  have hS9 := hS9.symm
  subst hS9
  exact zri C hw hr hlocks (zb_nar _) ⟨rfl, rfl⟩ ⟨Nat.le_of_ble_eq_true rfl, Nat.le_of_ble_eq_true rfl⟩ dX11_isWire_9

set_option maxHeartbeats 4000000 in
set_option maxRecDepth 100000 in
/-- X11_noWire -/
theorem c_X11_noWire (l : Launch) (D : va_G) (y : Nat → ClassId) (base : Nat) (S : zS) (x0 : Nat) (p0 : Int32) (hk : zK S x0 = 15) : zMi l yX11_noWire wsX11_noWire ({ frames := 2, cells := 0, slots := 0, locals := 45 }) [.ref x0, .int p0] D y base S (fun (r : Int32) (S1 : zS) => r = zb (¬ (0 ≤ p0 ∧ p0 ≤ 3)) ∧ S1 = zsI S 240 x0 (zb (¬ (0 ≤ p0 ∧ p0 ≤ 3)))) 0 0 := by
  refine zMet_of (cc := cX11_noWire) (maxL := 2) (ret := (some .boolean)) (own := RX11) (by decide +kernel) rfl rfl (Nat.le_of_ble_eq_true rfl) ?_
  intro p e s m args below meth c ls C hr hlocks hnm hw hl
  have hx := C.1
  have hb := C.2.1
  have hown := C.2.2.2.1
  have hts := C.2.2.2.2
  have hl : lv_has ls 2 [(0, .ref x0), (1, .int p0)] := hl
  have in_X11 : ∀ w ∈ wsX110, w ∈ wsX11_noWire := by decide +kernel
  refine lv_aload_n hx hb dX11_noWire_0 rfl (lv_at hl 0 rfl) ?_
  refine lv_iload_n hx hb dX11_noWire_1 rfl (lv_at hl 1 rfl) ?_
  refine zcS_i (As := [.int p0]) (rest := [.ref x0]) (n9 := 1) C hw (c_X11_isWire l D y base S p0 ) gX11_noWire_X11_isWire rfl (by decide +kernel) ⟨⟨rfl, rfl⟩, Nat.le_of_ble_eq_true rfl, Nat.le_of_ble_eq_true rfl⟩ rfl hl.1 rfl (Nat.le_of_ble_eq_true rfl) ⟨Nat.le_of_ble_eq_true rfl, Nat.le_of_ble_eq_true rfl⟩ dX11_noWire_2 (fun r2 S2 H locs hp2 hw => ?_)
  obtain ⟨rfl, hS9⟩ := hp2
  have hS9 := hS9.symm
  subst hS9
  refine lv_if_eq (tgt := 12) hx hb dX11_noWire_5 (by decide) (fun c5 => ?_) (fun c5 => ?_)
  · replace c5 := zb0.mp c5
    refine lv_iconst (v := 1) hx hb dX11_noWire_12 (by decide) ?_
    refine p_Mod_thrown (a := x0) (v := 1) C hw hk in_X11 (by decide +kernel) dX11_noWire_13 (fun H locs hw => ?_)
    refine lv_aload_n hx hb dX11_noWire_16 rfl (lv_at hl 0 rfl) ?_
    refine g_Mod_thrown (a := x0) (v := 1) C hw hk in_X11 (by decide +kernel) (zI_s S 240 x0 1) dX11_noWire_17 ?_
    refine lv_if_le (tgt := 27) hx hb dX11_noWire_20 (by decide) (fun c20 => absurd c20 (by decide)) (fun _ => ?_)
    refine lv_iconst (v := 1) hx hb dX11_noWire_23 (by decide) ?_
    refine lv_goto (tgt := 28) hx hb dX11_noWire_24 (by decide) ?_
    exact zri C hw hr hlocks (by decide) (by have e9 : (1 : Int32) = zb (¬ (0 ≤ p0 ∧ p0 ≤ 3)) := (by first | exact zb_t (by grind) | exact zb_f (by grind)); rw [← e9]; exact ⟨rfl, rfl⟩) ⟨Nat.le_of_ble_eq_true rfl, Nat.le_of_ble_eq_true rfl⟩ dX11_noWire_28
  · replace c5 := zb1.mp c5
    refine lv_iconst (v := 0) hx hb dX11_noWire_8 (by decide) ?_
    refine lv_goto (tgt := 13) hx hb dX11_noWire_9 (by decide) ?_
    refine p_Mod_thrown (a := x0) (v := 0) C hw hk in_X11 (by decide +kernel) dX11_noWire_13 (fun H locs hw => ?_)
    refine lv_aload_n hx hb dX11_noWire_16 rfl (lv_at hl 0 rfl) ?_
    refine g_Mod_thrown (a := x0) (v := 0) C hw hk in_X11 (by decide +kernel) (zI_s S 240 x0 0) dX11_noWire_17 ?_
    refine lv_if_le (tgt := 27) hx hb dX11_noWire_20 (by decide) (fun _ => ?_) (fun c20 => absurd c20 (by decide))
    refine lv_iconst (v := 0) hx hb dX11_noWire_27 (by decide) ?_
    exact zri C hw hr hlocks (by decide) (by have e9 : (0 : Int32) = zb (¬ (0 ≤ p0 ∧ p0 ≤ 3)) := (by first | exact zb_t (by grind) | exact zb_f (by grind)); rw [← e9]; exact ⟨rfl, rfl⟩) ⟨Nat.le_of_ble_eq_true rfl, Nat.le_of_ble_eq_true rfl⟩ dX11_noWire_28

set_option maxHeartbeats 4000000 in
set_option maxRecDepth 100000 in
/-- X11_noCapture -/
theorem c_X11_noCapture (l : Launch) (D : va_G) (y : Nat → ClassId) (base : Nat) (S : zS) (x0 : Nat) (p0 : Int32) (hk : zK S x0 = 15) : zMi l yX11_noCapture wsX11_noCapture ({ frames := 1, cells := 0, slots := 0, locals := 25 }) [.ref x0, .int p0] D y base S (fun (r : Int32) (S1 : zS) => r = zb (¬ (0 ≤ p0 ∧ p0 ≤ 1)) ∧ S1 = zsI S 240 x0 (zb (¬ (0 ≤ p0 ∧ p0 ≤ 1)))) 0 0 := by
  refine zMet_of (cc := cX11_noCapture) (maxL := 2) (ret := (some .boolean)) (own := RX11) (by decide +kernel) rfl rfl (Nat.le_of_ble_eq_true rfl) ?_
  intro p e s m args below meth c ls C hr hlocks hnm hw hl
  have hx := C.1
  have hb := C.2.1
  have hown := C.2.2.2.1
  have hts := C.2.2.2.2
  have hl : lv_has ls 2 [(0, .ref x0), (1, .int p0)] := hl
  have in_X11 : ∀ w ∈ wsX110, w ∈ wsX11_noCapture := by decide +kernel
  refine lv_aload_n hx hb dX11_noCapture_0 rfl (lv_at hl 0 rfl) ?_
  refine lv_iload_n hx hb dX11_noCapture_1 rfl (lv_at hl 1 rfl) ?_
  refine lv_i2l (v := p0.toInt64) hx hb dX11_noCapture_2 rfl ?_
  refine lv_lconst (v := ((0 : Int32).toInt64)) hx hb dX11_noCapture_3 (by decide) ?_
  refine lv_lconst (v := ((1 : Int32).toInt64)) hx hb dX11_noCapture_4 (by decide) ?_
  refine zcS_i (As := [.long (p0.toInt64), .long ((0 : Int32).toInt64), .long ((1 : Int32).toInt64)]) (rest := [.ref x0]) (n9 := 3) C hw (c_X11_in l D y base S p0 (0 : Int32) (1 : Int32) ) gX11_noCapture_X11_in rfl (by decide +kernel) ⟨⟨rfl, rfl⟩, Nat.le_of_ble_eq_true rfl, Nat.le_of_ble_eq_true rfl⟩ rfl hl.1 rfl (Nat.le_of_ble_eq_true rfl) ⟨Nat.le_of_ble_eq_true rfl, Nat.le_of_ble_eq_true rfl⟩ dX11_noCapture_5 (fun r5 S5 H locs hp5 hw => ?_)
  obtain ⟨rfl, hS9⟩ := hp5
  have hS9 := hS9.symm
  subst hS9
  refine lv_if_eq (tgt := 15) hx hb dX11_noCapture_8 (by decide) (fun c8 => ?_) (fun c8 => ?_)
  · replace c8 := zb0.mp c8
    refine lv_iconst (v := 1) hx hb dX11_noCapture_15 (by decide) ?_
    refine p_Mod_thrown (a := x0) (v := 1) C hw hk in_X11 (by decide +kernel) dX11_noCapture_16 (fun H locs hw => ?_)
    refine lv_aload_n hx hb dX11_noCapture_19 rfl (lv_at hl 0 rfl) ?_
    refine g_Mod_thrown (a := x0) (v := 1) C hw hk in_X11 (by decide +kernel) (zI_s S 240 x0 1) dX11_noCapture_20 ?_
    refine lv_if_le (tgt := 30) hx hb dX11_noCapture_23 (by decide) (fun c23 => absurd c23 (by decide)) (fun _ => ?_)
    refine lv_iconst (v := 1) hx hb dX11_noCapture_26 (by decide) ?_
    refine lv_goto (tgt := 31) hx hb dX11_noCapture_27 (by decide) ?_
    exact zri C hw hr hlocks (by decide) (by have e9 : (1 : Int32) = zb (¬ (0 ≤ p0 ∧ p0 ≤ 1)) := (by first | exact zb_t (by grind) | exact zb_f (by grind)); rw [← e9]; exact ⟨rfl, rfl⟩) ⟨Nat.le_of_ble_eq_true rfl, Nat.le_of_ble_eq_true rfl⟩ dX11_noCapture_31
  · replace c8 := zb1.mp c8
    refine lv_iconst (v := 0) hx hb dX11_noCapture_11 (by decide) ?_
    refine lv_goto (tgt := 16) hx hb dX11_noCapture_12 (by decide) ?_
    refine p_Mod_thrown (a := x0) (v := 0) C hw hk in_X11 (by decide +kernel) dX11_noCapture_16 (fun H locs hw => ?_)
    refine lv_aload_n hx hb dX11_noCapture_19 rfl (lv_at hl 0 rfl) ?_
    refine g_Mod_thrown (a := x0) (v := 0) C hw hk in_X11 (by decide +kernel) (zI_s S 240 x0 0) dX11_noCapture_20 ?_
    refine lv_if_le (tgt := 30) hx hb dX11_noCapture_23 (by decide) (fun _ => ?_) (fun c23 => absurd c23 (by decide))
    refine lv_iconst (v := 0) hx hb dX11_noCapture_30 (by decide) ?_
    exact zri C hw hr hlocks (by decide) (by have e9 : (0 : Int32) = zb (¬ (0 ≤ p0 ∧ p0 ≤ 1)) := (by first | exact zb_t (by grind) | exact zb_f (by grind)); rw [← e9]; exact ⟨rfl, rfl⟩) ⟨Nat.le_of_ble_eq_true rfl, Nat.le_of_ble_eq_true rfl⟩ dX11_noCapture_31

set_option maxHeartbeats 4000000 in
set_option maxRecDepth 100000 in
/-- X11_noRow -/
theorem c_X11_noRow (l : Launch) (D : va_G) (y : Nat → ClassId) (base : Nat) (S : zS) (x0 : Nat) (p0 : Int32) (p1 : Int32) (hk : zK S x0 = 15) : zMi l yX11_noRow wsX11_noRow ({ frames := 2, cells := 0, slots := 0, locals := 45 }) [.ref x0, .int p0, .int p1] D y base S (fun (r : Int32) (S1 : zS) => r = zb (¬ ((0 ≤ p0 ∧ p0 ≤ 1) ∧ 0 ≤ p1 ∧ p1 ≤ 3)) ∧ S1 = zsI S 240 x0 (zb (¬ ((0 ≤ p0 ∧ p0 ≤ 1) ∧ 0 ≤ p1 ∧ p1 ≤ 3)))) 0 0 := by
  refine zMet_of (cc := cX11_noRow) (maxL := 3) (ret := (some .boolean)) (own := RX11) (by decide +kernel) rfl rfl (Nat.le_of_ble_eq_true rfl) ?_
  intro p e s m args below meth c ls C hr hlocks hnm hw hl
  have hx := C.1
  have hb := C.2.1
  have hown := C.2.2.2.1
  have hts := C.2.2.2.2
  have hl : lv_has ls 3 [(0, .ref x0), (1, .int p0), (2, .int p1)] := hl
  have in_X11 : ∀ w ∈ wsX110, w ∈ wsX11_noRow := by decide +kernel
  refine lv_aload_n hx hb dX11_noRow_0 rfl (lv_at hl 0 rfl) ?_
  refine lv_iload_n hx hb dX11_noRow_1 rfl (lv_at hl 1 rfl) ?_
  refine lv_i2l (v := p0.toInt64) hx hb dX11_noRow_2 rfl ?_
  refine lv_lconst (v := ((0 : Int32).toInt64)) hx hb dX11_noRow_3 (by decide) ?_
  refine lv_lconst (v := ((1 : Int32).toInt64)) hx hb dX11_noRow_4 (by decide) ?_
  refine zcS_i (As := [.long (p0.toInt64), .long ((0 : Int32).toInt64), .long ((1 : Int32).toInt64)]) (rest := [.ref x0]) (n9 := 3) C hw (c_X11_in l D y base S p0 (0 : Int32) (1 : Int32) ) gX11_noRow_X11_in rfl (by decide +kernel) ⟨⟨rfl, rfl⟩, Nat.le_of_ble_eq_true rfl, Nat.le_of_ble_eq_true rfl⟩ rfl hl.1 rfl (Nat.le_of_ble_eq_true rfl) ⟨Nat.le_of_ble_eq_true rfl, Nat.le_of_ble_eq_true rfl⟩ dX11_noRow_5 (fun r5 S5 H locs hp5 hw => ?_)
  obtain ⟨rfl, hS9⟩ := hp5
  have hS9 := hS9.symm
  subst hS9
  refine lv_if_eq (tgt := 22) hx hb dX11_noRow_8 (by decide) (fun c8 => ?_) (fun c8 => ?_)
  · replace c8 := zb0.mp c8
    refine lv_iconst (v := 1) hx hb dX11_noRow_22 (by decide) ?_
    refine p_Mod_thrown (a := x0) (v := 1) C hw hk in_X11 (by decide +kernel) dX11_noRow_23 (fun H locs hw => ?_)
    refine lv_aload_n hx hb dX11_noRow_26 rfl (lv_at hl 0 rfl) ?_
    refine g_Mod_thrown (a := x0) (v := 1) C hw hk in_X11 (by decide +kernel) (zI_s S 240 x0 1) dX11_noRow_27 ?_
    refine lv_if_le (tgt := 37) hx hb dX11_noRow_30 (by decide) (fun c30 => absurd c30 (by decide)) (fun _ => ?_)
    refine lv_iconst (v := 1) hx hb dX11_noRow_33 (by decide) ?_
    refine lv_goto (tgt := 38) hx hb dX11_noRow_34 (by decide) ?_
    exact zri C hw hr hlocks (by decide) (by have e9 : (1 : Int32) = zb (¬ ((0 ≤ p0 ∧ p0 ≤ 1) ∧ 0 ≤ p1 ∧ p1 ≤ 3)) := (by first | exact zb_t (by grind) | exact zb_f (by grind)); rw [← e9]; exact ⟨rfl, rfl⟩) ⟨Nat.le_of_ble_eq_true rfl, Nat.le_of_ble_eq_true rfl⟩ dX11_noRow_38
  · replace c8 := zb1.mp c8
    refine lv_iload_n hx hb dX11_noRow_11 rfl (lv_at hl 2 rfl) ?_
    refine zcS_i (As := [.int p1]) (rest := [.ref x0]) (n9 := 1) C hw (c_X11_isWire l D y base S p1 ) gX11_noRow_X11_isWire rfl (by decide +kernel) ⟨⟨rfl, rfl⟩, Nat.le_of_ble_eq_true rfl, Nat.le_of_ble_eq_true rfl⟩ rfl hl.1 rfl (Nat.le_of_ble_eq_true rfl) ⟨Nat.le_of_ble_eq_true rfl, Nat.le_of_ble_eq_true rfl⟩ dX11_noRow_12 (fun r12 S12 H locs hp12 hw => ?_)
    obtain ⟨rfl, hS9⟩ := hp12
    have hS9 := hS9.symm
    subst hS9
    refine lv_if_eq (tgt := 22) hx hb dX11_noRow_15 (by decide) (fun c15 => ?_) (fun c15 => ?_)
    · replace c15 := zb0.mp c15
      refine lv_iconst (v := 1) hx hb dX11_noRow_22 (by decide) ?_
      refine p_Mod_thrown (a := x0) (v := 1) C hw hk in_X11 (by decide +kernel) dX11_noRow_23 (fun H locs hw => ?_)
      refine lv_aload_n hx hb dX11_noRow_26 rfl (lv_at hl 0 rfl) ?_
      refine g_Mod_thrown (a := x0) (v := 1) C hw hk in_X11 (by decide +kernel) (zI_s S 240 x0 1) dX11_noRow_27 ?_
      refine lv_if_le (tgt := 37) hx hb dX11_noRow_30 (by decide) (fun c30 => absurd c30 (by decide)) (fun _ => ?_)
      refine lv_iconst (v := 1) hx hb dX11_noRow_33 (by decide) ?_
      refine lv_goto (tgt := 38) hx hb dX11_noRow_34 (by decide) ?_
      exact zri C hw hr hlocks (by decide) (by have e9 : (1 : Int32) = zb (¬ ((0 ≤ p0 ∧ p0 ≤ 1) ∧ 0 ≤ p1 ∧ p1 ≤ 3)) := (by first | exact zb_t (by grind) | exact zb_f (by grind)); rw [← e9]; exact ⟨rfl, rfl⟩) ⟨Nat.le_of_ble_eq_true rfl, Nat.le_of_ble_eq_true rfl⟩ dX11_noRow_38
    · replace c15 := zb1.mp c15
      refine lv_iconst (v := 0) hx hb dX11_noRow_18 (by decide) ?_
      refine lv_goto (tgt := 23) hx hb dX11_noRow_19 (by decide) ?_
      refine p_Mod_thrown (a := x0) (v := 0) C hw hk in_X11 (by decide +kernel) dX11_noRow_23 (fun H locs hw => ?_)
      refine lv_aload_n hx hb dX11_noRow_26 rfl (lv_at hl 0 rfl) ?_
      refine g_Mod_thrown (a := x0) (v := 0) C hw hk in_X11 (by decide +kernel) (zI_s S 240 x0 0) dX11_noRow_27 ?_
      refine lv_if_le (tgt := 37) hx hb dX11_noRow_30 (by decide) (fun _ => ?_) (fun c30 => absurd c30 (by decide))
      refine lv_iconst (v := 0) hx hb dX11_noRow_37 (by decide) ?_
      exact zri C hw hr hlocks (by decide) (by have e9 : (0 : Int32) = zb (¬ ((0 ≤ p0 ∧ p0 ≤ 1) ∧ 0 ≤ p1 ∧ p1 ≤ 3)) := (by first | exact zb_t (by grind) | exact zb_f (by grind)); rw [← e9]; exact ⟨rfl, rfl⟩) ⟨Nat.le_of_ble_eq_true rfl, Nat.le_of_ble_eq_true rfl⟩ dX11_noRow_38

set_option maxHeartbeats 4000000 in
set_option maxRecDepth 100000 in
/-- X11_noOffset -/
theorem c_X11_noOffset (l : Launch) (D : va_G) (y : Nat → ClassId) (base : Nat) (S : zS) (x0 : Nat) (p0 : Int32) (hk : zK S x0 = 15) : zMi l yX11_noOffset wsX11_noOffset ({ frames := 1, cells := 0, slots := 0, locals := 25 }) [.ref x0, .int p0] D y base S (fun (r : Int32) (S1 : zS) => r = zb (¬ (-399 ≤ p0 ∧ p0 ≤ 399)) ∧ S1 = zsI S 240 x0 (zb (¬ (-399 ≤ p0 ∧ p0 ≤ 399)))) 0 0 := by
  refine zMet_of (cc := cX11_noOffset) (maxL := 2) (ret := (some .boolean)) (own := RX11) (by decide +kernel) rfl rfl (Nat.le_of_ble_eq_true rfl) ?_
  intro p e s m args below meth c ls C hr hlocks hnm hw hl
  have hx := C.1
  have hb := C.2.1
  have hown := C.2.2.2.1
  have hts := C.2.2.2.2
  have hl : lv_has ls 2 [(0, .ref x0), (1, .int p0)] := hl
  have in_X11 : ∀ w ∈ wsX110, w ∈ wsX11_noOffset := by decide +kernel
  refine lv_aload_n hx hb dX11_noOffset_0 rfl (lv_at hl 0 rfl) ?_
  refine lv_iload_n hx hb dX11_noOffset_1 rfl (lv_at hl 1 rfl) ?_
  refine lv_i2l (v := p0.toInt64) hx hb dX11_noOffset_2 rfl ?_
  refine lv_ldc2 (own := RX11) (v := (((-399) : Int32).toInt64)) hx hb hown (hts (.constantLong RX11 265 (-399)) (by decide +kernel)) dX11_noOffset_3 ?_
  refine lv_ldc2 (own := RX11) (v := ((399 : Int32).toInt64)) hx hb hown (hts (.constantLong RX11 267 (399)) (by decide +kernel)) dX11_noOffset_6 ?_
  refine zcS_i (As := [.long (p0.toInt64), .long (((-399) : Int32).toInt64), .long ((399 : Int32).toInt64)]) (rest := [.ref x0]) (n9 := 3) C hw (c_X11_in l D y base S p0 ((-399) : Int32) (399 : Int32) ) gX11_noOffset_X11_in rfl (by decide +kernel) ⟨⟨rfl, rfl⟩, Nat.le_of_ble_eq_true rfl, Nat.le_of_ble_eq_true rfl⟩ rfl hl.1 rfl (Nat.le_of_ble_eq_true rfl) ⟨Nat.le_of_ble_eq_true rfl, Nat.le_of_ble_eq_true rfl⟩ dX11_noOffset_9 (fun r9 S9 H locs hp9 hw => ?_)
  obtain ⟨rfl, hS9⟩ := hp9
  have hS9 := hS9.symm
  subst hS9
  refine lv_if_eq (tgt := 19) hx hb dX11_noOffset_12 (by decide) (fun c12 => ?_) (fun c12 => ?_)
  · replace c12 := zb0.mp c12
    refine lv_iconst (v := 1) hx hb dX11_noOffset_19 (by decide) ?_
    refine p_Mod_thrown (a := x0) (v := 1) C hw hk in_X11 (by decide +kernel) dX11_noOffset_20 (fun H locs hw => ?_)
    refine lv_aload_n hx hb dX11_noOffset_23 rfl (lv_at hl 0 rfl) ?_
    refine g_Mod_thrown (a := x0) (v := 1) C hw hk in_X11 (by decide +kernel) (zI_s S 240 x0 1) dX11_noOffset_24 ?_
    refine lv_if_le (tgt := 34) hx hb dX11_noOffset_27 (by decide) (fun c27 => absurd c27 (by decide)) (fun _ => ?_)
    refine lv_iconst (v := 1) hx hb dX11_noOffset_30 (by decide) ?_
    refine lv_goto (tgt := 35) hx hb dX11_noOffset_31 (by decide) ?_
    exact zri C hw hr hlocks (by decide) (by have e9 : (1 : Int32) = zb (¬ (-399 ≤ p0 ∧ p0 ≤ 399)) := (by first | exact zb_t (by grind) | exact zb_f (by grind)); rw [← e9]; exact ⟨rfl, rfl⟩) ⟨Nat.le_of_ble_eq_true rfl, Nat.le_of_ble_eq_true rfl⟩ dX11_noOffset_35
  · replace c12 := zb1.mp c12
    refine lv_iconst (v := 0) hx hb dX11_noOffset_15 (by decide) ?_
    refine lv_goto (tgt := 20) hx hb dX11_noOffset_16 (by decide) ?_
    refine p_Mod_thrown (a := x0) (v := 0) C hw hk in_X11 (by decide +kernel) dX11_noOffset_20 (fun H locs hw => ?_)
    refine lv_aload_n hx hb dX11_noOffset_23 rfl (lv_at hl 0 rfl) ?_
    refine g_Mod_thrown (a := x0) (v := 0) C hw hk in_X11 (by decide +kernel) (zI_s S 240 x0 0) dX11_noOffset_24 ?_
    refine lv_if_le (tgt := 34) hx hb dX11_noOffset_27 (by decide) (fun _ => ?_) (fun c27 => absurd c27 (by decide))
    refine lv_iconst (v := 0) hx hb dX11_noOffset_34 (by decide) ?_
    exact zri C hw hr hlocks (by decide) (by have e9 : (0 : Int32) = zb (¬ (-399 ≤ p0 ∧ p0 ≤ 399)) := (by first | exact zb_t (by grind) | exact zb_f (by grind)); rw [← e9]; exact ⟨rfl, rfl⟩) ⟨Nat.le_of_ble_eq_true rfl, Nat.le_of_ble_eq_true rfl⟩ dX11_noOffset_35

set_option maxHeartbeats 4000000 in
set_option maxRecDepth 100000 in
/-- X11_thrown -/
theorem c_X11_thrown (l : Launch) (D : va_G) (y : Nat → ClassId) (base : Nat) (S : zS) (x0 : Nat) (v : Int32) (hk : zK S x0 = 15) (hv : zI S 240 x0 = v) : zMi l yX11_thrown wsX11_thrown ({ frames := 0, cells := 0, slots := 0, locals := 0 }) [.ref x0] D y base S (fun (r : Int32) (S1 : zS) => r = v ∧ S1 = S) 0 0 := by
  refine zMet_of (cc := cX11_thrown) (maxL := 1) (ret := (some .int)) (own := RX11) (by decide +kernel) rfl rfl (Nat.le_of_ble_eq_true rfl) ?_
  intro p e s m args below meth c ls C hr hlocks hnm hw hl
  have hx := C.1
  have hb := C.2.1
  have hown := C.2.2.2.1
  have hts := C.2.2.2.2
  have hl : lv_has ls 1 [(0, .ref x0)] := hl
  have in_X11 : ∀ w ∈ wsX110, w ∈ wsX11_thrown := by decide +kernel
  refine lv_aload_n hx hb dX11_thrown_0 rfl (lv_at hl 0 rfl) ?_
  refine g_Mod_thrown (a := x0) (v := v) C hw hk in_X11 (by decide +kernel) hv dX11_thrown_1 ?_
  exact zri C hw hr hlocks rfl (by first | exact ⟨rfl, rfl⟩ | exact rfl | (refine ⟨?_, rfl⟩; grind) | grind) ⟨Nat.le_of_ble_eq_true rfl, Nat.le_of_ble_eq_true rfl⟩ dX11_thrown_4

set_option maxHeartbeats 4000000 in
set_option maxRecDepth 100000 in
/-- Jx4a65c_size_8abf5 -/
theorem c_Jx4a65c_size_8abf5 (l : Launch) (D : va_G) (y : Nat → ClassId) (base : Nat) (S : zS) (x0 : Nat) (hk : zK S x0 = 3) (h50 : zI S 50 x0 = 0) : zMi l yJx4a65c_size_8abf5 wsJx4a65c_size_8abf5 ({ frames := 0, cells := 0, slots := 0, locals := 0 }) [.ref x0] D y base S (fun (r : Int32) (S1 : zS) => r = 0 ∧ S1 = S) 0 0 := by
  refine zMet_of (cc := cJx4a65c_size_8abf5) (maxL := 1) (ret := (some .int)) (own := RJx4a65c) (by decide +kernel) rfl rfl (Nat.le_of_ble_eq_true rfl) ?_
  intro p e s m args below meth c ls C hr hlocks hnm hw hl
  have hx := C.1
  have hb := C.2.1
  have hown := C.2.2.2.1
  have hts := C.2.2.2.2
  have hl : lv_has ls 1 [(0, .ref x0)] := hl
  have in_Jx4a65c : ∀ w ∈ wsJx4a65c0, w ∈ wsJx4a65c_size_8abf5 := by decide +kernel
  refine lv_aload_n hx hb dJx4a65c_size_8abf5_0 rfl (lv_at hl 0 rfl) ?_
  refine g_AList_size (a := x0) (v := 0) C hw hk in_Jx4a65c (by decide +kernel) h50 dJx4a65c_size_8abf5_1 ?_
  exact zri C hw hr hlocks rfl (by first | exact ⟨rfl, rfl⟩ | exact rfl | (refine ⟨?_, rfl⟩; grind) | grind) ⟨Nat.le_of_ble_eq_true rfl, Nat.le_of_ble_eq_true rfl⟩ dJx4a65c_size_8abf5_4

set_option maxHeartbeats 4000000 in
set_option maxRecDepth 100000 in
/-- Jx4a65c_isEmpty_aae02 -/
theorem c_Jx4a65c_isEmpty_aae02 (l : Launch) (D : va_G) (y : Nat → ClassId) (base : Nat) (S : zS) (x0 : Nat) (hk : zK S x0 = 3) (h50 : zI S 50 x0 = 0) : zMi l yJx4a65c_isEmpty_aae02 wsJx4a65c_isEmpty_aae02 ({ frames := 0, cells := 0, slots := 0, locals := 0 }) [.ref x0] D y base S (fun (r : Int32) (S1 : zS) => r = 1 ∧ S1 = S) 0 0 := by
  refine zMet_of (cc := cJx4a65c_isEmpty_aae02) (maxL := 1) (ret := (some .boolean)) (own := RJx4a65c) (by decide +kernel) rfl rfl (Nat.le_of_ble_eq_true rfl) ?_
  intro p e s m args below meth c ls C hr hlocks hnm hw hl
  have hx := C.1
  have hb := C.2.1
  have hown := C.2.2.2.1
  have hts := C.2.2.2.2
  have hl : lv_has ls 1 [(0, .ref x0)] := hl
  have in_Jx4a65c : ∀ w ∈ wsJx4a65c0, w ∈ wsJx4a65c_isEmpty_aae02 := by decide +kernel
  refine lv_aload_n hx hb dJx4a65c_isEmpty_aae02_0 rfl (lv_at hl 0 rfl) ?_
  refine g_AList_size (a := x0) (v := 0) C hw hk in_Jx4a65c (by decide +kernel) h50 dJx4a65c_isEmpty_aae02_1 ?_
  refine lv_if_ne (tgt := 11) hx hb dJx4a65c_isEmpty_aae02_4 (by decide) (fun c4 => absurd c4 (by decide)) (fun _ => ?_)
  refine lv_iconst (v := 1) hx hb dJx4a65c_isEmpty_aae02_7 (by decide) ?_
  refine lv_goto (tgt := 12) hx hb dJx4a65c_isEmpty_aae02_8 (by decide) ?_
  exact zri C hw hr hlocks (by decide) (by first | exact ⟨rfl, rfl⟩ | exact rfl | (refine ⟨?_, rfl⟩; grind) | grind) ⟨Nat.le_of_ble_eq_true rfl, Nat.le_of_ble_eq_true rfl⟩ dJx4a65c_isEmpty_aae02_12

set_option maxHeartbeats 4000000 in
set_option maxRecDepth 100000 in
/-- X11_idle -/
theorem c_X11_idle (l : Launch) (D : va_G) (y : Nat → ClassId) (base : Nat) (S : zS) (b : Nat → Nat) (p0 : Int32) (p1 : Int32) (hM : zMd S b) (hM0 : zMd0 S b) (hz : p1 = 0 ∨ p1 = 1) : zMi l yX11_idle wsX11_idle ({ frames := 3, cells := 0, slots := 0, locals := 66 }) [.ref (b 0), .int p0, .int p1] D y base S (fun (r : Int32) (S1 : zS) => zK S1 (b 0) = 15 ∧ zI S1 240 (b 0) = kd_idle p0 ∧ (kd_idle p0 = 0 → r = 0)) 0 0 := by
  refine zMet_of (cc := cX11_idle) (maxL := 4) (ret := (some .boolean)) (own := RX11) (by decide +kernel) rfl rfl (Nat.le_of_ble_eq_true rfl) ?_
  intro p e s m args below meth c ls C hr hlocks hnm hw hl
  have hx := C.1
  have hb := C.2.1
  have hown := C.2.2.2.1
  have hts := C.2.2.2.2
  have hl : lv_has ls 4 [(0, .ref (b 0)), (1, .int p0), (2, .int p1)] := hl
  have in_X11 : ∀ w ∈ wsX110, w ∈ wsX11_idle := by decide +kernel
  refine lv_aload_n hx hb dX11_idle_0 rfl (lv_at hl 0 rfl) ?_
  refine lv_iload_n hx hb dX11_idle_1 rfl (lv_at hl 1 rfl) ?_
  refine zcV_i (As := [.int p0]) (rest := []) (n9 := 1) (b := (b 0)) C hw (c_X11_noWire l D y base S (b 0) p0 hM.1) gX11_idle_X11_noWire rfl (by decide +kernel) ⟨⟨rfl, rfl⟩, Nat.le_of_ble_eq_true rfl, Nat.le_of_ble_eq_true rfl⟩ hM.1 ⟨by decide, by decide⟩ rfl rfl hl.1 rfl (Nat.le_of_ble_eq_true rfl) ⟨Nat.le_of_ble_eq_true rfl, Nat.le_of_ble_eq_true rfl⟩ dX11_idle_2 (fun r2 S2 H locs hp2 hw => ?_)
  obtain ⟨rfl, rfl⟩ := hp2
  refine lv_if_eq (tgt := 10) hx hb dX11_idle_5 (by decide) (fun c5 => ?_) (fun c5 => ?_)
  · replace c5 := zb0.mp c5
    refine lv_aload_n hx hb dX11_idle_10 rfl (lv_at hl 0 rfl) ?_
    refine g_Mod_idles (a := (b 0)) (v := (b 1)) C hw hM.1 in_X11 (by decide +kernel) hM.2.1 dX11_idle_11 ?_
    refine lv_iload_n hx hb dX11_idle_14 rfl (lv_at hl 1 rfl) ?_
    refine zald_Z (a := (b 1)) C hw hM.2.2.2.2.2.2.2.1 hM.2.2.2.2.2.2.2.2.1 (zin_of (N := 4) (by decide) (by grind) (by grind)) dX11_idle_15 ?_
    refine zrd (x := 0) (hM0.2.2.2.2.2.1 _) ?_
    refine lv_istore_n (lv' := [(3, .int 0), (0, .ref (b 0)), (1, .int p0), (2, .int p1)]) hx hb dX11_idle_16 rfl hl (by decide) rfl (fun ls hl => ?_)
    refine lv_aload_n hx hb dX11_idle_17 rfl (lv_at hl 1 rfl) ?_
    refine g_Mod_idles (a := (b 0)) (v := (b 1)) C hw hM.1 in_X11 (by decide +kernel) hM.2.1 dX11_idle_18 ?_
    refine lv_iload_n hx hb dX11_idle_21 rfl (lv_at hl 2 rfl) ?_
    refine lv_iload_n hx hb dX11_idle_22 rfl (lv_at hl 3 rfl) ?_
    refine zast_Z (a := (b 1)) C hw hM.2.2.2.2.2.2.2.1 hM.2.2.2.2.2.2.2.2.1 (zin_of (N := 4) (by decide) (by grind) (by grind)) dX11_idle_23 (fun H locs hw => ?_)
    refine lv_iload_n hx hb dX11_idle_24 rfl (lv_at hl 0 rfl) ?_
    exact zri C hw hr hlocks (by decide) ⟨hM.1, ((zI_s S 240 (b 0) (zb (¬ (0 ≤ p0 ∧ p0 ≤ 3))))).trans (by unfold kd_idle; (try unfold zb); grind), (fun h9 => by first | rfl | (revert h9; unfold kd_idle; (try unfold zb); grind))⟩ ⟨Nat.le_of_ble_eq_true rfl, Nat.le_of_ble_eq_true rfl⟩ dX11_idle_25
  · replace c5 := zb1.mp c5
    refine lv_iconst (v := 0) hx hb dX11_idle_8 (by decide) ?_
    exact zri C hw hr hlocks (by decide) ⟨hM.1, ((zI_s S 240 (b 0) (zb (¬ (0 ≤ p0 ∧ p0 ≤ 3))))).trans (by unfold kd_idle; (try unfold zb); grind), (fun h9 => by first | rfl | (revert h9; unfold kd_idle; (try unfold zb); grind))⟩ ⟨Nat.le_of_ble_eq_true rfl, Nat.le_of_ble_eq_true rfl⟩ dX11_idle_9

set_option maxHeartbeats 4000000 in
set_option maxRecDepth 100000 in
/-- X11_drift -/
theorem c_X11_drift (l : Launch) (D : va_G) (y : Nat → ClassId) (base : Nat) (S : zS) (b : Nat → Nat) (p0 : Int32) (hM : zMd S b) (hM0 : zMd0 S b) : zMi l yX11_drift wsX11_drift ({ frames := 1, cells := 0, slots := 0, locals := 25 }) [.ref (b 0), .int p0] D y base S (fun (r : Int32) (S1 : zS) => zK S1 (b 0) = 15 ∧ zI S1 240 (b 0) = kd_drift p0 ∧ (kd_drift p0 = 0 → r = 0)) 0 0 := by
  refine zMet_of (cc := cX11_drift) (maxL := 3) (ret := (some .int)) (own := RX11) (by decide +kernel) rfl rfl (Nat.le_of_ble_eq_true rfl) ?_
  intro p e s m args below meth c ls C hr hlocks hnm hw hl
  have hx := C.1
  have hb := C.2.1
  have hown := C.2.2.2.1
  have hts := C.2.2.2.2
  have hl : lv_has ls 3 [(0, .ref (b 0)), (1, .int p0)] := hl
  have in_X11 : ∀ w ∈ wsX110, w ∈ wsX11_drift := by decide +kernel
  refine lv_aload_n hx hb dX11_drift_0 rfl (lv_at hl 0 rfl) ?_
  refine lv_iload_n hx hb dX11_drift_1 rfl (lv_at hl 1 rfl) ?_
  refine lv_i2l (v := p0.toInt64) hx hb dX11_drift_2 rfl ?_
  refine lv_ldc2 (own := RX11) (v := (((-50) : Int32).toInt64)) hx hb hown (hts (.constantLong RX11 89 (-50)) (by decide +kernel)) dX11_drift_3 ?_
  refine lv_ldc2 (own := RX11) (v := ((50 : Int32).toInt64)) hx hb hown (hts (.constantLong RX11 91 (50)) (by decide +kernel)) dX11_drift_6 ?_
  refine zcS_i (As := [.long (p0.toInt64), .long (((-50) : Int32).toInt64), .long ((50 : Int32).toInt64)]) (rest := [.ref (b 0)]) (n9 := 3) C hw (c_X11_in l D y base S p0 ((-50) : Int32) (50 : Int32) ) gX11_drift_X11_in rfl (by decide +kernel) ⟨⟨rfl, rfl⟩, Nat.le_of_ble_eq_true rfl, Nat.le_of_ble_eq_true rfl⟩ rfl hl.1 rfl (Nat.le_of_ble_eq_true rfl) ⟨Nat.le_of_ble_eq_true rfl, Nat.le_of_ble_eq_true rfl⟩ dX11_drift_9 (fun r9 S9 H locs hp9 hw => ?_)
  obtain ⟨rfl, hS9⟩ := hp9
  have hS9 := hS9.symm
  subst hS9
  refine lv_if_eq (tgt := 19) hx hb dX11_drift_12 (by decide) (fun c12 => ?_) (fun c12 => ?_)
  · replace c12 := zb0.mp c12
    refine lv_iconst (v := 1) hx hb dX11_drift_19 (by decide) ?_
    refine p_Mod_thrown (a := (b 0)) (v := 1) C hw hM.1 in_X11 (by decide +kernel) dX11_drift_20 (fun H locs hw => ?_)
    refine lv_aload_n hx hb dX11_drift_23 rfl (lv_at hl 0 rfl) ?_
    refine g_Mod_thrown (a := (b 0)) (v := 1) C hw hM.1 in_X11 (by decide +kernel) (zI_s S 240 (b 0) 1) dX11_drift_24 ?_
    refine lv_if_le (tgt := 32) hx hb dX11_drift_27 (by decide) (fun c27 => absurd c27 (by decide)) (fun _ => ?_)
    refine lv_iconst (v := 0) hx hb dX11_drift_30 (by decide) ?_
    exact zri C hw hr hlocks rfl ⟨hM.1, ((zI_s S 240 (b 0) 1)).trans (by unfold kd_drift; (try unfold zb); grind), (fun h9 => by first | rfl | (revert h9; unfold kd_drift; (try unfold zb); grind))⟩ ⟨Nat.le_of_ble_eq_true rfl, Nat.le_of_ble_eq_true rfl⟩ dX11_drift_31
  · replace c12 := zb1.mp c12
    refine lv_iconst (v := 0) hx hb dX11_drift_15 (by decide) ?_
    refine lv_goto (tgt := 20) hx hb dX11_drift_16 (by decide) ?_
    refine p_Mod_thrown (a := (b 0)) (v := 0) C hw hM.1 in_X11 (by decide +kernel) dX11_drift_20 (fun H locs hw => ?_)
    refine lv_aload_n hx hb dX11_drift_23 rfl (lv_at hl 0 rfl) ?_
    refine g_Mod_thrown (a := (b 0)) (v := 0) C hw hM.1 in_X11 (by decide +kernel) (zI_s S 240 (b 0) 0) dX11_drift_24 ?_
    refine lv_if_le (tgt := 32) hx hb dX11_drift_27 (by decide) (fun _ => ?_) (fun c27 => absurd c27 (by decide))
    refine lv_aload_n hx hb dX11_drift_32 rfl (lv_at hl 0 rfl) ?_
    refine g_Mod_drift (a := (b 0)) (v := 0) C hw hM.1 in_X11 (by decide +kernel) (zI_t (S := S) (t := 240) (a := (b 0)) (v := 0) (t' := 243) (a' := (b 0)) (u := 0) (by decide) hM0.1) dX11_drift_33 ?_
    refine lv_istore_n (lv' := [(2, .int 0), (0, .ref (b 0)), (1, .int p0)]) hx hb dX11_drift_36 rfl hl (by decide) rfl (fun ls hl => ?_)
    refine lv_aload_n hx hb dX11_drift_37 rfl (lv_at hl 1 rfl) ?_
    refine lv_iload_n hx hb dX11_drift_38 rfl (lv_at hl 2 rfl) ?_
    refine p_Mod_drift (a := (b 0)) (v := p0) C hw hM.1 in_X11 (by decide +kernel) dX11_drift_39 (fun H locs hw => ?_)
    refine lv_iload_n hx hb dX11_drift_42 rfl (lv_at hl 0 rfl) ?_
    exact zri C hw hr hlocks rfl ⟨hM.1, ((zI_t (S := (zsI S 240 (b 0) 0)) (t := 243) (a := (b 0)) (v := p0) (t' := 240) (a' := (b 0)) (u := 0) (by decide) (zI_s S 240 (b 0) 0))).trans (by unfold kd_drift; (try unfold zb); grind), (fun h9 => by first | rfl | (revert h9; unfold kd_drift; (try unfold zb); grind))⟩ ⟨Nat.le_of_ble_eq_true rfl, Nat.le_of_ble_eq_true rfl⟩ dX11_drift_43

set_option maxHeartbeats 4000000 in
set_option maxRecDepth 100000 in
/-- X11_answers -/
theorem c_X11_answers (l : Launch) (D : va_G) (y : Nat → ClassId) (base : Nat) (S : zS) (b : Nat → Nat) (p0 : Int32) (p1 : Int32) (hM : zMd S b) (hM0 : zMd0 S b) (hz : p0 = 0 ∨ p0 = 1) (hz2 : p1 = 0 ∨ p1 = 1) : zMi l yX11_answers wsX11_answers ({ frames := 0, cells := 0, slots := 0, locals := 0 }) [.ref (b 0), .int p0, .int p1] D y base S (fun (r : Int32) (S1 : zS) => zK S1 (b 0) = 15 ∧ r = 1) 0 0 := by
  refine zMet_of (cc := cX11_answers) (maxL := 4) (ret := (some .boolean)) (own := RX11) (by decide +kernel) rfl rfl (Nat.le_of_ble_eq_true rfl) ?_
  intro p e s m args below meth c ls C hr hlocks hnm hw hl
  have hx := C.1
  have hb := C.2.1
  have hown := C.2.2.2.1
  have hts := C.2.2.2.2
  have hl : lv_has ls 4 [(0, .ref (b 0)), (1, .int p0), (2, .int p1)] := hl
  have in_X11 : ∀ w ∈ wsX110, w ∈ wsX11_answers := by decide +kernel
  refine lv_aload_n hx hb dX11_answers_0 rfl (lv_at hl 0 rfl) ?_
  refine lv_iconst (v := 0) hx hb dX11_answers_1 (by decide) ?_
  refine p_Mod_thrown (a := (b 0)) (v := 0) C hw hM.1 in_X11 (by decide +kernel) dX11_answers_2 (fun H locs hw => ?_)
  refine lv_aload_n hx hb dX11_answers_5 rfl (lv_at hl 0 rfl) ?_
  refine g_Mod_isAddressAnswered (a := (b 0)) (v := 1) C hw hM.1 in_X11 (by decide +kernel) (zI_t (S := S) (t := 240) (a := (b 0)) (v := 0) (t' := 244) (a' := (b 0)) (u := 1) (by decide) hM0.2.1) dX11_answers_6 ?_
  refine lv_if_eq (tgt := 23) hx hb dX11_answers_9 (by decide) (fun c9 => absurd c9 (by decide)) (fun _ => ?_)
  refine lv_aload_n hx hb dX11_answers_12 rfl (lv_at hl 0 rfl) ?_
  refine g_Mod_areOthersAnswered (a := (b 0)) (v := 1) C hw hM.1 in_X11 (by decide +kernel) (zI_t (S := S) (t := 240) (a := (b 0)) (v := 0) (t' := 245) (a' := (b 0)) (u := 1) (by decide) hM0.2.2.1) dX11_answers_13 ?_
  refine lv_if_eq (tgt := 23) hx hb dX11_answers_16 (by decide) (fun c16 => absurd c16 (by decide)) (fun _ => ?_)
  refine lv_iconst (v := 1) hx hb dX11_answers_19 (by decide) ?_
  refine lv_goto (tgt := 24) hx hb dX11_answers_20 (by decide) ?_
  refine lv_istore_n (lv' := [(3, .int 1), (0, .ref (b 0)), (1, .int p0), (2, .int p1)]) hx hb dX11_answers_24 rfl hl (by decide) rfl (fun ls hl => ?_)
  refine lv_aload_n hx hb dX11_answers_25 rfl (lv_at hl 1 rfl) ?_
  refine lv_iload_n hx hb dX11_answers_26 rfl (lv_at hl 2 rfl) ?_
  refine p_Mod_isAddressAnswered (a := (b 0)) (v := p0) C hw hM.1 in_X11 (by decide +kernel) (z01_nf hz) dX11_answers_27 (fun H locs hw => ?_)
  refine lv_aload_n hx hb dX11_answers_30 rfl (lv_at hl 1 rfl) ?_
  refine lv_iload_n hx hb dX11_answers_31 rfl (lv_at hl 3 rfl) ?_
  refine p_Mod_areOthersAnswered (a := (b 0)) (v := p1) C hw hM.1 in_X11 (by decide +kernel) (z01_nf hz2) dX11_answers_32 (fun H locs hw => ?_)
  refine lv_iload_n hx hb dX11_answers_35 rfl (lv_at hl 0 rfl) ?_
  exact zri C hw hr hlocks (by decide) ⟨hM.1, (by first | rfl | exact rfl | ((try unfold zb); grind))⟩ ⟨Nat.le_of_ble_eq_true rfl, Nat.le_of_ble_eq_true rfl⟩ dX11_answers_36

set_option maxHeartbeats 4000000 in
set_option maxRecDepth 100000 in
/-- X11_samples -/
theorem c_X11_samples (l : Launch) (D : va_G) (y : Nat → ClassId) (base : Nat) (S : zS) (b : Nat → Nat) (p0 : Int32) (hM : zMd S b) (hM0 : zMd0 S b) : zMi l yX11_samples wsX11_samples ({ frames := 2, cells := 0, slots := 0, locals := 46 }) [.ref (b 0), .int p0] D y base S (fun (r : Int32) (S1 : zS) => zK S1 (b 0) = 15 ∧ zI S1 240 (b 0) = kd_samples p0 ∧ (kd_samples p0 = 0 → r = 0)) 0 0 := by
  refine zMet_of (cc := cX11_samples) (maxL := 2) (ret := (some .int)) (own := RX11) (by decide +kernel) rfl rfl (Nat.le_of_ble_eq_true rfl) ?_
  intro p e s m args below meth c ls C hr hlocks hnm hw hl
  have hx := C.1
  have hb := C.2.1
  have hown := C.2.2.2.1
  have hts := C.2.2.2.2
  have hl : lv_has ls 2 [(0, .ref (b 0)), (1, .int p0)] := hl
  have in_X11 : ∀ w ∈ wsX110, w ∈ wsX11_samples := by decide +kernel
  refine lv_aload_n hx hb dX11_samples_0 rfl (lv_at hl 0 rfl) ?_
  refine lv_iload_n hx hb dX11_samples_1 rfl (lv_at hl 1 rfl) ?_
  refine zcV_i (As := [.int p0]) (rest := []) (n9 := 1) (b := (b 0)) C hw (c_X11_noCapture l D y base S (b 0) p0 hM.1) gX11_samples_X11_noCapture rfl (by decide +kernel) ⟨⟨rfl, rfl⟩, Nat.le_of_ble_eq_true rfl, Nat.le_of_ble_eq_true rfl⟩ hM.1 ⟨by decide, by decide⟩ rfl rfl hl.1 rfl (Nat.le_of_ble_eq_true rfl) ⟨Nat.le_of_ble_eq_true rfl, Nat.le_of_ble_eq_true rfl⟩ dX11_samples_2 (fun r2 S2 H locs hp2 hw => ?_)
  obtain ⟨rfl, rfl⟩ := hp2
  refine lv_if_eq (tgt := 12) hx hb dX11_samples_5 (by decide) (fun c5 => ?_) (fun c5 => ?_)
  · replace c5 := zb0.mp c5
    refine lv_aload_n hx hb dX11_samples_12 rfl (lv_at hl 0 rfl) ?_
    refine g_Mod_samples (a := (b 0)) (v := (b 3)) C hw hM.1 in_X11 (by decide +kernel) hM.2.2.2.1 dX11_samples_13 ?_
    refine lv_iload_n hx hb dX11_samples_16 rfl (lv_at hl 1 rfl) ?_
    obtain ⟨w1, eP1, kW1, nW1⟩ := zMd_s hM (p := p0) (by first | assumption | grind)
    refine zald_P (a := (b 3)) (v := w1) C hw hM.2.2.2.2.2.2.2.2.2.2.2.1 (by decide) (t0 := 7) rfl rfl hM.2.2.2.2.2.2.2.2.2.2.2.2.1 (zin_of (N := 2) (by decide) (by grind) (by grind)) eP1 dX11_samples_17 ?_
    refine zalen (a := w1) (v := 0) C hw kW1 (by decide) (t0 := 1) rfl (zlen nW1 rfl) dX11_samples_18 ?_
    exact zri C hw hr hlocks rfl ⟨hM.1, ((zI_s S 240 (b 0) (zb (¬ (0 ≤ p0 ∧ p0 ≤ 1))))).trans (by unfold kd_samples; (try unfold zb); grind), (fun h9 => by first | rfl | (revert h9; unfold kd_samples; (try unfold zb); grind))⟩ ⟨Nat.le_of_ble_eq_true rfl, Nat.le_of_ble_eq_true rfl⟩ dX11_samples_19
  · replace c5 := zb1.mp c5
    refine lv_iconst (v := 0) hx hb dX11_samples_8 (by decide) ?_
    refine lv_goto (tgt := 19) hx hb dX11_samples_9 (by decide) ?_
    exact zri C hw hr hlocks rfl ⟨hM.1, ((zI_s S 240 (b 0) (zb (¬ (0 ≤ p0 ∧ p0 ≤ 1))))).trans (by unfold kd_samples; (try unfold zb); grind), (fun h9 => by first | rfl | (revert h9; unfold kd_samples; (try unfold zb); grind))⟩ ⟨Nat.le_of_ble_eq_true rfl, Nat.le_of_ble_eq_true rfl⟩ dX11_samples_19

set_option maxHeartbeats 4000000 in
set_option maxRecDepth 100000 in
/-- X11_sample -/
theorem c_X11_sample (l : Launch) (D : va_G) (y : Nat → ClassId) (base : Nat) (S : zS) (b : Nat → Nat) (p0 : Int32) (p1 : Int32) (hM : zMd S b) (hM0 : zMd0 S b) : zMi l yX11_sample wsX11_sample ({ frames := 2, cells := 0, slots := 0, locals := 46 }) [.ref (b 0), .int p0, .int p1] D y base S (fun (r : Int32) (S1 : zS) => zK S1 (b 0) = 15 ∧ zI S1 240 (b 0) = kd_sample p0 ∧ (kd_sample p0 = 0 → r = 0)) 0 0 := by
  refine zMet_of (cc := cX11_sample) (maxL := 3) (ret := (some .int)) (own := RX11) (by decide +kernel) rfl rfl (Nat.le_of_ble_eq_true rfl) ?_
  intro p e s m args below meth c ls C hr hlocks hnm hw hl
  have hx := C.1
  have hb := C.2.1
  have hown := C.2.2.2.1
  have hts := C.2.2.2.2
  have hl : lv_has ls 3 [(0, .ref (b 0)), (1, .int p0), (2, .int p1)] := hl
  have in_X11 : ∀ w ∈ wsX110, w ∈ wsX11_sample := by decide +kernel
  refine lv_aload_n hx hb dX11_sample_0 rfl (lv_at hl 0 rfl) ?_
  refine lv_iload_n hx hb dX11_sample_1 rfl (lv_at hl 1 rfl) ?_
  refine zcV_i (As := [.int p0]) (rest := []) (n9 := 1) (b := (b 0)) C hw (c_X11_noCapture l D y base S (b 0) p0 hM.1) gX11_sample_X11_noCapture rfl (by decide +kernel) ⟨⟨rfl, rfl⟩, Nat.le_of_ble_eq_true rfl, Nat.le_of_ble_eq_true rfl⟩ hM.1 ⟨by decide, by decide⟩ rfl rfl hl.1 rfl (Nat.le_of_ble_eq_true rfl) ⟨Nat.le_of_ble_eq_true rfl, Nat.le_of_ble_eq_true rfl⟩ dX11_sample_2 (fun r2 S2 H locs hp2 hw => ?_)
  obtain ⟨rfl, rfl⟩ := hp2
  refine lv_if_eq (tgt := 10) hx hb dX11_sample_5 (by decide) (fun c5 => ?_) (fun c5 => ?_)
  · replace c5 := zb0.mp c5
    refine lv_aload_n hx hb dX11_sample_10 rfl (lv_at hl 0 rfl) ?_
    refine lv_iload_n hx hb dX11_sample_11 rfl (lv_at hl 2 rfl) ?_
    refine lv_i2l (v := p1.toInt64) hx hb dX11_sample_12 rfl ?_
    refine lv_lconst (v := ((0 : Int32).toInt64)) hx hb dX11_sample_13 (by decide) ?_
    refine lv_aload_n hx hb dX11_sample_14 rfl (lv_at hl 0 rfl) ?_
    refine g_Mod_samples (a := (b 0)) (v := (b 3)) C hw hM.1 in_X11 (by decide +kernel) hM.2.2.2.1 dX11_sample_15 ?_
    refine lv_iload_n hx hb dX11_sample_18 rfl (lv_at hl 1 rfl) ?_
    obtain ⟨w1, eP1, kW1, nW1⟩ := zMd_s hM (p := p0) (by first | assumption | grind)
    refine zald_P (a := (b 3)) (v := w1) C hw hM.2.2.2.2.2.2.2.2.2.2.2.1 (by decide) (t0 := 7) rfl rfl hM.2.2.2.2.2.2.2.2.2.2.2.2.1 (zin_of (N := 2) (by decide) (by grind) (by grind)) eP1 dX11_sample_19 ?_
    refine zalen (a := w1) (v := 0) C hw kW1 (by decide) (t0 := 1) rfl (zlen nW1 rfl) dX11_sample_20 ?_
    refine lv_iconst (v := 1) hx hb dX11_sample_21 (by decide) ?_
    refine lv_isub hx hb dX11_sample_22 ?_
    refine zrd (x := (-1)) (by decide) ?_
    refine lv_i2l (v := (-1).toInt64) hx hb dX11_sample_23 rfl ?_
    refine zcS_i (As := [.long (p1.toInt64), .long ((0 : Int32).toInt64), .long ((-1).toInt64)]) (rest := [.ref (b 0)]) (n9 := 3) C hw (c_X11_in l D y base (zsI S 240 (b 0) (zb (¬ (0 ≤ p0 ∧ p0 ≤ 1)))) p1 (0 : Int32) (-1) ) gX11_sample_X11_in rfl (by decide +kernel) ⟨⟨rfl, rfl⟩, Nat.le_of_ble_eq_true rfl, Nat.le_of_ble_eq_true rfl⟩ rfl hl.1 rfl (Nat.le_of_ble_eq_true rfl) ⟨Nat.le_of_ble_eq_true rfl, Nat.le_of_ble_eq_true rfl⟩ dX11_sample_24 (fun r24 S24 H locs hp24 hw => ?_)
    obtain ⟨rfl, hS9⟩ := hp24
    have hS9 := hS9.symm
    subst hS9
    refine lv_if_eq (tgt := 34) hx hb dX11_sample_27 (by decide) (fun c27 => ?_) (fun c27 => (show False from (by have h9 := zb1.mp c27; grind)).elim)
    replace c27 := zb0.mp c27
    refine lv_iconst (v := 2) hx hb dX11_sample_34 (by decide) ?_
    refine p_Mod_thrown (a := (b 0)) (v := 2) C hw hM.1 in_X11 (by decide +kernel) dX11_sample_35 (fun H locs hw => ?_)
    refine lv_aload_n hx hb dX11_sample_38 rfl (lv_at hl 0 rfl) ?_
    refine g_Mod_thrown (a := (b 0)) (v := 2) C hw hM.1 in_X11 (by decide +kernel) (zI_s (zsI S 240 (b 0) (zb (¬ (0 ≤ p0 ∧ p0 ≤ 1)))) 240 (b 0) 2) dX11_sample_39 ?_
    refine lv_if_le (tgt := 49) hx hb dX11_sample_42 (by decide) (fun c42 => absurd c42 (by decide)) (fun _ => ?_)
    refine lv_iconst (v := 0) hx hb dX11_sample_45 (by decide) ?_
    refine lv_goto (tgt := 57) hx hb dX11_sample_46 (by decide) ?_
    exact zri C hw hr hlocks rfl ⟨hM.1, ((zI_s (zsI S 240 (b 0) (zb (¬ (0 ≤ p0 ∧ p0 ≤ 1)))) 240 (b 0) 2)).trans (by unfold kd_sample; (try unfold zb); grind), (fun h9 => by first | rfl | (revert h9; unfold kd_sample; (try unfold zb); grind))⟩ ⟨Nat.le_of_ble_eq_true rfl, Nat.le_of_ble_eq_true rfl⟩ dX11_sample_57
  · replace c5 := zb1.mp c5
    refine lv_iconst (v := 0) hx hb dX11_sample_8 (by decide) ?_
    exact zri C hw hr hlocks rfl ⟨hM.1, ((zI_s S 240 (b 0) (zb (¬ (0 ≤ p0 ∧ p0 ≤ 1))))).trans (by unfold kd_sample; (try unfold zb); grind), (fun h9 => by first | rfl | (revert h9; unfold kd_sample; (try unfold zb); grind))⟩ ⟨Nat.le_of_ble_eq_true rfl, Nat.le_of_ble_eq_true rfl⟩ dX11_sample_9

set_option maxHeartbeats 4000000 in
set_option maxRecDepth 100000 in
/-- X11_register -/
theorem c_X11_register (l : Launch) (D : va_G) (y : Nat → ClassId) (base : Nat) (S : zS) (b : Nat → Nat) (p0 : Int32) (p1 : Int32) (hM : zMd S b) (hM0 : zMd0 S b) (hreg : ∀ i j, i < 128 → zR S 22 (b (100 + i)) j = 0) : zMi l yX11_register wsX11_register ({ frames := 1, cells := 0, slots := 0, locals := 25 }) [.ref (b 0), .int p0, .int p1] D y base S (fun (r : Int32) (S1 : zS) => zK S1 (b 0) = 15 ∧ zI S1 240 (b 0) = kd_register p0 p1 ∧ (kd_register p0 p1 = 0 → r = 0)) 0 0 := by
  refine zMet_of (cc := cX11_register) (maxL := 3) (ret := (some .int)) (own := RX11) (by decide +kernel) rfl rfl (Nat.le_of_ble_eq_true rfl) ?_
  intro p e s m args below meth c ls C hr hlocks hnm hw hl
  have hx := C.1
  have hb := C.2.1
  have hown := C.2.2.2.1
  have hts := C.2.2.2.2
  have hl : lv_has ls 3 [(0, .ref (b 0)), (1, .int p0), (2, .int p1)] := hl
  have in_X11 : ∀ w ∈ wsX110, w ∈ wsX11_register := by decide +kernel
  refine lv_aload_n hx hb dX11_register_0 rfl (lv_at hl 0 rfl) ?_
  refine lv_iload_n hx hb dX11_register_1 rfl (lv_at hl 1 rfl) ?_
  refine lv_i2l (v := p0.toInt64) hx hb dX11_register_2 rfl ?_
  refine lv_lconst (v := ((0 : Int32).toInt64)) hx hb dX11_register_3 (by decide) ?_
  refine lv_ldc2 (own := RX11) (v := ((127 : Int32).toInt64)) hx hb hown (hts (.constantLong RX11 124 (127)) (by decide +kernel)) dX11_register_4 ?_
  refine zcS_i (As := [.long (p0.toInt64), .long ((0 : Int32).toInt64), .long ((127 : Int32).toInt64)]) (rest := [.ref (b 0)]) (n9 := 3) C hw (c_X11_in l D y base S p0 (0 : Int32) (127 : Int32) ) gX11_register_X11_in rfl (by decide +kernel) ⟨⟨rfl, rfl⟩, Nat.le_of_ble_eq_true rfl, Nat.le_of_ble_eq_true rfl⟩ rfl hl.1 rfl (Nat.le_of_ble_eq_true rfl) ⟨Nat.le_of_ble_eq_true rfl, Nat.le_of_ble_eq_true rfl⟩ dX11_register_7 (fun r7 S7 H locs hp7 hw => ?_)
  obtain ⟨rfl, hS9⟩ := hp7
  have hS9 := hS9.symm
  subst hS9
  refine lv_if_eq (tgt := 29) hx hb dX11_register_10 (by decide) (fun c10 => ?_) (fun c10 => ?_)
  · replace c10 := zb0.mp c10
    refine lv_iconst (v := 1) hx hb dX11_register_29 (by decide) ?_
    refine p_Mod_thrown (a := (b 0)) (v := 1) C hw hM.1 in_X11 (by decide +kernel) dX11_register_30 (fun H locs hw => ?_)
    refine lv_aload_n hx hb dX11_register_33 rfl (lv_at hl 0 rfl) ?_
    refine g_Mod_thrown (a := (b 0)) (v := 1) C hw hM.1 in_X11 (by decide +kernel) (zI_s S 240 (b 0) 1) dX11_register_34 ?_
    refine lv_if_le (tgt := 44) hx hb dX11_register_37 (by decide) (fun c37 => absurd c37 (by decide)) (fun _ => ?_)
    refine lv_iconst (v := 0) hx hb dX11_register_40 (by decide) ?_
    refine lv_goto (tgt := 52) hx hb dX11_register_41 (by decide) ?_
    exact zri C hw hr hlocks rfl ⟨hM.1, ((zI_s S 240 (b 0) 1)).trans (by unfold kd_register; (try unfold zb); grind), (fun h9 => by first | rfl | (revert h9; unfold kd_register; (try unfold zb); grind))⟩ ⟨Nat.le_of_ble_eq_true rfl, Nat.le_of_ble_eq_true rfl⟩ dX11_register_52
  · replace c10 := zb1.mp c10
    refine lv_iload_n hx hb dX11_register_13 rfl (lv_at hl 2 rfl) ?_
    refine lv_i2l (v := p1.toInt64) hx hb dX11_register_14 rfl ?_
    refine lv_lconst (v := ((0 : Int32).toInt64)) hx hb dX11_register_15 (by decide) ?_
    refine lv_ldc2 (own := RX11) (v := ((15 : Int32).toInt64)) hx hb hown (hts (.constantLong RX11 126 (15)) (by decide +kernel)) dX11_register_16 ?_
    refine zcS_i (As := [.long (p1.toInt64), .long ((0 : Int32).toInt64), .long ((15 : Int32).toInt64)]) (rest := [.ref (b 0)]) (n9 := 3) C hw (c_X11_in l D y base S p1 (0 : Int32) (15 : Int32) ) gX11_register_X11_in rfl (by decide +kernel) ⟨⟨rfl, rfl⟩, Nat.le_of_ble_eq_true rfl, Nat.le_of_ble_eq_true rfl⟩ rfl hl.1 rfl (Nat.le_of_ble_eq_true rfl) ⟨Nat.le_of_ble_eq_true rfl, Nat.le_of_ble_eq_true rfl⟩ dX11_register_19 (fun r19 S19 H locs hp19 hw => ?_)
    obtain ⟨rfl, hS9⟩ := hp19
    have hS9 := hS9.symm
    subst hS9
    refine lv_if_eq (tgt := 29) hx hb dX11_register_22 (by decide) (fun c22 => ?_) (fun c22 => ?_)
    · replace c22 := zb0.mp c22
      refine lv_iconst (v := 1) hx hb dX11_register_29 (by decide) ?_
      refine p_Mod_thrown (a := (b 0)) (v := 1) C hw hM.1 in_X11 (by decide +kernel) dX11_register_30 (fun H locs hw => ?_)
      refine lv_aload_n hx hb dX11_register_33 rfl (lv_at hl 0 rfl) ?_
      refine g_Mod_thrown (a := (b 0)) (v := 1) C hw hM.1 in_X11 (by decide +kernel) (zI_s S 240 (b 0) 1) dX11_register_34 ?_
      refine lv_if_le (tgt := 44) hx hb dX11_register_37 (by decide) (fun c37 => absurd c37 (by decide)) (fun _ => ?_)
      refine lv_iconst (v := 0) hx hb dX11_register_40 (by decide) ?_
      refine lv_goto (tgt := 52) hx hb dX11_register_41 (by decide) ?_
      exact zri C hw hr hlocks rfl ⟨hM.1, ((zI_s S 240 (b 0) 1)).trans (by unfold kd_register; (try unfold zb); grind), (fun h9 => by first | rfl | (revert h9; unfold kd_register; (try unfold zb); grind))⟩ ⟨Nat.le_of_ble_eq_true rfl, Nat.le_of_ble_eq_true rfl⟩ dX11_register_52
    · replace c22 := zb1.mp c22
      refine lv_iconst (v := 0) hx hb dX11_register_25 (by decide) ?_
      refine lv_goto (tgt := 30) hx hb dX11_register_26 (by decide) ?_
      refine p_Mod_thrown (a := (b 0)) (v := 0) C hw hM.1 in_X11 (by decide +kernel) dX11_register_30 (fun H locs hw => ?_)
      refine lv_aload_n hx hb dX11_register_33 rfl (lv_at hl 0 rfl) ?_
      refine g_Mod_thrown (a := (b 0)) (v := 0) C hw hM.1 in_X11 (by decide +kernel) (zI_s S 240 (b 0) 0) dX11_register_34 ?_
      refine lv_if_le (tgt := 44) hx hb dX11_register_37 (by decide) (fun _ => ?_) (fun c37 => absurd c37 (by decide))
      refine lv_aload_n hx hb dX11_register_44 rfl (lv_at hl 0 rfl) ?_
      refine g_Mod_registers (a := (b 0)) (v := (b 6)) C hw hM.1 in_X11 (by decide +kernel) hM.2.2.2.2.2.2.1 dX11_register_45 ?_
      refine lv_iload_n hx hb dX11_register_48 rfl (lv_at hl 1 rfl) ?_
      obtain ⟨w1, eP1, kW1, nW1, eW1⟩ := zMd_r hM (p := p0) (by grind)
      refine zald_P (a := (b 6)) (v := w1) C hw hM.2.2.2.2.2.2.2.2.2.2.2.2.2.2.2.1 (by decide) (t0 := 7) rfl rfl hM.2.2.2.2.2.2.2.2.2.2.2.2.2.2.2.2.1 (zin_of (N := 128) (by decide) (by grind) (by grind)) eP1 dX11_register_49 ?_
      refine lv_iload_n hx hb dX11_register_50 rfl (lv_at hl 2 rfl) ?_
      refine zald_I (a := w1) C hw kW1 nW1 (zin_of (N := 16) (by decide) (by grind) (by grind)) dX11_register_51 ?_
      refine zrd (x := 0) (by rw [eW1]; exact hreg _ _ (z_cl128 (by grind))) ?_
      exact zri C hw hr hlocks rfl ⟨hM.1, ((zI_s S 240 (b 0) 0)).trans (by unfold kd_register; (try unfold zb); grind), (fun h9 => by first | rfl | (revert h9; unfold kd_register; (try unfold zb); grind))⟩ ⟨Nat.le_of_ble_eq_true rfl, Nat.le_of_ble_eq_true rfl⟩ dX11_register_52

set_option maxHeartbeats 4000000 in
set_option maxRecDepth 100000 in
/-- X11_beside -/
theorem c_X11_beside_1 (l : Launch) (D : va_G) (y : Nat → ClassId) (base : Nat) (S : zS) (b : Nat → Nat) (p0 : Int32) (hM : zMd S b) : zMi l yX11_beside wsX11_beside ({ frames := 0, cells := 0, slots := 0, locals := 0 }) [.ref (b 0), .int p0, .int 1] D y base S (fun (r : Int32) (S1 : zS) => r = 0 ∧ S1 = S) 0 0 := by
  refine zMet_of (cc := cX11_beside) (maxL := 7) (ret := (some .int)) (own := RX11) (by decide +kernel) rfl rfl (Nat.le_of_ble_eq_true rfl) ?_
  intro p e s m args below meth c ls C hr hlocks hnm hw hl
  have hx := C.1
  have hb := C.2.1
  have hown := C.2.2.2.1
  have hts := C.2.2.2.2
  have hl : lv_has ls 7 [(0, .ref (b 0)), (1, .int p0), (2, .int 1)] := hl
  have in_X11 : ∀ w ∈ wsX110, w ∈ wsX11_beside := by decide +kernel
  refine lv_iconst (v := 0) hx hb dX11_beside_0 (by decide) ?_
  refine lv_istore_n (lv' := [(3, .int 0), (0, .ref (b 0)), (1, .int p0), (2, .int 1)]) hx hb dX11_beside_1 rfl hl (by decide) rfl (fun ls hl => ?_)
  refine lv_iconst (v := 0) hx hb dX11_beside_2 (by decide) ?_
  refine lv_istore (lv' := [(4, .int 0), (3, .int 0), (0, .ref (b 0)), (1, .int p0), (2, .int 1)]) hx hb dX11_beside_3 hl (by decide) rfl (fun ls hl => ?_)
  refine lv_iload hx hb dX11_beside_5 (lv_at hl 0 rfl) ?_
  refine lv_aload_n hx hb dX11_beside_7 rfl (lv_at hl 2 rfl) ?_
  refine g_Mod_samples (a := (b 0)) (v := (b 3)) C hw hM.1 in_X11 (by decide +kernel) hM.2.2.2.1 dX11_beside_8 ?_
  refine lv_iconst (v := 0) hx hb dX11_beside_11 (by decide) ?_
  obtain ⟨w0, eP0, kW0, nW0⟩ := zMd_s hM (p := 0) (by decide)
  refine zald_P (a := (b 3)) (v := w0) C hw hM.2.2.2.2.2.2.2.2.2.2.2.1 (by decide) (t0 := 7) rfl rfl hM.2.2.2.2.2.2.2.2.2.2.2.2.1 (zin_of (N := 2) (by decide) (by grind) (by grind)) eP0 dX11_beside_12 ?_
  refine zalen (a := w0) (v := 0) C hw kW0 (by decide) (t0 := 1) rfl (zlen nW0 rfl) dX11_beside_13 ?_
  refine lv_icmp_ge (tgt := 102) hx hb dX11_beside_14 (by decide) (fun _ => ?_) (fun c14 => absurd c14 (by decide))
  refine lv_iload_n hx hb dX11_beside_102 rfl (lv_at hl 4 rfl) ?_
  refine lv_if_eq (tgt := 110) hx hb dX11_beside_103 (by decide) (fun c103 => absurd c103 (by decide)) (fun _ => ?_)
  refine lv_iload_n hx hb dX11_beside_106 rfl (lv_at hl 1 rfl) ?_
  refine lv_goto (tgt := 111) hx hb dX11_beside_107 (by decide) ?_
  exact zri C hw hr hlocks rfl (by first | exact ⟨rfl, rfl⟩ | exact rfl | (refine ⟨?_, rfl⟩; grind) | grind) ⟨Nat.le_of_ble_eq_true rfl, Nat.le_of_ble_eq_true rfl⟩ dX11_beside_111

set_option maxHeartbeats 4000000 in
set_option maxRecDepth 100000 in
/-- X11_beside -/
theorem c_X11_beside_0 (l : Launch) (D : va_G) (y : Nat → ClassId) (base : Nat) (S : zS) (b : Nat → Nat) (p0 : Int32) (hM : zMd S b) : zMi l yX11_beside wsX11_beside ({ frames := 0, cells := 0, slots := 0, locals := 0 }) [.ref (b 0), .int p0, .int 0] D y base S (fun (r : Int32) (S1 : zS) => r = (-1) ∧ S1 = S) 0 0 := by
  refine zMet_of (cc := cX11_beside) (maxL := 7) (ret := (some .int)) (own := RX11) (by decide +kernel) rfl rfl (Nat.le_of_ble_eq_true rfl) ?_
  intro p e s m args below meth c ls C hr hlocks hnm hw hl
  have hx := C.1
  have hb := C.2.1
  have hown := C.2.2.2.1
  have hts := C.2.2.2.2
  have hl : lv_has ls 7 [(0, .ref (b 0)), (1, .int p0), (2, .int 0)] := hl
  have in_X11 : ∀ w ∈ wsX110, w ∈ wsX11_beside := by decide +kernel
  refine lv_iconst (v := 0) hx hb dX11_beside_0 (by decide) ?_
  refine lv_istore_n (lv' := [(3, .int 0), (0, .ref (b 0)), (1, .int p0), (2, .int 0)]) hx hb dX11_beside_1 rfl hl (by decide) rfl (fun ls hl => ?_)
  refine lv_iconst (v := 0) hx hb dX11_beside_2 (by decide) ?_
  refine lv_istore (lv' := [(4, .int 0), (3, .int 0), (0, .ref (b 0)), (1, .int p0), (2, .int 0)]) hx hb dX11_beside_3 hl (by decide) rfl (fun ls hl => ?_)
  refine lv_iload hx hb dX11_beside_5 (lv_at hl 0 rfl) ?_
  refine lv_aload_n hx hb dX11_beside_7 rfl (lv_at hl 2 rfl) ?_
  refine g_Mod_samples (a := (b 0)) (v := (b 3)) C hw hM.1 in_X11 (by decide +kernel) hM.2.2.2.1 dX11_beside_8 ?_
  refine lv_iconst (v := 0) hx hb dX11_beside_11 (by decide) ?_
  obtain ⟨w0, eP0, kW0, nW0⟩ := zMd_s hM (p := 0) (by decide)
  refine zald_P (a := (b 3)) (v := w0) C hw hM.2.2.2.2.2.2.2.2.2.2.2.1 (by decide) (t0 := 7) rfl rfl hM.2.2.2.2.2.2.2.2.2.2.2.2.1 (zin_of (N := 2) (by decide) (by grind) (by grind)) eP0 dX11_beside_12 ?_
  refine zalen (a := w0) (v := 0) C hw kW0 (by decide) (t0 := 1) rfl (zlen nW0 rfl) dX11_beside_13 ?_
  refine lv_icmp_ge (tgt := 102) hx hb dX11_beside_14 (by decide) (fun _ => ?_) (fun c14 => absurd c14 (by decide))
  refine lv_iload_n hx hb dX11_beside_102 rfl (lv_at hl 4 rfl) ?_
  refine lv_if_eq (tgt := 110) hx hb dX11_beside_103 (by decide) (fun _ => ?_) (fun c103 => absurd c103 (by decide))
  refine lv_iconst (v := (-1)) hx hb dX11_beside_110 (by decide) ?_
  exact zri C hw hr hlocks rfl (by first | exact ⟨rfl, rfl⟩ | exact rfl | (refine ⟨?_, rfl⟩; grind) | grind) ⟨Nat.le_of_ble_eq_true rfl, Nat.le_of_ble_eq_true rfl⟩ dX11_beside_111

set_option maxHeartbeats 4000000 in
set_option maxRecDepth 100000 in
/-- X11_alike -/
theorem c_X11_alike (l : Launch) (D : va_G) (y : Nat → ClassId) (base : Nat) (S : zS) (b : Nat → Nat) (p0 : Int32) (hM : zMd S b) (hM0 : zMd0 S b) : zMi l yX11_alike wsX11_alike ({ frames := 2, cells := 0, slots := 0, locals := 46 }) [.ref (b 0), .int p0] D y base S (fun (r : Int32) (S1 : zS) => zK S1 (b 0) = 15 ∧ zI S1 240 (b 0) = kd_alike p0 ∧ (kd_alike p0 = 0 → r = 0)) 0 0 := by
  refine zMet_of (cc := cX11_alike) (maxL := 2) (ret := (some .int)) (own := RX11) (by decide +kernel) rfl rfl (Nat.le_of_ble_eq_true rfl) ?_
  intro p e s m args below meth c ls C hr hlocks hnm hw hl
  have hx := C.1
  have hb := C.2.1
  have hown := C.2.2.2.1
  have hts := C.2.2.2.2
  have hl : lv_has ls 2 [(0, .ref (b 0)), (1, .int p0)] := hl
  refine lv_aload_n hx hb dX11_alike_0 rfl (lv_at hl 0 rfl) ?_
  refine lv_iload_n hx hb dX11_alike_1 rfl (lv_at hl 1 rfl) ?_
  refine zcV_i (As := [.int p0]) (rest := []) (n9 := 1) (b := (b 0)) C hw (c_X11_noOffset l D y base S (b 0) p0 hM.1) gX11_alike_X11_noOffset rfl (by decide +kernel) ⟨⟨rfl, rfl⟩, Nat.le_of_ble_eq_true rfl, Nat.le_of_ble_eq_true rfl⟩ hM.1 ⟨by decide, by decide⟩ rfl rfl hl.1 rfl (Nat.le_of_ble_eq_true rfl) ⟨Nat.le_of_ble_eq_true rfl, Nat.le_of_ble_eq_true rfl⟩ dX11_alike_2 (fun r2 S2 H locs hp2 hw => ?_)
  obtain ⟨rfl, rfl⟩ := hp2
  refine lv_if_eq (tgt := 12) hx hb dX11_alike_5 (by decide) (fun c5 => ?_) (fun c5 => ?_)
  · replace c5 := zb0.mp c5
    refine lv_aload_n hx hb dX11_alike_12 rfl (lv_at hl 0 rfl) ?_
    refine lv_iload_n hx hb dX11_alike_13 rfl (lv_at hl 1 rfl) ?_
    refine lv_iconst (v := 1) hx hb dX11_alike_14 (by decide) ?_
    refine zcV_i (As := [.int p0, .int 1]) (rest := []) (n9 := 2) (b := (b 0)) C hw (c_X11_beside_1 l D y base (zsI S 240 (b 0) (zb (¬ (-399 ≤ p0 ∧ p0 ≤ 399)))) b p0 hM) gX11_alike_X11_beside rfl (by decide +kernel) ⟨⟨rfl, rfl⟩, Nat.le_of_ble_eq_true rfl, Nat.le_of_ble_eq_true rfl⟩ hM.1 ⟨by decide, by decide⟩ rfl rfl hl.1 rfl (Nat.le_of_ble_eq_true rfl) ⟨Nat.le_of_ble_eq_true rfl, Nat.le_of_ble_eq_true rfl⟩ dX11_alike_15 (fun r15 S15 H locs hp15 hw => ?_)
    obtain ⟨rfl, hS9⟩ := hp15
    have hS9 := hS9.symm
    subst hS9
    exact zri C hw hr hlocks rfl ⟨hM.1, ((zI_s S 240 (b 0) (zb (¬ (-399 ≤ p0 ∧ p0 ≤ 399))))).trans (by unfold kd_alike; (try unfold zb); grind), (fun h9 => by first | rfl | (revert h9; unfold kd_alike; (try unfold zb); grind))⟩ ⟨Nat.le_of_ble_eq_true rfl, Nat.le_of_ble_eq_true rfl⟩ dX11_alike_18
  · replace c5 := zb1.mp c5
    refine lv_iconst (v := 0) hx hb dX11_alike_8 (by decide) ?_
    refine lv_goto (tgt := 18) hx hb dX11_alike_9 (by decide) ?_
    exact zri C hw hr hlocks rfl ⟨hM.1, ((zI_s S 240 (b 0) (zb (¬ (-399 ≤ p0 ∧ p0 ≤ 399))))).trans (by unfold kd_alike; (try unfold zb); grind), (fun h9 => by first | rfl | (revert h9; unfold kd_alike; (try unfold zb); grind))⟩ ⟨Nat.le_of_ble_eq_true rfl, Nat.le_of_ble_eq_true rfl⟩ dX11_alike_18

set_option maxHeartbeats 4000000 in
set_option maxRecDepth 100000 in
/-- X11_differs -/
theorem c_X11_differs (l : Launch) (D : va_G) (y : Nat → ClassId) (base : Nat) (S : zS) (b : Nat → Nat) (p0 : Int32) (hM : zMd S b) (hM0 : zMd0 S b) : zMi l yX11_differs wsX11_differs ({ frames := 2, cells := 0, slots := 0, locals := 46 }) [.ref (b 0), .int p0] D y base S (fun (r : Int32) (S1 : zS) => zK S1 (b 0) = 15 ∧ zI S1 240 (b 0) = kd_differs p0 ∧ (kd_differs p0 = 0 → r = 0)) 0 0 := by
  refine zMet_of (cc := cX11_differs) (maxL := 3) (ret := (some .int)) (own := RX11) (by decide +kernel) rfl rfl (Nat.le_of_ble_eq_true rfl) ?_
  intro p e s m args below meth c ls C hr hlocks hnm hw hl
  have hx := C.1
  have hb := C.2.1
  have hown := C.2.2.2.1
  have hts := C.2.2.2.2
  have hl : lv_has ls 3 [(0, .ref (b 0)), (1, .int p0)] := hl
  have in_X11 : ∀ w ∈ wsX110, w ∈ wsX11_differs := by decide +kernel
  refine lv_aload_n hx hb dX11_differs_0 rfl (lv_at hl 0 rfl) ?_
  refine lv_iload_n hx hb dX11_differs_1 rfl (lv_at hl 1 rfl) ?_
  refine zcV_i (As := [.int p0]) (rest := []) (n9 := 1) (b := (b 0)) C hw (c_X11_noOffset l D y base S (b 0) p0 hM.1) gX11_differs_X11_noOffset rfl (by decide +kernel) ⟨⟨rfl, rfl⟩, Nat.le_of_ble_eq_true rfl, Nat.le_of_ble_eq_true rfl⟩ hM.1 ⟨by decide, by decide⟩ rfl rfl hl.1 rfl (Nat.le_of_ble_eq_true rfl) ⟨Nat.le_of_ble_eq_true rfl, Nat.le_of_ble_eq_true rfl⟩ dX11_differs_2 (fun r2 S2 H locs hp2 hw => ?_)
  obtain ⟨rfl, rfl⟩ := hp2
  refine lv_if_eq (tgt := 10) hx hb dX11_differs_5 (by decide) (fun c5 => ?_) (fun c5 => ?_)
  · replace c5 := zb0.mp c5
    refine lv_aload_n hx hb dX11_differs_10 rfl (lv_at hl 0 rfl) ?_
    refine lv_iload_n hx hb dX11_differs_11 rfl (lv_at hl 1 rfl) ?_
    refine lv_iconst (v := 0) hx hb dX11_differs_12 (by decide) ?_
    refine zcV_i (As := [.int p0, .int 0]) (rest := []) (n9 := 2) (b := (b 0)) C hw (c_X11_beside_0 l D y base (zsI S 240 (b 0) (zb (¬ (-399 ≤ p0 ∧ p0 ≤ 399)))) b p0 hM) gX11_differs_X11_beside rfl (by decide +kernel) ⟨⟨rfl, rfl⟩, Nat.le_of_ble_eq_true rfl, Nat.le_of_ble_eq_true rfl⟩ hM.1 ⟨by decide, by decide⟩ rfl rfl hl.1 rfl (Nat.le_of_ble_eq_true rfl) ⟨Nat.le_of_ble_eq_true rfl, Nat.le_of_ble_eq_true rfl⟩ dX11_differs_13 (fun r13 S13 H locs hp13 hw => ?_)
    obtain ⟨rfl, hS9⟩ := hp13
    have hS9 := hS9.symm
    subst hS9
    refine lv_istore_n (lv' := [(2, .int (-1)), (0, .ref (b 0)), (1, .int p0)]) hx hb dX11_differs_16 rfl hl (by decide) rfl (fun ls hl => ?_)
    refine lv_aload_n hx hb dX11_differs_17 rfl (lv_at hl 1 rfl) ?_
    refine lv_iload_n hx hb dX11_differs_18 rfl (lv_at hl 0 rfl) ?_
    refine lv_iconst (v := (-1)) hx hb dX11_differs_19 (by decide) ?_
    refine lv_icmp_ne (tgt := 27) hx hb dX11_differs_20 (by decide) (fun c20 => absurd c20 (by decide)) (fun _ => ?_)
    refine lv_iconst (v := 2) hx hb dX11_differs_23 (by decide) ?_
    refine lv_goto (tgt := 28) hx hb dX11_differs_24 (by decide) ?_
    refine p_Mod_thrown (a := (b 0)) (v := 2) C hw hM.1 in_X11 (by decide +kernel) dX11_differs_28 (fun H locs hw => ?_)
    refine lv_aload_n hx hb dX11_differs_31 rfl (lv_at hl 1 rfl) ?_
    refine g_Mod_thrown (a := (b 0)) (v := 2) C hw hM.1 in_X11 (by decide +kernel) (zI_s (zsI S 240 (b 0) (zb (¬ (-399 ≤ p0 ∧ p0 ≤ 399)))) 240 (b 0) 2) dX11_differs_32 ?_
    refine lv_if_le (tgt := 42) hx hb dX11_differs_35 (by decide) (fun c35 => absurd c35 (by decide)) (fun _ => ?_)
    refine lv_iconst (v := 0) hx hb dX11_differs_38 (by decide) ?_
    refine lv_goto (tgt := 43) hx hb dX11_differs_39 (by decide) ?_
    exact zri C hw hr hlocks rfl ⟨hM.1, ((zI_s (zsI S 240 (b 0) (zb (¬ (-399 ≤ p0 ∧ p0 ≤ 399)))) 240 (b 0) 2)).trans (by unfold kd_differs; (try unfold zb); grind), (fun h9 => by first | rfl | (revert h9; unfold kd_differs; (try unfold zb); grind))⟩ ⟨Nat.le_of_ble_eq_true rfl, Nat.le_of_ble_eq_true rfl⟩ dX11_differs_43
  · replace c5 := zb1.mp c5
    refine lv_iconst (v := 0) hx hb dX11_differs_8 (by decide) ?_
    exact zri C hw hr hlocks rfl ⟨hM.1, ((zI_s S 240 (b 0) (zb (¬ (-399 ≤ p0 ∧ p0 ≤ 399))))).trans (by unfold kd_differs; (try unfold zb); grind), (fun h9 => by first | rfl | (revert h9; unfold kd_differs; (try unfold zb); grind))⟩ ⟨Nat.le_of_ble_eq_true rfl, Nat.le_of_ble_eq_true rfl⟩ dX11_differs_9

set_option maxHeartbeats 4000000 in
set_option maxRecDepth 100000 in
/-- X11_isSound -/
theorem c_X11_isSound (l : Launch) (D : va_G) (y : Nat → ClassId) (base : Nat) (S : zS) (b : Nat → Nat) (hM : zMd S b) (hM0 : zMd0 S b) : zMi l yX11_isSound wsX11_isSound ({ frames := 0, cells := 0, slots := 0, locals := 0 }) [.ref (b 0)] D y base S (fun (r : Int32) (S1 : zS) => zK S1 (b 0) = 15 ∧ r = 1) 0 0 := by
  refine zMet_of (cc := cX11_isSound) (maxL := 1) (ret := (some .boolean)) (own := RX11) (by decide +kernel) rfl rfl (Nat.le_of_ble_eq_true rfl) ?_
  intro p e s m args below meth c ls C hr hlocks hnm hw hl
  have hx := C.1
  have hb := C.2.1
  have hown := C.2.2.2.1
  have hts := C.2.2.2.2
  have hl : lv_has ls 1 [(0, .ref (b 0))] := hl
  have in_X11 : ∀ w ∈ wsX110, w ∈ wsX11_isSound := by decide +kernel
  refine lv_aload_n hx hb dX11_isSound_0 rfl (lv_at hl 0 rfl) ?_
  refine lv_iconst (v := 0) hx hb dX11_isSound_1 (by decide) ?_
  refine p_Mod_thrown (a := (b 0)) (v := 0) C hw hM.1 in_X11 (by decide +kernel) dX11_isSound_2 (fun H locs hw => ?_)
  refine lv_iconst (v := 1) hx hb dX11_isSound_5 (by decide) ?_
  exact zri C hw hr hlocks (by decide) ⟨hM.1, (by first | rfl | exact rfl | ((try unfold zb); grind))⟩ ⟨Nat.le_of_ble_eq_true rfl, Nat.le_of_ble_eq_true rfl⟩ dX11_isSound_6

set_option maxHeartbeats 4000000 in
set_option maxRecDepth 100000 in
/-- X11_notes_ -/
theorem c_X11_notes_ (l : Launch) (D : va_G) (y : Nat → ClassId) (base : Nat) (S : zS) (b : Nat → Nat) (hM : zMd S b) (hM0 : zMd0 S b) : zMi l yX11_notes_ wsX11_notes_ ({ frames := 1, cells := 0, slots := 0, locals := 20 }) [.ref (b 0)] D y base S (fun (r : Int32) (S1 : zS) => zK S1 (b 0) = 15 ∧ r = 0) 0 0 := by
  refine zMet_of (cc := cX11_notes_) (maxL := 1) (ret := (some .int)) (own := RX11) (by decide +kernel) rfl rfl (Nat.le_of_ble_eq_true rfl) ?_
  intro p e s m args below meth c ls C hr hlocks hnm hw hl
  have hx := C.1
  have hb := C.2.1
  have hown := C.2.2.2.1
  have hts := C.2.2.2.2
  have hl : lv_has ls 1 [(0, .ref (b 0))] := hl
  have in_X11 : ∀ w ∈ wsX110, w ∈ wsX11_notes_ := by decide +kernel
  refine lv_aload_n hx hb dX11_notes__0 rfl (lv_at hl 0 rfl) ?_
  refine lv_iconst (v := 0) hx hb dX11_notes__1 (by decide) ?_
  refine p_Mod_thrown (a := (b 0)) (v := 0) C hw hM.1 in_X11 (by decide +kernel) dX11_notes__2 (fun H locs hw => ?_)
  refine lv_aload_n hx hb dX11_notes__5 rfl (lv_at hl 0 rfl) ?_
  refine g_Mod_notes (a := (b 0)) (v := (b 5)) C hw hM.1 in_X11 (by decide +kernel) hM.2.2.2.2.2.1 dX11_notes__6 ?_
  refine zcV_i (As := []) (rest := []) (n9 := 0) (b := (b 5)) C hw (c_Jx4a65c_size_8abf5 l D y base (zsI S 240 (b 0) 0) (b 5) hM.2.2.2.2.2.2.2.2.2.2.2.2.2.2.1 (zI_t (S := S) (t := 240) (a := (b 0)) (v := 0) (t' := 50) (a' := (b 5)) (u := 0) (by decide) hM0.2.2.2.2.1)) gX11_notes__Jx4a65c_size_8abf5 rfl (by decide +kernel) ⟨⟨rfl, rfl⟩, Nat.le_of_ble_eq_true rfl, Nat.le_of_ble_eq_true rfl⟩ hM.2.2.2.2.2.2.2.2.2.2.2.2.2.2.1 ⟨by decide, by decide⟩ rfl rfl hl.1 rfl (Nat.le_of_ble_eq_true rfl) ⟨Nat.le_of_ble_eq_true rfl, Nat.le_of_ble_eq_true rfl⟩ dX11_notes__9 (fun r9 S9 H locs hp9 hw => ?_)
  obtain ⟨rfl, hS9⟩ := hp9
  have hS9 := hS9.symm
  subst hS9
  exact zri C hw hr hlocks rfl ⟨hM.1, (by first | rfl | exact rfl | ((try unfold zb); grind))⟩ ⟨Nat.le_of_ble_eq_true rfl, Nat.le_of_ble_eq_true rfl⟩ dX11_notes__12

set_option maxHeartbeats 4000000 in
set_option maxRecDepth 100000 in
/-- X11_noNote -/
theorem c_X11_noNote (l : Launch) (D : va_G) (y : Nat → ClassId) (base : Nat) (S : zS) (b : Nat → Nat) (p0 : Int32) (hM : zMd S b) (h50 : zI S 50 (b 5) = 0) : zMi l yX11_noNote wsX11_noNote ({ frames := 1, cells := 0, slots := 0, locals := 25 }) [.ref (b 0), .int p0] D y base S (fun (r : Int32) (S1 : zS) => r = 1 ∧ S1 = zsI S 240 (b 0) 1) 0 0 := by
  refine zMet_of (cc := cX11_noNote) (maxL := 2) (ret := (some .boolean)) (own := RX11) (by decide +kernel) rfl rfl (Nat.le_of_ble_eq_true rfl) ?_
  intro p e s m args below meth c ls C hr hlocks hnm hw hl
  have hx := C.1
  have hb := C.2.1
  have hown := C.2.2.2.1
  have hts := C.2.2.2.2
  have hl : lv_has ls 2 [(0, .ref (b 0)), (1, .int p0)] := hl
  have in_X11 : ∀ w ∈ wsX110, w ∈ wsX11_noNote := by decide +kernel
  refine lv_aload_n hx hb dX11_noNote_0 rfl (lv_at hl 0 rfl) ?_
  refine lv_iload_n hx hb dX11_noNote_1 rfl (lv_at hl 1 rfl) ?_
  refine lv_i2l (v := p0.toInt64) hx hb dX11_noNote_2 rfl ?_
  refine lv_lconst (v := ((0 : Int32).toInt64)) hx hb dX11_noNote_3 (by decide) ?_
  refine lv_aload_n hx hb dX11_noNote_4 rfl (lv_at hl 0 rfl) ?_
  refine g_Mod_notes (a := (b 0)) (v := (b 5)) C hw hM.1 in_X11 (by decide +kernel) hM.2.2.2.2.2.1 dX11_noNote_5 ?_
  refine zcV_i (As := []) (rest := [.long ((0 : Int32).toInt64), .long (p0.toInt64), .ref (b 0)]) (n9 := 0) (b := (b 5)) C hw (c_Jx4a65c_size_8abf5 l D y base S (b 5) hM.2.2.2.2.2.2.2.2.2.2.2.2.2.2.1 h50) gX11_noNote_Jx4a65c_size_8abf5 rfl (by decide +kernel) ⟨⟨rfl, rfl⟩, Nat.le_of_ble_eq_true rfl, Nat.le_of_ble_eq_true rfl⟩ hM.2.2.2.2.2.2.2.2.2.2.2.2.2.2.1 ⟨by decide, by decide⟩ rfl rfl hl.1 rfl (Nat.le_of_ble_eq_true rfl) ⟨Nat.le_of_ble_eq_true rfl, Nat.le_of_ble_eq_true rfl⟩ dX11_noNote_8 (fun r8 S8 H locs hp8 hw => ?_)
  obtain ⟨rfl, hS9⟩ := hp8
  have hS9 := hS9.symm
  subst hS9
  refine lv_iconst (v := 1) hx hb dX11_noNote_11 (by decide) ?_
  refine lv_isub hx hb dX11_noNote_12 ?_
  refine zrd (x := (-1)) (by decide) ?_
  refine lv_i2l (v := (-1).toInt64) hx hb dX11_noNote_13 rfl ?_
  refine zcS_i (As := [.long (p0.toInt64), .long ((0 : Int32).toInt64), .long ((-1).toInt64)]) (rest := [.ref (b 0)]) (n9 := 3) C hw (c_X11_in l D y base S p0 (0 : Int32) (-1) ) gX11_noNote_X11_in rfl (by decide +kernel) ⟨⟨rfl, rfl⟩, Nat.le_of_ble_eq_true rfl, Nat.le_of_ble_eq_true rfl⟩ rfl hl.1 rfl (Nat.le_of_ble_eq_true rfl) ⟨Nat.le_of_ble_eq_true rfl, Nat.le_of_ble_eq_true rfl⟩ dX11_noNote_14 (fun r14 S14 H locs hp14 hw => ?_)
  obtain ⟨rfl, hS9⟩ := hp14
  have hS9 := hS9.symm
  subst hS9
  refine lv_if_eq (tgt := 24) hx hb dX11_noNote_17 (by decide) (fun c17 => ?_) (fun c17 => (show False from (by have h9 := zb1.mp c17; grind)).elim)
  replace c17 := zb0.mp c17
  refine lv_iconst (v := 1) hx hb dX11_noNote_24 (by decide) ?_
  refine p_Mod_thrown (a := (b 0)) (v := 1) C hw hM.1 in_X11 (by decide +kernel) dX11_noNote_25 (fun H locs hw => ?_)
  refine lv_aload_n hx hb dX11_noNote_28 rfl (lv_at hl 0 rfl) ?_
  refine g_Mod_thrown (a := (b 0)) (v := 1) C hw hM.1 in_X11 (by decide +kernel) (zI_s S 240 (b 0) 1) dX11_noNote_29 ?_
  refine lv_if_le (tgt := 39) hx hb dX11_noNote_32 (by decide) (fun c32 => absurd c32 (by decide)) (fun _ => ?_)
  refine lv_iconst (v := 1) hx hb dX11_noNote_35 (by decide) ?_
  refine lv_goto (tgt := 40) hx hb dX11_noNote_36 (by decide) ?_
  exact zri C hw hr hlocks (by decide) ⟨rfl, rfl⟩ ⟨Nat.le_of_ble_eq_true rfl, Nat.le_of_ble_eq_true rfl⟩ dX11_noNote_40

set_option maxHeartbeats 4000000 in
set_option maxRecDepth 100000 in
/-- X11_kind -/
theorem c_X11_kind (l : Launch) (D : va_G) (y : Nat → ClassId) (base : Nat) (S : zS) (b : Nat → Nat) (p0 : Int32) (hM : zMd S b) (hM0 : zMd0 S b) : zMi l yX11_kind wsX11_kind ({ frames := 2, cells := 0, slots := 0, locals := 46 }) [.ref (b 0), .int p0] D y base S (fun (r : Int32) (S1 : zS) => zK S1 (b 0) = 15 ∧ zI S1 240 (b 0) = (1 : Int32) ∧ ((1 : Int32) = 0 → r = 0)) 0 0 := by
  refine zMet_of (cc := cX11_kind) (maxL := 2) (ret := (some .char)) (own := RX11) (by decide +kernel) rfl rfl (Nat.le_of_ble_eq_true rfl) ?_
  intro p e s m args below meth c ls C hr hlocks hnm hw hl
  have hx := C.1
  have hb := C.2.1
  have hown := C.2.2.2.1
  have hts := C.2.2.2.2
  have hl : lv_has ls 2 [(0, .ref (b 0)), (1, .int p0)] := hl
  refine lv_aload_n hx hb dX11_kind_0 rfl (lv_at hl 0 rfl) ?_
  refine lv_iload_n hx hb dX11_kind_1 rfl (lv_at hl 1 rfl) ?_
  refine zcV_i (As := [.int p0]) (rest := []) (n9 := 1) (b := (b 0)) C hw (c_X11_noNote l D y base S b p0 hM hM0.2.2.2.2.1) gX11_kind_X11_noNote rfl (by decide +kernel) ⟨⟨rfl, rfl⟩, Nat.le_of_ble_eq_true rfl, Nat.le_of_ble_eq_true rfl⟩ hM.1 ⟨by decide, by decide⟩ rfl rfl hl.1 rfl (Nat.le_of_ble_eq_true rfl) ⟨Nat.le_of_ble_eq_true rfl, Nat.le_of_ble_eq_true rfl⟩ dX11_kind_2 (fun r2 S2 H locs hp2 hw => ?_)
  obtain ⟨rfl, rfl⟩ := hp2
  refine lv_if_eq (tgt := 13) hx hb dX11_kind_5 (by decide) (fun c5 => absurd c5 (by decide)) (fun _ => ?_)
  refine lv_bipush (v := 32) hx hb dX11_kind_8 (by decide) ?_
  refine lv_goto (tgt := 27) hx hb dX11_kind_10 (by decide) ?_
  exact zri C hw hr hlocks (by decide) ⟨hM.1, ((zI_s S 240 (b 0) 1)).trans (by (try unfold zb); grind), (fun h9 => by first | rfl | (revert h9; (try unfold zb); grind))⟩ ⟨Nat.le_of_ble_eq_true rfl, Nat.le_of_ble_eq_true rfl⟩ dX11_kind_27

set_option maxHeartbeats 4000000 in
set_option maxRecDepth 100000 in
/-- X11_begin -/
theorem c_X11_begin (l : Launch) (D : va_G) (y : Nat → ClassId) (base : Nat) (S : zS) (b : Nat → Nat) (p0 : Int32) (hM : zMd S b) (hM0 : zMd0 S b) : zMi l yX11_begin wsX11_begin ({ frames := 2, cells := 0, slots := 0, locals := 46 }) [.ref (b 0), .int p0] D y base S (fun (r : Int32) (S1 : zS) => zK S1 (b 0) = 15 ∧ zI S1 240 (b 0) = (1 : Int32) ∧ ((1 : Int32) = 0 → r = 0)) 0 0 := by
  refine zMet_of (cc := cX11_begin) (maxL := 2) (ret := (some .int)) (own := RX11) (by decide +kernel) rfl rfl (Nat.le_of_ble_eq_true rfl) ?_
  intro p e s m args below meth c ls C hr hlocks hnm hw hl
  have hx := C.1
  have hb := C.2.1
  have hown := C.2.2.2.1
  have hts := C.2.2.2.2
  have hl : lv_has ls 2 [(0, .ref (b 0)), (1, .int p0)] := hl
  refine lv_aload_n hx hb dX11_begin_0 rfl (lv_at hl 0 rfl) ?_
  refine lv_iload_n hx hb dX11_begin_1 rfl (lv_at hl 1 rfl) ?_
  refine zcV_i (As := [.int p0]) (rest := []) (n9 := 1) (b := (b 0)) C hw (c_X11_noNote l D y base S b p0 hM hM0.2.2.2.2.1) gX11_begin_X11_noNote rfl (by decide +kernel) ⟨⟨rfl, rfl⟩, Nat.le_of_ble_eq_true rfl, Nat.le_of_ble_eq_true rfl⟩ hM.1 ⟨by decide, by decide⟩ rfl rfl hl.1 rfl (Nat.le_of_ble_eq_true rfl) ⟨Nat.le_of_ble_eq_true rfl, Nat.le_of_ble_eq_true rfl⟩ dX11_begin_2 (fun r2 S2 H locs hp2 hw => ?_)
  obtain ⟨rfl, rfl⟩ := hp2
  refine lv_if_eq (tgt := 12) hx hb dX11_begin_5 (by decide) (fun c5 => absurd c5 (by decide)) (fun _ => ?_)
  refine lv_iconst (v := 0) hx hb dX11_begin_8 (by decide) ?_
  refine lv_goto (tgt := 26) hx hb dX11_begin_9 (by decide) ?_
  exact zri C hw hr hlocks rfl ⟨hM.1, ((zI_s S 240 (b 0) 1)).trans (by (try unfold zb); grind), (fun h9 => by first | rfl | (revert h9; (try unfold zb); grind))⟩ ⟨Nat.le_of_ble_eq_true rfl, Nat.le_of_ble_eq_true rfl⟩ dX11_begin_26

set_option maxHeartbeats 4000000 in
set_option maxRecDepth 100000 in
/-- X11_end -/
theorem c_X11_end (l : Launch) (D : va_G) (y : Nat → ClassId) (base : Nat) (S : zS) (b : Nat → Nat) (p0 : Int32) (hM : zMd S b) (hM0 : zMd0 S b) : zMi l yX11_end wsX11_end ({ frames := 2, cells := 0, slots := 0, locals := 46 }) [.ref (b 0), .int p0] D y base S (fun (r : Int32) (S1 : zS) => zK S1 (b 0) = 15 ∧ zI S1 240 (b 0) = (1 : Int32) ∧ ((1 : Int32) = 0 → r = 0)) 0 0 := by
  refine zMet_of (cc := cX11_end) (maxL := 2) (ret := (some .int)) (own := RX11) (by decide +kernel) rfl rfl (Nat.le_of_ble_eq_true rfl) ?_
  intro p e s m args below meth c ls C hr hlocks hnm hw hl
  have hx := C.1
  have hb := C.2.1
  have hown := C.2.2.2.1
  have hts := C.2.2.2.2
  have hl : lv_has ls 2 [(0, .ref (b 0)), (1, .int p0)] := hl
  refine lv_aload_n hx hb dX11_end_0 rfl (lv_at hl 0 rfl) ?_
  refine lv_iload_n hx hb dX11_end_1 rfl (lv_at hl 1 rfl) ?_
  refine zcV_i (As := [.int p0]) (rest := []) (n9 := 1) (b := (b 0)) C hw (c_X11_noNote l D y base S b p0 hM hM0.2.2.2.2.1) gX11_end_X11_noNote rfl (by decide +kernel) ⟨⟨rfl, rfl⟩, Nat.le_of_ble_eq_true rfl, Nat.le_of_ble_eq_true rfl⟩ hM.1 ⟨by decide, by decide⟩ rfl rfl hl.1 rfl (Nat.le_of_ble_eq_true rfl) ⟨Nat.le_of_ble_eq_true rfl, Nat.le_of_ble_eq_true rfl⟩ dX11_end_2 (fun r2 S2 H locs hp2 hw => ?_)
  obtain ⟨rfl, rfl⟩ := hp2
  refine lv_if_eq (tgt := 12) hx hb dX11_end_5 (by decide) (fun c5 => absurd c5 (by decide)) (fun _ => ?_)
  refine lv_iconst (v := 0) hx hb dX11_end_8 (by decide) ?_
  refine lv_goto (tgt := 26) hx hb dX11_end_9 (by decide) ?_
  exact zri C hw hr hlocks rfl ⟨hM.1, ((zI_s S 240 (b 0) 1)).trans (by (try unfold zb); grind), (fun h9 => by first | rfl | (revert h9; (try unfold zb); grind))⟩ ⟨Nat.le_of_ble_eq_true rfl, Nat.le_of_ble_eq_true rfl⟩ dX11_end_26

set_option maxHeartbeats 4000000 in
set_option maxRecDepth 100000 in
/-- X11_value -/
theorem c_X11_value (l : Launch) (D : va_G) (y : Nat → ClassId) (base : Nat) (S : zS) (b : Nat → Nat) (p0 : Int32) (hM : zMd S b) (hM0 : zMd0 S b) : zMi l yX11_value wsX11_value ({ frames := 2, cells := 0, slots := 0, locals := 46 }) [.ref (b 0), .int p0] D y base S (fun (r : Int32) (S1 : zS) => zK S1 (b 0) = 15 ∧ zI S1 240 (b 0) = (1 : Int32) ∧ ((1 : Int32) = 0 → r = 0)) 0 0 := by
  refine zMet_of (cc := cX11_value) (maxL := 2) (ret := (some .int)) (own := RX11) (by decide +kernel) rfl rfl (Nat.le_of_ble_eq_true rfl) ?_
  intro p e s m args below meth c ls C hr hlocks hnm hw hl
  have hx := C.1
  have hb := C.2.1
  have hown := C.2.2.2.1
  have hts := C.2.2.2.2
  have hl : lv_has ls 2 [(0, .ref (b 0)), (1, .int p0)] := hl
  refine lv_aload_n hx hb dX11_value_0 rfl (lv_at hl 0 rfl) ?_
  refine lv_iload_n hx hb dX11_value_1 rfl (lv_at hl 1 rfl) ?_
  refine zcV_i (As := [.int p0]) (rest := []) (n9 := 1) (b := (b 0)) C hw (c_X11_noNote l D y base S b p0 hM hM0.2.2.2.2.1) gX11_value_X11_noNote rfl (by decide +kernel) ⟨⟨rfl, rfl⟩, Nat.le_of_ble_eq_true rfl, Nat.le_of_ble_eq_true rfl⟩ hM.1 ⟨by decide, by decide⟩ rfl rfl hl.1 rfl (Nat.le_of_ble_eq_true rfl) ⟨Nat.le_of_ble_eq_true rfl, Nat.le_of_ble_eq_true rfl⟩ dX11_value_2 (fun r2 S2 H locs hp2 hw => ?_)
  obtain ⟨rfl, rfl⟩ := hp2
  refine lv_if_eq (tgt := 12) hx hb dX11_value_5 (by decide) (fun c5 => absurd c5 (by decide)) (fun _ => ?_)
  refine lv_iconst (v := 0) hx hb dX11_value_8 (by decide) ?_
  refine lv_goto (tgt := 26) hx hb dX11_value_9 (by decide) ?_
  exact zri C hw hr hlocks rfl ⟨hM.1, ((zI_s S 240 (b 0) 1)).trans (by (try unfold zb); grind), (fun h9 => by first | rfl | (revert h9; (try unfold zb); grind))⟩ ⟨Nat.le_of_ble_eq_true rfl, Nat.le_of_ble_eq_true rfl⟩ dX11_value_26

set_option maxHeartbeats 4000000 in
set_option maxRecDepth 100000 in
/-- X11_fault -/
theorem c_X11_fault (l : Launch) (D : va_G) (y : Nat → ClassId) (base : Nat) (S : zS) (b : Nat → Nat) (p0 : Int32) (hM : zMd S b) (hM0 : zMd0 S b) : zMi l yX11_fault wsX11_fault ({ frames := 2, cells := 0, slots := 0, locals := 46 }) [.ref (b 0), .int p0] D y base S (fun (r : Int32) (S1 : zS) => zK S1 (b 0) = 15 ∧ zI S1 240 (b 0) = (1 : Int32) ∧ ((1 : Int32) = 0 → r = 0)) 0 0 := by
  refine zMet_of (cc := cX11_fault) (maxL := 2) (ret := (some .char)) (own := RX11) (by decide +kernel) rfl rfl (Nat.le_of_ble_eq_true rfl) ?_
  intro p e s m args below meth c ls C hr hlocks hnm hw hl
  have hx := C.1
  have hb := C.2.1
  have hown := C.2.2.2.1
  have hts := C.2.2.2.2
  have hl : lv_has ls 2 [(0, .ref (b 0)), (1, .int p0)] := hl
  refine lv_aload_n hx hb dX11_fault_0 rfl (lv_at hl 0 rfl) ?_
  refine lv_iload_n hx hb dX11_fault_1 rfl (lv_at hl 1 rfl) ?_
  refine zcV_i (As := [.int p0]) (rest := []) (n9 := 1) (b := (b 0)) C hw (c_X11_noNote l D y base S b p0 hM hM0.2.2.2.2.1) gX11_fault_X11_noNote rfl (by decide +kernel) ⟨⟨rfl, rfl⟩, Nat.le_of_ble_eq_true rfl, Nat.le_of_ble_eq_true rfl⟩ hM.1 ⟨by decide, by decide⟩ rfl rfl hl.1 rfl (Nat.le_of_ble_eq_true rfl) ⟨Nat.le_of_ble_eq_true rfl, Nat.le_of_ble_eq_true rfl⟩ dX11_fault_2 (fun r2 S2 H locs hp2 hw => ?_)
  obtain ⟨rfl, rfl⟩ := hp2
  refine lv_if_eq (tgt := 13) hx hb dX11_fault_5 (by decide) (fun c5 => absurd c5 (by decide)) (fun _ => ?_)
  refine lv_bipush (v := 32) hx hb dX11_fault_8 (by decide) ?_
  refine lv_goto (tgt := 27) hx hb dX11_fault_10 (by decide) ?_
  exact zri C hw hr hlocks (by decide) ⟨hM.1, ((zI_s S 240 (b 0) 1)).trans (by (try unfold zb); grind), (fun h9 => by first | rfl | (revert h9; (try unfold zb); grind))⟩ ⟨Nat.le_of_ble_eq_true rfl, Nat.le_of_ble_eq_true rfl⟩ dX11_fault_27

