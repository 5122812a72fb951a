set_option maxHeartbeats 4000000 in
set_option maxRecDepth 100000 in
/-- X7_checkWire -/
theorem c_X7_checkWire (l : Launch) (hst : l.stackTraces = false) (D : va_G) (y : Nat → ClassId) (base : Nat) (S : zS) (p0 : Int32)  : zXv l yX7_checkWire wsX7_checkWire ({ frames := 6, cells := 1, slots := 6, locals := 90 }) [.int p0] D y base S (fun (S1 : zS) => (0 ≤ p0 ∧ p0 ≤ 3) ∧ S1 = S) (fun (E : String) (S1 : zS) => E = "java/lang/IndexOutOfBoundsException" ∧ ¬ (0 ≤ p0 ∧ p0 ≤ 3) ∧ S1 = S) 1 6 := by
  refine zXet_of (cc := cX7_checkWire) (maxL := 1) (ret := none) (own := RX7) (by decide +kernel) rfl rfl (Nat.le_of_ble_eq_true rfl) ?_
  intro p e s m args below meth c ls C hr hlocks hx0 hw hl
  have hx := C.1
  have hb := C.2.1
  have hown := C.2.2.2.1
  have hts := C.2.2.2.2
  have hl : lv_has ls 1 [(0, .int p0)] := hl
  refine lv_iload_n hx hb dX7_checkWire_0 rfl (lv_at hl 0 rfl) ?_
  refine lv_if_lt (tgt := 9) hx hb dX7_checkWire_1 (by decide) (fun c1 => ?_) (fun c1 => ?_)
  · exact zthrow (cls := "java/lang/IndexOutOfBoundsException") (text := "no such wire") (names := ["java/lang/RuntimeException", "java/lang/Exception"]) (ik := 284) (is := 286) (ic := 288) C hw hx0 hlocks hst (by decide +kernel) (by decide +kernel) (by decide +kernel) (by decide +kernel) (by decide +kernel) (by decide +kernel) (by decide +kernel) hl.1 dX7_checkWire_9 dX7_checkWire_12 dX7_checkWire_13 dX7_checkWire_16 dX7_checkWire_19 (Nat.le_of_ble_eq_true rfl) (Nat.le_of_ble_eq_true rfl) ⟨Nat.le_of_ble_eq_true rfl, Nat.le_of_ble_eq_true rfl⟩ (by refine ⟨rfl, ?_, rfl⟩; grind) ⟨Nat.le_of_ble_eq_true rfl, Nat.le_of_ble_eq_true rfl⟩
  · refine lv_iload_n hx hb dX7_checkWire_4 rfl (lv_at hl 0 rfl) ?_
    refine lv_iconst (v := 4) hx hb dX7_checkWire_5 (by decide) ?_
    refine lv_icmp_lt (tgt := 20) hx hb dX7_checkWire_6 (by decide) (fun c6 => ?_) (fun c6 => ?_)
    · exact vx_ret (zrv C hw hr hlocks (by refine ⟨?_, rfl⟩; grind) ⟨Nat.le_of_ble_eq_true rfl, Nat.le_of_ble_eq_true rfl⟩ dX7_checkWire_20)
    · exact zthrow (cls := "java/lang/IndexOutOfBoundsException") (text := "no such wire") (names := ["java/lang/RuntimeException", "java/lang/Exception"]) (ik := 284) (is := 286) (ic := 288) C hw hx0 hlocks hst (by decide +kernel) (by decide +kernel) (by decide +kernel) (by decide +kernel) (by decide +kernel) (by decide +kernel) (by decide +kernel) hl.1 dX7_checkWire_9 dX7_checkWire_12 dX7_checkWire_13 dX7_checkWire_16 dX7_checkWire_19 (Nat.le_of_ble_eq_true rfl) (Nat.le_of_ble_eq_true rfl) ⟨Nat.le_of_ble_eq_true rfl, Nat.le_of_ble_eq_true rfl⟩ (by refine ⟨rfl, ?_, rfl⟩; grind) ⟨Nat.le_of_ble_eq_true rfl, Nat.le_of_ble_eq_true rfl⟩

set_option maxHeartbeats 4000000 in
set_option maxRecDepth 100000 in
/-- X7_checkCapture -/
theorem c_X7_checkCapture (l : Launch) (hst : l.stackTraces = false) (D : va_G) (y : Nat → ClassId) (base : Nat) (S : zS) (p0 : Int32)  : zXv l yX7_checkCapture wsX7_checkCapture ({ frames := 6, cells := 1, slots := 6, locals := 90 }) [.int p0] D y base S (fun (S1 : zS) => (0 ≤ p0 ∧ p0 ≤ 1) ∧ S1 = S) (fun (E : String) (S1 : zS) => E = "java/lang/IndexOutOfBoundsException" ∧ ¬ (0 ≤ p0 ∧ p0 ≤ 1) ∧ S1 = S) 1 6 := by
  refine zXet_of (cc := cX7_checkCapture) (maxL := 1) (ret := none) (own := RX7) (by decide +kernel) rfl rfl (Nat.le_of_ble_eq_true rfl) ?_
  intro p e s m args below meth c ls C hr hlocks hx0 hw hl
  have hx := C.1
  have hb := C.2.1
  have hown := C.2.2.2.1
  have hts := C.2.2.2.2
  have hl : lv_has ls 1 [(0, .int p0)] := hl
  refine lv_iload_n hx hb dX7_checkCapture_0 rfl (lv_at hl 0 rfl) ?_
  refine lv_if_lt (tgt := 9) hx hb dX7_checkCapture_1 (by decide) (fun c1 => ?_) (fun c1 => ?_)
  · exact zthrow (cls := "java/lang/IndexOutOfBoundsException") (text := "no such capture") (names := ["java/lang/RuntimeException", "java/lang/Exception"]) (ik := 284) (is := 291) (ic := 288) C hw hx0 hlocks hst (by decide +kernel) (by decide +kernel) (by decide +kernel) (by decide +kernel) (by decide +kernel) (by decide +kernel) (by decide +kernel) hl.1 dX7_checkCapture_9 dX7_checkCapture_12 dX7_checkCapture_13 dX7_checkCapture_16 dX7_checkCapture_19 (Nat.le_of_ble_eq_true rfl) (Nat.le_of_ble_eq_true rfl) ⟨Nat.le_of_ble_eq_true rfl, Nat.le_of_ble_eq_true rfl⟩ (by refine ⟨rfl, ?_, rfl⟩; grind) ⟨Nat.le_of_ble_eq_true rfl, Nat.le_of_ble_eq_true rfl⟩
  · refine lv_iload_n hx hb dX7_checkCapture_4 rfl (lv_at hl 0 rfl) ?_
    refine lv_iconst (v := 2) hx hb dX7_checkCapture_5 (by decide) ?_
    refine lv_icmp_lt (tgt := 20) hx hb dX7_checkCapture_6 (by decide) (fun c6 => ?_) (fun c6 => ?_)
    · exact vx_ret (zrv C hw hr hlocks (by refine ⟨?_, rfl⟩; grind) ⟨Nat.le_of_ble_eq_true rfl, Nat.le_of_ble_eq_true rfl⟩ dX7_checkCapture_20)
    · exact zthrow (cls := "java/lang/IndexOutOfBoundsException") (text := "no such capture") (names := ["java/lang/RuntimeException", "java/lang/Exception"]) (ik := 284) (is := 291) (ic := 288) C hw hx0 hlocks hst (by decide +kernel) (by decide +kernel) (by decide +kernel) (by decide +kernel) (by decide +kernel) (by decide +kernel) (by decide +kernel) hl.1 dX7_checkCapture_9 dX7_checkCapture_12 dX7_checkCapture_13 dX7_checkCapture_16 dX7_checkCapture_19 (Nat.le_of_ble_eq_true rfl) (Nat.le_of_ble_eq_true rfl) ⟨Nat.le_of_ble_eq_true rfl, Nat.le_of_ble_eq_true rfl⟩ (by refine ⟨rfl, ?_, rfl⟩; grind) ⟨Nat.le_of_ble_eq_true rfl, Nat.le_of_ble_eq_true rfl⟩

set_option maxHeartbeats 4000000 in
set_option maxRecDepth 100000 in
/-- X7_checkRange -/
theorem c_X7_checkRange (l : Launch) (hst : l.stackTraces = false) (D : va_G) (y : Nat → ClassId) (base : Nat) (S : zS) (p0 : Int32) (p1 : Int32) (p2 : Int32)  : zXv l yX7_checkRange wsX7_checkRange ({ frames := 6, cells := 1, slots := 6, locals := 90 }) [.int p0, .int p1, .int p2] D y base S (fun (S1 : zS) => (p1 ≤ p0 ∧ p0 ≤ p2) ∧ S1 = S) (fun (E : String) (S1 : zS) => E = "java/lang/IllegalArgumentException" ∧ ¬ (p1 ≤ p0 ∧ p0 ≤ p2) ∧ S1 = S) 1 6 := by
  refine zXet_of (cc := cX7_checkRange) (maxL := 3) (ret := none) (own := RX7) (by decide +kernel) rfl rfl (Nat.le_of_ble_eq_true rfl) ?_
  intro p e s m args below meth c ls C hr hlocks hx0 hw hl
  have hx := C.1
  have hb := C.2.1
  have hown := C.2.2.2.1
  have hts := C.2.2.2.2
  have hl : lv_has ls 3 [(0, .int p0), (1, .int p1), (2, .int p2)] := hl
  refine lv_iload_n hx hb dX7_checkRange_0 rfl (lv_at hl 0 rfl) ?_
  refine lv_iload_n hx hb dX7_checkRange_1 rfl (lv_at hl 1 rfl) ?_
  refine lv_icmp_lt (tgt := 10) hx hb dX7_checkRange_2 (by decide) (fun c2 => ?_) (fun c2 => ?_)
  · exact zthrow (cls := "java/lang/IllegalArgumentException") (text := "a number is out of range") (names := ["java/lang/RuntimeException", "java/lang/Exception"]) (ik := 295) (is := 297) (ic := 299) C hw hx0 hlocks hst (by decide +kernel) (by decide +kernel) (by decide +kernel) (by decide +kernel) (by decide +kernel) (by decide +kernel) (by decide +kernel) hl.1 dX7_checkRange_10 dX7_checkRange_13 dX7_checkRange_14 dX7_checkRange_17 dX7_checkRange_20 (Nat.le_of_ble_eq_true rfl) (Nat.le_of_ble_eq_true rfl) ⟨Nat.le_of_ble_eq_true rfl, Nat.le_of_ble_eq_true rfl⟩ (by refine ⟨rfl, ?_, rfl⟩; grind) ⟨Nat.le_of_ble_eq_true rfl, Nat.le_of_ble_eq_true rfl⟩
  · refine lv_iload_n hx hb dX7_checkRange_5 rfl (lv_at hl 0 rfl) ?_
    refine lv_iload_n hx hb dX7_checkRange_6 rfl (lv_at hl 2 rfl) ?_
    refine lv_icmp_le (tgt := 21) hx hb dX7_checkRange_7 (by decide) (fun c7 => ?_) (fun c7 => ?_)
    · exact vx_ret (zrv C hw hr hlocks (by refine ⟨?_, rfl⟩; grind) ⟨Nat.le_of_ble_eq_true rfl, Nat.le_of_ble_eq_true rfl⟩ dX7_checkRange_21)
    · exact zthrow (cls := "java/lang/IllegalArgumentException") (text := "a number is out of range") (names := ["java/lang/RuntimeException", "java/lang/Exception"]) (ik := 295) (is := 297) (ic := 299) C hw hx0 hlocks hst (by decide +kernel) (by decide +kernel) (by decide +kernel) (by decide +kernel) (by decide +kernel) (by decide +kernel) (by decide +kernel) hl.1 dX7_checkRange_10 dX7_checkRange_13 dX7_checkRange_14 dX7_checkRange_17 dX7_checkRange_20 (Nat.le_of_ble_eq_true rfl) (Nat.le_of_ble_eq_true rfl) ⟨Nat.le_of_ble_eq_true rfl, Nat.le_of_ble_eq_true rfl⟩ (by refine ⟨rfl, ?_, rfl⟩; grind) ⟨Nat.le_of_ble_eq_true rfl, Nat.le_of_ble_eq_true rfl⟩

set_option maxHeartbeats 4000000 in
set_option maxRecDepth 100000 in
/-- X7_checkParity -/
theorem c_X7_checkParity (l : Launch) (hst : l.stackTraces = false) (D : va_G) (y : Nat → ClassId) (base : Nat) (S : zS) (p0 : Int32)  : zXv l yX7_checkParity wsX7_checkParity ({ frames := 6, cells := 1, slots := 6, locals := 90 }) [.int p0] D y base S (fun (S1 : zS) => (p0 = 110 ∨ p0 = 101 ∨ p0 = 111) ∧ S1 = S) (fun (E : String) (S1 : zS) => E = "java/lang/IllegalArgumentException" ∧ ¬ (p0 = 110 ∨ p0 = 101 ∨ p0 = 111) ∧ S1 = S) 1 6 := by
  refine zXet_of (cc := cX7_checkParity) (maxL := 1) (ret := none) (own := RX7) (by decide +kernel) rfl rfl (Nat.le_of_ble_eq_true rfl) ?_
  intro p e s m args below meth c ls C hr hlocks hx0 hw hl
  have hx := C.1
  have hb := C.2.1
  have hown := C.2.2.2.1
  have hts := C.2.2.2.2
  have hl : lv_has ls 1 [(0, .int p0)] := hl
  refine lv_iload_n hx hb dX7_checkParity_0 rfl (lv_at hl 0 rfl) ?_
  refine lv_bipush (v := 110) hx hb dX7_checkParity_1 (by decide) ?_
  refine lv_icmp_eq (tgt := 29) hx hb dX7_checkParity_3 (by decide) (fun c3 => ?_) (fun c3 => ?_)
  · exact vx_ret (zrv C hw hr hlocks (by refine ⟨?_, rfl⟩; grind) ⟨Nat.le_of_ble_eq_true rfl, Nat.le_of_ble_eq_true rfl⟩ dX7_checkParity_29)
  · refine lv_iload_n hx hb dX7_checkParity_6 rfl (lv_at hl 0 rfl) ?_
    refine lv_bipush (v := 101) hx hb dX7_checkParity_7 (by decide) ?_
    refine lv_icmp_eq (tgt := 29) hx hb dX7_checkParity_9 (by decide) (fun c9 => ?_) (fun c9 => ?_)
    · exact vx_ret (zrv C hw hr hlocks (by refine ⟨?_, rfl⟩; grind) ⟨Nat.le_of_ble_eq_true rfl, Nat.le_of_ble_eq_true rfl⟩ dX7_checkParity_29)
    · refine lv_iload_n hx hb dX7_checkParity_12 rfl (lv_at hl 0 rfl) ?_
      refine lv_bipush (v := 111) hx hb dX7_checkParity_13 (by decide) ?_
      refine lv_icmp_eq (tgt := 29) hx hb dX7_checkParity_15 (by decide) (fun c15 => ?_) (fun c15 => ?_)
      · exact vx_ret (zrv C hw hr hlocks (by refine ⟨?_, rfl⟩; grind) ⟨Nat.le_of_ble_eq_true rfl, Nat.le_of_ble_eq_true rfl⟩ dX7_checkParity_29)
      · exact zthrow (cls := "java/lang/IllegalArgumentException") (text := "no such parity") (names := ["java/lang/RuntimeException", "java/lang/Exception"]) (ik := 295) (is := 300) (ic := 299) C hw hx0 hlocks hst (by decide +kernel) (by decide +kernel) (by decide +kernel) (by decide +kernel) (by decide +kernel) (by decide +kernel) (by decide +kernel) hl.1 dX7_checkParity_18 dX7_checkParity_21 dX7_checkParity_22 dX7_checkParity_25 dX7_checkParity_28 (Nat.le_of_ble_eq_true rfl) (Nat.le_of_ble_eq_true rfl) ⟨Nat.le_of_ble_eq_true rfl, Nat.le_of_ble_eq_true rfl⟩ (by refine ⟨rfl, ?_, rfl⟩; grind) ⟨Nat.le_of_ble_eq_true rfl, Nat.le_of_ble_eq_true rfl⟩

set_option maxHeartbeats 4000000 in
set_option maxRecDepth 100000 in
/-- X7_checkApart -/
theorem c_X7_checkApart (l : Launch) (hst : l.stackTraces = false) (D : va_G) (y : Nat → ClassId) (base : Nat) (S : zS) (p0 : Int32) (p1 : Int32)  : zXv l yX7_checkApart wsX7_checkApart ({ frames := 6, cells := 1, slots := 6, locals := 90 }) [.int p0, .int p1] D y base S (fun (S1 : zS) => (¬ p0 = p1) ∧ S1 = S) (fun (E : String) (S1 : zS) => E = "java/lang/IllegalArgumentException" ∧ ¬ (¬ p0 = p1) ∧ S1 = S) 1 6 := by
  refine zXet_of (cc := cX7_checkApart) (maxL := 2) (ret := none) (own := RX7) (by decide +kernel) rfl rfl (Nat.le_of_ble_eq_true rfl) ?_
  intro p e s m args below meth c ls C hr hlocks hx0 hw hl
  have hx := C.1
  have hb := C.2.1
  have hown := C.2.2.2.1
  have hts := C.2.2.2.2
  have hl : lv_has ls 2 [(0, .int p0), (1, .int p1)] := hl
  refine lv_iload_n hx hb dX7_checkApart_0 rfl (lv_at hl 0 rfl) ?_
  refine lv_iload_n hx hb dX7_checkApart_1 rfl (lv_at hl 1 rfl) ?_
  refine lv_icmp_ne (tgt := 16) hx hb dX7_checkApart_2 (by decide) (fun c2 => ?_) (fun c2 => ?_)
  · exact vx_ret (zrv C hw hr hlocks (by refine ⟨?_, rfl⟩; grind) ⟨Nat.le_of_ble_eq_true rfl, Nat.le_of_ble_eq_true rfl⟩ dX7_checkApart_16)
  · exact zthrow (cls := "java/lang/IllegalArgumentException") (text := "two wires are the same") (names := ["java/lang/RuntimeException", "java/lang/Exception"]) (ik := 295) (is := 302) (ic := 299) C hw hx0 hlocks hst (by decide +kernel) (by decide +kernel) (by decide +kernel) (by decide +kernel) (by decide +kernel) (by decide +kernel) (by decide +kernel) hl.1 dX7_checkApart_5 dX7_checkApart_8 dX7_checkApart_9 dX7_checkApart_12 dX7_checkApart_15 (Nat.le_of_ble_eq_true rfl) (Nat.le_of_ble_eq_true rfl) ⟨Nat.le_of_ble_eq_true rfl, Nat.le_of_ble_eq_true rfl⟩ (by refine ⟨rfl, ?_, rfl⟩; grind) ⟨Nat.le_of_ble_eq_true rfl, Nat.le_of_ble_eq_true rfl⟩

set_option maxHeartbeats 4000000 in
set_option maxRecDepth 100000 in
/-- X7_checkStepKind -/
theorem c_X7_checkStepKind (l : Launch) (hst : l.stackTraces = false) (D : va_G) (y : Nat → ClassId) (base : Nat) (S : zS) (p0 : Int32)  : zXv l yX7_checkStepKind wsX7_checkStepKind ({ frames := 6, cells := 1, slots := 6, locals := 90 }) [.int p0] D y base S (fun (S1 : zS) => (p0 = 114 ∨ p0 = 102 ∨ p0 = 104 ∨ p0 = 108 ∨ p0 = 112 ∨ p0 = 116) ∧ S1 = S) (fun (E : String) (S1 : zS) => E = "java/lang/IllegalArgumentException" ∧ ¬ (p0 = 114 ∨ p0 = 102 ∨ p0 = 104 ∨ p0 = 108 ∨ p0 = 112 ∨ p0 = 116) ∧ S1 = S) 1 6 := by
  refine zXet_of (cc := cX7_checkStepKind) (maxL := 1) (ret := none) (own := RX7) (by decide +kernel) rfl rfl (Nat.le_of_ble_eq_true rfl) ?_
  intro p e s m args below meth c ls C hr hlocks hx0 hw hl
  have hx := C.1
  have hb := C.2.1
  have hown := C.2.2.2.1
  have hts := C.2.2.2.2
  have hl : lv_has ls 1 [(0, .int p0)] := hl
  refine lv_iload_n hx hb dX7_checkStepKind_0 rfl (lv_at hl 0 rfl) ?_
  refine lv_bipush (v := 114) hx hb dX7_checkStepKind_1 (by decide) ?_
  refine lv_icmp_eq (tgt := 47) hx hb dX7_checkStepKind_3 (by decide) (fun c3 => ?_) (fun c3 => ?_)
  · exact vx_ret (zrv C hw hr hlocks (by refine ⟨?_, rfl⟩; grind) ⟨Nat.le_of_ble_eq_true rfl, Nat.le_of_ble_eq_true rfl⟩ dX7_checkStepKind_47)
  · refine lv_iload_n hx hb dX7_checkStepKind_6 rfl (lv_at hl 0 rfl) ?_
    refine lv_bipush (v := 102) hx hb dX7_checkStepKind_7 (by decide) ?_
    refine lv_icmp_eq (tgt := 47) hx hb dX7_checkStepKind_9 (by decide) (fun c9 => ?_) (fun c9 => ?_)
    · exact vx_ret (zrv C hw hr hlocks (by refine ⟨?_, rfl⟩; grind) ⟨Nat.le_of_ble_eq_true rfl, Nat.le_of_ble_eq_true rfl⟩ dX7_checkStepKind_47)
    · refine lv_iload_n hx hb dX7_checkStepKind_12 rfl (lv_at hl 0 rfl) ?_
      refine lv_bipush (v := 104) hx hb dX7_checkStepKind_13 (by decide) ?_
      refine lv_icmp_eq (tgt := 47) hx hb dX7_checkStepKind_15 (by decide) (fun c15 => ?_) (fun c15 => ?_)
      · exact vx_ret (zrv C hw hr hlocks (by refine ⟨?_, rfl⟩; grind) ⟨Nat.le_of_ble_eq_true rfl, Nat.le_of_ble_eq_true rfl⟩ dX7_checkStepKind_47)
      · refine lv_iload_n hx hb dX7_checkStepKind_18 rfl (lv_at hl 0 rfl) ?_
        refine lv_bipush (v := 108) hx hb dX7_checkStepKind_19 (by decide) ?_
        refine lv_icmp_eq (tgt := 47) hx hb dX7_checkStepKind_21 (by decide) (fun c21 => ?_) (fun c21 => ?_)
        · exact vx_ret (zrv C hw hr hlocks (by refine ⟨?_, rfl⟩; grind) ⟨Nat.le_of_ble_eq_true rfl, Nat.le_of_ble_eq_true rfl⟩ dX7_checkStepKind_47)
        · refine lv_iload_n hx hb dX7_checkStepKind_24 rfl (lv_at hl 0 rfl) ?_
          refine lv_bipush (v := 112) hx hb dX7_checkStepKind_25 (by decide) ?_
          refine lv_icmp_eq (tgt := 47) hx hb dX7_checkStepKind_27 (by decide) (fun c27 => ?_) (fun c27 => ?_)
          · exact vx_ret (zrv C hw hr hlocks (by refine ⟨?_, rfl⟩; grind) ⟨Nat.le_of_ble_eq_true rfl, Nat.le_of_ble_eq_true rfl⟩ dX7_checkStepKind_47)
          · refine lv_iload_n hx hb dX7_checkStepKind_30 rfl (lv_at hl 0 rfl) ?_
            refine lv_bipush (v := 116) hx hb dX7_checkStepKind_31 (by decide) ?_
            refine lv_icmp_eq (tgt := 47) hx hb dX7_checkStepKind_33 (by decide) (fun c33 => ?_) (fun c33 => ?_)
            · exact vx_ret (zrv C hw hr hlocks (by refine ⟨?_, rfl⟩; grind) ⟨Nat.le_of_ble_eq_true rfl, Nat.le_of_ble_eq_true rfl⟩ dX7_checkStepKind_47)
            · exact zthrow (cls := "java/lang/IllegalArgumentException") (text := "no such kind") (names := ["java/lang/RuntimeException", "java/lang/Exception"]) (ik := 295) (is := 304) (ic := 299) C hw hx0 hlocks hst (by decide +kernel) (by decide +kernel) (by decide +kernel) (by decide +kernel) (by decide +kernel) (by decide +kernel) (by decide +kernel) hl.1 dX7_checkStepKind_36 dX7_checkStepKind_39 dX7_checkStepKind_40 dX7_checkStepKind_43 dX7_checkStepKind_46 (Nat.le_of_ble_eq_true rfl) (Nat.le_of_ble_eq_true rfl) ⟨Nat.le_of_ble_eq_true rfl, Nat.le_of_ble_eq_true rfl⟩ (by refine ⟨rfl, ?_, rfl⟩; grind) ⟨Nat.le_of_ble_eq_true rfl, Nat.le_of_ble_eq_true rfl⟩

set_option maxHeartbeats 4000000 in
set_option maxRecDepth 100000 in
/-- X7_checkFlips -/
theorem c_X7_checkFlips (l : Launch) (hst : l.stackTraces = false) (D : va_G) (y : Nat → ClassId) (base : Nat) (S : zS) (p0 : Int32)  : zXv l yX7_checkFlips wsX7_checkFlips ({ frames := 6, cells := 1, slots := 6, locals := 90 }) [.int p0] D y base S (fun (S1 : zS) => (¬ p0 = 0) ∧ S1 = S) (fun (E : String) (S1 : zS) => E = "java/lang/IllegalStateException" ∧ ¬ (¬ p0 = 0) ∧ S1 = S) 1 6 := by
  refine zXet_of (cc := cX7_checkFlips) (maxL := 1) (ret := none) (own := RX7) (by decide +kernel) rfl rfl (Nat.le_of_ble_eq_true rfl) ?_
  intro p e s m args below meth c ls C hr hlocks hx0 hw hl
  have hx := C.1
  have hb := C.2.1
  have hown := C.2.2.2.1
  have hts := C.2.2.2.2
  have hl : lv_has ls 1 [(0, .int p0)] := hl
  refine lv_iload_n hx hb dX7_checkFlips_0 rfl (lv_at hl 0 rfl) ?_
  refine lv_if_ne (tgt := 15) hx hb dX7_checkFlips_1 (by decide) (fun c1 => ?_) (fun c1 => ?_)
  · exact vx_ret (zrv C hw hr hlocks (by refine ⟨?_, rfl⟩; grind) ⟨Nat.le_of_ble_eq_true rfl, Nat.le_of_ble_eq_true rfl⟩ dX7_checkFlips_15)
  · exact zthrow (cls := "java/lang/IllegalStateException") (text := "a flip is behind the last tick, or there are too many") (names := ["java/lang/RuntimeException", "java/lang/Exception"]) (ik := 306) (is := 311) (ic := 310) C hw hx0 hlocks hst (by decide +kernel) (by decide +kernel) (by decide +kernel) (by decide +kernel) (by decide +kernel) (by decide +kernel) (by decide +kernel) hl.1 dX7_checkFlips_4 dX7_checkFlips_7 dX7_checkFlips_8 dX7_checkFlips_11 dX7_checkFlips_14 (Nat.le_of_ble_eq_true rfl) (Nat.le_of_ble_eq_true rfl) ⟨Nat.le_of_ble_eq_true rfl, Nat.le_of_ble_eq_true rfl⟩ (by refine ⟨rfl, ?_, rfl⟩; grind) ⟨Nat.le_of_ble_eq_true rfl, Nat.le_of_ble_eq_true rfl⟩

set_option maxHeartbeats 4000000 in
set_option maxRecDepth 100000 in
/-- X7_checkThere -/
theorem c_X7_checkThere (l : Launch) (hst : l.stackTraces = false) (D : va_G) (y : Nat → ClassId) (base : Nat) (S : zS) (p0 : Int32)  : zXv l yX7_checkThere wsX7_checkThere ({ frames := 6, cells := 1, slots := 6, locals := 90 }) [.int p0] D y base S (fun (S1 : zS) => (¬ p0 = 0) ∧ S1 = S) (fun (E : String) (S1 : zS) => E = "java/util/NoSuchElementException" ∧ ¬ (¬ p0 = 0) ∧ S1 = S) 1 6 := by
  refine zXet_of (cc := cX7_checkThere) (maxL := 1) (ret := none) (own := RX7) (by decide +kernel) rfl rfl (Nat.le_of_ble_eq_true rfl) ?_
  intro p e s m args below meth c ls C hr hlocks hx0 hw hl
  have hx := C.1
  have hb := C.2.1
  have hown := C.2.2.2.1
  have hts := C.2.2.2.2
  have hl : lv_has ls 1 [(0, .int p0)] := hl
  refine lv_iload_n hx hb dX7_checkThere_0 rfl (lv_at hl 0 rfl) ?_
  refine lv_if_ne (tgt := 15) hx hb dX7_checkThere_1 (by decide) (fun c1 => ?_) (fun c1 => ?_)
  · exact vx_ret (zrv C hw hr hlocks (by refine ⟨?_, rfl⟩; grind) ⟨Nat.le_of_ble_eq_true rfl, Nat.le_of_ble_eq_true rfl⟩ dX7_checkThere_15)
  · exact zthrowN (cls := "java/util/NoSuchElementException") (text := "there is none") (Y := "java/lang/RuntimeException") (r := ["java/lang/Exception"]) (rx := zrx13) (ix := 13) (ik := 313) (is := 315) (ic := 317) C hw hx0 hlocks hst (by decide +kernel) (by decide +kernel) (by decide +kernel) (by decide +kernel) (by decide +kernel) (by decide +kernel) (by decide +kernel) (by decide +kernel) hl.1 dX7_checkThere_4 dX7_checkThere_7 dX7_checkThere_8 dX7_checkThere_11 dX7_checkThere_14 (Nat.le_of_ble_eq_true rfl) (Nat.le_of_ble_eq_true rfl) ⟨Nat.le_of_ble_eq_true rfl, Nat.le_of_ble_eq_true rfl⟩ (by refine ⟨rfl, ?_, rfl⟩; grind) ⟨Nat.le_of_ble_eq_true rfl, Nat.le_of_ble_eq_true rfl⟩

set_option maxHeartbeats 4000000 in
set_option maxRecDepth 100000 in
/-- X7_checkUse -/
theorem c_X7_checkUse (l : Launch) (hst : l.stackTraces = false) (D : va_G) (y : Nat → ClassId) (base : Nat) (S : zS) (p0 : Int32)  : zXv l yX7_checkUse wsX7_checkUse ({ frames := 6, cells := 1, slots := 6, locals := 90 }) [.int p0] D y base S (fun (S1 : zS) => (¬ p0 = 0) ∧ S1 = S) (fun (E : String) (S1 : zS) => E = "java/lang/UnsupportedOperationException" ∧ ¬ (¬ p0 = 0) ∧ S1 = S) 1 6 := by
  refine zXet_of (cc := cX7_checkUse) (maxL := 1) (ret := none) (own := RX7) (by decide +kernel) rfl rfl (Nat.le_of_ble_eq_true rfl) ?_
  intro p e s m args below meth c ls C hr hlocks hx0 hw hl
  have hx := C.1
  have hb := C.2.1
  have hown := C.2.2.2.1
  have hts := C.2.2.2.2
  have hl : lv_has ls 1 [(0, .int p0)] := hl
  refine lv_iload_n hx hb dX7_checkUse_0 rfl (lv_at hl 0 rfl) ?_
  refine lv_if_ne (tgt := 15) hx hb dX7_checkUse_1 (by decide) (fun c1 => ?_) (fun c1 => ?_)
  · exact vx_ret (zrv C hw hr hlocks (by refine ⟨?_, rfl⟩; grind) ⟨Nat.le_of_ble_eq_true rfl, Nat.le_of_ble_eq_true rfl⟩ dX7_checkUse_15)
  · exact zthrow (cls := "java/lang/UnsupportedOperationException") (text := "there is nothing to look at") (names := ["java/lang/RuntimeException", "java/lang/Exception"]) (ik := 318) (is := 320) (ic := 322) C hw hx0 hlocks hst (by decide +kernel) (by decide +kernel) (by decide +kernel) (by decide +kernel) (by decide +kernel) (by decide +kernel) (by decide +kernel) hl.1 dX7_checkUse_4 dX7_checkUse_7 dX7_checkUse_8 dX7_checkUse_11 dX7_checkUse_14 (Nat.le_of_ble_eq_true rfl) (Nat.le_of_ble_eq_true rfl) ⟨Nat.le_of_ble_eq_true rfl, Nat.le_of_ble_eq_true rfl⟩ (by refine ⟨rfl, ?_, rfl⟩; grind) ⟨Nat.le_of_ble_eq_true rfl, Nat.le_of_ble_eq_true rfl⟩
